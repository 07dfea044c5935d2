theorem mf_order_f {G : rx_E} {d : Nat} {C : rx_M} {S : gs_T} (hG : rx_OK G) {x y g p nc : Int32} {v ar : Int64} (hx : wi_out x 32) : rx_C G MX11_order (d + 1) [.ref 52, .int x, .int y, .long v, .long ar, .int g, .int p, .int nc] (gl C S) 0 0 (fun vv mu => vv = some (.int (nI 0)) ∧ mu = gl C (rx_u S.1 52 0 (nI 1), S.2)) := by
  refine rx_meth0 (by decide +kernel) rfl (Nat.le_of_ble_eq_true rfl) ?_
  refine rx_lload_n dX11_order_0 rfl ?_
  refine rx_lconst (v := 0) dX11_order_1 rfl ?_
  refine rx_lc_lt (tgt := 39) dX11_order_2 dX11_order_3 (by decide) (fun h2 => ?_) (fun h2 => ?_)
  · refine rx_iconst (v := nI 1) dX11_order_39 rfl ?_
    refine rx_goto (tgt := 44) dX11_order_40 (by decide) ?_
    refine rx_istore dX11_order_44 (by decide) ?_
    refine rx_aload_n dX11_order_46 rfl rfl ?_
    refine rx_iload_n dX11_order_47 rfl ?_
    refine rx_i2l dX11_order_48 ?_
    refine rx_invS0 (as := [.long _]) hG okX11_isAccount lk_RX11_181 dX11_order_49 rfl (by simp [Value.category]) (cm_isAccountF hG (acct_out hx)) ?_
    rintro _ _ ⟨rfl, rfl⟩
    refine rx_if_eq (tgt := 63) dX11_order_52 (by decide) (fun h52 => ?_) (fun h52 => (absurd h52 (by decide))) 
    refine rx_iconst (v := nI 1) dX11_order_63 rfl ?_
    refine rx_goto (tgt := 90) dX11_order_64 (by decide) ?_
    refine gm_putI hG hf_RX11_160 (gw_nf rfl rfl) rfl dX11_order_90 rfl rfl rfl rfl rfl ?_
    refine rx_aload_n dX11_order_93 rfl rfl ?_
    refine gmv_getI (v := nI 1) hG hf_RX11_160 rfl dX11_order_94 rfl rfl rfl (by simp [rx_ru]) ?_
    refine rx_if_le (tgt := 102) dX11_order_97 (by decide) (fun h97 => (absurd h97 (by decide))) (fun h97 => ?_)
    refine rx_iconst (v := nI 0) dX11_order_100 rfl ?_
    exact rx_iret rfl dX11_order_101 ⟨rfl, rfl⟩
  · refine rx_lload_n dX11_order_6 rfl ?_
    refine rx_ldc2 hG hw_888 dX11_order_7 ?_
    refine rx_lc_gt (tgt := 39) dX11_order_10 dX11_order_11 (by decide) (fun h10 => ?_) (fun h10 => ?_)
    · refine rx_iconst (v := nI 1) dX11_order_39 rfl ?_
      refine rx_goto (tgt := 44) dX11_order_40 (by decide) ?_
      refine rx_istore dX11_order_44 (by decide) ?_
      refine rx_aload_n dX11_order_46 rfl rfl ?_
      refine rx_iload_n dX11_order_47 rfl ?_
      refine rx_i2l dX11_order_48 ?_
      refine rx_invS0 (as := [.long _]) hG okX11_isAccount lk_RX11_181 dX11_order_49 rfl (by simp [Value.category]) (cm_isAccountF hG (acct_out hx)) ?_
      rintro _ _ ⟨rfl, rfl⟩
      refine rx_if_eq (tgt := 63) dX11_order_52 (by decide) (fun h52 => ?_) (fun h52 => (absurd h52 (by decide))) 
      refine rx_iconst (v := nI 1) dX11_order_63 rfl ?_
      refine rx_goto (tgt := 90) dX11_order_64 (by decide) ?_
      refine gm_putI hG hf_RX11_160 (gw_nf rfl rfl) rfl dX11_order_90 rfl rfl rfl rfl rfl ?_
      refine rx_aload_n dX11_order_93 rfl rfl ?_
      refine gmv_getI (v := nI 1) hG hf_RX11_160 rfl dX11_order_94 rfl rfl rfl (by simp [rx_ru]) ?_
      refine rx_if_le (tgt := 102) dX11_order_97 (by decide) (fun h97 => (absurd h97 (by decide))) (fun h97 => ?_)
      refine rx_iconst (v := nI 0) dX11_order_100 rfl ?_
      exact rx_iret rfl dX11_order_101 ⟨rfl, rfl⟩
    · refine rx_iload dX11_order_14 rfl ?_
      refine rx_if_lt (tgt := 39) dX11_order_16 (by decide) (fun h16 => ?_) (fun h16 => ?_)
      · refine rx_iconst (v := nI 1) dX11_order_39 rfl ?_
        refine rx_goto (tgt := 44) dX11_order_40 (by decide) ?_
        refine rx_istore dX11_order_44 (by decide) ?_
        refine rx_aload_n dX11_order_46 rfl rfl ?_
        refine rx_iload_n dX11_order_47 rfl ?_
        refine rx_i2l dX11_order_48 ?_
        refine rx_invS0 (as := [.long _]) hG okX11_isAccount lk_RX11_181 dX11_order_49 rfl (by simp [Value.category]) (cm_isAccountF hG (acct_out hx)) ?_
        rintro _ _ ⟨rfl, rfl⟩
        refine rx_if_eq (tgt := 63) dX11_order_52 (by decide) (fun h52 => ?_) (fun h52 => (absurd h52 (by decide))) 
        refine rx_iconst (v := nI 1) dX11_order_63 rfl ?_
        refine rx_goto (tgt := 90) dX11_order_64 (by decide) ?_
        refine gm_putI hG hf_RX11_160 (gw_nf rfl rfl) rfl dX11_order_90 rfl rfl rfl rfl rfl ?_
        refine rx_aload_n dX11_order_93 rfl rfl ?_
        refine gmv_getI (v := nI 1) hG hf_RX11_160 rfl dX11_order_94 rfl rfl rfl (by simp [rx_ru]) ?_
        refine rx_if_le (tgt := 102) dX11_order_97 (by decide) (fun h97 => (absurd h97 (by decide))) (fun h97 => ?_)
        refine rx_iconst (v := nI 0) dX11_order_100 rfl ?_
        exact rx_iret rfl dX11_order_101 ⟨rfl, rfl⟩
      · refine rx_iload dX11_order_19 rfl ?_
        refine rx_sipush (v := nI 30000) dX11_order_21 rfl ?_
        refine rx_icmp_gt (tgt := 39) dX11_order_24 (by decide) (fun h24 => ?_) (fun h24 => ?_)
        · refine rx_iconst (v := nI 1) dX11_order_39 rfl ?_
          refine rx_goto (tgt := 44) dX11_order_40 (by decide) ?_
          refine rx_istore dX11_order_44 (by decide) ?_
          refine rx_aload_n dX11_order_46 rfl rfl ?_
          refine rx_iload_n dX11_order_47 rfl ?_
          refine rx_i2l dX11_order_48 ?_
          refine rx_invS0 (as := [.long _]) hG okX11_isAccount lk_RX11_181 dX11_order_49 rfl (by simp [Value.category]) (cm_isAccountF hG (acct_out hx)) ?_
          rintro _ _ ⟨rfl, rfl⟩
          refine rx_if_eq (tgt := 63) dX11_order_52 (by decide) (fun h52 => ?_) (fun h52 => (absurd h52 (by decide))) 
          refine rx_iconst (v := nI 1) dX11_order_63 rfl ?_
          refine rx_goto (tgt := 90) dX11_order_64 (by decide) ?_
          refine gm_putI hG hf_RX11_160 (gw_nf rfl rfl) rfl dX11_order_90 rfl rfl rfl rfl rfl ?_
          refine rx_aload_n dX11_order_93 rfl rfl ?_
          refine gmv_getI (v := nI 1) hG hf_RX11_160 rfl dX11_order_94 rfl rfl rfl (by simp [rx_ru]) ?_
          refine rx_if_le (tgt := 102) dX11_order_97 (by decide) (fun h97 => (absurd h97 (by decide))) (fun h97 => ?_)
          refine rx_iconst (v := nI 0) dX11_order_100 rfl ?_
          exact rx_iret rfl dX11_order_101 ⟨rfl, rfl⟩
        · refine rx_iload dX11_order_27 rfl ?_
          refine rx_if_lt (tgt := 39) dX11_order_29 (by decide) (fun h29 => ?_) (fun h29 => ?_)
          · refine rx_iconst (v := nI 1) dX11_order_39 rfl ?_
            refine rx_goto (tgt := 44) dX11_order_40 (by decide) ?_
            refine rx_istore dX11_order_44 (by decide) ?_
            refine rx_aload_n dX11_order_46 rfl rfl ?_
            refine rx_iload_n dX11_order_47 rfl ?_
            refine rx_i2l dX11_order_48 ?_
            refine rx_invS0 (as := [.long _]) hG okX11_isAccount lk_RX11_181 dX11_order_49 rfl (by simp [Value.category]) (cm_isAccountF hG (acct_out hx)) ?_
            rintro _ _ ⟨rfl, rfl⟩
            refine rx_if_eq (tgt := 63) dX11_order_52 (by decide) (fun h52 => ?_) (fun h52 => (absurd h52 (by decide))) 
            refine rx_iconst (v := nI 1) dX11_order_63 rfl ?_
            refine rx_goto (tgt := 90) dX11_order_64 (by decide) ?_
            refine gm_putI hG hf_RX11_160 (gw_nf rfl rfl) rfl dX11_order_90 rfl rfl rfl rfl rfl ?_
            refine rx_aload_n dX11_order_93 rfl rfl ?_
            refine gmv_getI (v := nI 1) hG hf_RX11_160 rfl dX11_order_94 rfl rfl rfl (by simp [rx_ru]) ?_
            refine rx_if_le (tgt := 102) dX11_order_97 (by decide) (fun h97 => (absurd h97 (by decide))) (fun h97 => ?_)
            refine rx_iconst (v := nI 0) dX11_order_100 rfl ?_
            exact rx_iret rfl dX11_order_101 ⟨rfl, rfl⟩
          · refine rx_iload dX11_order_32 rfl ?_
            refine rx_ldc (v := 1000000) hG hw_889 dX11_order_34 ?_
            refine rx_ti (y := nI 1000000) rfl ?_
            refine rx_icmp_le (tgt := 43) dX11_order_36 (by decide) (fun h36 => ?_) (fun h36 => ?_)
            · refine rx_iconst (v := nI 0) dX11_order_43 rfl ?_
              refine rx_istore dX11_order_44 (by decide) ?_
              refine rx_aload_n dX11_order_46 rfl rfl ?_
              refine rx_iload_n dX11_order_47 rfl ?_
              refine rx_i2l dX11_order_48 ?_
              refine rx_invS0 (as := [.long _]) hG okX11_isAccount lk_RX11_181 dX11_order_49 rfl (by simp [Value.category]) (cm_isAccountF hG (acct_out hx)) ?_
              rintro _ _ ⟨rfl, rfl⟩
              refine rx_if_eq (tgt := 63) dX11_order_52 (by decide) (fun h52 => ?_) (fun h52 => (absurd h52 (by decide))) 
              refine rx_iconst (v := nI 1) dX11_order_63 rfl ?_
              refine rx_goto (tgt := 90) dX11_order_64 (by decide) ?_
              refine gm_putI hG hf_RX11_160 (gw_nf rfl rfl) rfl dX11_order_90 rfl rfl rfl rfl rfl ?_
              refine rx_aload_n dX11_order_93 rfl rfl ?_
              refine gmv_getI (v := nI 1) hG hf_RX11_160 rfl dX11_order_94 rfl rfl rfl (by simp [rx_ru]) ?_
              refine rx_if_le (tgt := 102) dX11_order_97 (by decide) (fun h97 => (absurd h97 (by decide))) (fun h97 => ?_)
              refine rx_iconst (v := nI 0) dX11_order_100 rfl ?_
              exact rx_iret rfl dX11_order_101 ⟨rfl, rfl⟩
            · refine rx_iconst (v := nI 1) dX11_order_39 rfl ?_
              refine rx_goto (tgt := 44) dX11_order_40 (by decide) ?_
              refine rx_istore dX11_order_44 (by decide) ?_
              refine rx_aload_n dX11_order_46 rfl rfl ?_
              refine rx_iload_n dX11_order_47 rfl ?_
              refine rx_i2l dX11_order_48 ?_
              refine rx_invS0 (as := [.long _]) hG okX11_isAccount lk_RX11_181 dX11_order_49 rfl (by simp [Value.category]) (cm_isAccountF hG (acct_out hx)) ?_
              rintro _ _ ⟨rfl, rfl⟩
              refine rx_if_eq (tgt := 63) dX11_order_52 (by decide) (fun h52 => ?_) (fun h52 => (absurd h52 (by decide))) 
              refine rx_iconst (v := nI 1) dX11_order_63 rfl ?_
              refine rx_goto (tgt := 90) dX11_order_64 (by decide) ?_
              refine gm_putI hG hf_RX11_160 (gw_nf rfl rfl) rfl dX11_order_90 rfl rfl rfl rfl rfl ?_
              refine rx_aload_n dX11_order_93 rfl rfl ?_
              refine gmv_getI (v := nI 1) hG hf_RX11_160 rfl dX11_order_94 rfl rfl rfl (by simp [rx_ru]) ?_
              refine rx_if_le (tgt := 102) dX11_order_97 (by decide) (fun h97 => (absurd h97 (by decide))) (fun h97 => ?_)
              refine rx_iconst (v := nI 0) dX11_order_100 rfl ?_
              exact rx_iret rfl dX11_order_101 ⟨rfl, rfl⟩
theorem mf_order_t {G : rx_E} {d : Nat} {C : rx_M} {S : gs_T} (hG : rx_OK G) {i : Nat} {y g p nc : Int32} {v ar : Int64} (hi : i < 32) (hy : wi_out y 32) : rx_C G MX11_order (d + 1) [.ref 52, .int (nI i), .int y, .long v, .long ar, .int g, .int p, .int nc] (gl C S) 0 0 (fun vv mu => vv = some (.int (nI 0)) ∧ mu = gl C (rx_u S.1 52 0 (nI 1), S.2)) := by
  refine rx_meth0 (by decide +kernel) rfl (Nat.le_of_ble_eq_true rfl) ?_
  refine rx_lload_n dX11_order_0 rfl ?_
  refine rx_lconst (v := 0) dX11_order_1 rfl ?_
  refine rx_lc_lt (tgt := 39) dX11_order_2 dX11_order_3 (by decide) (fun h2 => ?_) (fun h2 => ?_)
  · refine rx_iconst (v := nI 1) dX11_order_39 rfl ?_
    refine rx_goto (tgt := 44) dX11_order_40 (by decide) ?_
    refine rx_istore dX11_order_44 (by decide) ?_
    refine rx_aload_n dX11_order_46 rfl rfl ?_
    refine rx_iload_n dX11_order_47 rfl ?_
    refine rx_i2l dX11_order_48 ?_
    refine rx_tl (y := lN i) (nI_l (by omega)) ?_
    refine rx_invS0 (as := [.long _]) hG okX11_isAccount lk_RX11_181 dX11_order_49 rfl (by simp [Value.category]) (cm_isAccountT hG (lN_isacct hi)) ?_
    rintro _ _ ⟨rfl, rfl⟩
    refine rx_if_eq (tgt := 63) dX11_order_52 (by decide) (fun h52 => (absurd h52 (by decide))) (fun h52 => ?_)
    refine rx_iload_n dX11_order_55 rfl ?_
    refine rx_i2l dX11_order_56 ?_
    refine rx_invS0 (as := [.long _]) hG okX11_isAccount lk_RX11_181 dX11_order_57 rfl (by simp [Value.category]) (cm_isAccountF hG (acct_out hy)) ?_
    rintro _ _ ⟨rfl, rfl⟩
    refine rx_if_ne (tgt := 67) dX11_order_60 (by decide) (fun h60 => (absurd h60 (by decide))) (fun h60 => ?_)
    refine rx_iconst (v := nI 1) dX11_order_63 rfl ?_
    refine rx_goto (tgt := 90) dX11_order_64 (by decide) ?_
    refine gm_putI hG hf_RX11_160 (gw_nf rfl rfl) rfl dX11_order_90 rfl rfl rfl rfl rfl ?_
    refine rx_aload_n dX11_order_93 rfl rfl ?_
    refine gmv_getI (v := nI 1) hG hf_RX11_160 rfl dX11_order_94 rfl rfl rfl (by simp [rx_ru]) ?_
    refine rx_if_le (tgt := 102) dX11_order_97 (by decide) (fun h97 => (absurd h97 (by decide))) (fun h97 => ?_)
    refine rx_iconst (v := nI 0) dX11_order_100 rfl ?_
    exact rx_iret rfl dX11_order_101 ⟨rfl, rfl⟩
  · refine rx_lload_n dX11_order_6 rfl ?_
    refine rx_ldc2 hG hw_888 dX11_order_7 ?_
    refine rx_lc_gt (tgt := 39) dX11_order_10 dX11_order_11 (by decide) (fun h10 => ?_) (fun h10 => ?_)
    · refine rx_iconst (v := nI 1) dX11_order_39 rfl ?_
      refine rx_goto (tgt := 44) dX11_order_40 (by decide) ?_
      refine rx_istore dX11_order_44 (by decide) ?_
      refine rx_aload_n dX11_order_46 rfl rfl ?_
      refine rx_iload_n dX11_order_47 rfl ?_
      refine rx_i2l dX11_order_48 ?_
      refine rx_tl (y := lN i) (nI_l (by omega)) ?_
      refine rx_invS0 (as := [.long _]) hG okX11_isAccount lk_RX11_181 dX11_order_49 rfl (by simp [Value.category]) (cm_isAccountT hG (lN_isacct hi)) ?_
      rintro _ _ ⟨rfl, rfl⟩
      refine rx_if_eq (tgt := 63) dX11_order_52 (by decide) (fun h52 => (absurd h52 (by decide))) (fun h52 => ?_)
      refine rx_iload_n dX11_order_55 rfl ?_
      refine rx_i2l dX11_order_56 ?_
      refine rx_invS0 (as := [.long _]) hG okX11_isAccount lk_RX11_181 dX11_order_57 rfl (by simp [Value.category]) (cm_isAccountF hG (acct_out hy)) ?_
      rintro _ _ ⟨rfl, rfl⟩
      refine rx_if_ne (tgt := 67) dX11_order_60 (by decide) (fun h60 => (absurd h60 (by decide))) (fun h60 => ?_)
      refine rx_iconst (v := nI 1) dX11_order_63 rfl ?_
      refine rx_goto (tgt := 90) dX11_order_64 (by decide) ?_
      refine gm_putI hG hf_RX11_160 (gw_nf rfl rfl) rfl dX11_order_90 rfl rfl rfl rfl rfl ?_
      refine rx_aload_n dX11_order_93 rfl rfl ?_
      refine gmv_getI (v := nI 1) hG hf_RX11_160 rfl dX11_order_94 rfl rfl rfl (by simp [rx_ru]) ?_
      refine rx_if_le (tgt := 102) dX11_order_97 (by decide) (fun h97 => (absurd h97 (by decide))) (fun h97 => ?_)
      refine rx_iconst (v := nI 0) dX11_order_100 rfl ?_
      exact rx_iret rfl dX11_order_101 ⟨rfl, rfl⟩
    · refine rx_iload dX11_order_14 rfl ?_
      refine rx_if_lt (tgt := 39) dX11_order_16 (by decide) (fun h16 => ?_) (fun h16 => ?_)
      · refine rx_iconst (v := nI 1) dX11_order_39 rfl ?_
        refine rx_goto (tgt := 44) dX11_order_40 (by decide) ?_
        refine rx_istore dX11_order_44 (by decide) ?_
        refine rx_aload_n dX11_order_46 rfl rfl ?_
        refine rx_iload_n dX11_order_47 rfl ?_
        refine rx_i2l dX11_order_48 ?_
        refine rx_tl (y := lN i) (nI_l (by omega)) ?_
        refine rx_invS0 (as := [.long _]) hG okX11_isAccount lk_RX11_181 dX11_order_49 rfl (by simp [Value.category]) (cm_isAccountT hG (lN_isacct hi)) ?_
        rintro _ _ ⟨rfl, rfl⟩
        refine rx_if_eq (tgt := 63) dX11_order_52 (by decide) (fun h52 => (absurd h52 (by decide))) (fun h52 => ?_)
        refine rx_iload_n dX11_order_55 rfl ?_
        refine rx_i2l dX11_order_56 ?_
        refine rx_invS0 (as := [.long _]) hG okX11_isAccount lk_RX11_181 dX11_order_57 rfl (by simp [Value.category]) (cm_isAccountF hG (acct_out hy)) ?_
        rintro _ _ ⟨rfl, rfl⟩
        refine rx_if_ne (tgt := 67) dX11_order_60 (by decide) (fun h60 => (absurd h60 (by decide))) (fun h60 => ?_)
        refine rx_iconst (v := nI 1) dX11_order_63 rfl ?_
        refine rx_goto (tgt := 90) dX11_order_64 (by decide) ?_
        refine gm_putI hG hf_RX11_160 (gw_nf rfl rfl) rfl dX11_order_90 rfl rfl rfl rfl rfl ?_
        refine rx_aload_n dX11_order_93 rfl rfl ?_
        refine gmv_getI (v := nI 1) hG hf_RX11_160 rfl dX11_order_94 rfl rfl rfl (by simp [rx_ru]) ?_
        refine rx_if_le (tgt := 102) dX11_order_97 (by decide) (fun h97 => (absurd h97 (by decide))) (fun h97 => ?_)
        refine rx_iconst (v := nI 0) dX11_order_100 rfl ?_
        exact rx_iret rfl dX11_order_101 ⟨rfl, rfl⟩
      · refine rx_iload dX11_order_19 rfl ?_
        refine rx_sipush (v := nI 30000) dX11_order_21 rfl ?_
        refine rx_icmp_gt (tgt := 39) dX11_order_24 (by decide) (fun h24 => ?_) (fun h24 => ?_)
        · refine rx_iconst (v := nI 1) dX11_order_39 rfl ?_
          refine rx_goto (tgt := 44) dX11_order_40 (by decide) ?_
          refine rx_istore dX11_order_44 (by decide) ?_
          refine rx_aload_n dX11_order_46 rfl rfl ?_
          refine rx_iload_n dX11_order_47 rfl ?_
          refine rx_i2l dX11_order_48 ?_
          refine rx_tl (y := lN i) (nI_l (by omega)) ?_
          refine rx_invS0 (as := [.long _]) hG okX11_isAccount lk_RX11_181 dX11_order_49 rfl (by simp [Value.category]) (cm_isAccountT hG (lN_isacct hi)) ?_
          rintro _ _ ⟨rfl, rfl⟩
          refine rx_if_eq (tgt := 63) dX11_order_52 (by decide) (fun h52 => (absurd h52 (by decide))) (fun h52 => ?_)
          refine rx_iload_n dX11_order_55 rfl ?_
          refine rx_i2l dX11_order_56 ?_
          refine rx_invS0 (as := [.long _]) hG okX11_isAccount lk_RX11_181 dX11_order_57 rfl (by simp [Value.category]) (cm_isAccountF hG (acct_out hy)) ?_
          rintro _ _ ⟨rfl, rfl⟩
          refine rx_if_ne (tgt := 67) dX11_order_60 (by decide) (fun h60 => (absurd h60 (by decide))) (fun h60 => ?_)
          refine rx_iconst (v := nI 1) dX11_order_63 rfl ?_
          refine rx_goto (tgt := 90) dX11_order_64 (by decide) ?_
          refine gm_putI hG hf_RX11_160 (gw_nf rfl rfl) rfl dX11_order_90 rfl rfl rfl rfl rfl ?_
          refine rx_aload_n dX11_order_93 rfl rfl ?_
          refine gmv_getI (v := nI 1) hG hf_RX11_160 rfl dX11_order_94 rfl rfl rfl (by simp [rx_ru]) ?_
          refine rx_if_le (tgt := 102) dX11_order_97 (by decide) (fun h97 => (absurd h97 (by decide))) (fun h97 => ?_)
          refine rx_iconst (v := nI 0) dX11_order_100 rfl ?_
          exact rx_iret rfl dX11_order_101 ⟨rfl, rfl⟩
        · refine rx_iload dX11_order_27 rfl ?_
          refine rx_if_lt (tgt := 39) dX11_order_29 (by decide) (fun h29 => ?_) (fun h29 => ?_)
          · refine rx_iconst (v := nI 1) dX11_order_39 rfl ?_
            refine rx_goto (tgt := 44) dX11_order_40 (by decide) ?_
            refine rx_istore dX11_order_44 (by decide) ?_
            refine rx_aload_n dX11_order_46 rfl rfl ?_
            refine rx_iload_n dX11_order_47 rfl ?_
            refine rx_i2l dX11_order_48 ?_
            refine rx_tl (y := lN i) (nI_l (by omega)) ?_
            refine rx_invS0 (as := [.long _]) hG okX11_isAccount lk_RX11_181 dX11_order_49 rfl (by simp [Value.category]) (cm_isAccountT hG (lN_isacct hi)) ?_
            rintro _ _ ⟨rfl, rfl⟩
            refine rx_if_eq (tgt := 63) dX11_order_52 (by decide) (fun h52 => (absurd h52 (by decide))) (fun h52 => ?_)
            refine rx_iload_n dX11_order_55 rfl ?_
            refine rx_i2l dX11_order_56 ?_
            refine rx_invS0 (as := [.long _]) hG okX11_isAccount lk_RX11_181 dX11_order_57 rfl (by simp [Value.category]) (cm_isAccountF hG (acct_out hy)) ?_
            rintro _ _ ⟨rfl, rfl⟩
            refine rx_if_ne (tgt := 67) dX11_order_60 (by decide) (fun h60 => (absurd h60 (by decide))) (fun h60 => ?_)
            refine rx_iconst (v := nI 1) dX11_order_63 rfl ?_
            refine rx_goto (tgt := 90) dX11_order_64 (by decide) ?_
            refine gm_putI hG hf_RX11_160 (gw_nf rfl rfl) rfl dX11_order_90 rfl rfl rfl rfl rfl ?_
            refine rx_aload_n dX11_order_93 rfl rfl ?_
            refine gmv_getI (v := nI 1) hG hf_RX11_160 rfl dX11_order_94 rfl rfl rfl (by simp [rx_ru]) ?_
            refine rx_if_le (tgt := 102) dX11_order_97 (by decide) (fun h97 => (absurd h97 (by decide))) (fun h97 => ?_)
            refine rx_iconst (v := nI 0) dX11_order_100 rfl ?_
            exact rx_iret rfl dX11_order_101 ⟨rfl, rfl⟩
          · refine rx_iload dX11_order_32 rfl ?_
            refine rx_ldc (v := 1000000) hG hw_889 dX11_order_34 ?_
            refine rx_ti (y := nI 1000000) rfl ?_
            refine rx_icmp_le (tgt := 43) dX11_order_36 (by decide) (fun h36 => ?_) (fun h36 => ?_)
            · refine rx_iconst (v := nI 0) dX11_order_43 rfl ?_
              refine rx_istore dX11_order_44 (by decide) ?_
              refine rx_aload_n dX11_order_46 rfl rfl ?_
              refine rx_iload_n dX11_order_47 rfl ?_
              refine rx_i2l dX11_order_48 ?_
              refine rx_tl (y := lN i) (nI_l (by omega)) ?_
              refine rx_invS0 (as := [.long _]) hG okX11_isAccount lk_RX11_181 dX11_order_49 rfl (by simp [Value.category]) (cm_isAccountT hG (lN_isacct hi)) ?_
              rintro _ _ ⟨rfl, rfl⟩
              refine rx_if_eq (tgt := 63) dX11_order_52 (by decide) (fun h52 => (absurd h52 (by decide))) (fun h52 => ?_)
              refine rx_iload_n dX11_order_55 rfl ?_
              refine rx_i2l dX11_order_56 ?_
              refine rx_invS0 (as := [.long _]) hG okX11_isAccount lk_RX11_181 dX11_order_57 rfl (by simp [Value.category]) (cm_isAccountF hG (acct_out hy)) ?_
              rintro _ _ ⟨rfl, rfl⟩
              refine rx_if_ne (tgt := 67) dX11_order_60 (by decide) (fun h60 => (absurd h60 (by decide))) (fun h60 => ?_)
              refine rx_iconst (v := nI 1) dX11_order_63 rfl ?_
              refine rx_goto (tgt := 90) dX11_order_64 (by decide) ?_
              refine gm_putI hG hf_RX11_160 (gw_nf rfl rfl) rfl dX11_order_90 rfl rfl rfl rfl rfl ?_
              refine rx_aload_n dX11_order_93 rfl rfl ?_
              refine gmv_getI (v := nI 1) hG hf_RX11_160 rfl dX11_order_94 rfl rfl rfl (by simp [rx_ru]) ?_
              refine rx_if_le (tgt := 102) dX11_order_97 (by decide) (fun h97 => (absurd h97 (by decide))) (fun h97 => ?_)
              refine rx_iconst (v := nI 0) dX11_order_100 rfl ?_
              exact rx_iret rfl dX11_order_101 ⟨rfl, rfl⟩
            · refine rx_iconst (v := nI 1) dX11_order_39 rfl ?_
              refine rx_goto (tgt := 44) dX11_order_40 (by decide) ?_
              refine rx_istore dX11_order_44 (by decide) ?_
              refine rx_aload_n dX11_order_46 rfl rfl ?_
              refine rx_iload_n dX11_order_47 rfl ?_
              refine rx_i2l dX11_order_48 ?_
              refine rx_tl (y := lN i) (nI_l (by omega)) ?_
              refine rx_invS0 (as := [.long _]) hG okX11_isAccount lk_RX11_181 dX11_order_49 rfl (by simp [Value.category]) (cm_isAccountT hG (lN_isacct hi)) ?_
              rintro _ _ ⟨rfl, rfl⟩
              refine rx_if_eq (tgt := 63) dX11_order_52 (by decide) (fun h52 => (absurd h52 (by decide))) (fun h52 => ?_)
              refine rx_iload_n dX11_order_55 rfl ?_
              refine rx_i2l dX11_order_56 ?_
              refine rx_invS0 (as := [.long _]) hG okX11_isAccount lk_RX11_181 dX11_order_57 rfl (by simp [Value.category]) (cm_isAccountF hG (acct_out hy)) ?_
              rintro _ _ ⟨rfl, rfl⟩
              refine rx_if_ne (tgt := 67) dX11_order_60 (by decide) (fun h60 => (absurd h60 (by decide))) (fun h60 => ?_)
              refine rx_iconst (v := nI 1) dX11_order_63 rfl ?_
              refine rx_goto (tgt := 90) dX11_order_64 (by decide) ?_
              refine gm_putI hG hf_RX11_160 (gw_nf rfl rfl) rfl dX11_order_90 rfl rfl rfl rfl rfl ?_
              refine rx_aload_n dX11_order_93 rfl rfl ?_
              refine gmv_getI (v := nI 1) hG hf_RX11_160 rfl dX11_order_94 rfl rfl rfl (by simp [rx_ru]) ?_
              refine rx_if_le (tgt := 102) dX11_order_97 (by decide) (fun h97 => (absurd h97 (by decide))) (fun h97 => ?_)
              refine rx_iconst (v := nI 0) dX11_order_100 rfl ?_
              exact rx_iret rfl dX11_order_101 ⟨rfl, rfl⟩
theorem mf_order_b {G : rx_E} {d : Nat} {C : rx_M} {S : gs_T} (hG : rx_OK G) {i j : Nat} {g p nc : Int32} {v ar : Int64} (hi : i < 32) (hj : j < 32) (hbd : v < 0 ∨ 1125899906842624 < v ∨ wi_out g 30001 ∨ wi_out p 1000001) : rx_C G MX11_order (d + 1) [.ref 52, .int (nI i), .int (nI j), .long v, .long ar, .int g, .int p, .int nc] (gl C S) 0 0 (fun vv mu => vv = some (.int (nI 0)) ∧ mu = gl C (rx_u S.1 52 0 (nI 2), S.2)) := by
  refine rx_meth0 (by decide +kernel) rfl (Nat.le_of_ble_eq_true rfl) ?_
  refine rx_lload_n dX11_order_0 rfl ?_
  refine rx_lconst (v := 0) dX11_order_1 rfl ?_
  refine rx_lc_lt (tgt := 39) dX11_order_2 dX11_order_3 (by decide) (fun h2 => ?_) (fun h2 => ?_)
  · refine rx_iconst (v := nI 1) dX11_order_39 rfl ?_
    refine rx_goto (tgt := 44) dX11_order_40 (by decide) ?_
    refine rx_istore dX11_order_44 (by decide) ?_
    refine rx_aload_n dX11_order_46 rfl rfl ?_
    refine rx_iload_n dX11_order_47 rfl ?_
    refine rx_i2l dX11_order_48 ?_
    refine rx_tl (y := lN i) (nI_l (by omega)) ?_
    refine rx_invS0 (as := [.long _]) hG okX11_isAccount lk_RX11_181 dX11_order_49 rfl (by simp [Value.category]) (cm_isAccountT hG (lN_isacct hi)) ?_
    rintro _ _ ⟨rfl, rfl⟩
    refine rx_if_eq (tgt := 63) dX11_order_52 (by decide) (fun h52 => (absurd h52 (by decide))) (fun h52 => ?_)
    refine rx_iload_n dX11_order_55 rfl ?_
    refine rx_i2l dX11_order_56 ?_
    refine rx_tl (y := lN j) (nI_l (by omega)) ?_
    refine rx_invS0 (as := [.long _]) hG okX11_isAccount lk_RX11_181 dX11_order_57 rfl (by simp [Value.category]) (cm_isAccountT hG (lN_isacct hj)) ?_
    rintro _ _ ⟨rfl, rfl⟩
    refine rx_if_ne (tgt := 67) dX11_order_60 (by decide) (fun h60 => ?_) (fun h60 => (absurd h60 (by decide))) 
    refine rx_iload dX11_order_67 rfl ?_
    refine rx_if_eq (tgt := 76) dX11_order_69 (by decide) (fun h69 => (absurd h69 (by decide))) (fun h69 => ?_)
    refine rx_iconst (v := nI 2) dX11_order_72 rfl ?_
    refine rx_goto (tgt := 90) dX11_order_73 (by decide) ?_
    refine gm_putI hG hf_RX11_160 (gw_nf rfl rfl) rfl dX11_order_90 rfl rfl rfl rfl rfl ?_
    refine rx_aload_n dX11_order_93 rfl rfl ?_
    refine gmv_getI (v := nI 2) hG hf_RX11_160 rfl dX11_order_94 rfl rfl rfl (by simp [rx_ru]) ?_
    refine rx_if_le (tgt := 102) dX11_order_97 (by decide) (fun h97 => (absurd h97 (by decide))) (fun h97 => ?_)
    refine rx_iconst (v := nI 0) dX11_order_100 rfl ?_
    exact rx_iret rfl dX11_order_101 ⟨rfl, rfl⟩
  · refine rx_lload_n dX11_order_6 rfl ?_
    refine rx_ldc2 hG hw_888 dX11_order_7 ?_
    refine rx_lc_gt (tgt := 39) dX11_order_10 dX11_order_11 (by decide) (fun h10 => ?_) (fun h10 => ?_)
    · refine rx_iconst (v := nI 1) dX11_order_39 rfl ?_
      refine rx_goto (tgt := 44) dX11_order_40 (by decide) ?_
      refine rx_istore dX11_order_44 (by decide) ?_
      refine rx_aload_n dX11_order_46 rfl rfl ?_
      refine rx_iload_n dX11_order_47 rfl ?_
      refine rx_i2l dX11_order_48 ?_
      refine rx_tl (y := lN i) (nI_l (by omega)) ?_
      refine rx_invS0 (as := [.long _]) hG okX11_isAccount lk_RX11_181 dX11_order_49 rfl (by simp [Value.category]) (cm_isAccountT hG (lN_isacct hi)) ?_
      rintro _ _ ⟨rfl, rfl⟩
      refine rx_if_eq (tgt := 63) dX11_order_52 (by decide) (fun h52 => (absurd h52 (by decide))) (fun h52 => ?_)
      refine rx_iload_n dX11_order_55 rfl ?_
      refine rx_i2l dX11_order_56 ?_
      refine rx_tl (y := lN j) (nI_l (by omega)) ?_
      refine rx_invS0 (as := [.long _]) hG okX11_isAccount lk_RX11_181 dX11_order_57 rfl (by simp [Value.category]) (cm_isAccountT hG (lN_isacct hj)) ?_
      rintro _ _ ⟨rfl, rfl⟩
      refine rx_if_ne (tgt := 67) dX11_order_60 (by decide) (fun h60 => ?_) (fun h60 => (absurd h60 (by decide))) 
      refine rx_iload dX11_order_67 rfl ?_
      refine rx_if_eq (tgt := 76) dX11_order_69 (by decide) (fun h69 => (absurd h69 (by decide))) (fun h69 => ?_)
      refine rx_iconst (v := nI 2) dX11_order_72 rfl ?_
      refine rx_goto (tgt := 90) dX11_order_73 (by decide) ?_
      refine gm_putI hG hf_RX11_160 (gw_nf rfl rfl) rfl dX11_order_90 rfl rfl rfl rfl rfl ?_
      refine rx_aload_n dX11_order_93 rfl rfl ?_
      refine gmv_getI (v := nI 2) hG hf_RX11_160 rfl dX11_order_94 rfl rfl rfl (by simp [rx_ru]) ?_
      refine rx_if_le (tgt := 102) dX11_order_97 (by decide) (fun h97 => (absurd h97 (by decide))) (fun h97 => ?_)
      refine rx_iconst (v := nI 0) dX11_order_100 rfl ?_
      exact rx_iret rfl dX11_order_101 ⟨rfl, rfl⟩
    · refine rx_iload dX11_order_14 rfl ?_
      refine rx_if_lt (tgt := 39) dX11_order_16 (by decide) (fun h16 => ?_) (fun h16 => ?_)
      · refine rx_iconst (v := nI 1) dX11_order_39 rfl ?_
        refine rx_goto (tgt := 44) dX11_order_40 (by decide) ?_
        refine rx_istore dX11_order_44 (by decide) ?_
        refine rx_aload_n dX11_order_46 rfl rfl ?_
        refine rx_iload_n dX11_order_47 rfl ?_
        refine rx_i2l dX11_order_48 ?_
        refine rx_tl (y := lN i) (nI_l (by omega)) ?_
        refine rx_invS0 (as := [.long _]) hG okX11_isAccount lk_RX11_181 dX11_order_49 rfl (by simp [Value.category]) (cm_isAccountT hG (lN_isacct hi)) ?_
        rintro _ _ ⟨rfl, rfl⟩
        refine rx_if_eq (tgt := 63) dX11_order_52 (by decide) (fun h52 => (absurd h52 (by decide))) (fun h52 => ?_)
        refine rx_iload_n dX11_order_55 rfl ?_
        refine rx_i2l dX11_order_56 ?_
        refine rx_tl (y := lN j) (nI_l (by omega)) ?_
        refine rx_invS0 (as := [.long _]) hG okX11_isAccount lk_RX11_181 dX11_order_57 rfl (by simp [Value.category]) (cm_isAccountT hG (lN_isacct hj)) ?_
        rintro _ _ ⟨rfl, rfl⟩
        refine rx_if_ne (tgt := 67) dX11_order_60 (by decide) (fun h60 => ?_) (fun h60 => (absurd h60 (by decide))) 
        refine rx_iload dX11_order_67 rfl ?_
        refine rx_if_eq (tgt := 76) dX11_order_69 (by decide) (fun h69 => (absurd h69 (by decide))) (fun h69 => ?_)
        refine rx_iconst (v := nI 2) dX11_order_72 rfl ?_
        refine rx_goto (tgt := 90) dX11_order_73 (by decide) ?_
        refine gm_putI hG hf_RX11_160 (gw_nf rfl rfl) rfl dX11_order_90 rfl rfl rfl rfl rfl ?_
        refine rx_aload_n dX11_order_93 rfl rfl ?_
        refine gmv_getI (v := nI 2) hG hf_RX11_160 rfl dX11_order_94 rfl rfl rfl (by simp [rx_ru]) ?_
        refine rx_if_le (tgt := 102) dX11_order_97 (by decide) (fun h97 => (absurd h97 (by decide))) (fun h97 => ?_)
        refine rx_iconst (v := nI 0) dX11_order_100 rfl ?_
        exact rx_iret rfl dX11_order_101 ⟨rfl, rfl⟩
      · refine rx_iload dX11_order_19 rfl ?_
        refine rx_sipush (v := nI 30000) dX11_order_21 rfl ?_
        refine rx_icmp_gt (tgt := 39) dX11_order_24 (by decide) (fun h24 => ?_) (fun h24 => ?_)
        · refine rx_iconst (v := nI 1) dX11_order_39 rfl ?_
          refine rx_goto (tgt := 44) dX11_order_40 (by decide) ?_
          refine rx_istore dX11_order_44 (by decide) ?_
          refine rx_aload_n dX11_order_46 rfl rfl ?_
          refine rx_iload_n dX11_order_47 rfl ?_
          refine rx_i2l dX11_order_48 ?_
          refine rx_tl (y := lN i) (nI_l (by omega)) ?_
          refine rx_invS0 (as := [.long _]) hG okX11_isAccount lk_RX11_181 dX11_order_49 rfl (by simp [Value.category]) (cm_isAccountT hG (lN_isacct hi)) ?_
          rintro _ _ ⟨rfl, rfl⟩
          refine rx_if_eq (tgt := 63) dX11_order_52 (by decide) (fun h52 => (absurd h52 (by decide))) (fun h52 => ?_)
          refine rx_iload_n dX11_order_55 rfl ?_
          refine rx_i2l dX11_order_56 ?_
          refine rx_tl (y := lN j) (nI_l (by omega)) ?_
          refine rx_invS0 (as := [.long _]) hG okX11_isAccount lk_RX11_181 dX11_order_57 rfl (by simp [Value.category]) (cm_isAccountT hG (lN_isacct hj)) ?_
          rintro _ _ ⟨rfl, rfl⟩
          refine rx_if_ne (tgt := 67) dX11_order_60 (by decide) (fun h60 => ?_) (fun h60 => (absurd h60 (by decide))) 
          refine rx_iload dX11_order_67 rfl ?_
          refine rx_if_eq (tgt := 76) dX11_order_69 (by decide) (fun h69 => (absurd h69 (by decide))) (fun h69 => ?_)
          refine rx_iconst (v := nI 2) dX11_order_72 rfl ?_
          refine rx_goto (tgt := 90) dX11_order_73 (by decide) ?_
          refine gm_putI hG hf_RX11_160 (gw_nf rfl rfl) rfl dX11_order_90 rfl rfl rfl rfl rfl ?_
          refine rx_aload_n dX11_order_93 rfl rfl ?_
          refine gmv_getI (v := nI 2) hG hf_RX11_160 rfl dX11_order_94 rfl rfl rfl (by simp [rx_ru]) ?_
          refine rx_if_le (tgt := 102) dX11_order_97 (by decide) (fun h97 => (absurd h97 (by decide))) (fun h97 => ?_)
          refine rx_iconst (v := nI 0) dX11_order_100 rfl ?_
          exact rx_iret rfl dX11_order_101 ⟨rfl, rfl⟩
        · refine rx_iload dX11_order_27 rfl ?_
          refine rx_if_lt (tgt := 39) dX11_order_29 (by decide) (fun h29 => ?_) (fun h29 => ?_)
          · refine rx_iconst (v := nI 1) dX11_order_39 rfl ?_
            refine rx_goto (tgt := 44) dX11_order_40 (by decide) ?_
            refine rx_istore dX11_order_44 (by decide) ?_
            refine rx_aload_n dX11_order_46 rfl rfl ?_
            refine rx_iload_n dX11_order_47 rfl ?_
            refine rx_i2l dX11_order_48 ?_
            refine rx_tl (y := lN i) (nI_l (by omega)) ?_
            refine rx_invS0 (as := [.long _]) hG okX11_isAccount lk_RX11_181 dX11_order_49 rfl (by simp [Value.category]) (cm_isAccountT hG (lN_isacct hi)) ?_
            rintro _ _ ⟨rfl, rfl⟩
            refine rx_if_eq (tgt := 63) dX11_order_52 (by decide) (fun h52 => (absurd h52 (by decide))) (fun h52 => ?_)
            refine rx_iload_n dX11_order_55 rfl ?_
            refine rx_i2l dX11_order_56 ?_
            refine rx_tl (y := lN j) (nI_l (by omega)) ?_
            refine rx_invS0 (as := [.long _]) hG okX11_isAccount lk_RX11_181 dX11_order_57 rfl (by simp [Value.category]) (cm_isAccountT hG (lN_isacct hj)) ?_
            rintro _ _ ⟨rfl, rfl⟩
            refine rx_if_ne (tgt := 67) dX11_order_60 (by decide) (fun h60 => ?_) (fun h60 => (absurd h60 (by decide))) 
            refine rx_iload dX11_order_67 rfl ?_
            refine rx_if_eq (tgt := 76) dX11_order_69 (by decide) (fun h69 => (absurd h69 (by decide))) (fun h69 => ?_)
            refine rx_iconst (v := nI 2) dX11_order_72 rfl ?_
            refine rx_goto (tgt := 90) dX11_order_73 (by decide) ?_
            refine gm_putI hG hf_RX11_160 (gw_nf rfl rfl) rfl dX11_order_90 rfl rfl rfl rfl rfl ?_
            refine rx_aload_n dX11_order_93 rfl rfl ?_
            refine gmv_getI (v := nI 2) hG hf_RX11_160 rfl dX11_order_94 rfl rfl rfl (by simp [rx_ru]) ?_
            refine rx_if_le (tgt := 102) dX11_order_97 (by decide) (fun h97 => (absurd h97 (by decide))) (fun h97 => ?_)
            refine rx_iconst (v := nI 0) dX11_order_100 rfl ?_
            exact rx_iret rfl dX11_order_101 ⟨rfl, rfl⟩
          · refine rx_iload dX11_order_32 rfl ?_
            refine rx_ldc (v := 1000000) hG hw_889 dX11_order_34 ?_
            refine rx_ti (y := nI 1000000) rfl ?_
            refine rx_icmp_le (tgt := 43) dX11_order_36 (by decide) (fun h36 => or_dead hbd h2 h10 h16 h24 h29 h36) (fun h36 => ?_)
            refine rx_iconst (v := nI 1) dX11_order_39 rfl ?_
            refine rx_goto (tgt := 44) dX11_order_40 (by decide) ?_
            refine rx_istore dX11_order_44 (by decide) ?_
            refine rx_aload_n dX11_order_46 rfl rfl ?_
            refine rx_iload_n dX11_order_47 rfl ?_
            refine rx_i2l dX11_order_48 ?_
            refine rx_tl (y := lN i) (nI_l (by omega)) ?_
            refine rx_invS0 (as := [.long _]) hG okX11_isAccount lk_RX11_181 dX11_order_49 rfl (by simp [Value.category]) (cm_isAccountT hG (lN_isacct hi)) ?_
            rintro _ _ ⟨rfl, rfl⟩
            refine rx_if_eq (tgt := 63) dX11_order_52 (by decide) (fun h52 => (absurd h52 (by decide))) (fun h52 => ?_)
            refine rx_iload_n dX11_order_55 rfl ?_
            refine rx_i2l dX11_order_56 ?_
            refine rx_tl (y := lN j) (nI_l (by omega)) ?_
            refine rx_invS0 (as := [.long _]) hG okX11_isAccount lk_RX11_181 dX11_order_57 rfl (by simp [Value.category]) (cm_isAccountT hG (lN_isacct hj)) ?_
            rintro _ _ ⟨rfl, rfl⟩
            refine rx_if_ne (tgt := 67) dX11_order_60 (by decide) (fun h60 => ?_) (fun h60 => (absurd h60 (by decide))) 
            refine rx_iload dX11_order_67 rfl ?_
            refine rx_if_eq (tgt := 76) dX11_order_69 (by decide) (fun h69 => (absurd h69 (by decide))) (fun h69 => ?_)
            refine rx_iconst (v := nI 2) dX11_order_72 rfl ?_
            refine rx_goto (tgt := 90) dX11_order_73 (by decide) ?_
            refine gm_putI hG hf_RX11_160 (gw_nf rfl rfl) rfl dX11_order_90 rfl rfl rfl rfl rfl ?_
            refine rx_aload_n dX11_order_93 rfl rfl ?_
            refine gmv_getI (v := nI 2) hG hf_RX11_160 rfl dX11_order_94 rfl rfl rfl (by simp [rx_ru]) ?_
            refine rx_if_le (tgt := 102) dX11_order_97 (by decide) (fun h97 => (absurd h97 (by decide))) (fun h97 => ?_)
            refine rx_iconst (v := nI 0) dX11_order_100 rfl ?_
            exact rx_iret rfl dX11_order_101 ⟨rfl, rfl⟩
theorem mf_order_s {G : rx_E} {d : Nat} {C : rx_M} {S : gs_T} (hG : rx_OK G) {i j g p on : Nat} {nc : Int32} {v ar : Int64} (hi : i < 32) (hj : j < 32) (hv1 : ¬ v < 0) (hv2 : ¬ 1125899906842624 < v) (hg : g < 30001) (hp : p < 1000001) (hon : S.1 52 7 = nI on) (h10 : on = 10) : rx_C G MX11_order (d + 1) [.ref 52, .int (nI i), .int (nI j), .long v, .long ar, .int (nI g), .int (nI p), .int nc] (gl C S) 0 0 (fun vv mu => vv = some (.int (nI 0)) ∧ mu = gl C (rx_u S.1 52 0 (nI 3), S.2)) := by
  refine rx_meth0 (by decide +kernel) rfl (Nat.le_of_ble_eq_true rfl) ?_
  subst h10
  refine rx_lload_n dX11_order_0 rfl ?_
  refine rx_lconst (v := 0) dX11_order_1 rfl ?_
  refine rx_lc_lt (tgt := 39) dX11_order_2 dX11_order_3 (by decide) (fun h2 => (absurd h2 hv1)) (fun h2 => ?_)
  refine rx_lload_n dX11_order_6 rfl ?_
  refine rx_ldc2 hG hw_888 dX11_order_7 ?_
  refine rx_lc_gt (tgt := 39) dX11_order_10 dX11_order_11 (by decide) (fun h10 => (absurd h10 hv2)) (fun h10 => ?_)
  refine rx_iload dX11_order_14 rfl ?_
  refine rx_if_lt (tgt := 39) dX11_order_16 (by decide) (fun h16 => (absurd h16 (nI_pos (by omega)))) (fun h16 => ?_)
  refine rx_iload dX11_order_19 rfl ?_
  refine rx_sipush (v := nI 30000) dX11_order_21 rfl ?_
  refine rx_icmp_gt (tgt := 39) dX11_order_24 (by decide) (fun h24 => (absurd h24 (by rw [nI_ltI (by omega) (by omega)]; omega))) (fun h24 => ?_)
  refine rx_iload dX11_order_27 rfl ?_
  refine rx_if_lt (tgt := 39) dX11_order_29 (by decide) (fun h29 => (absurd h29 (nI_pos (by omega)))) (fun h29 => ?_)
  refine rx_iload dX11_order_32 rfl ?_
  refine rx_ldc (v := 1000000) hG hw_889 dX11_order_34 ?_
  refine rx_ti (y := nI 1000000) rfl ?_
  refine rx_icmp_le (tgt := 43) dX11_order_36 (by decide) (fun h36 => ?_) (fun h36 => (absurd (by rw [nI_leI (by omega) (by omega)]; omega) h36)) 
  refine rx_iconst (v := nI 0) dX11_order_43 rfl ?_
  refine rx_istore dX11_order_44 (by decide) ?_
  refine rx_aload_n dX11_order_46 rfl rfl ?_
  refine rx_iload_n dX11_order_47 rfl ?_
  refine rx_i2l dX11_order_48 ?_
  refine rx_tl (y := lN i) (nI_l (by omega)) ?_
  refine rx_invS0 (as := [.long _]) hG okX11_isAccount lk_RX11_181 dX11_order_49 rfl (by simp [Value.category]) (cm_isAccountT hG (lN_isacct hi)) ?_
  rintro _ _ ⟨rfl, rfl⟩
  refine rx_if_eq (tgt := 63) dX11_order_52 (by decide) (fun h52 => (absurd h52 (by decide))) (fun h52 => ?_)
  refine rx_iload_n dX11_order_55 rfl ?_
  refine rx_i2l dX11_order_56 ?_
  refine rx_tl (y := lN j) (nI_l (by omega)) ?_
  refine rx_invS0 (as := [.long _]) hG okX11_isAccount lk_RX11_181 dX11_order_57 rfl (by simp [Value.category]) (cm_isAccountT hG (lN_isacct hj)) ?_
  rintro _ _ ⟨rfl, rfl⟩
  refine rx_if_ne (tgt := 67) dX11_order_60 (by decide) (fun h60 => ?_) (fun h60 => (absurd h60 (by decide))) 
  refine rx_iload dX11_order_67 rfl ?_
  refine rx_if_eq (tgt := 76) dX11_order_69 (by decide) (fun h69 => ?_) (fun h69 => (absurd h69 (by decide))) 
  refine rx_aload_n dX11_order_76 rfl rfl ?_
  refine gmv_getI (v := nI 10) hG hf_RX11_190 rfl dX11_order_77 rfl rfl rfl hon ?_
  refine rx_bipush (v := nI 10) dX11_order_80 rfl ?_
  refine rx_icmp_ne (tgt := 89) dX11_order_82 (by decide) (fun h82 => (absurd h82 (by decide))) (fun h82 => ?_)
  refine rx_iconst (v := nI 3) dX11_order_85 rfl ?_
  refine rx_goto (tgt := 90) dX11_order_86 (by decide) ?_
  refine gm_putI hG hf_RX11_160 (gw_nf rfl rfl) rfl dX11_order_90 rfl rfl rfl rfl rfl ?_
  refine rx_aload_n dX11_order_93 rfl rfl ?_
  refine gmv_getI (v := nI 3) hG hf_RX11_160 rfl dX11_order_94 rfl rfl rfl (by simp [rx_ru]) ?_
  refine rx_if_le (tgt := 102) dX11_order_97 (by decide) (fun h97 => (absurd h97 (by decide))) (fun h97 => ?_)
  refine rx_iconst (v := nI 0) dX11_order_100 rfl ?_
  exact rx_iret rfl dX11_order_101 ⟨rfl, rfl⟩
theorem mf_order {G : rx_E} {d : Nat} {C : rx_M} {S : gs_T} (hG : rx_OK G) {i j g p on : Nat} {nc : Int32} {v ar : Int64} (hi : i < 32) (hj : j < 32) (hv1 : ¬ v < 0) (hv2 : ¬ 1125899906842624 < v) (hg : g < 30001) (hp : p < 1000001) (hon : S.1 52 7 = nI on) (h10 : on < 10) : rx_C G MX11_order (d + 1) [.ref 52, .int (nI i), .int (nI j), .long v, .long ar, .int (nI g), .int (nI p), .int nc] (gl C S) 0 0 (fun vv mu => vv = some (.int (nI (on + 1))) ∧ mu = gl C (rx_u (rx_u (rx_u (rx_u (rx_u (rx_u (rx_u S.1 52 0 (nI 0)) 57 on (nI i)) 58 on (nI j)) 61 on (nI g)) 62 on (nI p)) 63 on nc) 52 7 (nI (on + 1)), rx_u (rx_u S.2 59 on v) 60 on ar)) := by
  refine rx_meth0 (by decide +kernel) rfl (Nat.le_of_ble_eq_true rfl) ?_
  refine rx_lload_n dX11_order_0 rfl ?_
  refine rx_lconst (v := 0) dX11_order_1 rfl ?_
  refine rx_lc_lt (tgt := 39) dX11_order_2 dX11_order_3 (by decide) (fun h2 => (absurd h2 hv1)) (fun h2 => ?_)
  refine rx_lload_n dX11_order_6 rfl ?_
  refine rx_ldc2 hG hw_888 dX11_order_7 ?_
  refine rx_lc_gt (tgt := 39) dX11_order_10 dX11_order_11 (by decide) (fun h10 => (absurd h10 hv2)) (fun h10 => ?_)
  refine rx_iload dX11_order_14 rfl ?_
  refine rx_if_lt (tgt := 39) dX11_order_16 (by decide) (fun h16 => (absurd h16 (nI_pos (by omega)))) (fun h16 => ?_)
  refine rx_iload dX11_order_19 rfl ?_
  refine rx_sipush (v := nI 30000) dX11_order_21 rfl ?_
  refine rx_icmp_gt (tgt := 39) dX11_order_24 (by decide) (fun h24 => (absurd h24 (by rw [nI_ltI (by omega) (by omega)]; omega))) (fun h24 => ?_)
  refine rx_iload dX11_order_27 rfl ?_
  refine rx_if_lt (tgt := 39) dX11_order_29 (by decide) (fun h29 => (absurd h29 (nI_pos (by omega)))) (fun h29 => ?_)
  refine rx_iload dX11_order_32 rfl ?_
  refine rx_ldc (v := 1000000) hG hw_889 dX11_order_34 ?_
  refine rx_ti (y := nI 1000000) rfl ?_
  refine rx_icmp_le (tgt := 43) dX11_order_36 (by decide) (fun h36 => ?_) (fun h36 => (absurd (by rw [nI_leI (by omega) (by omega)]; omega) h36)) 
  refine rx_iconst (v := nI 0) dX11_order_43 rfl ?_
  refine rx_istore dX11_order_44 (by decide) ?_
  refine rx_aload_n dX11_order_46 rfl rfl ?_
  refine rx_iload_n dX11_order_47 rfl ?_
  refine rx_i2l dX11_order_48 ?_
  refine rx_tl (y := lN i) (nI_l (by omega)) ?_
  refine rx_invS0 (as := [.long _]) hG okX11_isAccount lk_RX11_181 dX11_order_49 rfl (by simp [Value.category]) (cm_isAccountT hG (lN_isacct hi)) ?_
  rintro _ _ ⟨rfl, rfl⟩
  refine rx_if_eq (tgt := 63) dX11_order_52 (by decide) (fun h52 => (absurd h52 (by decide))) (fun h52 => ?_)
  refine rx_iload_n dX11_order_55 rfl ?_
  refine rx_i2l dX11_order_56 ?_
  refine rx_tl (y := lN j) (nI_l (by omega)) ?_
  refine rx_invS0 (as := [.long _]) hG okX11_isAccount lk_RX11_181 dX11_order_57 rfl (by simp [Value.category]) (cm_isAccountT hG (lN_isacct hj)) ?_
  rintro _ _ ⟨rfl, rfl⟩
  refine rx_if_ne (tgt := 67) dX11_order_60 (by decide) (fun h60 => ?_) (fun h60 => (absurd h60 (by decide))) 
  refine rx_iload dX11_order_67 rfl ?_
  refine rx_if_eq (tgt := 76) dX11_order_69 (by decide) (fun h69 => ?_) (fun h69 => (absurd h69 (by decide))) 
  refine rx_aload_n dX11_order_76 rfl rfl ?_
  refine gmv_getI (v := nI on) hG hf_RX11_190 rfl dX11_order_77 rfl rfl rfl hon ?_
  refine rx_bipush (v := nI 10) dX11_order_80 rfl ?_
  refine rx_icmp_ne (tgt := 89) dX11_order_82 (by decide) (fun h82 => ?_) (fun h82 => (absurd h82 (by rw [nI_eq (by omega) (by omega)]; omega))) 
  refine rx_iconst (v := nI 0) dX11_order_89 rfl ?_
  refine gm_putI hG hf_RX11_160 (gw_nf rfl rfl) rfl dX11_order_90 rfl rfl rfl rfl rfl ?_
  refine rx_aload_n dX11_order_93 rfl rfl ?_
  refine gmv_getI (v := nI 0) hG hf_RX11_160 rfl dX11_order_94 rfl rfl rfl (by simp [rx_ru]) ?_
  refine rx_if_le (tgt := 102) dX11_order_97 (by decide) (fun h97 => ?_) (fun h97 => (absurd h97 (by decide))) 
  refine rx_aload_n dX11_order_102 rfl rfl ?_
  refine g_getR hG hf_RX11_23 rfl dX11_order_103 rfl rfl rfl ?_
  refine rx_aload_n dX11_order_106 rfl rfl ?_
  refine gmv_getI (v := nI on) hG hf_RX11_190 rfl dX11_order_107 rfl rfl rfl (by simpa [rx_ru] using hon) ?_
  refine rx_iload_n dX11_order_110 rfl ?_
  refine gm_iast (j := on) hG dX11_order_111 rfl rfl rfl rfl (by omega) (by decide) ?_
  refine rx_aload_n dX11_order_112 rfl rfl ?_
  refine g_getR hG hf_RX11_26 rfl dX11_order_113 rfl rfl rfl ?_
  refine rx_aload_n dX11_order_116 rfl rfl ?_
  refine gmv_getI (v := nI on) hG hf_RX11_190 rfl dX11_order_117 rfl rfl rfl (by simpa [rx_ru] using hon) ?_
  refine rx_iload_n dX11_order_120 rfl ?_
  refine gm_iast (j := on) hG dX11_order_121 rfl rfl rfl rfl (by omega) (by decide) ?_
  refine rx_aload_n dX11_order_122 rfl rfl ?_
  refine g_getR hG hf_RX11_29 rfl dX11_order_123 rfl rfl rfl ?_
  refine rx_aload_n dX11_order_126 rfl rfl ?_
  refine gmv_getI (v := nI on) hG hf_RX11_190 rfl dX11_order_127 rfl rfl rfl (by simpa [rx_ru] using hon) ?_
  refine rx_lload_n dX11_order_130 rfl ?_
  refine gm_last (j := on) hG dX11_order_131 rfl rfl rfl rfl (by omega) (by decide) ?_
  refine rx_aload_n dX11_order_132 rfl rfl ?_
  refine g_getR hG hf_RX11_33 rfl dX11_order_133 rfl rfl rfl ?_
  refine rx_aload_n dX11_order_136 rfl rfl ?_
  refine gmv_getI (v := nI on) hG hf_RX11_190 rfl dX11_order_137 rfl rfl rfl (by simpa [rx_ru] using hon) ?_
  refine rx_lload dX11_order_140 rfl ?_
  refine gm_last (j := on) hG dX11_order_142 rfl rfl rfl rfl (by omega) (by decide) ?_
  refine rx_aload_n dX11_order_143 rfl rfl ?_
  refine g_getR hG hf_RX11_36 rfl dX11_order_144 rfl rfl rfl ?_
  refine rx_aload_n dX11_order_147 rfl rfl ?_
  refine gmv_getI (v := nI on) hG hf_RX11_190 rfl dX11_order_148 rfl rfl rfl (by simpa [rx_ru] using hon) ?_
  refine rx_iload dX11_order_151 rfl ?_
  refine gm_iast (j := on) hG dX11_order_153 rfl rfl rfl rfl (by omega) (by decide) ?_
  refine rx_aload_n dX11_order_154 rfl rfl ?_
  refine g_getR hG hf_RX11_39 rfl dX11_order_155 rfl rfl rfl ?_
  refine rx_aload_n dX11_order_158 rfl rfl ?_
  refine gmv_getI (v := nI on) hG hf_RX11_190 rfl dX11_order_159 rfl rfl rfl (by simpa [rx_ru] using hon) ?_
  refine rx_iload dX11_order_162 rfl ?_
  refine gm_iast (j := on) hG dX11_order_164 rfl rfl rfl rfl (by omega) (by decide) ?_
  refine rx_aload_n dX11_order_165 rfl rfl ?_
  refine g_getR hG hf_RX11_42 rfl dX11_order_166 rfl rfl rfl ?_
  refine rx_aload_n dX11_order_169 rfl rfl ?_
  refine gmv_getI (v := nI on) hG hf_RX11_190 rfl dX11_order_170 rfl rfl rfl (by simpa [rx_ru] using hon) ?_
  refine rx_iload dX11_order_173 rfl ?_
  refine gm_iast (j := on) hG dX11_order_175 rfl rfl rfl rfl (by omega) (by decide) ?_
  refine rx_aload_n dX11_order_176 rfl rfl ?_
  refine rx_dup dX11_order_177 rfl ?_
  refine gmv_getI (v := nI on) hG hf_RX11_190 rfl dX11_order_178 rfl rfl rfl (by simpa [rx_ru] using hon) ?_
  refine rx_iconst (v := nI 1) dX11_order_181 rfl ?_
  refine rx_iadd dX11_order_182 ?_
  refine rx_ti (y := nI (on + 1)) ((nI_add _ _).trans (congrArg nI (by omega))) ?_
  refine gm_putI hG hf_RX11_190 (gw_nf rfl rfl) rfl dX11_order_183 rfl rfl rfl rfl rfl ?_
  refine rx_aload_n dX11_order_186 rfl rfl ?_
  refine gmv_getI (v := nI (on + 1)) hG hf_RX11_190 rfl dX11_order_187 rfl rfl rfl (by simp [rx_ru]) ?_
  exact rx_iret rfl dX11_order_190 ⟨rfl, rfl⟩
theorem rx_usame {α : Type} (f : Nat → Nat → α) {a i : Nat} {x : α} : rx_u f a i x a i = x := by rw [rx_ru, if_pos rfl, if_pos rfl]
def w_order (w : wW) (q : wO) : wW := (w.1, (w.2.1.1 + 1, fun k => if k = w.2.1.1 then q else w.2.1.2 k), w.2.2)
theorem rcw_order {A : wP} {C : rx_M} {w : wW} {i j g p : Nat} {nc : Int32} {v ar : Int64} (h : rcw A C w) : rcw (A.1, (fun k => if k = w.2.1.1 then (102 + C.2.2.2.2) else A.2.1 k), A.2.2) (rx_u (rx_u (rx_u (rx_u (rx_u (rx_u (ca C 8 7).1 (102 + C.2.2.2.2) 0 (nI i)) (102 + C.2.2.2.2) 1 (nI j)) (102 + C.2.2.2.2) 4 (nI g)) (102 + C.2.2.2.2) 5 (nI p)) (102 + C.2.2.2.2) 6 nc) 0 3 (nI (w.2.1.1 + 1)), (rx_u (rx_u (ca C 8 7).2.1 (102 + C.2.2.2.2) 2 v) (102 + C.2.2.2.2) 3 ar), rx_u (ca C 8 7).2.2.1 43 w.2.1.1 (some (102 + C.2.2.2.2)), (ca C 8 7).2.2.2) (w_order w ((i, j, v, ar), (g, p, nc))) := by
  have hg : rc_agE (fun a => a = 0) (fun a => a = 43) C (rx_u (rx_u (rx_u (rx_u (rx_u (rx_u (ca C 8 7).1 (102 + C.2.2.2.2) 0 (nI i)) (102 + C.2.2.2.2) 1 (nI j)) (102 + C.2.2.2.2) 4 (nI g)) (102 + C.2.2.2.2) 5 (nI p)) (102 + C.2.2.2.2) 6 nc) 0 3 (nI (w.2.1.1 + 1)), (rx_u (rx_u (ca C 8 7).2.1 (102 + C.2.2.2.2) 2 v) (102 + C.2.2.2.2) 3 ar), rx_u (ca C 8 7).2.2.1 43 w.2.1.1 (some (102 + C.2.2.2.2)), (ca C 8 7).2.2.2) := by
    refine ⟨fun a hE _ hn => ?_, fun a hF _ hn => ?_, fun a _ hn => k1_ne _ (by omega), Nat.le_succ _⟩
    · have hE : ¬ a = 0 := hE
      have hne : a ≠ (102 + C.2.2.2.2) := by omega
      constructor
      · refine (rx_une _ hE).trans ?_
        rw [rx_une _ hne, rx_une _ hne, rx_une _ hne, rx_une _ hne, rx_une _ hne]
        exact k1_ne _ hne
      · refine (rx_une _ hne).trans ((rx_une _ hne).trans ?_)
        exact k1_ne _ hne
    · have hF : ¬ a = 43 := hF
      refine (rx_une _ hF).trans ?_
      exact k1_ne _ (by omega)
  have hne : (0 : Nat) ≠ (102 + C.2.2.2.2) := by omega
  have h0 : ∀ k, k ≠ 3 → (rx_u (rx_u (rx_u (rx_u (rx_u (rx_u (ca C 8 7).1 (102 + C.2.2.2.2) 0 (nI i)) (102 + C.2.2.2.2) 1 (nI j)) (102 + C.2.2.2.2) 4 (nI g)) (102 + C.2.2.2.2) 5 (nI p)) (102 + C.2.2.2.2) 6 nc) 0 3 (nI (w.2.1.1 + 1)), (rx_u (rx_u (ca C 8 7).2.1 (102 + C.2.2.2.2) 2 v) (102 + C.2.2.2.2) 3 ar), rx_u (ca C 8 7).2.2.1 43 w.2.1.1 (some (102 + C.2.2.2.2)), (ca C 8 7).2.2.2).1 0 k = C.1 0 k := fun k hk => by
    show rx_u (rx_u (rx_u (rx_u (rx_u (rx_u (ca C 8 7).1 (102 + C.2.2.2.2) 0 (nI i)) (102 + C.2.2.2.2) 1 (nI j)) (102 + C.2.2.2.2) 4 (nI g)) (102 + C.2.2.2.2) 5 (nI p)) (102 + C.2.2.2.2) 6 nc) 0 3 (nI (w.2.1.1 + 1)) 0 k = _
    rw [rx_ru, if_pos rfl, if_neg hk, rx_une _ hne, rx_une _ hne, rx_une _ hne, rx_une _ hne, rx_une _ hne]
    show rx_k1 C.1 (102 + C.2.2.2.2) _ 0 k = _
    rw [k1_ne _ hne]
  have hB1 := h.2.2.2.1
  refine ⟨cD_agE h.1 hg (by decide) (by decide), cK_agE h.2.1 hg (by decide) (by decide) (fun a ha => by show ¬ a = 0; omega) (fun a ha => by show ¬ a = 43; omega), ⟨?_, fun k hk => ?_⟩, ⟨(h0 5 (by decide)).trans hB1.1, fun b hb => ⟨?_, cB1_agE (hB1.2.1 b hb).2 hg (fun a h1 _ => by show ¬ a = 0; omega) (fun a h1 _ => by show ¬ a = 43; omega)⟩, hB1.2.2.1, hB1.2.2.2.1, cT_agE hB1.2.2.2.2 hg (by decide)⟩, cV_agE h.2.2.2.2.1 hg (by decide) (by decide), cS_agE h.2.2.2.2.2.1 hg (by decide), ⟨(h0 9 (by decide)).trans h.2.2.2.2.2.2.1, (h0 10 (by decide)).trans h.2.2.2.2.2.2.2.1, (h0 11 (by decide)).trans h.2.2.2.2.2.2.2.2⟩⟩
  · simp [rx_ru, w_order]
  · have hk' : k < w.2.1.1 + 1 := hk
    by_cases e : k = w.2.1.1
    · have e1 : (w_order w ((i, j, v, ar), (g, p, nc))).2.1.2 k = ((i, j, v, ar), (g, p, nc)) := if_pos e
      rw [e1]
      show _ = some (if k = w.2.1.1 then (102 + C.2.2.2.2) else A.2.1 k) ∧ cO1 _ (if k = w.2.1.1 then (102 + C.2.2.2.2) else A.2.1 k) _
      rw [if_pos e]
      subst e
      refine ⟨?_, ca_rk, by omega, ⟨?_, ?_, ?_, ?_⟩, ⟨?_, ?_, ?_⟩⟩
      · simp [rx_ru]
      all_goals first | (refine (congrFun (rx_une _ (fun q => hne q.symm)) _).trans ?_; simp [rx_ru]) | simp [rx_ru]
    · have e1 : (w_order w ((i, j, v, ar), (g, p, nc))).2.1.2 k = w.2.1.2 k := if_neg e
      rw [e1]
      show _ = some (if k = w.2.1.1 then (102 + C.2.2.2.2) else A.2.1 k) ∧ cO1 _ (if k = w.2.1.1 then (102 + C.2.2.2.2) else A.2.1 k) _
      rw [if_neg e]
      refine ⟨?_, cO1_agE (h.2.2.1.2 k (by omega)).2 hg (fun a ha => by show ¬ a = 0; omega)⟩
      show rx_u _ 43 w.2.1.1 (some (102 + C.2.2.2.2)) 43 k = _
      rw [rx_ru, if_pos rfl, if_neg e]
      show rx_k1 C.2.2.1 (102 + C.2.2.2.2) _ 43 k = _
      rw [k1_ne _ (by omega)]
      exact (h.2.2.1.2 k (by omega)).1
  · rw [hg.2.1 44 (by decide) (by omega) (by omega)]; exact (hB1.2.1 b hb).1
theorem rmw_order {S : gs_T} {w : wW} {i j g p : Nat} {nc : Int32} {v ar : Int64} (h : rmw S w) : rmw (rx_u (rx_u (rx_u (rx_u (rx_u (rx_u (rx_u S.1 52 0 (nI 0)) 57 w.2.1.1 (nI i)) 58 w.2.1.1 (nI j)) 61 w.2.1.1 (nI g)) 62 w.2.1.1 (nI p)) 63 w.2.1.1 nc) 52 7 (nI (w.2.1.1 + 1)), rx_u (rx_u S.2 59 w.2.1.1 v) 60 w.2.1.1 ar) (w_order w ((i, j, v, ar), (g, p, nc))) := by
  have hg : rm_agE (fun a => 57 ≤ a ∧ a ≤ 63) (fun k => k = 7) S (rx_u (rx_u (rx_u (rx_u (rx_u (rx_u (rx_u S.1 52 0 (nI 0)) 57 w.2.1.1 (nI i)) 58 w.2.1.1 (nI j)) 61 w.2.1.1 (nI g)) 62 w.2.1.1 (nI p)) 63 w.2.1.1 nc) 52 7 (nI (w.2.1.1 + 1)), rx_u (rx_u S.2 59 w.2.1.1 v) 60 w.2.1.1 ar) := by
    refine ⟨fun a hE h1 h2 h3 => ?_, fun k hF hk => ?_⟩
    · have hE : ¬ (57 ≤ a ∧ a ≤ 63) := hE
      exact ⟨(rx_une _ (by omega)).trans ((rx_une _ (by omega)).trans ((rx_une _ (by omega)).trans ((rx_une _ (by omega)).trans ((rx_une _ (by omega)).trans ((rx_une _ (by omega)).trans (rx_une _ (by omega))))))), (rx_une _ (by omega)).trans (rx_une _ (by omega))⟩
    · have hF : ¬ k = 7 := hF
      simp [rx_ru, hF]
      intro q; omega
  refine ⟨mD_agE h.1 hg (by decide) (by decide), mK_agE h.2.1 hg (by decide) (by decide) (by decide), ⟨?_, fun k hk => ?_⟩, mB_agE h.2.2.2.1 hg (fun a h1 h2 => by show ¬ (57 ≤ a ∧ a ≤ 63); omega) (by decide), mV_agE h.2.2.2.2.1 hg (by decide) (by decide), mS_agE h.2.2.2.2.2.1 hg (by decide), mN_agE h.2.2.2.2.2.2 hg (fun k h1 h2 => by show ¬ k = 7; omega)⟩
  · simp [rx_ru]; rfl
  · have hk' : k < w.2.1.1 + 1 := hk
    by_cases e : k = w.2.1.1
    · have e1 : (w_order w ((i, j, v, ar), (g, p, nc))).2.1.2 k = ((i, j, v, ar), (g, p, nc)) := if_pos e
      rw [e1]
      subst e
      exact ⟨⟨by simp [rx_ru], by simp [rx_ru], by simp [rx_ru], by simp [rx_ru]⟩, ⟨by simp [rx_ru], by simp [rx_ru], by simp [rx_ru]⟩⟩
    · have e1 : (w_order w ((i, j, v, ar), (g, p, nc))).2.1.2 k = w.2.1.2 k := if_neg e
      rw [e1]
      obtain ⟨⟨c1, c2, c3, c4⟩, c5, c6, c7⟩ := h.2.2.1.2 k (by omega)
      exact ⟨⟨by simpa [rx_ru, e] using c1, by simpa [rx_ru, e] using c2, by simpa [rx_ru, e] using c3, by simpa [rx_ru, e] using c4⟩, ⟨by simpa [rx_ru, e] using c5, by simpa [rx_ru, e] using c6, by simpa [rx_ru, e] using c7⟩⟩
theorem F_order {G : rx_E} {d n : Nat} {w : wW} (hG : rx_OK G) (hN : rx_NC G) (hv : vW w n) (hn : n ≤ 512) (x y : Int32) (v ar : Int64) (z u nc : Int32) : fP n w (fun C S Q => rx_H G ML_order hL_order (d + 9) [.ref 0, .int x, .int y, .long v, .long ar, .int z, .int u, .int nc, .ref 101] (gl C S) 8 2000 Q) (fun C S Q => rx_C G MX11_order (d + 9) [.ref 52, .int x, .int y, .long v, .long ar, .int z, .int u, .int nc] (gl C S) 0 0 Q) mRI := by
  have hnb := hv.2.2.2.1.1.2
  have hon := hv.2.2.1.1
  rcases wi_ix x (N := 32) (by decide) with hx | ⟨i, hi, rfl⟩
  · exact ⟨1, 0, w, by decide, vW_up hv (Nat.le_succ n), fun A C S hC => rx_Hm (HL_order_x hG hN (cf_order_f hG hx)) (hR_x hC (by decide)), fun C S hS => rx_Cm (mf_order_f hG hx) (mRI_t hS (fun h => absurd h (by decide)))⟩
  rcases wi_ix y (N := 32) (by decide) with hy | ⟨j, hj, rfl⟩
  · exact ⟨1, 0, w, by decide, vW_up hv (Nat.le_succ n), fun A C S hC => rx_Hm (HL_order_x hG hN (cf_order_t hG hi hy)) (hR_x hC (by decide)), fun C S hS => rx_Cm (mf_order_t hG hi hy) (mRI_t hS (fun h => absurd h (by decide)))⟩
  by_cases hbd : v < 0 ∨ 1125899906842624 < v ∨ wi_out z 30001 ∨ wi_out u 1000001
  · exact ⟨2, 0, w, by decide, vW_up hv (Nat.le_succ n), fun A C S hC => rx_Hm (HL_order_a hG hN (cf_order_b hG hi hj hbd)) (hR_x hC (by decide)), fun C S hS => rx_Cm (mf_order_b hG hi hj hbd) (mRI_t hS (fun h => absurd h (by decide)))⟩
  rcases wi_ix z (N := 30001) (by decide) with hz | ⟨g, hg, rfl⟩
  · exact absurd (Or.inr (Or.inr (Or.inl hz))) hbd
  rcases wi_ix u (N := 1000001) (by decide) with hu | ⟨p, hp, rfl⟩
  · exact absurd (Or.inr (Or.inr (Or.inr hu))) hbd
  have hv1 : ¬ v < 0 := fun q => hbd (Or.inl q)
  have hv2 : ¬ 1125899906842624 < v := fun q => hbd (Or.inr (Or.inl q))
  by_cases h10 : w.2.1.1 = 10
  · exact ⟨3, 0, w, by decide, vW_up hv (Nat.le_succ n), fun A C S hC => rx_Hm (HL_order_s hG hN (cf_order_s hG hi hj hv1 hv2 hg hp hC.2.2.1.1 h10)) (hR_x hC (by decide)), fun C S hS => rx_Cm (mf_order_s hG hi hj hv1 hv2 hg hp hS.2.2.1.1 h10) (mRI_t hS (fun h => absurd h (by decide)))⟩
  refine ⟨0, _, w_order w ((i, j, v, ar), (g, p, nc)), by decide, ?_, fun A C S hC => rx_Hm (HL_order hG (cf_order hG hi hj hv1 hv2 hg hp hC.2.2.1.1 (by omega))) (hR_o (rcw_order hC)), fun C S hS => rx_Cm (mf_order hG hi hj hv1 hv2 hg hp hS.2.2.1.1 (by omega)) ?_⟩
  · obtain ⟨v1, v2, v3, v4⟩ := vW_up hv (Nat.le_succ n)
    refine ⟨v1, v2, ⟨?_, fun k hk => ?_⟩, v4⟩
    · show w.2.1.1 + 1 ≤ 10
      omega
    · have hk' : k < w.2.1.1 + 1 := hk
      by_cases e : k = w.2.1.1
      · have e1 : (w_order w ((i, j, v, ar), (g, p, nc))).2.1.2 k = ((i, j, v, ar), (g, p, nc)) := if_pos e
        rw [e1]
        exact ⟨⟨hi, hj⟩, ⟨Int64.not_lt.mp hv1, Int64.not_lt.mp hv2⟩, by show g ≤ 30000; omega, by show p ≤ 1000000; omega⟩
      · have e1 : (w_order w ((i, j, v, ar), (g, p, nc))).2.1.2 k = w.2.1.2 k := if_neg e
        rw [e1]
        exact v3.2 k (by omega)
  · rintro _ _ ⟨rfl, rfl⟩
    exact ⟨_, _, rfl, rfl, rmw_order hS, by simp [rx_ru], fun _ => rfl⟩

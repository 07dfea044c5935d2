theorem dX11_sizeOf_0 : decode cX11_sizeOf 0 = .ok (.iload_n 0, 1) := by decide +kernel
theorem dX11_sizeOf_1 : decode cX11_sizeOf 1 = .ok (.iconst 2, 1) := by decide +kernel
theorem dX11_sizeOf_2 : decode cX11_sizeOf 2 = .ok (.if_icmp .ne 8, 3) := by decide +kernel
theorem dX11_sizeOf_5 : decode cX11_sizeOf 5 = .ok (.bipush 9, 2) := by decide +kernel
theorem dX11_sizeOf_7 : decode cX11_sizeOf 7 = .ok (.goto 35, 3) := by decide +kernel
theorem dX11_sizeOf_10 : decode cX11_sizeOf 10 = .ok (.iload_n 0, 1) := by decide +kernel
theorem dX11_sizeOf_11 : decode cX11_sizeOf 11 = .ok (.iconst 1, 1) := by decide +kernel
theorem dX11_sizeOf_12 : decode cX11_sizeOf 12 = .ok (.if_icmp .eq 25, 3) := by decide +kernel
theorem dX11_sizeOf_15 : decode cX11_sizeOf 15 = .ok (.iload_n 0, 1) := by decide +kernel
theorem dX11_sizeOf_16 : decode cX11_sizeOf 16 = .ok (.iconst 4, 1) := by decide +kernel
theorem dX11_sizeOf_17 : decode cX11_sizeOf 17 = .ok (.if_icmp .eq 20, 3) := by decide +kernel
theorem dX11_sizeOf_20 : decode cX11_sizeOf 20 = .ok (.iload_n 0, 1) := by decide +kernel
theorem dX11_sizeOf_21 : decode cX11_sizeOf 21 = .ok (.iconst 5, 1) := by decide +kernel
theorem dX11_sizeOf_22 : decode cX11_sizeOf 22 = .ok (.if_icmp .eq 15, 3) := by decide +kernel
theorem dX11_sizeOf_25 : decode cX11_sizeOf 25 = .ok (.iload_n 0, 1) := by decide +kernel
theorem dX11_sizeOf_26 : decode cX11_sizeOf 26 = .ok (.bipush 19, 2) := by decide +kernel
theorem dX11_sizeOf_28 : decode cX11_sizeOf 28 = .ok (.if_icmp .eq 9, 3) := by decide +kernel
theorem dX11_sizeOf_31 : decode cX11_sizeOf 31 = .ok (.iload_n 0, 1) := by decide +kernel
theorem dX11_sizeOf_32 : decode cX11_sizeOf 32 = .ok (.bipush 20, 2) := by decide +kernel
theorem dX11_sizeOf_34 : decode cX11_sizeOf 34 = .ok (.if_icmp .ne 7, 3) := by decide +kernel
theorem dX11_sizeOf_37 : decode cX11_sizeOf 37 = .ok (.iconst 2, 1) := by decide +kernel
theorem dX11_sizeOf_38 : decode cX11_sizeOf 38 = .ok (.goto 4, 3) := by decide +kernel
theorem dX11_sizeOf_41 : decode cX11_sizeOf 41 = .ok (.iconst 1, 1) := by decide +kernel
theorem dX11_sizeOf_42 : decode cX11_sizeOf 42 = .ok (.ireturn, 1) := by decide +kernel
theorem dX11_costOf_0 : decode cX11_costOf 0 = .ok (.iload_n 0, 1) := by decide +kernel
theorem dX11_costOf_1 : decode cX11_costOf 1 = .ok (.tableswitch 204 0 39 #[175, 204, 177, 204, 204, 204, 204, 204, 177, 179, 179, 204, 204, 204, 204, 204, 204, 204, 204, 177, 177, 181, 184, 204, 204, 204, 204, 204, 204, 204, 187, 189, 192, 195, 198, 201, 175, 175, 184, 179], 175) := by decide +kernel
theorem dX11_costOf_176 : decode cX11_costOf 176 = .ok (.iconst 0, 1) := by decide +kernel
theorem dX11_costOf_177 : decode cX11_costOf 177 = .ok (.ireturn, 1) := by decide +kernel
theorem dX11_costOf_178 : decode cX11_costOf 178 = .ok (.iconst 2, 1) := by decide +kernel
theorem dX11_costOf_179 : decode cX11_costOf 179 = .ok (.ireturn, 1) := by decide +kernel
theorem dX11_costOf_180 : decode cX11_costOf 180 = .ok (.iconst 3, 1) := by decide +kernel
theorem dX11_costOf_181 : decode cX11_costOf 181 = .ok (.ireturn, 1) := by decide +kernel
theorem dX11_costOf_182 : decode cX11_costOf 182 = .ok (.bipush 10, 2) := by decide +kernel
theorem dX11_costOf_184 : decode cX11_costOf 184 = .ok (.ireturn, 1) := by decide +kernel
theorem dX11_costOf_185 : decode cX11_costOf 185 = .ok (.bipush 20, 2) := by decide +kernel
theorem dX11_costOf_187 : decode cX11_costOf 187 = .ok (.ireturn, 1) := by decide +kernel
theorem dX11_costOf_188 : decode cX11_costOf 188 = .ok (.iconst 5, 1) := by decide +kernel
theorem dX11_costOf_189 : decode cX11_costOf 189 = .ok (.ireturn, 1) := by decide +kernel
theorem dX11_costOf_190 : decode cX11_costOf 190 = .ok (.bipush 30, 2) := by decide +kernel
theorem dX11_costOf_192 : decode cX11_costOf 192 = .ok (.ireturn, 1) := by decide +kernel
theorem dX11_costOf_193 : decode cX11_costOf 193 = .ok (.bipush 25, 2) := by decide +kernel
theorem dX11_costOf_195 : decode cX11_costOf 195 = .ok (.ireturn, 1) := by decide +kernel
theorem dX11_costOf_196 : decode cX11_costOf 196 = .ok (.bipush 100, 2) := by decide +kernel
theorem dX11_costOf_198 : decode cX11_costOf 198 = .ok (.ireturn, 1) := by decide +kernel
theorem dX11_costOf_199 : decode cX11_costOf 199 = .ok (.bipush 40, 2) := by decide +kernel
theorem dX11_costOf_201 : decode cX11_costOf 201 = .ok (.ireturn, 1) := by decide +kernel
theorem dX11_costOf_202 : decode cX11_costOf 202 = .ok (.bipush 15, 2) := by decide +kernel
theorem dX11_costOf_204 : decode cX11_costOf 204 = .ok (.ireturn, 1) := by decide +kernel
theorem dX11_costOf_205 : decode cX11_costOf 205 = .ok (.iconst 1, 1) := by decide +kernel
theorem dX11_costOf_206 : decode cX11_costOf 206 = .ok (.ireturn, 1) := by decide +kernel
theorem dX11_takes_0 : decode cX11_takes 0 = .ok (.iload_n 0, 1) := by decide +kernel
theorem dX11_takes_1 : decode cX11_takes 1 = .ok (.bipush 6, 2) := by decide +kernel
theorem dX11_takes_3 : decode cX11_takes 3 = .ok (.if_icmp .lt 9, 3) := by decide +kernel
theorem dX11_takes_6 : decode cX11_takes 6 = .ok (.iload_n 0, 1) := by decide +kernel
theorem dX11_takes_7 : decode cX11_takes 7 = .ok (.bipush 17, 2) := by decide +kernel
theorem dX11_takes_9 : decode cX11_takes 9 = .ok (.if_icmp .le 21, 3) := by decide +kernel
theorem dX11_takes_12 : decode cX11_takes 12 = .ok (.iload_n 0, 1) := by decide +kernel
theorem dX11_takes_13 : decode cX11_takes 13 = .ok (.bipush 22, 2) := by decide +kernel
theorem dX11_takes_15 : decode cX11_takes 15 = .ok (.if_icmp .eq 15, 3) := by decide +kernel
theorem dX11_takes_18 : decode cX11_takes 18 = .ok (.iload_n 0, 1) := by decide +kernel
theorem dX11_takes_19 : decode cX11_takes 19 = .ok (.bipush 33, 2) := by decide +kernel
theorem dX11_takes_21 : decode cX11_takes 21 = .ok (.if_icmp .eq 9, 3) := by decide +kernel
theorem dX11_takes_24 : decode cX11_takes 24 = .ok (.iload_n 0, 1) := by decide +kernel
theorem dX11_takes_25 : decode cX11_takes 25 = .ok (.bipush 35, 2) := by decide +kernel
theorem dX11_takes_27 : decode cX11_takes 27 = .ok (.if_icmp .ne 5, 3) := by decide +kernel
theorem dX11_takes_30 : decode cX11_takes 30 = .ok (.iconst 2, 1) := by decide +kernel
theorem dX11_takes_31 : decode cX11_takes 31 = .ok (.ireturn, 1) := by decide +kernel
theorem dX11_takes_32 : decode cX11_takes 32 = .ok (.iload_n 0, 1) := by decide +kernel
theorem dX11_takes_33 : decode cX11_takes 33 = .ok (.iconst 3, 1) := by decide +kernel
theorem dX11_takes_34 : decode cX11_takes 34 = .ok (.if_icmp .eq 45, 3) := by decide +kernel
theorem dX11_takes_37 : decode cX11_takes 37 = .ok (.iload_n 0, 1) := by decide +kernel
theorem dX11_takes_38 : decode cX11_takes 38 = .ok (.bipush 18, 2) := by decide +kernel
theorem dX11_takes_40 : decode cX11_takes 40 = .ok (.if_icmp .eq 39, 3) := by decide +kernel
theorem dX11_takes_43 : decode cX11_takes 43 = .ok (.iload_n 0, 1) := by decide +kernel
theorem dX11_takes_44 : decode cX11_takes 44 = .ok (.bipush 20, 2) := by decide +kernel
theorem dX11_takes_46 : decode cX11_takes 46 = .ok (.if_icmp .eq 33, 3) := by decide +kernel
theorem dX11_takes_49 : decode cX11_takes 49 = .ok (.iload_n 0, 1) := by decide +kernel
theorem dX11_takes_50 : decode cX11_takes 50 = .ok (.bipush 21, 2) := by decide +kernel
theorem dX11_takes_52 : decode cX11_takes 52 = .ok (.if_icmp .eq 27, 3) := by decide +kernel
theorem dX11_takes_55 : decode cX11_takes 55 = .ok (.iload_n 0, 1) := by decide +kernel
theorem dX11_takes_56 : decode cX11_takes 56 = .ok (.bipush 30, 2) := by decide +kernel
theorem dX11_takes_58 : decode cX11_takes 58 = .ok (.if_icmp .eq 21, 3) := by decide +kernel
theorem dX11_takes_61 : decode cX11_takes 61 = .ok (.iload_n 0, 1) := by decide +kernel
theorem dX11_takes_62 : decode cX11_takes 62 = .ok (.bipush 34, 2) := by decide +kernel
theorem dX11_takes_64 : decode cX11_takes 64 = .ok (.if_icmp .eq 15, 3) := by decide +kernel
theorem dX11_takes_67 : decode cX11_takes 67 = .ok (.iload_n 0, 1) := by decide +kernel
theorem dX11_takes_68 : decode cX11_takes 68 = .ok (.bipush 36, 2) := by decide +kernel
theorem dX11_takes_70 : decode cX11_takes 70 = .ok (.if_icmp .lt 11, 3) := by decide +kernel
theorem dX11_takes_73 : decode cX11_takes 73 = .ok (.iload_n 0, 1) := by decide +kernel
theorem dX11_takes_74 : decode cX11_takes 74 = .ok (.bipush 38, 2) := by decide +kernel
theorem dX11_takes_76 : decode cX11_takes 76 = .ok (.if_icmp .gt 5, 3) := by decide +kernel
theorem dX11_takes_79 : decode cX11_takes 79 = .ok (.iconst 1, 1) := by decide +kernel
theorem dX11_takes_80 : decode cX11_takes 80 = .ok (.ireturn, 1) := by decide +kernel
theorem dX11_takes_81 : decode cX11_takes 81 = .ok (.iload_n 0, 1) := by decide +kernel
theorem dX11_takes_82 : decode cX11_takes 82 = .ok (.bipush 31, 2) := by decide +kernel
theorem dX11_takes_84 : decode cX11_takes 84 = .ok (.if_icmp .ne 7, 3) := by decide +kernel
theorem dX11_takes_87 : decode cX11_takes 87 = .ok (.iconst 4, 1) := by decide +kernel
theorem dX11_takes_88 : decode cX11_takes 88 = .ok (.goto 14, 3) := by decide +kernel
theorem dX11_takes_91 : decode cX11_takes 91 = .ok (.iload_n 0, 1) := by decide +kernel
theorem dX11_takes_92 : decode cX11_takes 92 = .ok (.bipush 32, 2) := by decide +kernel
theorem dX11_takes_94 : decode cX11_takes 94 = .ok (.if_icmp .ne 7, 3) := by decide +kernel
theorem dX11_takes_97 : decode cX11_takes 97 = .ok (.iconst 3, 1) := by decide +kernel
theorem dX11_takes_98 : decode cX11_takes 98 = .ok (.goto 4, 3) := by decide +kernel
theorem dX11_takes_101 : decode cX11_takes 101 = .ok (.iconst 0, 1) := by decide +kernel
theorem dX11_takes_102 : decode cX11_takes 102 = .ok (.ireturn, 1) := by decide +kernel
theorem dX11_gives_0 : decode cX11_gives 0 = .ok (.iload_n 0, 1) := by decide +kernel
theorem dX11_gives_1 : decode cX11_gives 1 = .ok (.iconst 1, 1) := by decide +kernel
theorem dX11_gives_2 : decode cX11_gives 2 = .ok (.if_icmp .eq 49, 3) := by decide +kernel
theorem dX11_gives_5 : decode cX11_gives 5 = .ok (.iload_n 0, 1) := by decide +kernel
theorem dX11_gives_6 : decode cX11_gives 6 = .ok (.iconst 2, 1) := by decide +kernel
theorem dX11_gives_7 : decode cX11_gives 7 = .ok (.if_icmp .eq 44, 3) := by decide +kernel
theorem dX11_gives_10 : decode cX11_gives 10 = .ok (.iload_n 0, 1) := by decide +kernel
theorem dX11_gives_11 : decode cX11_gives 11 = .ok (.iconst 4, 1) := by decide +kernel
theorem dX11_gives_12 : decode cX11_gives 12 = .ok (.if_icmp .eq 39, 3) := by decide +kernel
theorem dX11_gives_15 : decode cX11_gives 15 = .ok (.iload_n 0, 1) := by decide +kernel
theorem dX11_gives_16 : decode cX11_gives 16 = .ok (.bipush 6, 2) := by decide +kernel
theorem dX11_gives_18 : decode cX11_gives 18 = .ok (.if_icmp .lt 9, 3) := by decide +kernel
theorem dX11_gives_21 : decode cX11_gives 21 = .ok (.iload_n 0, 1) := by decide +kernel
theorem dX11_gives_22 : decode cX11_gives 22 = .ok (.bipush 18, 2) := by decide +kernel
theorem dX11_gives_24 : decode cX11_gives 24 = .ok (.if_icmp .le 27, 3) := by decide +kernel
theorem dX11_gives_27 : decode cX11_gives 27 = .ok (.iload_n 0, 1) := by decide +kernel
theorem dX11_gives_28 : decode cX11_gives 28 = .ok (.bipush 21, 2) := by decide +kernel
theorem dX11_gives_30 : decode cX11_gives 30 = .ok (.if_icmp .eq 21, 3) := by decide +kernel
theorem dX11_gives_33 : decode cX11_gives 33 = .ok (.iload_n 0, 1) := by decide +kernel
theorem dX11_gives_34 : decode cX11_gives 34 = .ok (.bipush 23, 2) := by decide +kernel
theorem dX11_gives_36 : decode cX11_gives 36 = .ok (.if_icmp .lt 9, 3) := by decide +kernel
theorem dX11_gives_39 : decode cX11_gives 39 = .ok (.iload_n 0, 1) := by decide +kernel
theorem dX11_gives_40 : decode cX11_gives 40 = .ok (.bipush 30, 2) := by decide +kernel
theorem dX11_gives_42 : decode cX11_gives 42 = .ok (.if_icmp .le 9, 3) := by decide +kernel
theorem dX11_gives_45 : decode cX11_gives 45 = .ok (.iload_n 0, 1) := by decide +kernel
theorem dX11_gives_46 : decode cX11_gives 46 = .ok (.bipush 33, 2) := by decide +kernel
theorem dX11_gives_48 : decode cX11_gives 48 = .ok (.if_icmp .ne 5, 3) := by decide +kernel
theorem dX11_gives_51 : decode cX11_gives 51 = .ok (.iconst 1, 1) := by decide +kernel
theorem dX11_gives_52 : decode cX11_gives 52 = .ok (.ireturn, 1) := by decide +kernel
theorem dX11_gives_53 : decode cX11_gives 53 = .ok (.iload_n 0, 1) := by decide +kernel
theorem dX11_gives_54 : decode cX11_gives 54 = .ok (.bipush 31, 2) := by decide +kernel
theorem dX11_gives_56 : decode cX11_gives 56 = .ok (.if_icmp .eq 9, 3) := by decide +kernel
theorem dX11_gives_59 : decode cX11_gives 59 = .ok (.iload_n 0, 1) := by decide +kernel
theorem dX11_gives_60 : decode cX11_gives 60 = .ok (.bipush 32, 2) := by decide +kernel
theorem dX11_gives_62 : decode cX11_gives 62 = .ok (.if_icmp .ne 7, 3) := by decide +kernel
theorem dX11_gives_65 : decode cX11_gives 65 = .ok (.iconst 2, 1) := by decide +kernel
theorem dX11_gives_66 : decode cX11_gives 66 = .ok (.goto 4, 3) := by decide +kernel
theorem dX11_gives_69 : decode cX11_gives 69 = .ok (.iconst 0, 1) := by decide +kernel
theorem dX11_gives_70 : decode cX11_gives 70 = .ok (.ireturn, 1) := by decide +kernel
theorem dX11_isAccount_0 : decode cX11_isAccount 0 = .ok (.lload_n 0, 1) := by decide +kernel
theorem dX11_isAccount_1 : decode cX11_isAccount 1 = .ok (.lconst 0, 1) := by decide +kernel
theorem dX11_isAccount_2 : decode cX11_isAccount 2 = .ok (.lcmp, 1) := by decide +kernel
theorem dX11_isAccount_3 : decode cX11_isAccount 3 = .ok (.ifCond .lt 15, 3) := by decide +kernel
theorem dX11_isAccount_6 : decode cX11_isAccount 6 = .ok (.lload_n 0, 1) := by decide +kernel
theorem dX11_isAccount_7 : decode cX11_isAccount 7 = .ok (.ldc2_w 179, 3) := by decide +kernel
theorem dX11_isAccount_10 : decode cX11_isAccount 10 = .ok (.lcmp, 1) := by decide +kernel
theorem dX11_isAccount_11 : decode cX11_isAccount 11 = .ok (.ifCond .ge 7, 3) := by decide +kernel
theorem dX11_isAccount_14 : decode cX11_isAccount 14 = .ok (.iconst 1, 1) := by decide +kernel
theorem dX11_isAccount_15 : decode cX11_isAccount 15 = .ok (.goto 4, 3) := by decide +kernel
theorem dX11_isAccount_18 : decode cX11_isAccount 18 = .ok (.iconst 0, 1) := by decide +kernel
theorem dX11_isAccount_19 : decode cX11_isAccount 19 = .ok (.ireturn, 1) := by decide +kernel
theorem cm_sizeOf {G : rx_E} {d : Nat}  (hG : rx_OK G) {op : Nat} (hop : op < 40) {mu : rx_M} : rx_C G MX11_sizeOf d [.int (nI op)] mu 0 0 (fun v m => v = some (.int (nI (vm_size op))) ∧ m = mu) := by
  refine rx_meth0 (by decide +kernel) rfl (Nat.le_of_ble_eq_true rfl) ?_
  refine rx_iload_n dX11_sizeOf_0 rfl ?_
  refine rx_iconst (v := nI 2) dX11_sizeOf_1 rfl ?_
  refine rx_icmp_ne (tgt := 10) dX11_sizeOf_2 (by decide) (fun h2 => ?_) (fun h2 => ?_)
  · rw [nI_eq (by omega) (by omega)] at h2
    refine rx_iload_n dX11_sizeOf_10 rfl ?_
    refine rx_iconst (v := nI 1) dX11_sizeOf_11 rfl ?_
    refine rx_icmp_eq (tgt := 37) dX11_sizeOf_12 (by decide) (fun h12 => ?_) (fun h12 => ?_)
    · rw [nI_eq (by omega) (by omega)] at h12
      refine rx_iconst (v := nI 2) dX11_sizeOf_37 rfl ?_
      refine rx_goto (tgt := 42) dX11_sizeOf_38 (by decide) ?_
      exact rx_iret rfl dX11_sizeOf_42 ⟨congrArg (fun n => some (Value.int (nI n))) (show 2 = vm_size op by unfold vm_size; (repeat' split) <;> omega), rfl⟩
    · rw [nI_eq (by omega) (by omega)] at h12
      refine rx_iload_n dX11_sizeOf_15 rfl ?_
      refine rx_iconst (v := nI 4) dX11_sizeOf_16 rfl ?_
      refine rx_icmp_eq (tgt := 37) dX11_sizeOf_17 (by decide) (fun h17 => ?_) (fun h17 => ?_)
      · rw [nI_eq (by omega) (by omega)] at h17
        refine rx_iconst (v := nI 2) dX11_sizeOf_37 rfl ?_
        refine rx_goto (tgt := 42) dX11_sizeOf_38 (by decide) ?_
        exact rx_iret rfl dX11_sizeOf_42 ⟨congrArg (fun n => some (Value.int (nI n))) (show 2 = vm_size op by unfold vm_size; (repeat' split) <;> omega), rfl⟩
      · rw [nI_eq (by omega) (by omega)] at h17
        refine rx_iload_n dX11_sizeOf_20 rfl ?_
        refine rx_iconst (v := nI 5) dX11_sizeOf_21 rfl ?_
        refine rx_icmp_eq (tgt := 37) dX11_sizeOf_22 (by decide) (fun h22 => ?_) (fun h22 => ?_)
        · rw [nI_eq (by omega) (by omega)] at h22
          refine rx_iconst (v := nI 2) dX11_sizeOf_37 rfl ?_
          refine rx_goto (tgt := 42) dX11_sizeOf_38 (by decide) ?_
          exact rx_iret rfl dX11_sizeOf_42 ⟨congrArg (fun n => some (Value.int (nI n))) (show 2 = vm_size op by unfold vm_size; (repeat' split) <;> omega), rfl⟩
        · rw [nI_eq (by omega) (by omega)] at h22
          refine rx_iload_n dX11_sizeOf_25 rfl ?_
          refine rx_bipush (v := nI 19) dX11_sizeOf_26 rfl ?_
          refine rx_icmp_eq (tgt := 37) dX11_sizeOf_28 (by decide) (fun h28 => ?_) (fun h28 => ?_)
          · rw [nI_eq (by omega) (by omega)] at h28
            refine rx_iconst (v := nI 2) dX11_sizeOf_37 rfl ?_
            refine rx_goto (tgt := 42) dX11_sizeOf_38 (by decide) ?_
            exact rx_iret rfl dX11_sizeOf_42 ⟨congrArg (fun n => some (Value.int (nI n))) (show 2 = vm_size op by unfold vm_size; (repeat' split) <;> omega), rfl⟩
          · rw [nI_eq (by omega) (by omega)] at h28
            refine rx_iload_n dX11_sizeOf_31 rfl ?_
            refine rx_bipush (v := nI 20) dX11_sizeOf_32 rfl ?_
            refine rx_icmp_ne (tgt := 41) dX11_sizeOf_34 (by decide) (fun h34 => ?_) (fun h34 => ?_)
            · rw [nI_eq (by omega) (by omega)] at h34
              refine rx_iconst (v := nI 1) dX11_sizeOf_41 rfl ?_
              exact rx_iret rfl dX11_sizeOf_42 ⟨congrArg (fun n => some (Value.int (nI n))) (show 1 = vm_size op by unfold vm_size; (repeat' split) <;> omega), rfl⟩
            · rw [nI_eq (by omega) (by omega)] at h34
              refine rx_iconst (v := nI 2) dX11_sizeOf_37 rfl ?_
              refine rx_goto (tgt := 42) dX11_sizeOf_38 (by decide) ?_
              exact rx_iret rfl dX11_sizeOf_42 ⟨congrArg (fun n => some (Value.int (nI n))) (show 2 = vm_size op by unfold vm_size; (repeat' split) <;> omega), rfl⟩
  · rw [nI_eq (by omega) (by omega)] at h2
    refine rx_bipush (v := nI 9) dX11_sizeOf_5 rfl ?_
    refine rx_goto (tgt := 42) dX11_sizeOf_7 (by decide) ?_
    exact rx_iret rfl dX11_sizeOf_42 ⟨congrArg (fun n => some (Value.int (nI n))) (show 9 = vm_size op by unfold vm_size; (repeat' split) <;> omega), rfl⟩
theorem cm_takes {G : rx_E} {d : Nat}  (hG : rx_OK G) {op : Nat} (hop : op < 40) {mu : rx_M} : rx_C G MX11_takes d [.int (nI op)] mu 0 0 (fun v m => v = some (.int (nI (vm_takes op))) ∧ m = mu) := by
  refine rx_meth0 (by decide +kernel) rfl (Nat.le_of_ble_eq_true rfl) ?_
  refine rx_iload_n dX11_takes_0 rfl ?_
  refine rx_bipush (v := nI 6) dX11_takes_1 rfl ?_
  refine rx_icmp_lt (tgt := 12) dX11_takes_3 (by decide) (fun h3 => ?_) (fun h3 => ?_)
  · rw [nI_ltI (by omega) (by omega)] at h3
    refine rx_iload_n dX11_takes_12 rfl ?_
    refine rx_bipush (v := nI 22) dX11_takes_13 rfl ?_
    refine rx_icmp_eq (tgt := 30) dX11_takes_15 (by decide) (fun h15 => ?_) (fun h15 => ?_)
    · rw [nI_eq (by omega) (by omega)] at h15
      refine rx_iconst (v := nI 2) dX11_takes_30 rfl ?_
      exact rx_iret rfl dX11_takes_31 ⟨congrArg (fun n => some (Value.int (nI n))) (show 2 = vm_takes op by unfold vm_takes; (repeat' split) <;> omega), rfl⟩
    · rw [nI_eq (by omega) (by omega)] at h15
      refine rx_iload_n dX11_takes_18 rfl ?_
      refine rx_bipush (v := nI 33) dX11_takes_19 rfl ?_
      refine rx_icmp_eq (tgt := 30) dX11_takes_21 (by decide) (fun h21 => ?_) (fun h21 => ?_)
      · rw [nI_eq (by omega) (by omega)] at h21
        refine rx_iconst (v := nI 2) dX11_takes_30 rfl ?_
        exact rx_iret rfl dX11_takes_31 ⟨congrArg (fun n => some (Value.int (nI n))) (show 2 = vm_takes op by unfold vm_takes; (repeat' split) <;> omega), rfl⟩
      · rw [nI_eq (by omega) (by omega)] at h21
        refine rx_iload_n dX11_takes_24 rfl ?_
        refine rx_bipush (v := nI 35) dX11_takes_25 rfl ?_
        refine rx_icmp_ne (tgt := 32) dX11_takes_27 (by decide) (fun h27 => ?_) (fun h27 => ?_)
        · rw [nI_eq (by omega) (by omega)] at h27
          refine rx_iload_n dX11_takes_32 rfl ?_
          refine rx_iconst (v := nI 3) dX11_takes_33 rfl ?_
          refine rx_icmp_eq (tgt := 79) dX11_takes_34 (by decide) (fun h34 => ?_) (fun h34 => ?_)
          · rw [nI_eq (by omega) (by omega)] at h34
            refine rx_iconst (v := nI 1) dX11_takes_79 rfl ?_
            exact rx_iret rfl dX11_takes_80 ⟨congrArg (fun n => some (Value.int (nI n))) (show 1 = vm_takes op by unfold vm_takes; (repeat' split) <;> omega), rfl⟩
          · rw [nI_eq (by omega) (by omega)] at h34
            refine rx_iload_n dX11_takes_37 rfl ?_
            refine rx_bipush (v := nI 18) dX11_takes_38 rfl ?_
            refine rx_icmp_eq (tgt := 79) dX11_takes_40 (by decide) (fun h40 => ?_) (fun h40 => ?_)
            · rw [nI_eq (by omega) (by omega)] at h40
              refine rx_iconst (v := nI 1) dX11_takes_79 rfl ?_
              exact rx_iret rfl dX11_takes_80 ⟨congrArg (fun n => some (Value.int (nI n))) (show 1 = vm_takes op by unfold vm_takes; (repeat' split) <;> omega), rfl⟩
            · rw [nI_eq (by omega) (by omega)] at h40
              refine rx_iload_n dX11_takes_43 rfl ?_
              refine rx_bipush (v := nI 20) dX11_takes_44 rfl ?_
              refine rx_icmp_eq (tgt := 79) dX11_takes_46 (by decide) (fun h46 => ?_) (fun h46 => ?_)
              · rw [nI_eq (by omega) (by omega)] at h46
                refine rx_iconst (v := nI 1) dX11_takes_79 rfl ?_
                exact rx_iret rfl dX11_takes_80 ⟨congrArg (fun n => some (Value.int (nI n))) (show 1 = vm_takes op by unfold vm_takes; (repeat' split) <;> omega), rfl⟩
              · rw [nI_eq (by omega) (by omega)] at h46
                refine rx_iload_n dX11_takes_49 rfl ?_
                refine rx_bipush (v := nI 21) dX11_takes_50 rfl ?_
                refine rx_icmp_eq (tgt := 79) dX11_takes_52 (by decide) (fun h52 => ?_) (fun h52 => ?_)
                · rw [nI_eq (by omega) (by omega)] at h52
                  refine rx_iconst (v := nI 1) dX11_takes_79 rfl ?_
                  exact rx_iret rfl dX11_takes_80 ⟨congrArg (fun n => some (Value.int (nI n))) (show 1 = vm_takes op by unfold vm_takes; (repeat' split) <;> omega), rfl⟩
                · rw [nI_eq (by omega) (by omega)] at h52
                  refine rx_iload_n dX11_takes_55 rfl ?_
                  refine rx_bipush (v := nI 30) dX11_takes_56 rfl ?_
                  refine rx_icmp_eq (tgt := 79) dX11_takes_58 (by decide) (fun h58 => ?_) (fun h58 => ?_)
                  · rw [nI_eq (by omega) (by omega)] at h58
                    refine rx_iconst (v := nI 1) dX11_takes_79 rfl ?_
                    exact rx_iret rfl dX11_takes_80 ⟨congrArg (fun n => some (Value.int (nI n))) (show 1 = vm_takes op by unfold vm_takes; (repeat' split) <;> omega), rfl⟩
                  · rw [nI_eq (by omega) (by omega)] at h58
                    refine rx_iload_n dX11_takes_61 rfl ?_
                    refine rx_bipush (v := nI 34) dX11_takes_62 rfl ?_
                    refine rx_icmp_eq (tgt := 79) dX11_takes_64 (by decide) (fun h64 => ?_) (fun h64 => ?_)
                    · rw [nI_eq (by omega) (by omega)] at h64
                      refine rx_iconst (v := nI 1) dX11_takes_79 rfl ?_
                      exact rx_iret rfl dX11_takes_80 ⟨congrArg (fun n => some (Value.int (nI n))) (show 1 = vm_takes op by unfold vm_takes; (repeat' split) <;> omega), rfl⟩
                    · rw [nI_eq (by omega) (by omega)] at h64
                      refine rx_iload_n dX11_takes_67 rfl ?_
                      refine rx_bipush (v := nI 36) dX11_takes_68 rfl ?_
                      refine rx_icmp_lt (tgt := 81) dX11_takes_70 (by decide) (fun h70 => ?_) (fun h70 => ?_)
                      · rw [nI_ltI (by omega) (by omega)] at h70
                        refine rx_iload_n dX11_takes_81 rfl ?_
                        refine rx_bipush (v := nI 31) dX11_takes_82 rfl ?_
                        refine rx_icmp_ne (tgt := 91) dX11_takes_84 (by decide) (fun h84 => ?_) (fun h84 => ?_)
                        · rw [nI_eq (by omega) (by omega)] at h84
                          refine rx_iload_n dX11_takes_91 rfl ?_
                          refine rx_bipush (v := nI 32) dX11_takes_92 rfl ?_
                          refine rx_icmp_ne (tgt := 101) dX11_takes_94 (by decide) (fun h94 => ?_) (fun h94 => ?_)
                          · rw [nI_eq (by omega) (by omega)] at h94
                            refine rx_iconst (v := nI 0) dX11_takes_101 rfl ?_
                            exact rx_iret rfl dX11_takes_102 ⟨congrArg (fun n => some (Value.int (nI n))) (show 0 = vm_takes op by unfold vm_takes; (repeat' split) <;> omega), rfl⟩
                          · rw [nI_eq (by omega) (by omega)] at h94
                            refine rx_iconst (v := nI 3) dX11_takes_97 rfl ?_
                            refine rx_goto (tgt := 102) dX11_takes_98 (by decide) ?_
                            exact rx_iret rfl dX11_takes_102 ⟨congrArg (fun n => some (Value.int (nI n))) (show 3 = vm_takes op by unfold vm_takes; (repeat' split) <;> omega), rfl⟩
                        · rw [nI_eq (by omega) (by omega)] at h84
                          refine rx_iconst (v := nI 4) dX11_takes_87 rfl ?_
                          refine rx_goto (tgt := 102) dX11_takes_88 (by decide) ?_
                          exact rx_iret rfl dX11_takes_102 ⟨congrArg (fun n => some (Value.int (nI n))) (show 4 = vm_takes op by unfold vm_takes; (repeat' split) <;> omega), rfl⟩
                      · rw [nI_ltI (by omega) (by omega)] at h70
                        refine rx_iload_n dX11_takes_73 rfl ?_
                        refine rx_bipush (v := nI 38) dX11_takes_74 rfl ?_
                        refine rx_icmp_gt (tgt := 81) dX11_takes_76 (by decide) (fun h76 => ?_) (fun h76 => ?_)
                        · rw [nI_ltI (by omega) (by omega)] at h76
                          refine rx_iload_n dX11_takes_81 rfl ?_
                          refine rx_bipush (v := nI 31) dX11_takes_82 rfl ?_
                          refine rx_icmp_ne (tgt := 91) dX11_takes_84 (by decide) (fun h84 => ?_) (fun h84 => ?_)
                          · rw [nI_eq (by omega) (by omega)] at h84
                            refine rx_iload_n dX11_takes_91 rfl ?_
                            refine rx_bipush (v := nI 32) dX11_takes_92 rfl ?_
                            refine rx_icmp_ne (tgt := 101) dX11_takes_94 (by decide) (fun h94 => ?_) (fun h94 => ?_)
                            · rw [nI_eq (by omega) (by omega)] at h94
                              refine rx_iconst (v := nI 0) dX11_takes_101 rfl ?_
                              exact rx_iret rfl dX11_takes_102 ⟨congrArg (fun n => some (Value.int (nI n))) (show 0 = vm_takes op by unfold vm_takes; (repeat' split) <;> omega), rfl⟩
                            · rw [nI_eq (by omega) (by omega)] at h94
                              refine rx_iconst (v := nI 3) dX11_takes_97 rfl ?_
                              refine rx_goto (tgt := 102) dX11_takes_98 (by decide) ?_
                              exact rx_iret rfl dX11_takes_102 ⟨congrArg (fun n => some (Value.int (nI n))) (show 3 = vm_takes op by unfold vm_takes; (repeat' split) <;> omega), rfl⟩
                          · rw [nI_eq (by omega) (by omega)] at h84
                            refine rx_iconst (v := nI 4) dX11_takes_87 rfl ?_
                            refine rx_goto (tgt := 102) dX11_takes_88 (by decide) ?_
                            exact rx_iret rfl dX11_takes_102 ⟨congrArg (fun n => some (Value.int (nI n))) (show 4 = vm_takes op by unfold vm_takes; (repeat' split) <;> omega), rfl⟩
                        · rw [nI_ltI (by omega) (by omega)] at h76
                          refine rx_iconst (v := nI 1) dX11_takes_79 rfl ?_
                          exact rx_iret rfl dX11_takes_80 ⟨congrArg (fun n => some (Value.int (nI n))) (show 1 = vm_takes op by unfold vm_takes; (repeat' split) <;> omega), rfl⟩
        · rw [nI_eq (by omega) (by omega)] at h27
          refine rx_iconst (v := nI 2) dX11_takes_30 rfl ?_
          exact rx_iret rfl dX11_takes_31 ⟨congrArg (fun n => some (Value.int (nI n))) (show 2 = vm_takes op by unfold vm_takes; (repeat' split) <;> omega), rfl⟩
  · rw [nI_ltI (by omega) (by omega)] at h3
    refine rx_iload_n dX11_takes_6 rfl ?_
    refine rx_bipush (v := nI 17) dX11_takes_7 rfl ?_
    refine rx_icmp_le (tgt := 30) dX11_takes_9 (by decide) (fun h9 => ?_) (fun h9 => ?_)
    · rw [nI_leI (by omega) (by omega)] at h9
      refine rx_iconst (v := nI 2) dX11_takes_30 rfl ?_
      exact rx_iret rfl dX11_takes_31 ⟨congrArg (fun n => some (Value.int (nI n))) (show 2 = vm_takes op by unfold vm_takes; (repeat' split) <;> omega), rfl⟩
    · rw [nI_leI (by omega) (by omega)] at h9
      refine rx_iload_n dX11_takes_12 rfl ?_
      refine rx_bipush (v := nI 22) dX11_takes_13 rfl ?_
      refine rx_icmp_eq (tgt := 30) dX11_takes_15 (by decide) (fun h15 => ?_) (fun h15 => ?_)
      · rw [nI_eq (by omega) (by omega)] at h15
        refine rx_iconst (v := nI 2) dX11_takes_30 rfl ?_
        exact rx_iret rfl dX11_takes_31 ⟨congrArg (fun n => some (Value.int (nI n))) (show 2 = vm_takes op by unfold vm_takes; (repeat' split) <;> omega), rfl⟩
      · rw [nI_eq (by omega) (by omega)] at h15
        refine rx_iload_n dX11_takes_18 rfl ?_
        refine rx_bipush (v := nI 33) dX11_takes_19 rfl ?_
        refine rx_icmp_eq (tgt := 30) dX11_takes_21 (by decide) (fun h21 => ?_) (fun h21 => ?_)
        · rw [nI_eq (by omega) (by omega)] at h21
          refine rx_iconst (v := nI 2) dX11_takes_30 rfl ?_
          exact rx_iret rfl dX11_takes_31 ⟨congrArg (fun n => some (Value.int (nI n))) (show 2 = vm_takes op by unfold vm_takes; (repeat' split) <;> omega), rfl⟩
        · rw [nI_eq (by omega) (by omega)] at h21
          refine rx_iload_n dX11_takes_24 rfl ?_
          refine rx_bipush (v := nI 35) dX11_takes_25 rfl ?_
          refine rx_icmp_ne (tgt := 32) dX11_takes_27 (by decide) (fun h27 => ?_) (fun h27 => ?_)
          · rw [nI_eq (by omega) (by omega)] at h27
            refine rx_iload_n dX11_takes_32 rfl ?_
            refine rx_iconst (v := nI 3) dX11_takes_33 rfl ?_
            refine rx_icmp_eq (tgt := 79) dX11_takes_34 (by decide) (fun h34 => ?_) (fun h34 => ?_)
            · rw [nI_eq (by omega) (by omega)] at h34
              refine rx_iconst (v := nI 1) dX11_takes_79 rfl ?_
              exact rx_iret rfl dX11_takes_80 ⟨congrArg (fun n => some (Value.int (nI n))) (show 1 = vm_takes op by unfold vm_takes; (repeat' split) <;> omega), rfl⟩
            · rw [nI_eq (by omega) (by omega)] at h34
              refine rx_iload_n dX11_takes_37 rfl ?_
              refine rx_bipush (v := nI 18) dX11_takes_38 rfl ?_
              refine rx_icmp_eq (tgt := 79) dX11_takes_40 (by decide) (fun h40 => ?_) (fun h40 => ?_)
              · rw [nI_eq (by omega) (by omega)] at h40
                refine rx_iconst (v := nI 1) dX11_takes_79 rfl ?_
                exact rx_iret rfl dX11_takes_80 ⟨congrArg (fun n => some (Value.int (nI n))) (show 1 = vm_takes op by unfold vm_takes; (repeat' split) <;> omega), rfl⟩
              · rw [nI_eq (by omega) (by omega)] at h40
                refine rx_iload_n dX11_takes_43 rfl ?_
                refine rx_bipush (v := nI 20) dX11_takes_44 rfl ?_
                refine rx_icmp_eq (tgt := 79) dX11_takes_46 (by decide) (fun h46 => ?_) (fun h46 => ?_)
                · rw [nI_eq (by omega) (by omega)] at h46
                  refine rx_iconst (v := nI 1) dX11_takes_79 rfl ?_
                  exact rx_iret rfl dX11_takes_80 ⟨congrArg (fun n => some (Value.int (nI n))) (show 1 = vm_takes op by unfold vm_takes; (repeat' split) <;> omega), rfl⟩
                · rw [nI_eq (by omega) (by omega)] at h46
                  refine rx_iload_n dX11_takes_49 rfl ?_
                  refine rx_bipush (v := nI 21) dX11_takes_50 rfl ?_
                  refine rx_icmp_eq (tgt := 79) dX11_takes_52 (by decide) (fun h52 => ?_) (fun h52 => ?_)
                  · rw [nI_eq (by omega) (by omega)] at h52
                    refine rx_iconst (v := nI 1) dX11_takes_79 rfl ?_
                    exact rx_iret rfl dX11_takes_80 ⟨congrArg (fun n => some (Value.int (nI n))) (show 1 = vm_takes op by unfold vm_takes; (repeat' split) <;> omega), rfl⟩
                  · rw [nI_eq (by omega) (by omega)] at h52
                    refine rx_iload_n dX11_takes_55 rfl ?_
                    refine rx_bipush (v := nI 30) dX11_takes_56 rfl ?_
                    refine rx_icmp_eq (tgt := 79) dX11_takes_58 (by decide) (fun h58 => ?_) (fun h58 => ?_)
                    · rw [nI_eq (by omega) (by omega)] at h58
                      refine rx_iconst (v := nI 1) dX11_takes_79 rfl ?_
                      exact rx_iret rfl dX11_takes_80 ⟨congrArg (fun n => some (Value.int (nI n))) (show 1 = vm_takes op by unfold vm_takes; (repeat' split) <;> omega), rfl⟩
                    · rw [nI_eq (by omega) (by omega)] at h58
                      refine rx_iload_n dX11_takes_61 rfl ?_
                      refine rx_bipush (v := nI 34) dX11_takes_62 rfl ?_
                      refine rx_icmp_eq (tgt := 79) dX11_takes_64 (by decide) (fun h64 => ?_) (fun h64 => ?_)
                      · rw [nI_eq (by omega) (by omega)] at h64
                        refine rx_iconst (v := nI 1) dX11_takes_79 rfl ?_
                        exact rx_iret rfl dX11_takes_80 ⟨congrArg (fun n => some (Value.int (nI n))) (show 1 = vm_takes op by unfold vm_takes; (repeat' split) <;> omega), rfl⟩
                      · rw [nI_eq (by omega) (by omega)] at h64
                        refine rx_iload_n dX11_takes_67 rfl ?_
                        refine rx_bipush (v := nI 36) dX11_takes_68 rfl ?_
                        refine rx_icmp_lt (tgt := 81) dX11_takes_70 (by decide) (fun h70 => ?_) (fun h70 => ?_)
                        · rw [nI_ltI (by omega) (by omega)] at h70
                          refine rx_iload_n dX11_takes_81 rfl ?_
                          refine rx_bipush (v := nI 31) dX11_takes_82 rfl ?_
                          refine rx_icmp_ne (tgt := 91) dX11_takes_84 (by decide) (fun h84 => ?_) (fun h84 => ?_)
                          · rw [nI_eq (by omega) (by omega)] at h84
                            refine rx_iload_n dX11_takes_91 rfl ?_
                            refine rx_bipush (v := nI 32) dX11_takes_92 rfl ?_
                            refine rx_icmp_ne (tgt := 101) dX11_takes_94 (by decide) (fun h94 => ?_) (fun h94 => ?_)
                            · rw [nI_eq (by omega) (by omega)] at h94
                              refine rx_iconst (v := nI 0) dX11_takes_101 rfl ?_
                              exact rx_iret rfl dX11_takes_102 ⟨congrArg (fun n => some (Value.int (nI n))) (show 0 = vm_takes op by unfold vm_takes; (repeat' split) <;> omega), rfl⟩
                            · rw [nI_eq (by omega) (by omega)] at h94
                              refine rx_iconst (v := nI 3) dX11_takes_97 rfl ?_
                              refine rx_goto (tgt := 102) dX11_takes_98 (by decide) ?_
                              exact rx_iret rfl dX11_takes_102 ⟨congrArg (fun n => some (Value.int (nI n))) (show 3 = vm_takes op by unfold vm_takes; (repeat' split) <;> omega), rfl⟩
                          · rw [nI_eq (by omega) (by omega)] at h84
                            refine rx_iconst (v := nI 4) dX11_takes_87 rfl ?_
                            refine rx_goto (tgt := 102) dX11_takes_88 (by decide) ?_
                            exact rx_iret rfl dX11_takes_102 ⟨congrArg (fun n => some (Value.int (nI n))) (show 4 = vm_takes op by unfold vm_takes; (repeat' split) <;> omega), rfl⟩
                        · rw [nI_ltI (by omega) (by omega)] at h70
                          refine rx_iload_n dX11_takes_73 rfl ?_
                          refine rx_bipush (v := nI 38) dX11_takes_74 rfl ?_
                          refine rx_icmp_gt (tgt := 81) dX11_takes_76 (by decide) (fun h76 => ?_) (fun h76 => ?_)
                          · rw [nI_ltI (by omega) (by omega)] at h76
                            refine rx_iload_n dX11_takes_81 rfl ?_
                            refine rx_bipush (v := nI 31) dX11_takes_82 rfl ?_
                            refine rx_icmp_ne (tgt := 91) dX11_takes_84 (by decide) (fun h84 => ?_) (fun h84 => ?_)
                            · rw [nI_eq (by omega) (by omega)] at h84
                              refine rx_iload_n dX11_takes_91 rfl ?_
                              refine rx_bipush (v := nI 32) dX11_takes_92 rfl ?_
                              refine rx_icmp_ne (tgt := 101) dX11_takes_94 (by decide) (fun h94 => ?_) (fun h94 => ?_)
                              · rw [nI_eq (by omega) (by omega)] at h94
                                refine rx_iconst (v := nI 0) dX11_takes_101 rfl ?_
                                exact rx_iret rfl dX11_takes_102 ⟨congrArg (fun n => some (Value.int (nI n))) (show 0 = vm_takes op by unfold vm_takes; (repeat' split) <;> omega), rfl⟩
                              · rw [nI_eq (by omega) (by omega)] at h94
                                refine rx_iconst (v := nI 3) dX11_takes_97 rfl ?_
                                refine rx_goto (tgt := 102) dX11_takes_98 (by decide) ?_
                                exact rx_iret rfl dX11_takes_102 ⟨congrArg (fun n => some (Value.int (nI n))) (show 3 = vm_takes op by unfold vm_takes; (repeat' split) <;> omega), rfl⟩
                            · rw [nI_eq (by omega) (by omega)] at h84
                              refine rx_iconst (v := nI 4) dX11_takes_87 rfl ?_
                              refine rx_goto (tgt := 102) dX11_takes_88 (by decide) ?_
                              exact rx_iret rfl dX11_takes_102 ⟨congrArg (fun n => some (Value.int (nI n))) (show 4 = vm_takes op by unfold vm_takes; (repeat' split) <;> omega), rfl⟩
                          · rw [nI_ltI (by omega) (by omega)] at h76
                            refine rx_iconst (v := nI 1) dX11_takes_79 rfl ?_
                            exact rx_iret rfl dX11_takes_80 ⟨congrArg (fun n => some (Value.int (nI n))) (show 1 = vm_takes op by unfold vm_takes; (repeat' split) <;> omega), rfl⟩
          · rw [nI_eq (by omega) (by omega)] at h27
            refine rx_iconst (v := nI 2) dX11_takes_30 rfl ?_
            exact rx_iret rfl dX11_takes_31 ⟨congrArg (fun n => some (Value.int (nI n))) (show 2 = vm_takes op by unfold vm_takes; (repeat' split) <;> omega), rfl⟩
theorem cm_gives {G : rx_E} {d : Nat}  (hG : rx_OK G) {op : Nat} (hop : op < 40) {mu : rx_M} : rx_C G MX11_gives d [.int (nI op)] mu 0 0 (fun v m => v = some (.int (nI (vm_gives op))) ∧ m = mu) := by
  refine rx_meth0 (by decide +kernel) rfl (Nat.le_of_ble_eq_true rfl) ?_
  refine rx_iload_n dX11_gives_0 rfl ?_
  refine rx_iconst (v := nI 1) dX11_gives_1 rfl ?_
  refine rx_icmp_eq (tgt := 51) dX11_gives_2 (by decide) (fun h2 => ?_) (fun h2 => ?_)
  · rw [nI_eq (by omega) (by omega)] at h2
    refine rx_iconst (v := nI 1) dX11_gives_51 rfl ?_
    exact rx_iret rfl dX11_gives_52 ⟨congrArg (fun n => some (Value.int (nI n))) (show 1 = vm_gives op by unfold vm_gives; (repeat' split) <;> omega), rfl⟩
  · rw [nI_eq (by omega) (by omega)] at h2
    refine rx_iload_n dX11_gives_5 rfl ?_
    refine rx_iconst (v := nI 2) dX11_gives_6 rfl ?_
    refine rx_icmp_eq (tgt := 51) dX11_gives_7 (by decide) (fun h7 => ?_) (fun h7 => ?_)
    · rw [nI_eq (by omega) (by omega)] at h7
      refine rx_iconst (v := nI 1) dX11_gives_51 rfl ?_
      exact rx_iret rfl dX11_gives_52 ⟨congrArg (fun n => some (Value.int (nI n))) (show 1 = vm_gives op by unfold vm_gives; (repeat' split) <;> omega), rfl⟩
    · rw [nI_eq (by omega) (by omega)] at h7
      refine rx_iload_n dX11_gives_10 rfl ?_
      refine rx_iconst (v := nI 4) dX11_gives_11 rfl ?_
      refine rx_icmp_eq (tgt := 51) dX11_gives_12 (by decide) (fun h12 => ?_) (fun h12 => ?_)
      · rw [nI_eq (by omega) (by omega)] at h12
        refine rx_iconst (v := nI 1) dX11_gives_51 rfl ?_
        exact rx_iret rfl dX11_gives_52 ⟨congrArg (fun n => some (Value.int (nI n))) (show 1 = vm_gives op by unfold vm_gives; (repeat' split) <;> omega), rfl⟩
      · rw [nI_eq (by omega) (by omega)] at h12
        refine rx_iload_n dX11_gives_15 rfl ?_
        refine rx_bipush (v := nI 6) dX11_gives_16 rfl ?_
        refine rx_icmp_lt (tgt := 27) dX11_gives_18 (by decide) (fun h18 => ?_) (fun h18 => ?_)
        · rw [nI_ltI (by omega) (by omega)] at h18
          refine rx_iload_n dX11_gives_27 rfl ?_
          refine rx_bipush (v := nI 21) dX11_gives_28 rfl ?_
          refine rx_icmp_eq (tgt := 51) dX11_gives_30 (by decide) (fun h30 => ?_) (fun h30 => ?_)
          · rw [nI_eq (by omega) (by omega)] at h30
            refine rx_iconst (v := nI 1) dX11_gives_51 rfl ?_
            exact rx_iret rfl dX11_gives_52 ⟨congrArg (fun n => some (Value.int (nI n))) (show 1 = vm_gives op by unfold vm_gives; (repeat' split) <;> omega), rfl⟩
          · rw [nI_eq (by omega) (by omega)] at h30
            refine rx_iload_n dX11_gives_33 rfl ?_
            refine rx_bipush (v := nI 23) dX11_gives_34 rfl ?_
            refine rx_icmp_lt (tgt := 45) dX11_gives_36 (by decide) (fun h36 => ?_) (fun h36 => ?_)
            · rw [nI_ltI (by omega) (by omega)] at h36
              refine rx_iload_n dX11_gives_45 rfl ?_
              refine rx_bipush (v := nI 33) dX11_gives_46 rfl ?_
              refine rx_icmp_ne (tgt := 53) dX11_gives_48 (by decide) (fun h48 => ?_) (fun h48 => ?_)
              · rw [nI_eq (by omega) (by omega)] at h48
                refine rx_iload_n dX11_gives_53 rfl ?_
                refine rx_bipush (v := nI 31) dX11_gives_54 rfl ?_
                refine rx_icmp_eq (tgt := 65) dX11_gives_56 (by decide) (fun h56 => ?_) (fun h56 => ?_)
                · rw [nI_eq (by omega) (by omega)] at h56
                  refine rx_iconst (v := nI 2) dX11_gives_65 rfl ?_
                  refine rx_goto (tgt := 70) dX11_gives_66 (by decide) ?_
                  exact rx_iret rfl dX11_gives_70 ⟨congrArg (fun n => some (Value.int (nI n))) (show 2 = vm_gives op by unfold vm_gives; (repeat' split) <;> omega), rfl⟩
                · rw [nI_eq (by omega) (by omega)] at h56
                  refine rx_iload_n dX11_gives_59 rfl ?_
                  refine rx_bipush (v := nI 32) dX11_gives_60 rfl ?_
                  refine rx_icmp_ne (tgt := 69) dX11_gives_62 (by decide) (fun h62 => ?_) (fun h62 => ?_)
                  · rw [nI_eq (by omega) (by omega)] at h62
                    refine rx_iconst (v := nI 0) dX11_gives_69 rfl ?_
                    exact rx_iret rfl dX11_gives_70 ⟨congrArg (fun n => some (Value.int (nI n))) (show 0 = vm_gives op by unfold vm_gives; (repeat' split) <;> omega), rfl⟩
                  · rw [nI_eq (by omega) (by omega)] at h62
                    refine rx_iconst (v := nI 2) dX11_gives_65 rfl ?_
                    refine rx_goto (tgt := 70) dX11_gives_66 (by decide) ?_
                    exact rx_iret rfl dX11_gives_70 ⟨congrArg (fun n => some (Value.int (nI n))) (show 2 = vm_gives op by unfold vm_gives; (repeat' split) <;> omega), rfl⟩
              · rw [nI_eq (by omega) (by omega)] at h48
                refine rx_iconst (v := nI 1) dX11_gives_51 rfl ?_
                exact rx_iret rfl dX11_gives_52 ⟨congrArg (fun n => some (Value.int (nI n))) (show 1 = vm_gives op by unfold vm_gives; (repeat' split) <;> omega), rfl⟩
            · rw [nI_ltI (by omega) (by omega)] at h36
              refine rx_iload_n dX11_gives_39 rfl ?_
              refine rx_bipush (v := nI 30) dX11_gives_40 rfl ?_
              refine rx_icmp_le (tgt := 51) dX11_gives_42 (by decide) (fun h42 => ?_) (fun h42 => ?_)
              · rw [nI_leI (by omega) (by omega)] at h42
                refine rx_iconst (v := nI 1) dX11_gives_51 rfl ?_
                exact rx_iret rfl dX11_gives_52 ⟨congrArg (fun n => some (Value.int (nI n))) (show 1 = vm_gives op by unfold vm_gives; (repeat' split) <;> omega), rfl⟩
              · rw [nI_leI (by omega) (by omega)] at h42
                refine rx_iload_n dX11_gives_45 rfl ?_
                refine rx_bipush (v := nI 33) dX11_gives_46 rfl ?_
                refine rx_icmp_ne (tgt := 53) dX11_gives_48 (by decide) (fun h48 => ?_) (fun h48 => ?_)
                · rw [nI_eq (by omega) (by omega)] at h48
                  refine rx_iload_n dX11_gives_53 rfl ?_
                  refine rx_bipush (v := nI 31) dX11_gives_54 rfl ?_
                  refine rx_icmp_eq (tgt := 65) dX11_gives_56 (by decide) (fun h56 => ?_) (fun h56 => ?_)
                  · rw [nI_eq (by omega) (by omega)] at h56
                    refine rx_iconst (v := nI 2) dX11_gives_65 rfl ?_
                    refine rx_goto (tgt := 70) dX11_gives_66 (by decide) ?_
                    exact rx_iret rfl dX11_gives_70 ⟨congrArg (fun n => some (Value.int (nI n))) (show 2 = vm_gives op by unfold vm_gives; (repeat' split) <;> omega), rfl⟩
                  · rw [nI_eq (by omega) (by omega)] at h56
                    refine rx_iload_n dX11_gives_59 rfl ?_
                    refine rx_bipush (v := nI 32) dX11_gives_60 rfl ?_
                    refine rx_icmp_ne (tgt := 69) dX11_gives_62 (by decide) (fun h62 => ?_) (fun h62 => ?_)
                    · rw [nI_eq (by omega) (by omega)] at h62
                      refine rx_iconst (v := nI 0) dX11_gives_69 rfl ?_
                      exact rx_iret rfl dX11_gives_70 ⟨congrArg (fun n => some (Value.int (nI n))) (show 0 = vm_gives op by unfold vm_gives; (repeat' split) <;> omega), rfl⟩
                    · rw [nI_eq (by omega) (by omega)] at h62
                      refine rx_iconst (v := nI 2) dX11_gives_65 rfl ?_
                      refine rx_goto (tgt := 70) dX11_gives_66 (by decide) ?_
                      exact rx_iret rfl dX11_gives_70 ⟨congrArg (fun n => some (Value.int (nI n))) (show 2 = vm_gives op by unfold vm_gives; (repeat' split) <;> omega), rfl⟩
                · rw [nI_eq (by omega) (by omega)] at h48
                  refine rx_iconst (v := nI 1) dX11_gives_51 rfl ?_
                  exact rx_iret rfl dX11_gives_52 ⟨congrArg (fun n => some (Value.int (nI n))) (show 1 = vm_gives op by unfold vm_gives; (repeat' split) <;> omega), rfl⟩
        · rw [nI_ltI (by omega) (by omega)] at h18
          refine rx_iload_n dX11_gives_21 rfl ?_
          refine rx_bipush (v := nI 18) dX11_gives_22 rfl ?_
          refine rx_icmp_le (tgt := 51) dX11_gives_24 (by decide) (fun h24 => ?_) (fun h24 => ?_)
          · rw [nI_leI (by omega) (by omega)] at h24
            refine rx_iconst (v := nI 1) dX11_gives_51 rfl ?_
            exact rx_iret rfl dX11_gives_52 ⟨congrArg (fun n => some (Value.int (nI n))) (show 1 = vm_gives op by unfold vm_gives; (repeat' split) <;> omega), rfl⟩
          · rw [nI_leI (by omega) (by omega)] at h24
            refine rx_iload_n dX11_gives_27 rfl ?_
            refine rx_bipush (v := nI 21) dX11_gives_28 rfl ?_
            refine rx_icmp_eq (tgt := 51) dX11_gives_30 (by decide) (fun h30 => ?_) (fun h30 => ?_)
            · rw [nI_eq (by omega) (by omega)] at h30
              refine rx_iconst (v := nI 1) dX11_gives_51 rfl ?_
              exact rx_iret rfl dX11_gives_52 ⟨congrArg (fun n => some (Value.int (nI n))) (show 1 = vm_gives op by unfold vm_gives; (repeat' split) <;> omega), rfl⟩
            · rw [nI_eq (by omega) (by omega)] at h30
              refine rx_iload_n dX11_gives_33 rfl ?_
              refine rx_bipush (v := nI 23) dX11_gives_34 rfl ?_
              refine rx_icmp_lt (tgt := 45) dX11_gives_36 (by decide) (fun h36 => ?_) (fun h36 => ?_)
              · rw [nI_ltI (by omega) (by omega)] at h36
                refine rx_iload_n dX11_gives_45 rfl ?_
                refine rx_bipush (v := nI 33) dX11_gives_46 rfl ?_
                refine rx_icmp_ne (tgt := 53) dX11_gives_48 (by decide) (fun h48 => ?_) (fun h48 => ?_)
                · rw [nI_eq (by omega) (by omega)] at h48
                  refine rx_iload_n dX11_gives_53 rfl ?_
                  refine rx_bipush (v := nI 31) dX11_gives_54 rfl ?_
                  refine rx_icmp_eq (tgt := 65) dX11_gives_56 (by decide) (fun h56 => ?_) (fun h56 => ?_)
                  · rw [nI_eq (by omega) (by omega)] at h56
                    refine rx_iconst (v := nI 2) dX11_gives_65 rfl ?_
                    refine rx_goto (tgt := 70) dX11_gives_66 (by decide) ?_
                    exact rx_iret rfl dX11_gives_70 ⟨congrArg (fun n => some (Value.int (nI n))) (show 2 = vm_gives op by unfold vm_gives; (repeat' split) <;> omega), rfl⟩
                  · rw [nI_eq (by omega) (by omega)] at h56
                    refine rx_iload_n dX11_gives_59 rfl ?_
                    refine rx_bipush (v := nI 32) dX11_gives_60 rfl ?_
                    refine rx_icmp_ne (tgt := 69) dX11_gives_62 (by decide) (fun h62 => ?_) (fun h62 => ?_)
                    · rw [nI_eq (by omega) (by omega)] at h62
                      refine rx_iconst (v := nI 0) dX11_gives_69 rfl ?_
                      exact rx_iret rfl dX11_gives_70 ⟨congrArg (fun n => some (Value.int (nI n))) (show 0 = vm_gives op by unfold vm_gives; (repeat' split) <;> omega), rfl⟩
                    · rw [nI_eq (by omega) (by omega)] at h62
                      refine rx_iconst (v := nI 2) dX11_gives_65 rfl ?_
                      refine rx_goto (tgt := 70) dX11_gives_66 (by decide) ?_
                      exact rx_iret rfl dX11_gives_70 ⟨congrArg (fun n => some (Value.int (nI n))) (show 2 = vm_gives op by unfold vm_gives; (repeat' split) <;> omega), rfl⟩
                · rw [nI_eq (by omega) (by omega)] at h48
                  refine rx_iconst (v := nI 1) dX11_gives_51 rfl ?_
                  exact rx_iret rfl dX11_gives_52 ⟨congrArg (fun n => some (Value.int (nI n))) (show 1 = vm_gives op by unfold vm_gives; (repeat' split) <;> omega), rfl⟩
              · rw [nI_ltI (by omega) (by omega)] at h36
                refine rx_iload_n dX11_gives_39 rfl ?_
                refine rx_bipush (v := nI 30) dX11_gives_40 rfl ?_
                refine rx_icmp_le (tgt := 51) dX11_gives_42 (by decide) (fun h42 => ?_) (fun h42 => ?_)
                · rw [nI_leI (by omega) (by omega)] at h42
                  refine rx_iconst (v := nI 1) dX11_gives_51 rfl ?_
                  exact rx_iret rfl dX11_gives_52 ⟨congrArg (fun n => some (Value.int (nI n))) (show 1 = vm_gives op by unfold vm_gives; (repeat' split) <;> omega), rfl⟩
                · rw [nI_leI (by omega) (by omega)] at h42
                  refine rx_iload_n dX11_gives_45 rfl ?_
                  refine rx_bipush (v := nI 33) dX11_gives_46 rfl ?_
                  refine rx_icmp_ne (tgt := 53) dX11_gives_48 (by decide) (fun h48 => ?_) (fun h48 => ?_)
                  · rw [nI_eq (by omega) (by omega)] at h48
                    refine rx_iload_n dX11_gives_53 rfl ?_
                    refine rx_bipush (v := nI 31) dX11_gives_54 rfl ?_
                    refine rx_icmp_eq (tgt := 65) dX11_gives_56 (by decide) (fun h56 => ?_) (fun h56 => ?_)
                    · rw [nI_eq (by omega) (by omega)] at h56
                      refine rx_iconst (v := nI 2) dX11_gives_65 rfl ?_
                      refine rx_goto (tgt := 70) dX11_gives_66 (by decide) ?_
                      exact rx_iret rfl dX11_gives_70 ⟨congrArg (fun n => some (Value.int (nI n))) (show 2 = vm_gives op by unfold vm_gives; (repeat' split) <;> omega), rfl⟩
                    · rw [nI_eq (by omega) (by omega)] at h56
                      refine rx_iload_n dX11_gives_59 rfl ?_
                      refine rx_bipush (v := nI 32) dX11_gives_60 rfl ?_
                      refine rx_icmp_ne (tgt := 69) dX11_gives_62 (by decide) (fun h62 => ?_) (fun h62 => ?_)
                      · rw [nI_eq (by omega) (by omega)] at h62
                        refine rx_iconst (v := nI 0) dX11_gives_69 rfl ?_
                        exact rx_iret rfl dX11_gives_70 ⟨congrArg (fun n => some (Value.int (nI n))) (show 0 = vm_gives op by unfold vm_gives; (repeat' split) <;> omega), rfl⟩
                      · rw [nI_eq (by omega) (by omega)] at h62
                        refine rx_iconst (v := nI 2) dX11_gives_65 rfl ?_
                        refine rx_goto (tgt := 70) dX11_gives_66 (by decide) ?_
                        exact rx_iret rfl dX11_gives_70 ⟨congrArg (fun n => some (Value.int (nI n))) (show 2 = vm_gives op by unfold vm_gives; (repeat' split) <;> omega), rfl⟩
                  · rw [nI_eq (by omega) (by omega)] at h48
                    refine rx_iconst (v := nI 1) dX11_gives_51 rfl ?_
                    exact rx_iret rfl dX11_gives_52 ⟨congrArg (fun n => some (Value.int (nI n))) (show 1 = vm_gives op by unfold vm_gives; (repeat' split) <;> omega), rfl⟩
theorem cm_costOf {G : rx_E} {d : Nat}  (hG : rx_OK G) {op : Nat} (hop : op < 40) {mu : rx_M} : rx_C G MX11_costOf d [.int (nI op)] mu 0 0 (fun v m => v = some (.int (nI (vm_cost op))) ∧ m = mu) := by
  refine rx_meth0 (by decide +kernel) rfl (Nat.le_of_ble_eq_true rfl) ?_
  have hc : op = 0 ∨ op = 1 ∨ op = 2 ∨ op = 3 ∨ op = 4 ∨ op = 5 ∨ op = 6 ∨ op = 7 ∨ op = 8 ∨ op = 9 ∨ op = 10 ∨ op = 11 ∨ op = 12 ∨ op = 13 ∨ op = 14 ∨ op = 15 ∨ op = 16 ∨ op = 17 ∨ op = 18 ∨ op = 19 ∨ op = 20 ∨ op = 21 ∨ op = 22 ∨ op = 23 ∨ op = 24 ∨ op = 25 ∨ op = 26 ∨ op = 27 ∨ op = 28 ∨ op = 29 ∨ op = 30 ∨ op = 31 ∨ op = 32 ∨ op = 33 ∨ op = 34 ∨ op = 35 ∨ op = 36 ∨ op = 37 ∨ op = 38 ∨ op = 39 := by omega
  rcases hc with rfl | rfl | rfl | rfl | rfl | rfl | rfl | rfl | rfl | rfl | rfl | rfl | rfl | rfl | rfl | rfl | rfl | rfl | rfl | rfl | rfl | rfl | rfl | rfl | rfl | rfl | rfl | rfl | rfl | rfl | rfl | rfl | rfl | rfl | rfl | rfl | rfl | rfl | rfl | rfl
  · refine rx_iload_n dX11_costOf_0 rfl ?_
    refine rx_tabIn (tgt := 176) dX11_costOf_1 (by decide) (by decide) rfl (by decide) ?_
    refine rx_iconst (v := nI 0) dX11_costOf_176 rfl ?_
    exact rx_iret rfl dX11_costOf_177 ⟨rfl, rfl⟩
  · refine rx_iload_n dX11_costOf_0 rfl ?_
    refine rx_tabIn (tgt := 205) dX11_costOf_1 (by decide) (by decide) rfl (by decide) ?_
    refine rx_iconst (v := nI 1) dX11_costOf_205 rfl ?_
    exact rx_iret rfl dX11_costOf_206 ⟨rfl, rfl⟩
  · refine rx_iload_n dX11_costOf_0 rfl ?_
    refine rx_tabIn (tgt := 178) dX11_costOf_1 (by decide) (by decide) rfl (by decide) ?_
    refine rx_iconst (v := nI 2) dX11_costOf_178 rfl ?_
    exact rx_iret rfl dX11_costOf_179 ⟨rfl, rfl⟩
  · refine rx_iload_n dX11_costOf_0 rfl ?_
    refine rx_tabIn (tgt := 205) dX11_costOf_1 (by decide) (by decide) rfl (by decide) ?_
    refine rx_iconst (v := nI 1) dX11_costOf_205 rfl ?_
    exact rx_iret rfl dX11_costOf_206 ⟨rfl, rfl⟩
  · refine rx_iload_n dX11_costOf_0 rfl ?_
    refine rx_tabIn (tgt := 205) dX11_costOf_1 (by decide) (by decide) rfl (by decide) ?_
    refine rx_iconst (v := nI 1) dX11_costOf_205 rfl ?_
    exact rx_iret rfl dX11_costOf_206 ⟨rfl, rfl⟩
  · refine rx_iload_n dX11_costOf_0 rfl ?_
    refine rx_tabIn (tgt := 205) dX11_costOf_1 (by decide) (by decide) rfl (by decide) ?_
    refine rx_iconst (v := nI 1) dX11_costOf_205 rfl ?_
    exact rx_iret rfl dX11_costOf_206 ⟨rfl, rfl⟩
  · refine rx_iload_n dX11_costOf_0 rfl ?_
    refine rx_tabIn (tgt := 205) dX11_costOf_1 (by decide) (by decide) rfl (by decide) ?_
    refine rx_iconst (v := nI 1) dX11_costOf_205 rfl ?_
    exact rx_iret rfl dX11_costOf_206 ⟨rfl, rfl⟩
  · refine rx_iload_n dX11_costOf_0 rfl ?_
    refine rx_tabIn (tgt := 205) dX11_costOf_1 (by decide) (by decide) rfl (by decide) ?_
    refine rx_iconst (v := nI 1) dX11_costOf_205 rfl ?_
    exact rx_iret rfl dX11_costOf_206 ⟨rfl, rfl⟩
  · refine rx_iload_n dX11_costOf_0 rfl ?_
    refine rx_tabIn (tgt := 178) dX11_costOf_1 (by decide) (by decide) rfl (by decide) ?_
    refine rx_iconst (v := nI 2) dX11_costOf_178 rfl ?_
    exact rx_iret rfl dX11_costOf_179 ⟨rfl, rfl⟩
  · refine rx_iload_n dX11_costOf_0 rfl ?_
    refine rx_tabIn (tgt := 180) dX11_costOf_1 (by decide) (by decide) rfl (by decide) ?_
    refine rx_iconst (v := nI 3) dX11_costOf_180 rfl ?_
    exact rx_iret rfl dX11_costOf_181 ⟨rfl, rfl⟩
  · refine rx_iload_n dX11_costOf_0 rfl ?_
    refine rx_tabIn (tgt := 180) dX11_costOf_1 (by decide) (by decide) rfl (by decide) ?_
    refine rx_iconst (v := nI 3) dX11_costOf_180 rfl ?_
    exact rx_iret rfl dX11_costOf_181 ⟨rfl, rfl⟩
  · refine rx_iload_n dX11_costOf_0 rfl ?_
    refine rx_tabIn (tgt := 205) dX11_costOf_1 (by decide) (by decide) rfl (by decide) ?_
    refine rx_iconst (v := nI 1) dX11_costOf_205 rfl ?_
    exact rx_iret rfl dX11_costOf_206 ⟨rfl, rfl⟩
  · refine rx_iload_n dX11_costOf_0 rfl ?_
    refine rx_tabIn (tgt := 205) dX11_costOf_1 (by decide) (by decide) rfl (by decide) ?_
    refine rx_iconst (v := nI 1) dX11_costOf_205 rfl ?_
    exact rx_iret rfl dX11_costOf_206 ⟨rfl, rfl⟩
  · refine rx_iload_n dX11_costOf_0 rfl ?_
    refine rx_tabIn (tgt := 205) dX11_costOf_1 (by decide) (by decide) rfl (by decide) ?_
    refine rx_iconst (v := nI 1) dX11_costOf_205 rfl ?_
    exact rx_iret rfl dX11_costOf_206 ⟨rfl, rfl⟩
  · refine rx_iload_n dX11_costOf_0 rfl ?_
    refine rx_tabIn (tgt := 205) dX11_costOf_1 (by decide) (by decide) rfl (by decide) ?_
    refine rx_iconst (v := nI 1) dX11_costOf_205 rfl ?_
    exact rx_iret rfl dX11_costOf_206 ⟨rfl, rfl⟩
  · refine rx_iload_n dX11_costOf_0 rfl ?_
    refine rx_tabIn (tgt := 205) dX11_costOf_1 (by decide) (by decide) rfl (by decide) ?_
    refine rx_iconst (v := nI 1) dX11_costOf_205 rfl ?_
    exact rx_iret rfl dX11_costOf_206 ⟨rfl, rfl⟩
  · refine rx_iload_n dX11_costOf_0 rfl ?_
    refine rx_tabIn (tgt := 205) dX11_costOf_1 (by decide) (by decide) rfl (by decide) ?_
    refine rx_iconst (v := nI 1) dX11_costOf_205 rfl ?_
    exact rx_iret rfl dX11_costOf_206 ⟨rfl, rfl⟩
  · refine rx_iload_n dX11_costOf_0 rfl ?_
    refine rx_tabIn (tgt := 205) dX11_costOf_1 (by decide) (by decide) rfl (by decide) ?_
    refine rx_iconst (v := nI 1) dX11_costOf_205 rfl ?_
    exact rx_iret rfl dX11_costOf_206 ⟨rfl, rfl⟩
  · refine rx_iload_n dX11_costOf_0 rfl ?_
    refine rx_tabIn (tgt := 205) dX11_costOf_1 (by decide) (by decide) rfl (by decide) ?_
    refine rx_iconst (v := nI 1) dX11_costOf_205 rfl ?_
    exact rx_iret rfl dX11_costOf_206 ⟨rfl, rfl⟩
  · refine rx_iload_n dX11_costOf_0 rfl ?_
    refine rx_tabIn (tgt := 178) dX11_costOf_1 (by decide) (by decide) rfl (by decide) ?_
    refine rx_iconst (v := nI 2) dX11_costOf_178 rfl ?_
    exact rx_iret rfl dX11_costOf_179 ⟨rfl, rfl⟩
  · refine rx_iload_n dX11_costOf_0 rfl ?_
    refine rx_tabIn (tgt := 178) dX11_costOf_1 (by decide) (by decide) rfl (by decide) ?_
    refine rx_iconst (v := nI 2) dX11_costOf_178 rfl ?_
    exact rx_iret rfl dX11_costOf_179 ⟨rfl, rfl⟩
  · refine rx_iload_n dX11_costOf_0 rfl ?_
    refine rx_tabIn (tgt := 182) dX11_costOf_1 (by decide) (by decide) rfl (by decide) ?_
    refine rx_bipush (v := nI 10) dX11_costOf_182 rfl ?_
    exact rx_iret rfl dX11_costOf_184 ⟨rfl, rfl⟩
  · refine rx_iload_n dX11_costOf_0 rfl ?_
    refine rx_tabIn (tgt := 185) dX11_costOf_1 (by decide) (by decide) rfl (by decide) ?_
    refine rx_bipush (v := nI 20) dX11_costOf_185 rfl ?_
    exact rx_iret rfl dX11_costOf_187 ⟨rfl, rfl⟩
  · refine rx_iload_n dX11_costOf_0 rfl ?_
    refine rx_tabIn (tgt := 205) dX11_costOf_1 (by decide) (by decide) rfl (by decide) ?_
    refine rx_iconst (v := nI 1) dX11_costOf_205 rfl ?_
    exact rx_iret rfl dX11_costOf_206 ⟨rfl, rfl⟩
  · refine rx_iload_n dX11_costOf_0 rfl ?_
    refine rx_tabIn (tgt := 205) dX11_costOf_1 (by decide) (by decide) rfl (by decide) ?_
    refine rx_iconst (v := nI 1) dX11_costOf_205 rfl ?_
    exact rx_iret rfl dX11_costOf_206 ⟨rfl, rfl⟩
  · refine rx_iload_n dX11_costOf_0 rfl ?_
    refine rx_tabIn (tgt := 205) dX11_costOf_1 (by decide) (by decide) rfl (by decide) ?_
    refine rx_iconst (v := nI 1) dX11_costOf_205 rfl ?_
    exact rx_iret rfl dX11_costOf_206 ⟨rfl, rfl⟩
  · refine rx_iload_n dX11_costOf_0 rfl ?_
    refine rx_tabIn (tgt := 205) dX11_costOf_1 (by decide) (by decide) rfl (by decide) ?_
    refine rx_iconst (v := nI 1) dX11_costOf_205 rfl ?_
    exact rx_iret rfl dX11_costOf_206 ⟨rfl, rfl⟩
  · refine rx_iload_n dX11_costOf_0 rfl ?_
    refine rx_tabIn (tgt := 205) dX11_costOf_1 (by decide) (by decide) rfl (by decide) ?_
    refine rx_iconst (v := nI 1) dX11_costOf_205 rfl ?_
    exact rx_iret rfl dX11_costOf_206 ⟨rfl, rfl⟩
  · refine rx_iload_n dX11_costOf_0 rfl ?_
    refine rx_tabIn (tgt := 205) dX11_costOf_1 (by decide) (by decide) rfl (by decide) ?_
    refine rx_iconst (v := nI 1) dX11_costOf_205 rfl ?_
    exact rx_iret rfl dX11_costOf_206 ⟨rfl, rfl⟩
  · refine rx_iload_n dX11_costOf_0 rfl ?_
    refine rx_tabIn (tgt := 205) dX11_costOf_1 (by decide) (by decide) rfl (by decide) ?_
    refine rx_iconst (v := nI 1) dX11_costOf_205 rfl ?_
    exact rx_iret rfl dX11_costOf_206 ⟨rfl, rfl⟩
  · refine rx_iload_n dX11_costOf_0 rfl ?_
    refine rx_tabIn (tgt := 188) dX11_costOf_1 (by decide) (by decide) rfl (by decide) ?_
    refine rx_iconst (v := nI 5) dX11_costOf_188 rfl ?_
    exact rx_iret rfl dX11_costOf_189 ⟨rfl, rfl⟩
  · refine rx_iload_n dX11_costOf_0 rfl ?_
    refine rx_tabIn (tgt := 190) dX11_costOf_1 (by decide) (by decide) rfl (by decide) ?_
    refine rx_bipush (v := nI 30) dX11_costOf_190 rfl ?_
    exact rx_iret rfl dX11_costOf_192 ⟨rfl, rfl⟩
  · refine rx_iload_n dX11_costOf_0 rfl ?_
    refine rx_tabIn (tgt := 193) dX11_costOf_1 (by decide) (by decide) rfl (by decide) ?_
    refine rx_bipush (v := nI 25) dX11_costOf_193 rfl ?_
    exact rx_iret rfl dX11_costOf_195 ⟨rfl, rfl⟩
  · refine rx_iload_n dX11_costOf_0 rfl ?_
    refine rx_tabIn (tgt := 196) dX11_costOf_1 (by decide) (by decide) rfl (by decide) ?_
    refine rx_bipush (v := nI 100) dX11_costOf_196 rfl ?_
    exact rx_iret rfl dX11_costOf_198 ⟨rfl, rfl⟩
  · refine rx_iload_n dX11_costOf_0 rfl ?_
    refine rx_tabIn (tgt := 199) dX11_costOf_1 (by decide) (by decide) rfl (by decide) ?_
    refine rx_bipush (v := nI 40) dX11_costOf_199 rfl ?_
    exact rx_iret rfl dX11_costOf_201 ⟨rfl, rfl⟩
  · refine rx_iload_n dX11_costOf_0 rfl ?_
    refine rx_tabIn (tgt := 202) dX11_costOf_1 (by decide) (by decide) rfl (by decide) ?_
    refine rx_bipush (v := nI 15) dX11_costOf_202 rfl ?_
    exact rx_iret rfl dX11_costOf_204 ⟨rfl, rfl⟩
  · refine rx_iload_n dX11_costOf_0 rfl ?_
    refine rx_tabIn (tgt := 176) dX11_costOf_1 (by decide) (by decide) rfl (by decide) ?_
    refine rx_iconst (v := nI 0) dX11_costOf_176 rfl ?_
    exact rx_iret rfl dX11_costOf_177 ⟨rfl, rfl⟩
  · refine rx_iload_n dX11_costOf_0 rfl ?_
    refine rx_tabIn (tgt := 176) dX11_costOf_1 (by decide) (by decide) rfl (by decide) ?_
    refine rx_iconst (v := nI 0) dX11_costOf_176 rfl ?_
    exact rx_iret rfl dX11_costOf_177 ⟨rfl, rfl⟩
  · refine rx_iload_n dX11_costOf_0 rfl ?_
    refine rx_tabIn (tgt := 185) dX11_costOf_1 (by decide) (by decide) rfl (by decide) ?_
    refine rx_bipush (v := nI 20) dX11_costOf_185 rfl ?_
    exact rx_iret rfl dX11_costOf_187 ⟨rfl, rfl⟩
  · refine rx_iload_n dX11_costOf_0 rfl ?_
    refine rx_tabIn (tgt := 180) dX11_costOf_1 (by decide) (by decide) rfl (by decide) ?_
    refine rx_iconst (v := nI 3) dX11_costOf_180 rfl ?_
    exact rx_iret rfl dX11_costOf_181 ⟨rfl, rfl⟩
theorem cm_isAccount {G : rx_E} {d : Nat}  (hG : rx_OK G) {x : Int64} {mu : rx_M} [Decidable (vm_acct x)] : rx_C G MX11_isAccount d [.long x] mu 0 0 (fun v m => v = some (.int (if vm_acct x then nI 1 else nI 0)) ∧ m = mu) := by
  refine rx_meth0 (by decide +kernel) rfl (Nat.le_of_ble_eq_true rfl) ?_
  refine rx_lload_n dX11_isAccount_0 rfl ?_
  refine rx_lconst (v := 0) dX11_isAccount_1 rfl ?_
  refine rx_lc_lt (tgt := 18) dX11_isAccount_2 dX11_isAccount_3 (by decide) (fun h2 => ?_) (fun h2 => ?_)
  · refine rx_iconst (v := nI 0) dX11_isAccount_18 rfl ?_
    exact rx_zret rfl rfl dX11_isAccount_19 ⟨by rw [if_neg (fun h => absurd h.1 (Int64.not_le.mpr h2))], rfl⟩
  · refine rx_lload_n dX11_isAccount_6 rfl ?_
    refine rx_ldc2 hG hw_886 dX11_isAccount_7 ?_
    refine rx_lc_ge (tgt := 18) dX11_isAccount_10 dX11_isAccount_11 (by decide) (fun h10 => ?_) (fun h10 => ?_)
    · refine rx_iconst (v := nI 0) dX11_isAccount_18 rfl ?_
      exact rx_zret rfl rfl dX11_isAccount_19 ⟨by rw [if_neg (fun h => absurd h.2 (Int64.not_lt.mpr h10))], rfl⟩
    · refine rx_iconst (v := nI 1) dX11_isAccount_14 rfl ?_
      refine rx_goto (tgt := 19) dX11_isAccount_15 (by decide) ?_
      exact rx_zret rfl rfl dX11_isAccount_19 ⟨by rw [if_pos ⟨Int64.not_lt.mp h2, Int64.not_le.mp h10⟩], rfl⟩

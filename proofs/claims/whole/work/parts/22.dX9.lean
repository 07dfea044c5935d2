theorem dX9_init_0 : decode cX9_init 0 = .ok (.aload_n 0, 1) := by decide +kernel
theorem dX9_init_1 : decode cX9_init 1 = .ok (.invokespecial 3, 3) := by decide +kernel
theorem dX9_init_4 : decode cX9_init 4 = .ok (.aload_n 0, 1) := by decide +kernel
theorem dX9_init_5 : decode cX9_init 5 = .ok (.sipush 1024, 3) := by decide +kernel
theorem dX9_init_8 : decode cX9_init 8 = .ok (.newarray .long, 2) := by decide +kernel
theorem dX9_init_10 : decode cX9_init 10 = .ok (.putfield 9, 3) := by decide +kernel
theorem dX9_init_13 : decode cX9_init 13 = .ok (.return_, 1) := by decide +kernel
theorem dX9_loadFrom_0 : decode cX9_loadFrom 0 = .ok (.aload_n 1, 1) := by decide +kernel
theorem dX9_loadFrom_1 : decode cX9_loadFrom 1 = .ok (.iconst 0, 1) := by decide +kernel
theorem dX9_loadFrom_2 : decode cX9_loadFrom 2 = .ok (.aload_n 0, 1) := by decide +kernel
theorem dX9_loadFrom_3 : decode cX9_loadFrom 3 = .ok (.getfield 9, 3) := by decide +kernel
theorem dX9_loadFrom_6 : decode cX9_loadFrom 6 = .ok (.iconst 0, 1) := by decide +kernel
theorem dX9_loadFrom_7 : decode cX9_loadFrom 7 = .ok (.sipush 1024, 3) := by decide +kernel
theorem dX9_loadFrom_10 : decode cX9_loadFrom 10 = .ok (.invokestatic 15, 3) := by decide +kernel
theorem dX9_loadFrom_13 : decode cX9_loadFrom 13 = .ok (.return_, 1) := by decide +kernel
theorem dX9_saveTo_0 : decode cX9_saveTo 0 = .ok (.aload_n 0, 1) := by decide +kernel
theorem dX9_saveTo_1 : decode cX9_saveTo 1 = .ok (.getfield 9, 3) := by decide +kernel
theorem dX9_saveTo_4 : decode cX9_saveTo 4 = .ok (.iconst 0, 1) := by decide +kernel
theorem dX9_saveTo_5 : decode cX9_saveTo 5 = .ok (.aload_n 1, 1) := by decide +kernel
theorem dX9_saveTo_6 : decode cX9_saveTo 6 = .ok (.iconst 0, 1) := by decide +kernel
theorem dX9_saveTo_7 : decode cX9_saveTo 7 = .ok (.sipush 1024, 3) := by decide +kernel
theorem dX9_saveTo_10 : decode cX9_saveTo 10 = .ok (.invokestatic 15, 3) := by decide +kernel
theorem dX9_saveTo_13 : decode cX9_saveTo 13 = .ok (.return_, 1) := by decide +kernel
theorem dX9_copyLeaves_0 : decode cX9_copyLeaves 0 = .ok (.aload_n 0, 1) := by decide +kernel
theorem dX9_copyLeaves_1 : decode cX9_copyLeaves 1 = .ok (.getfield 9, 3) := by decide +kernel
theorem dX9_copyLeaves_4 : decode cX9_copyLeaves 4 = .ok (.invokevirtual 21, 3) := by decide +kernel
theorem dX9_copyLeaves_7 : decode cX9_copyLeaves 7 = .ok (.checkcast 22, 3) := by decide +kernel
theorem dX9_copyLeaves_10 : decode cX9_copyLeaves 10 = .ok (.areturn, 1) := by decide +kernel
theorem dX9_balanceOf_0 : decode cX9_balanceOf 0 = .ok (.aload_n 0, 1) := by decide +kernel
theorem dX9_balanceOf_1 : decode cX9_balanceOf 1 = .ok (.getfield 9, 3) := by decide +kernel
theorem dX9_balanceOf_4 : decode cX9_balanceOf 4 = .ok (.bipush 32, 2) := by decide +kernel
theorem dX9_balanceOf_6 : decode cX9_balanceOf 6 = .ok (.iload_n 1, 1) := by decide +kernel
theorem dX9_balanceOf_7 : decode cX9_balanceOf 7 = .ok (.imul, 1) := by decide +kernel
theorem dX9_balanceOf_8 : decode cX9_balanceOf 8 = .ok (.laload, 1) := by decide +kernel
theorem dX9_balanceOf_9 : decode cX9_balanceOf 9 = .ok (.lreturn, 1) := by decide +kernel
theorem dX9_addToBalance_0 : decode cX9_addToBalance 0 = .ok (.aload_n 0, 1) := by decide +kernel
theorem dX9_addToBalance_1 : decode cX9_addToBalance 1 = .ok (.getfield 9, 3) := by decide +kernel
theorem dX9_addToBalance_4 : decode cX9_addToBalance 4 = .ok (.bipush 32, 2) := by decide +kernel
theorem dX9_addToBalance_6 : decode cX9_addToBalance 6 = .ok (.iload_n 1, 1) := by decide +kernel
theorem dX9_addToBalance_7 : decode cX9_addToBalance 7 = .ok (.imul, 1) := by decide +kernel
theorem dX9_addToBalance_8 : decode cX9_addToBalance 8 = .ok (.dup2, 1) := by decide +kernel
theorem dX9_addToBalance_9 : decode cX9_addToBalance 9 = .ok (.laload, 1) := by decide +kernel
theorem dX9_addToBalance_10 : decode cX9_addToBalance 10 = .ok (.lload_n 2, 1) := by decide +kernel
theorem dX9_addToBalance_11 : decode cX9_addToBalance 11 = .ok (.ladd, 1) := by decide +kernel
theorem dX9_addToBalance_12 : decode cX9_addToBalance 12 = .ok (.lastore, 1) := by decide +kernel
theorem dX9_addToBalance_13 : decode cX9_addToBalance 13 = .ok (.return_, 1) := by decide +kernel
theorem dX9_move_0 : decode cX9_move 0 = .ok (.aload_n 0, 1) := by decide +kernel
theorem dX9_move_1 : decode cX9_move 1 = .ok (.iload_n 1, 1) := by decide +kernel
theorem dX9_move_2 : decode cX9_move 2 = .ok (.lload_n 3, 1) := by decide +kernel
theorem dX9_move_3 : decode cX9_move 3 = .ok (.lneg, 1) := by decide +kernel
theorem dX9_move_4 : decode cX9_move 4 = .ok (.invokevirtual 26, 3) := by decide +kernel
theorem dX9_move_7 : decode cX9_move 7 = .ok (.aload_n 0, 1) := by decide +kernel
theorem dX9_move_8 : decode cX9_move 8 = .ok (.iload_n 2, 1) := by decide +kernel
theorem dX9_move_9 : decode cX9_move 9 = .ok (.lload_n 3, 1) := by decide +kernel
theorem dX9_move_10 : decode cX9_move 10 = .ok (.invokevirtual 26, 3) := by decide +kernel
theorem dX9_move_13 : decode cX9_move 13 = .ok (.return_, 1) := by decide +kernel
theorem dX9_nonceOf_0 : decode cX9_nonceOf 0 = .ok (.aload_n 0, 1) := by decide +kernel
theorem dX9_nonceOf_1 : decode cX9_nonceOf 1 = .ok (.getfield 9, 3) := by decide +kernel
theorem dX9_nonceOf_4 : decode cX9_nonceOf 4 = .ok (.bipush 32, 2) := by decide +kernel
theorem dX9_nonceOf_6 : decode cX9_nonceOf 6 = .ok (.iload_n 1, 1) := by decide +kernel
theorem dX9_nonceOf_7 : decode cX9_nonceOf 7 = .ok (.imul, 1) := by decide +kernel
theorem dX9_nonceOf_8 : decode cX9_nonceOf 8 = .ok (.iconst 1, 1) := by decide +kernel
theorem dX9_nonceOf_9 : decode cX9_nonceOf 9 = .ok (.iadd, 1) := by decide +kernel
theorem dX9_nonceOf_10 : decode cX9_nonceOf 10 = .ok (.laload, 1) := by decide +kernel
theorem dX9_nonceOf_11 : decode cX9_nonceOf 11 = .ok (.lreturn, 1) := by decide +kernel
theorem dX9_raiseNonce_0 : decode cX9_raiseNonce 0 = .ok (.aload_n 0, 1) := by decide +kernel
theorem dX9_raiseNonce_1 : decode cX9_raiseNonce 1 = .ok (.getfield 9, 3) := by decide +kernel
theorem dX9_raiseNonce_4 : decode cX9_raiseNonce 4 = .ok (.bipush 32, 2) := by decide +kernel
theorem dX9_raiseNonce_6 : decode cX9_raiseNonce 6 = .ok (.iload_n 1, 1) := by decide +kernel
theorem dX9_raiseNonce_7 : decode cX9_raiseNonce 7 = .ok (.imul, 1) := by decide +kernel
theorem dX9_raiseNonce_8 : decode cX9_raiseNonce 8 = .ok (.iconst 1, 1) := by decide +kernel
theorem dX9_raiseNonce_9 : decode cX9_raiseNonce 9 = .ok (.iadd, 1) := by decide +kernel
theorem dX9_raiseNonce_10 : decode cX9_raiseNonce 10 = .ok (.dup2, 1) := by decide +kernel
theorem dX9_raiseNonce_11 : decode cX9_raiseNonce 11 = .ok (.laload, 1) := by decide +kernel
theorem dX9_raiseNonce_12 : decode cX9_raiseNonce 12 = .ok (.lconst 1, 1) := by decide +kernel
theorem dX9_raiseNonce_13 : decode cX9_raiseNonce 13 = .ok (.ladd, 1) := by decide +kernel
theorem dX9_raiseNonce_14 : decode cX9_raiseNonce 14 = .ok (.lastore, 1) := by decide +kernel
theorem dX9_raiseNonce_15 : decode cX9_raiseNonce 15 = .ok (.return_, 1) := by decide +kernel
theorem dX9_codeOf_0 : decode cX9_codeOf 0 = .ok (.aload_n 0, 1) := by decide +kernel
theorem dX9_codeOf_1 : decode cX9_codeOf 1 = .ok (.getfield 9, 3) := by decide +kernel
theorem dX9_codeOf_4 : decode cX9_codeOf 4 = .ok (.bipush 32, 2) := by decide +kernel
theorem dX9_codeOf_6 : decode cX9_codeOf 6 = .ok (.iload_n 1, 1) := by decide +kernel
theorem dX9_codeOf_7 : decode cX9_codeOf 7 = .ok (.imul, 1) := by decide +kernel
theorem dX9_codeOf_8 : decode cX9_codeOf 8 = .ok (.iconst 2, 1) := by decide +kernel
theorem dX9_codeOf_9 : decode cX9_codeOf 9 = .ok (.iadd, 1) := by decide +kernel
theorem dX9_codeOf_10 : decode cX9_codeOf 10 = .ok (.laload, 1) := by decide +kernel
theorem dX9_codeOf_11 : decode cX9_codeOf 11 = .ok (.lconst 1, 1) := by decide +kernel
theorem dX9_codeOf_12 : decode cX9_codeOf 12 = .ok (.lsub, 1) := by decide +kernel
theorem dX9_codeOf_13 : decode cX9_codeOf 13 = .ok (.lreturn, 1) := by decide +kernel
theorem dX9_setCode_0 : decode cX9_setCode 0 = .ok (.aload_n 0, 1) := by decide +kernel
theorem dX9_setCode_1 : decode cX9_setCode 1 = .ok (.getfield 9, 3) := by decide +kernel
theorem dX9_setCode_4 : decode cX9_setCode 4 = .ok (.bipush 32, 2) := by decide +kernel
theorem dX9_setCode_6 : decode cX9_setCode 6 = .ok (.iload_n 1, 1) := by decide +kernel
theorem dX9_setCode_7 : decode cX9_setCode 7 = .ok (.imul, 1) := by decide +kernel
theorem dX9_setCode_8 : decode cX9_setCode 8 = .ok (.iconst 2, 1) := by decide +kernel
theorem dX9_setCode_9 : decode cX9_setCode 9 = .ok (.iadd, 1) := by decide +kernel
theorem dX9_setCode_10 : decode cX9_setCode 10 = .ok (.lload_n 2, 1) := by decide +kernel
theorem dX9_setCode_11 : decode cX9_setCode 11 = .ok (.lconst 1, 1) := by decide +kernel
theorem dX9_setCode_12 : decode cX9_setCode 12 = .ok (.ladd, 1) := by decide +kernel
theorem dX9_setCode_13 : decode cX9_setCode 13 = .ok (.lastore, 1) := by decide +kernel
theorem dX9_setCode_14 : decode cX9_setCode 14 = .ok (.return_, 1) := by decide +kernel
theorem dX9_cellOf_0 : decode cX9_cellOf 0 = .ok (.aload_n 0, 1) := by decide +kernel
theorem dX9_cellOf_1 : decode cX9_cellOf 1 = .ok (.getfield 9, 3) := by decide +kernel
theorem dX9_cellOf_4 : decode cX9_cellOf 4 = .ok (.bipush 32, 2) := by decide +kernel
theorem dX9_cellOf_6 : decode cX9_cellOf 6 = .ok (.iload_n 1, 1) := by decide +kernel
theorem dX9_cellOf_7 : decode cX9_cellOf 7 = .ok (.imul, 1) := by decide +kernel
theorem dX9_cellOf_8 : decode cX9_cellOf 8 = .ok (.bipush 16, 2) := by decide +kernel
theorem dX9_cellOf_10 : decode cX9_cellOf 10 = .ok (.iadd, 1) := by decide +kernel
theorem dX9_cellOf_11 : decode cX9_cellOf 11 = .ok (.iload_n 2, 1) := by decide +kernel
theorem dX9_cellOf_12 : decode cX9_cellOf 12 = .ok (.iadd, 1) := by decide +kernel
theorem dX9_cellOf_13 : decode cX9_cellOf 13 = .ok (.laload, 1) := by decide +kernel
theorem dX9_cellOf_14 : decode cX9_cellOf 14 = .ok (.lreturn, 1) := by decide +kernel
theorem dX9_setCell_0 : decode cX9_setCell 0 = .ok (.aload_n 0, 1) := by decide +kernel
theorem dX9_setCell_1 : decode cX9_setCell 1 = .ok (.getfield 9, 3) := by decide +kernel
theorem dX9_setCell_4 : decode cX9_setCell 4 = .ok (.bipush 32, 2) := by decide +kernel
theorem dX9_setCell_6 : decode cX9_setCell 6 = .ok (.iload_n 1, 1) := by decide +kernel
theorem dX9_setCell_7 : decode cX9_setCell 7 = .ok (.imul, 1) := by decide +kernel
theorem dX9_setCell_8 : decode cX9_setCell 8 = .ok (.bipush 16, 2) := by decide +kernel
theorem dX9_setCell_10 : decode cX9_setCell 10 = .ok (.iadd, 1) := by decide +kernel
theorem dX9_setCell_11 : decode cX9_setCell 11 = .ok (.iload_n 2, 1) := by decide +kernel
theorem dX9_setCell_12 : decode cX9_setCell 12 = .ok (.iadd, 1) := by decide +kernel
theorem dX9_setCell_13 : decode cX9_setCell 13 = .ok (.lload_n 3, 1) := by decide +kernel
theorem dX9_setCell_14 : decode cX9_setCell 14 = .ok (.lastore, 1) := by decide +kernel
theorem dX9_setCell_15 : decode cX9_setCell 15 = .ok (.return_, 1) := by decide +kernel
theorem dX9_clearCells_0 : decode cX9_clearCells 0 = .ok (.iconst 0, 1) := by decide +kernel
theorem dX9_clearCells_1 : decode cX9_clearCells 1 = .ok (.istore_n 2, 1) := by decide +kernel
theorem dX9_clearCells_2 : decode cX9_clearCells 2 = .ok (.iload_n 2, 1) := by decide +kernel
theorem dX9_clearCells_3 : decode cX9_clearCells 3 = .ok (.bipush 16, 2) := by decide +kernel
theorem dX9_clearCells_5 : decode cX9_clearCells 5 = .ok (.if_icmp .ge 16, 3) := by decide +kernel
theorem dX9_clearCells_8 : decode cX9_clearCells 8 = .ok (.aload_n 0, 1) := by decide +kernel
theorem dX9_clearCells_9 : decode cX9_clearCells 9 = .ok (.iload_n 1, 1) := by decide +kernel
theorem dX9_clearCells_10 : decode cX9_clearCells 10 = .ok (.iload_n 2, 1) := by decide +kernel
theorem dX9_clearCells_11 : decode cX9_clearCells 11 = .ok (.lconst 0, 1) := by decide +kernel
theorem dX9_clearCells_12 : decode cX9_clearCells 12 = .ok (.invokevirtual 30, 3) := by decide +kernel
theorem dX9_clearCells_15 : decode cX9_clearCells 15 = .ok (.iinc 2 1, 3) := by decide +kernel
theorem dX9_clearCells_18 : decode cX9_clearCells 18 = .ok (.goto (-16), 3) := by decide +kernel
theorem dX9_clearCells_21 : decode cX9_clearCells 21 = .ok (.return_, 1) := by decide +kernel
theorem dX9_isEmpty_0 : decode cX9_isEmpty 0 = .ok (.iconst 0, 1) := by decide +kernel
theorem dX9_isEmpty_1 : decode cX9_isEmpty 1 = .ok (.istore_n 2, 1) := by decide +kernel
theorem dX9_isEmpty_2 : decode cX9_isEmpty 2 = .ok (.iload_n 2, 1) := by decide +kernel
theorem dX9_isEmpty_3 : decode cX9_isEmpty 3 = .ok (.bipush 32, 2) := by decide +kernel
theorem dX9_isEmpty_5 : decode cX9_isEmpty 5 = .ok (.if_icmp .ge 27, 3) := by decide +kernel
theorem dX9_isEmpty_8 : decode cX9_isEmpty 8 = .ok (.aload_n 0, 1) := by decide +kernel
theorem dX9_isEmpty_9 : decode cX9_isEmpty 9 = .ok (.getfield 9, 3) := by decide +kernel
theorem dX9_isEmpty_12 : decode cX9_isEmpty 12 = .ok (.bipush 32, 2) := by decide +kernel
theorem dX9_isEmpty_14 : decode cX9_isEmpty 14 = .ok (.iload_n 1, 1) := by decide +kernel
theorem dX9_isEmpty_15 : decode cX9_isEmpty 15 = .ok (.imul, 1) := by decide +kernel
theorem dX9_isEmpty_16 : decode cX9_isEmpty 16 = .ok (.iload_n 2, 1) := by decide +kernel
theorem dX9_isEmpty_17 : decode cX9_isEmpty 17 = .ok (.iadd, 1) := by decide +kernel
theorem dX9_isEmpty_18 : decode cX9_isEmpty 18 = .ok (.laload, 1) := by decide +kernel
theorem dX9_isEmpty_19 : decode cX9_isEmpty 19 = .ok (.lconst 0, 1) := by decide +kernel
theorem dX9_isEmpty_20 : decode cX9_isEmpty 20 = .ok (.lcmp, 1) := by decide +kernel
theorem dX9_isEmpty_21 : decode cX9_isEmpty 21 = .ok (.ifCond .eq 5, 3) := by decide +kernel
theorem dX9_isEmpty_24 : decode cX9_isEmpty 24 = .ok (.iconst 0, 1) := by decide +kernel
theorem dX9_isEmpty_25 : decode cX9_isEmpty 25 = .ok (.ireturn, 1) := by decide +kernel
theorem dX9_isEmpty_26 : decode cX9_isEmpty 26 = .ok (.iinc 2 1, 3) := by decide +kernel
theorem dX9_isEmpty_29 : decode cX9_isEmpty 29 = .ok (.goto (-27), 3) := by decide +kernel
theorem dX9_isEmpty_32 : decode cX9_isEmpty 32 = .ok (.iconst 1, 1) := by decide +kernel
theorem dX9_isEmpty_33 : decode cX9_isEmpty 33 = .ok (.ireturn, 1) := by decide +kernel

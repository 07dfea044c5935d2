section
-- ===== PART A: goes FIRST, ahead of the names: the tables' words, and 'selects' of the private methods out of them =====
/-- a private method of a class that the tables say can be made, by its rows of tables_1 -/
def lw_okq (q : MethodName × Nat) : Prop := (q.1.cls ≠ "java/lang/invoke/MethodHandle" ∧ q.1.cls ≠ "java/lang/invoke/VarHandle") ∧ Cond.instantiable q.1.cls q.2 ∈ tables_1 ∧ Cond.privateMethod q.1 ∈ tables_1 ∧ Cond.instanceMethod q.1 ∈ tables_1
theorem lw_p0 : lw_okq (⟨"java/lang/Throwable", "fillInStackTrace", "(I)Ljava/lang/Throwable;"⟩, 6) := ⟨⟨by decide +kernel, by decide +kernel⟩, List.mem_of_getElem? (i := 371) (by decide +kernel), List.mem_of_getElem? (i := 369) (by decide +kernel), List.mem_of_getElem? (i := 370) (by decide +kernel)⟩
theorem lw_p1 : lw_okq (⟨"LedgerMachine$Draft", "firstActThatIsNone", "()I"⟩, 3) := ⟨⟨by decide +kernel, by decide +kernel⟩, List.mem_of_getElem? (i := 31) (by decide +kernel), List.mem_of_getElem? (i := 436) (by decide +kernel), List.mem_of_getElem? (i := 437) (by decide +kernel)⟩
theorem lw_p2 : lw_okq (⟨"LedgerMachine$Draft", "actSize", "(I)I"⟩, 3) := ⟨⟨by decide +kernel, by decide +kernel⟩, List.mem_of_getElem? (i := 31) (by decide +kernel), List.mem_of_getElem? (i := 440) (by decide +kernel), List.mem_of_getElem? (i := 441) (by decide +kernel)⟩
theorem lw_p3 : lw_okq (⟨"LedgerMachine$Draft", "firstLostJump", "()I"⟩, 3) := ⟨⟨by decide +kernel, by decide +kernel⟩, List.mem_of_getElem? (i := 31) (by decide +kernel), List.mem_of_getElem? (i := 447) (by decide +kernel), List.mem_of_getElem? (i := 448) (by decide +kernel)⟩
theorem lw_p4 : lw_okq (⟨"LedgerMachine$Draft", "isBegun", "(I)Z"⟩, 3) := ⟨⟨by decide +kernel, by decide +kernel⟩, List.mem_of_getElem? (i := 31) (by decide +kernel), List.mem_of_getElem? (i := 451) (by decide +kernel), List.mem_of_getElem? (i := 452) (by decide +kernel)⟩
theorem lw_p5 : lw_okq (⟨"LedgerMachine", "isBlock", "(I)Z"⟩, 12) := ⟨⟨by decide +kernel, by decide +kernel⟩, List.mem_of_getElem? (i := 23) (by decide +kernel), List.mem_of_getElem? (i := 588) (by decide +kernel), List.mem_of_getElem? (i := 589) (by decide +kernel)⟩
theorem lw_p6 : lw_okq (⟨"LedgerMachine", "doOrder", "(III[J)I"⟩, 12) := ⟨⟨by decide +kernel, by decide +kernel⟩, List.mem_of_getElem? (i := 23) (by decide +kernel), List.mem_of_getElem? (i := 607) (by decide +kernel), List.mem_of_getElem? (i := 608) (by decide +kernel)⟩
theorem lw_p7 : lw_okq (⟨"LedgerMachine", "isVoid", "(LLedgerMachine$Order;I)Z"⟩, 12) := ⟨⟨by decide +kernel, by decide +kernel⟩, List.mem_of_getElem? (i := 23) (by decide +kernel), List.mem_of_getElem? (i := 611) (by decide +kernel), List.mem_of_getElem? (i := 612) (by decide +kernel)⟩
theorem lw_p8 : lw_okq (⟨"LedgerMachine$Machine", "begin", "()V"⟩, 13) := ⟨⟨by decide +kernel, by decide +kernel⟩, List.mem_of_getElem? (i := 49) (by decide +kernel), List.mem_of_getElem? (i := 647) (by decide +kernel), List.mem_of_getElem? (i := 648) (by decide +kernel)⟩
theorem lw_p9 : lw_okq (⟨"LedgerMachine$Machine", "fails", "()Z"⟩, 13) := ⟨⟨by decide +kernel, by decide +kernel⟩, List.mem_of_getElem? (i := 49) (by decide +kernel), List.mem_of_getElem? (i := 651) (by decide +kernel), List.mem_of_getElem? (i := 652) (by decide +kernel)⟩
theorem lw_p10 : lw_okq (⟨"LedgerMachine$Machine", "hasLock", "(I)Z"⟩, 13) := ⟨⟨by decide +kernel, by decide +kernel⟩, List.mem_of_getElem? (i := 49) (by decide +kernel), List.mem_of_getElem? (i := 657) (by decide +kernel), List.mem_of_getElem? (i := 658) (by decide +kernel)⟩
theorem lw_p11 : lw_okq (⟨"LedgerMachine$Machine", "end", "(IJI)V"⟩, 13) := ⟨⟨by decide +kernel, by decide +kernel⟩, List.mem_of_getElem? (i := 49) (by decide +kernel), List.mem_of_getElem? (i := 661) (by decide +kernel), List.mem_of_getElem? (i := 662) (by decide +kernel)⟩
theorem lw_p12 : lw_okq (⟨"LedgerMachine$Machine", "remember", "(LLedgerMachine$Frame;)V"⟩, 13) := ⟨⟨by decide +kernel, by decide +kernel⟩, List.mem_of_getElem? (i := 49) (by decide +kernel), List.mem_of_getElem? (i := 683) (by decide +kernel), List.mem_of_getElem? (i := 684) (by decide +kernel)⟩
theorem lw_p13 : lw_okq (⟨"LedgerMachine$Frame", "operand", "()I"⟩, 15) := ⟨⟨by decide +kernel, by decide +kernel⟩, List.mem_of_getElem? (i := 135) (by decide +kernel), List.mem_of_getElem? (i := 711) (by decide +kernel), List.mem_of_getElem? (i := 712) (by decide +kernel)⟩
theorem lw_p14 : lw_okq (⟨"LedgerMachine$Machine", "perform", "(LLedgerMachine$Frame;I)I"⟩, 13) := ⟨⟨by decide +kernel, by decide +kernel⟩, List.mem_of_getElem? (i := 49) (by decide +kernel), List.mem_of_getElem? (i := 723) (by decide +kernel), List.mem_of_getElem? (i := 724) (by decide +kernel)⟩
theorem lw_p15 : lw_okq (⟨"LedgerMachine$Machine", "endWith", "(IJ)I"⟩, 13) := ⟨⟨by decide +kernel, by decide +kernel⟩, List.mem_of_getElem? (i := 49) (by decide +kernel), List.mem_of_getElem? (i := 727) (by decide +kernel), List.mem_of_getElem? (i := 728) (by decide +kernel)⟩
def lw_privs_1 : List (MethodName × Nat) := [(⟨"java/lang/Throwable", "fillInStackTrace", "(I)Ljava/lang/Throwable;"⟩, 6), (⟨"LedgerMachine$Draft", "firstActThatIsNone", "()I"⟩, 3), (⟨"LedgerMachine$Draft", "actSize", "(I)I"⟩, 3), (⟨"LedgerMachine$Draft", "firstLostJump", "()I"⟩, 3), (⟨"LedgerMachine$Draft", "isBegun", "(I)Z"⟩, 3), (⟨"LedgerMachine", "isBlock", "(I)Z"⟩, 12), (⟨"LedgerMachine", "doOrder", "(III[J)I"⟩, 12), (⟨"LedgerMachine", "isVoid", "(LLedgerMachine$Order;I)Z"⟩, 12), (⟨"LedgerMachine$Machine", "begin", "()V"⟩, 13), (⟨"LedgerMachine$Machine", "fails", "()Z"⟩, 13), (⟨"LedgerMachine$Machine", "hasLock", "(I)Z"⟩, 13), (⟨"LedgerMachine$Machine", "end", "(IJI)V"⟩, 13), (⟨"LedgerMachine$Machine", "remember", "(LLedgerMachine$Frame;)V"⟩, 13), (⟨"LedgerMachine$Frame", "operand", "()I"⟩, 15), (⟨"LedgerMachine$Machine", "perform", "(LLedgerMachine$Frame;I)I"⟩, 13), (⟨"LedgerMachine$Machine", "endWith", "(IJ)I"⟩, 13)]
theorem lw_r1 : ∀ q ∈ lw_privs_1, lw_okq q := List.forall_mem_cons.mpr ⟨lw_p0, List.forall_mem_cons.mpr ⟨lw_p1, List.forall_mem_cons.mpr ⟨lw_p2, List.forall_mem_cons.mpr ⟨lw_p3, List.forall_mem_cons.mpr ⟨lw_p4, List.forall_mem_cons.mpr ⟨lw_p5, List.forall_mem_cons.mpr ⟨lw_p6, List.forall_mem_cons.mpr ⟨lw_p7, List.forall_mem_cons.mpr ⟨lw_p8, List.forall_mem_cons.mpr ⟨lw_p9, List.forall_mem_cons.mpr ⟨lw_p10, List.forall_mem_cons.mpr ⟨lw_p11, List.forall_mem_cons.mpr ⟨lw_p12, List.forall_mem_cons.mpr ⟨lw_p13, List.forall_mem_cons.mpr ⟨lw_p14, List.forall_mem_cons.mpr ⟨lw_p15, fun _ h => absurd h List.not_mem_nil⟩⟩⟩⟩⟩⟩⟩⟩⟩⟩⟩⟩⟩⟩⟩⟩
theorem lw_p16 : lw_okq (⟨"LedgerMachine$Frame", "swap", "(II)V"⟩, 15) := ⟨⟨by decide +kernel, by decide +kernel⟩, List.mem_of_getElem? (i := 135) (by decide +kernel), List.mem_of_getElem? (i := 745) (by decide +kernel), List.mem_of_getElem? (i := 746) (by decide +kernel)⟩
theorem lw_p17 : lw_okq (⟨"LedgerMachine$Machine", "loadCell", "(LLedgerMachine$Frame;)I"⟩, 13) := ⟨⟨by decide +kernel, by decide +kernel⟩, List.mem_of_getElem? (i := 49) (by decide +kernel), List.mem_of_getElem? (i := 754) (by decide +kernel), List.mem_of_getElem? (i := 755) (by decide +kernel)⟩
theorem lw_p18 : lw_okq (⟨"LedgerMachine$Machine", "storeCell", "(LLedgerMachine$Frame;JJ)I"⟩, 13) := ⟨⟨by decide +kernel, by decide +kernel⟩, List.mem_of_getElem? (i := 49) (by decide +kernel), List.mem_of_getElem? (i := 763) (by decide +kernel), List.mem_of_getElem? (i := 764) (by decide +kernel)⟩
theorem lw_p19 : lw_okq (⟨"LedgerMachine$Machine", "prepareCall", "(LLedgerMachine$Frame;)I"⟩, 13) := ⟨⟨by decide +kernel, by decide +kernel⟩, List.mem_of_getElem? (i := 49) (by decide +kernel), List.mem_of_getElem? (i := 771) (by decide +kernel), List.mem_of_getElem? (i := 772) (by decide +kernel)⟩
theorem lw_p20 : lw_okq (⟨"LedgerMachine$Machine", "prepareLook", "(LLedgerMachine$Frame;)I"⟩, 13) := ⟨⟨by decide +kernel, by decide +kernel⟩, List.mem_of_getElem? (i := 49) (by decide +kernel), List.mem_of_getElem? (i := 785) (by decide +kernel), List.mem_of_getElem? (i := 786) (by decide +kernel)⟩
theorem lw_p21 : lw_okq (⟨"LedgerMachine$Machine", "make", "(LLedgerMachine$Frame;JJ)I"⟩, 13) := ⟨⟨by decide +kernel, by decide +kernel⟩, List.mem_of_getElem? (i := 49) (by decide +kernel), List.mem_of_getElem? (i := 789) (by decide +kernel), List.mem_of_getElem? (i := 790) (by decide +kernel)⟩
theorem lw_p22 : lw_okq (⟨"LedgerMachine$Machine", "leastFreeAccount", "()I"⟩, 13) := ⟨⟨by decide +kernel, by decide +kernel⟩, List.mem_of_getElem? (i := 49) (by decide +kernel), List.mem_of_getElem? (i := 793) (by decide +kernel), List.mem_of_getElem? (i := 794) (by decide +kernel)⟩
theorem lw_p23 : lw_okq (⟨"LedgerMachine$Machine", "hasFrame", "(I)Z"⟩, 13) := ⟨⟨by decide +kernel, by decide +kernel⟩, List.mem_of_getElem? (i := 49) (by decide +kernel), List.mem_of_getElem? (i := 797) (by decide +kernel), List.mem_of_getElem? (i := 798) (by decide +kernel)⟩
theorem lw_p24 : lw_okq (⟨"LedgerMachine$Machine", "become", "(LLedgerMachine$Frame;J)I"⟩, 13) := ⟨⟨by decide +kernel, by decide +kernel⟩, List.mem_of_getElem? (i := 49) (by decide +kernel), List.mem_of_getElem? (i := 809) (by decide +kernel), List.mem_of_getElem? (i := 810) (by decide +kernel)⟩
theorem lw_p25 : lw_okq (⟨"LedgerMachine$Machine", "emit", "(LLedgerMachine$Frame;JJ)I"⟩, 13) := ⟨⟨by decide +kernel, by decide +kernel⟩, List.mem_of_getElem? (i := 49) (by decide +kernel), List.mem_of_getElem? (i := 813) (by decide +kernel), List.mem_of_getElem? (i := 814) (by decide +kernel)⟩
theorem lw_p26 : lw_okq (⟨"LedgerMachine$Machine", "close", "(LLedgerMachine$Frame;J)I"⟩, 13) := ⟨⟨by decide +kernel, by decide +kernel⟩, List.mem_of_getElem? (i := 49) (by decide +kernel), List.mem_of_getElem? (i := 821) (by decide +kernel), List.mem_of_getElem? (i := 822) (by decide +kernel)⟩
theorem lw_p27 : lw_okq (⟨"LedgerMachine$Machine", "tell", "(LLedgerMachine$Frame;I)I"⟩, 13) := ⟨⟨by decide +kernel, by decide +kernel⟩, List.mem_of_getElem? (i := 49) (by decide +kernel), List.mem_of_getElem? (i := 838) (by decide +kernel), List.mem_of_getElem? (i := 839) (by decide +kernel)⟩
theorem lw_p28 : lw_okq (⟨"LedgerMachine$Machine", "known", "(LLedgerMachine$Frame;I)J"⟩, 13) := ⟨⟨by decide +kernel, by decide +kernel⟩, List.mem_of_getElem? (i := 49) (by decide +kernel), List.mem_of_getElem? (i := 842) (by decide +kernel), List.mem_of_getElem? (i := 843) (by decide +kernel)⟩
theorem lw_p29 : lw_okq (⟨"LedgerMachine$Machine", "finish", "(LLedgerMachine$Frame;I)V"⟩, 13) := ⟨⟨by decide +kernel, by decide +kernel⟩, List.mem_of_getElem? (i := 49) (by decide +kernel), List.mem_of_getElem? (i := 846) (by decide +kernel), List.mem_of_getElem? (i := 847) (by decide +kernel)⟩
theorem lw_p30 : lw_okq (⟨"LedgerMachine$Machine", "undo", "(LLedgerMachine$Frame;)V"⟩, 13) := ⟨⟨by decide +kernel, by decide +kernel⟩, List.mem_of_getElem? (i := 49) (by decide +kernel), List.mem_of_getElem? (i := 850) (by decide +kernel), List.mem_of_getElem? (i := 851) (by decide +kernel)⟩
theorem lw_p31 : lw_okq (⟨"LedgerMachine", "isCertain", "(I)Z"⟩, 12) := ⟨⟨by decide +kernel, by decide +kernel⟩, List.mem_of_getElem? (i := 23) (by decide +kernel), List.mem_of_getElem? (i := 886) (by decide +kernel), List.mem_of_getElem? (i := 887) (by decide +kernel)⟩
def lw_privs_2 : List (MethodName × Nat) := [(⟨"LedgerMachine$Frame", "swap", "(II)V"⟩, 15), (⟨"LedgerMachine$Machine", "loadCell", "(LLedgerMachine$Frame;)I"⟩, 13), (⟨"LedgerMachine$Machine", "storeCell", "(LLedgerMachine$Frame;JJ)I"⟩, 13), (⟨"LedgerMachine$Machine", "prepareCall", "(LLedgerMachine$Frame;)I"⟩, 13), (⟨"LedgerMachine$Machine", "prepareLook", "(LLedgerMachine$Frame;)I"⟩, 13), (⟨"LedgerMachine$Machine", "make", "(LLedgerMachine$Frame;JJ)I"⟩, 13), (⟨"LedgerMachine$Machine", "leastFreeAccount", "()I"⟩, 13), (⟨"LedgerMachine$Machine", "hasFrame", "(I)Z"⟩, 13), (⟨"LedgerMachine$Machine", "become", "(LLedgerMachine$Frame;J)I"⟩, 13), (⟨"LedgerMachine$Machine", "emit", "(LLedgerMachine$Frame;JJ)I"⟩, 13), (⟨"LedgerMachine$Machine", "close", "(LLedgerMachine$Frame;J)I"⟩, 13), (⟨"LedgerMachine$Machine", "tell", "(LLedgerMachine$Frame;I)I"⟩, 13), (⟨"LedgerMachine$Machine", "known", "(LLedgerMachine$Frame;I)J"⟩, 13), (⟨"LedgerMachine$Machine", "finish", "(LLedgerMachine$Frame;I)V"⟩, 13), (⟨"LedgerMachine$Machine", "undo", "(LLedgerMachine$Frame;)V"⟩, 13), (⟨"LedgerMachine", "isCertain", "(I)Z"⟩, 12)]
theorem lw_r2 : ∀ q ∈ lw_privs_2, lw_okq q := List.forall_mem_cons.mpr ⟨lw_p16, List.forall_mem_cons.mpr ⟨lw_p17, List.forall_mem_cons.mpr ⟨lw_p18, List.forall_mem_cons.mpr ⟨lw_p19, List.forall_mem_cons.mpr ⟨lw_p20, List.forall_mem_cons.mpr ⟨lw_p21, List.forall_mem_cons.mpr ⟨lw_p22, List.forall_mem_cons.mpr ⟨lw_p23, List.forall_mem_cons.mpr ⟨lw_p24, List.forall_mem_cons.mpr ⟨lw_p25, List.forall_mem_cons.mpr ⟨lw_p26, List.forall_mem_cons.mpr ⟨lw_p27, List.forall_mem_cons.mpr ⟨lw_p28, List.forall_mem_cons.mpr ⟨lw_p29, List.forall_mem_cons.mpr ⟨lw_p30, List.forall_mem_cons.mpr ⟨lw_p31, fun _ h => absurd h List.not_mem_nil⟩⟩⟩⟩⟩⟩⟩⟩⟩⟩⟩⟩⟩⟩⟩⟩
theorem lw_p32 : lw_okq (⟨"LedgerMachineModel", "judged", "()I"⟩, 65) := ⟨⟨by decide +kernel, by decide +kernel⟩, List.mem_of_getElem? (i := 987) (by decide +kernel), List.mem_of_getElem? (i := 1202) (by decide +kernel), List.mem_of_getElem? (i := 1203) (by decide +kernel)⟩
theorem lw_p33 : lw_okq (⟨"LedgerMachineModel", "doOrder", "(IIII)I"⟩, 65) := ⟨⟨by decide +kernel, by decide +kernel⟩, List.mem_of_getElem? (i := 987) (by decide +kernel), List.mem_of_getElem? (i := 1232) (by decide +kernel), List.mem_of_getElem? (i := 1233) (by decide +kernel)⟩
theorem lw_p34 : lw_okq (⟨"LedgerMachineModel", "wholeCall", "(IIJJJZ)V"⟩, 65) := ⟨⟨by decide +kernel, by decide +kernel⟩, List.mem_of_getElem? (i := 987) (by decide +kernel), List.mem_of_getElem? (i := 1236) (by decide +kernel), List.mem_of_getElem? (i := 1237) (by decide +kernel)⟩
theorem lw_p35 : lw_okq (⟨"LedgerMachineModel", "begin", "(IJJJJZ)Z"⟩, 65) := ⟨⟨by decide +kernel, by decide +kernel⟩, List.mem_of_getElem? (i := 987) (by decide +kernel), List.mem_of_getElem? (i := 1240) (by decide +kernel), List.mem_of_getElem? (i := 1241) (by decide +kernel)⟩
theorem lw_p36 : lw_okq (⟨"LedgerMachineModel", "isLocked", "(J)Z"⟩, 65) := ⟨⟨by decide +kernel, by decide +kernel⟩, List.mem_of_getElem? (i := 987) (by decide +kernel), List.mem_of_getElem? (i := 1244) (by decide +kernel), List.mem_of_getElem? (i := 1245) (by decide +kernel)⟩
theorem lw_p37 : lw_okq (⟨"LedgerMachineModel", "end", "(IJJ)V"⟩, 65) := ⟨⟨by decide +kernel, by decide +kernel⟩, List.mem_of_getElem? (i := 987) (by decide +kernel), List.mem_of_getElem? (i := 1248) (by decide +kernel), List.mem_of_getElem? (i := 1249) (by decide +kernel)⟩
theorem lw_p38 : lw_okq (⟨"LedgerMachineModel", "run", "(I)V"⟩, 65) := ⟨⟨by decide +kernel, by decide +kernel⟩, List.mem_of_getElem? (i := 987) (by decide +kernel), List.mem_of_getElem? (i := 1252) (by decide +kernel), List.mem_of_getElem? (i := 1253) (by decide +kernel)⟩
theorem lw_p39 : lw_okq (⟨"LedgerMachineModel", "act", "()V"⟩, 65) := ⟨⟨by decide +kernel, by decide +kernel⟩, List.mem_of_getElem? (i := 987) (by decide +kernel), List.mem_of_getElem? (i := 1256) (by decide +kernel), List.mem_of_getElem? (i := 1257) (by decide +kernel)⟩
theorem lw_p40 : lw_okq (⟨"LedgerMachineModel", "finish", "(IJ)V"⟩, 65) := ⟨⟨by decide +kernel, by decide +kernel⟩, List.mem_of_getElem? (i := 987) (by decide +kernel), List.mem_of_getElem? (i := 1260) (by decide +kernel), List.mem_of_getElem? (i := 1261) (by decide +kernel)⟩
theorem lw_p41 : lw_okq (⟨"LedgerMachineModel", "simple", "(III)V"⟩, 65) := ⟨⟨by decide +kernel, by decide +kernel⟩, List.mem_of_getElem? (i := 987) (by decide +kernel), List.mem_of_getElem? (i := 1273) (by decide +kernel), List.mem_of_getElem? (i := 1274) (by decide +kernel)⟩
theorem lw_p42 : lw_okq (⟨"LedgerMachineModel", "push", "(J)V"⟩, 65) := ⟨⟨by decide +kernel, by decide +kernel⟩, List.mem_of_getElem? (i := 987) (by decide +kernel), List.mem_of_getElem? (i := 1277) (by decide +kernel), List.mem_of_getElem? (i := 1278) (by decide +kernel)⟩
theorem lw_p43 : lw_okq (⟨"LedgerMachineModel", "pop", "()J"⟩, 65) := ⟨⟨by decide +kernel, by decide +kernel⟩, List.mem_of_getElem? (i := 987) (by decide +kernel), List.mem_of_getElem? (i := 1281) (by decide +kernel), List.mem_of_getElem? (i := 1282) (by decide +kernel)⟩
theorem lw_p44 : lw_okq (⟨"LedgerMachineModel", "reckon", "(I)V"⟩, 65) := ⟨⟨by decide +kernel, by decide +kernel⟩, List.mem_of_getElem? (i := 987) (by decide +kernel), List.mem_of_getElem? (i := 1285) (by decide +kernel), List.mem_of_getElem? (i := 1286) (by decide +kernel)⟩
theorem lw_p45 : lw_okq (⟨"LedgerMachineModel", "jumpOrCell", "(II)V"⟩, 65) := ⟨⟨by decide +kernel, by decide +kernel⟩, List.mem_of_getElem? (i := 987) (by decide +kernel), List.mem_of_getElem? (i := 1290) (by decide +kernel), List.mem_of_getElem? (i := 1291) (by decide +kernel)⟩
theorem lw_p46 : lw_okq (⟨"LedgerMachineModel", "tellOf", "(I)V"⟩, 65) := ⟨⟨by decide +kernel, by decide +kernel⟩, List.mem_of_getElem? (i := 987) (by decide +kernel), List.mem_of_getElem? (i := 1296) (by decide +kernel), List.mem_of_getElem? (i := 1297) (by decide +kernel)⟩
theorem lw_p47 : lw_okq (⟨"LedgerMachineModel", "greater", "(I)V"⟩, 65) := ⟨⟨by decide +kernel, by decide +kernel⟩, List.mem_of_getElem? (i := 987) (by decide +kernel), List.mem_of_getElem? (i := 1300) (by decide +kernel), List.mem_of_getElem? (i := 1301) (by decide +kernel)⟩
def lw_privs_3 : List (MethodName × Nat) := [(⟨"LedgerMachineModel", "judged", "()I"⟩, 65), (⟨"LedgerMachineModel", "doOrder", "(IIII)I"⟩, 65), (⟨"LedgerMachineModel", "wholeCall", "(IIJJJZ)V"⟩, 65), (⟨"LedgerMachineModel", "begin", "(IJJJJZ)Z"⟩, 65), (⟨"LedgerMachineModel", "isLocked", "(J)Z"⟩, 65), (⟨"LedgerMachineModel", "end", "(IJJ)V"⟩, 65), (⟨"LedgerMachineModel", "run", "(I)V"⟩, 65), (⟨"LedgerMachineModel", "act", "()V"⟩, 65), (⟨"LedgerMachineModel", "finish", "(IJ)V"⟩, 65), (⟨"LedgerMachineModel", "simple", "(III)V"⟩, 65), (⟨"LedgerMachineModel", "push", "(J)V"⟩, 65), (⟨"LedgerMachineModel", "pop", "()J"⟩, 65), (⟨"LedgerMachineModel", "reckon", "(I)V"⟩, 65), (⟨"LedgerMachineModel", "jumpOrCell", "(II)V"⟩, 65), (⟨"LedgerMachineModel", "tellOf", "(I)V"⟩, 65), (⟨"LedgerMachineModel", "greater", "(I)V"⟩, 65)]
theorem lw_r3 : ∀ q ∈ lw_privs_3, lw_okq q := List.forall_mem_cons.mpr ⟨lw_p32, List.forall_mem_cons.mpr ⟨lw_p33, List.forall_mem_cons.mpr ⟨lw_p34, List.forall_mem_cons.mpr ⟨lw_p35, List.forall_mem_cons.mpr ⟨lw_p36, List.forall_mem_cons.mpr ⟨lw_p37, List.forall_mem_cons.mpr ⟨lw_p38, List.forall_mem_cons.mpr ⟨lw_p39, List.forall_mem_cons.mpr ⟨lw_p40, List.forall_mem_cons.mpr ⟨lw_p41, List.forall_mem_cons.mpr ⟨lw_p42, List.forall_mem_cons.mpr ⟨lw_p43, List.forall_mem_cons.mpr ⟨lw_p44, List.forall_mem_cons.mpr ⟨lw_p45, List.forall_mem_cons.mpr ⟨lw_p46, List.forall_mem_cons.mpr ⟨lw_p47, fun _ h => absurd h List.not_mem_nil⟩⟩⟩⟩⟩⟩⟩⟩⟩⟩⟩⟩⟩⟩⟩⟩
theorem lw_p48 : lw_okq (⟨"LedgerMachineModel", "calls", "(Z)V"⟩, 65) := ⟨⟨by decide +kernel, by decide +kernel⟩, List.mem_of_getElem? (i := 987) (by decide +kernel), List.mem_of_getElem? (i := 1304) (by decide +kernel), List.mem_of_getElem? (i := 1305) (by decide +kernel)⟩
theorem lw_p49 : lw_okq (⟨"LedgerMachineModel", "tell", "()V"⟩, 65) := ⟨⟨by decide +kernel, by decide +kernel⟩, List.mem_of_getElem? (i := 987) (by decide +kernel), List.mem_of_getElem? (i := 1308) (by decide +kernel), List.mem_of_getElem? (i := 1309) (by decide +kernel)⟩
theorem lw_p50 : lw_okq (⟨"LedgerMachineModel", "make", "(I)V"⟩, 65) := ⟨⟨by decide +kernel, by decide +kernel⟩, List.mem_of_getElem? (i := 987) (by decide +kernel), List.mem_of_getElem? (i := 1312) (by decide +kernel), List.mem_of_getElem? (i := 1313) (by decide +kernel)⟩
theorem lw_p51 : lw_okq (⟨"LedgerMachineModel", "isEmpty", "(I)Z"⟩, 65) := ⟨⟨by decide +kernel, by decide +kernel⟩, List.mem_of_getElem? (i := 987) (by decide +kernel), List.mem_of_getElem? (i := 1316) (by decide +kernel), List.mem_of_getElem? (i := 1317) (by decide +kernel)⟩
theorem lw_p52 : lw_okq (⟨"LedgerMachineModel", "hasFrame", "(I)Z"⟩, 65) := ⟨⟨by decide +kernel, by decide +kernel⟩, List.mem_of_getElem? (i := 987) (by decide +kernel), List.mem_of_getElem? (i := 1320) (by decide +kernel), List.mem_of_getElem? (i := 1321) (by decide +kernel)⟩
theorem lw_p53 : lw_okq (⟨"LedgerMachineModel", "emit", "(I)V"⟩, 65) := ⟨⟨by decide +kernel, by decide +kernel⟩, List.mem_of_getElem? (i := 987) (by decide +kernel), List.mem_of_getElem? (i := 1325) (by decide +kernel), List.mem_of_getElem? (i := 1326) (by decide +kernel)⟩
theorem lw_p54 : lw_okq (⟨"LedgerMachineModel", "close", "(I)V"⟩, 65) := ⟨⟨by decide +kernel, by decide +kernel⟩, List.mem_of_getElem? (i := 987) (by decide +kernel), List.mem_of_getElem? (i := 1329) (by decide +kernel), List.mem_of_getElem? (i := 1330) (by decide +kernel)⟩
theorem lw_p55 : lw_okq (⟨"LedgerMachineModel", "keepEvents", "(II)V"⟩, 65) := ⟨⟨by decide +kernel, by decide +kernel⟩, List.mem_of_getElem? (i := 987) (by decide +kernel), List.mem_of_getElem? (i := 1333) (by decide +kernel), List.mem_of_getElem? (i := 1334) (by decide +kernel)⟩
theorem lw_p56 : lw_okq (⟨"LedgerMachineModel", "isBlock", "(I)Z"⟩, 65) := ⟨⟨by decide +kernel, by decide +kernel⟩, List.mem_of_getElem? (i := 987) (by decide +kernel), List.mem_of_getElem? (i := 1341) (by decide +kernel), List.mem_of_getElem? (i := 1342) (by decide +kernel)⟩
theorem lw_p57 : lw_okq (⟨"LedgerMachineModel", "valueOf", "(II)J"⟩, 65) := ⟨⟨by decide +kernel, by decide +kernel⟩, List.mem_of_getElem? (i := 987) (by decide +kernel), List.mem_of_getElem? (i := 1357) (by decide +kernel), List.mem_of_getElem? (i := 1358) (by decide +kernel)⟩
def lw_privs_4 : List (MethodName × Nat) := [(⟨"LedgerMachineModel", "calls", "(Z)V"⟩, 65), (⟨"LedgerMachineModel", "tell", "()V"⟩, 65), (⟨"LedgerMachineModel", "make", "(I)V"⟩, 65), (⟨"LedgerMachineModel", "isEmpty", "(I)Z"⟩, 65), (⟨"LedgerMachineModel", "hasFrame", "(I)Z"⟩, 65), (⟨"LedgerMachineModel", "emit", "(I)V"⟩, 65), (⟨"LedgerMachineModel", "close", "(I)V"⟩, 65), (⟨"LedgerMachineModel", "keepEvents", "(II)V"⟩, 65), (⟨"LedgerMachineModel", "isBlock", "(I)Z"⟩, 65), (⟨"LedgerMachineModel", "valueOf", "(II)J"⟩, 65)]
theorem lw_r4 : ∀ q ∈ lw_privs_4, lw_okq q := List.forall_mem_cons.mpr ⟨lw_p48, List.forall_mem_cons.mpr ⟨lw_p49, List.forall_mem_cons.mpr ⟨lw_p50, List.forall_mem_cons.mpr ⟨lw_p51, List.forall_mem_cons.mpr ⟨lw_p52, List.forall_mem_cons.mpr ⟨lw_p53, List.forall_mem_cons.mpr ⟨lw_p54, List.forall_mem_cons.mpr ⟨lw_p55, List.forall_mem_cons.mpr ⟨lw_p56, List.forall_mem_cons.mpr ⟨lw_p57, fun _ h => absurd h List.not_mem_nil⟩⟩⟩⟩⟩⟩⟩⟩⟩⟩
def lw_privs : List (MethodName × Nat) := lw_privs_1 ++ (lw_privs_2 ++ (lw_privs_3 ++ (lw_privs_4)))
def lw_tbl : List Cond := k2_sels lw_privs ++ tables_1
theorem lw_privs_ok : ∀ q ∈ lw_privs, lw_okq q := by
  show ∀ q ∈ lw_privs_1 ++ (lw_privs_2 ++ (lw_privs_3 ++ (lw_privs_4))), lw_okq q
  exact List.forall_mem_append.mpr ⟨lw_r1, List.forall_mem_append.mpr ⟨lw_r2, List.forall_mem_append.mpr ⟨lw_r3, lw_r4⟩⟩⟩
-- ===== end of PART A; then your names; then what follows =====
end
section
/-! ===== BEGIN words of one list among another's, by their places ===== -/
theorem goodIn_r {big : List Cond} (ws : List Cond) (ps : List Nat) (hp : ws = ps.filterMap (fun i => big[i]?)) (h : ws.all goodWord = true) : GoodIn big ws := by
  intro w hw
  have h1 := List.all_eq_true.mp h w hw
  rw [hp] at hw
  obtain ⟨i, -, hi⟩ := List.mem_filterMap.mp hw
  have hm : w ∈ big := by first | exact List.mem_of_getElem? hi | exact List.getElem?_mem hi
  exact ⟨hm, good_of_word h1⟩
theorem goodIn_app {big a b : List Cond} (ha : GoodIn big a) (hb : GoodIn big b) : GoodIn big (a ++ b) := fun w h => (List.mem_append.mp h).elim (ha w) (hb w)
theorem goodIn_ca {big a b : List Cond} {c : Cond} (ha : GoodIn big (c :: a)) (hb : GoodIn big b) : GoodIn big (c :: (a ++ b)) := fun w h => (List.mem_cons.mp h).elim (fun e => ha w (List.mem_cons.mpr (Or.inl e))) (fun h => (List.mem_append.mp h).elim (fun h => ha w (List.mem_cons.mpr (Or.inr h))) (hb w))
theorem goodIn_sub {big ws : List Cond} (hm : ∀ w ∈ ws, w ∈ big) (h : ws.all goodWord = true) : GoodIn big ws := fun w hw => ⟨hm w hw, good_of_word (List.all_eq_true.mp h w hw)⟩
/-! ===== END ===== -/

/-! ===== BEGIN exceptions that leave a method, and their catching by the caller (launches without stack traces) ===== -/
section VXA
/-! The laws vx_back, vx_callV, vx_callS, vx_callSW, vx_throw0, vx_throwS follow proofs of the library, with one case more: JvmDerived/Free/Laws.lean (Back.of_free), Shelf42/LK1.lean (callV, callS), Shelf/KitTraced.lean (throwNew0V, throwNewS). -/
/-- where a method has thrown q: the class by its name, the cell, what was written, the world -/
def vx_T (XC : String → State → State → Prop) (st : State) (q : Addr) (t : State) (mc ms : Nat) (free : Addr → Prop) : Prop :=
  ∃ (E : String) (ce : Cell) (L : List Loc), XC E st t ∧ t.heap[q]? = some ce ∧ ce.vm = .none ∧ st.vm.findClass E = some ce.cls ∧ st.WarmedH t.vm ∧ st.sameButNew ({ t with vm := st.vm } : State) L mc ms ∧ ∀ z ∈ L, free z.base
def vx_Q (Qc : Array Value → State → Outcome → State → Prop) (XC : String → State → State → Prop) (mc ms : Nat) (free : Addr → Prop) : Array Value → State → Outcome → State → Prop := fun a st o t =>
  (Qc a st o t ∧ ∃ L, FrameEnd st o t L mc ms ∧ ∀ q ∈ L, free q.base) ∨ ∃ q, o = .threw q ∧ vx_T XC st q t mc ms free
/-- a callee that returns or throws -/
def vx_Met (l : Launch) (y : MethodName) (ws : List Cond) (rm : Room) (Pc : Array Value → State → Prop) (Qc : Array Value → State → Outcome → State → Prop) (XC : String → State → State → Prop) (mc ms : Nat) (free : Addr → Prop) : Prop :=
  MetFree l y (headSpec ws rm) Pc (fun _ _ _ _ _ => True) (vx_Q Qc XC mc ms free)
def vx_Post (XC : String → State → State → Prop) (mc ms : Nat) (free : Addr → Prop) : Pt → Array Value → Addr → Pt → Prop := fun A a q B =>
  ∃ (g : JFrame) (mk : MethodId) (t : State) (L : List Loc) (E : String) (ce : Cell), B.U.heap = t.heap ∧ B.U.vm = t.vm ∧ XC E (A.U.calling g mk a) t ∧ t.heap[q]? = some ce ∧ ce.vm = .none ∧ A.U.vm.findClass E = some ce.cls ∧ B.locs = A.locs ++ L ∧ (∀ z ∈ L, free z.base) ∧ B.cells = A.cells + mc ∧ B.slots = A.slots + ms
def vx_Back (l : Launch) (R : Room) (p : Program) (e : Env) (below : List Frame) (s : State) (sargs : Array Value) (y : MethodName) (len W9 : Nat)
    (Pre : Pt → Array Value → Prop) (Post : Pt → Array Value → Option Value → Pt → Prop) (PostX : Pt → Array Value → Addr → Pt → Prop) : Prop :=
  ∀ (m : MethodId) (meth : Method) (c : Code) (A : Pt) (g : JFrame) (ig : Instr) (mk : MethodId) (a : Array Value),
    Stand p l e R s m sargs below meth c A.U A.locs A.cells A.slots → g.method = m → g.locals.size = c.maxLocals → decode c.code g.pc = .ok (ig, len) →
    2 * g.monitorRoom + (g.stack.map fun v => v.category).sum ≤ W9 → A.U.methodNamed? y = some mk → Pre A a →
    (∃ (v : Option Value) (B : Pt), Stand p l e R s m sargs below meth c B.U B.locs B.cells B.slots ∧ Post A a v B ∧
      Steps p.tables e below (doInvoke e (A.U.setTop g) [] mk a).1 (B.U.setTop { g with pc := g.pc + len, stack := v.toList ++ g.stack })) ∨
    (∃ (q : Addr) (B : Pt), Stand p l e R s m sargs below meth c B.U B.locs B.cells B.slots ∧ PostX A a q B ∧
      Steps p.tables e below (doInvoke e (A.U.setTop g) [] mk a).1 ((B.U.setTop g).pushFrame (.throwing q)))
section Payer
variable {l : Launch} {R : Room} {p : Program} {e : Env} {below : List Frame} {s : State} {sargs : Array Value} {y : MethodName} {len W9 : Nat}
theorem vx_back {ws : List Cond} {rm : Room} {Pc : Array Value → State → Prop} {Qc : Array Value → State → Outcome → State → Prop} {XC : String → State → State → Prop} {mc ms : Nat} {free : Addr → Prop} {bytes : ByteArray} {maxL : Nat} {ret : Option FieldType}
    (hM : vx_Met l y ws rm Pc Qc XC mc ms free) (hblind : FrameBlind Pc) (hrc : rm.cells = mc) (hrs : rm.slots = ms)
    (hframes : rm.frames + 1 ≤ R.frames) (hlocals : W9 + (maxL + 11) + rm.locals ≤ R.locals)
    (hws : ∀ w ∈ ws, ∀ a' U, s.WarmedH U.vm → w.before a' U = true) (hcode : Cond.code y bytes maxL ret ∈ ws) (hinit : ∀ a' U, s.WarmedH U.vm → (Cond.initialized y.cls).before a' U = true) :
    vx_Back l R p e below s sargs y len W9 (PreOf R mc ms Pc) (PostOf Qc mc ms free) (vx_Post XC mc ms free) := by
  intro m meth c A g ig mk a X hg hsize hdg hW hn hp
  have h1 : (headSpec ws rm).pre.before a A.U = true := atoms_intro fun w hw => hws w hw _ _ X.warmed
  have h2 : (Cond.code y bytes maxL ret).before a A.U = true := hws _ hcode _ _ X.warmed
  have h3 : (Cond.initialized y.cls).before a A.U = true := hinit _ _ X.warmed
  have h4 : A.cells + (headSpec ws rm).room.cells ≤ R.cells := by rw [show (headSpec ws rm).room.cells = mc from hrc]; exact hp.1
  have h5 : A.slots + (headSpec ws rm).room.slots ≤ R.slots := by rw [show (headSpec ws rm).room.slots = ms from hrs]; exact hp.2.1
  have hPc : Pc a (A.U.calling g mk a) := hblind _ _ _ _ hp.2.2
  obtain ⟨U, Ls, c0, s0⟩ := A
  dsimp only [Pt.U, Pt.locs, Pt.cells, Pt.slots] at h1 h2 h3 h4 h5 X hn hPc ⊢
  obtain ⟨methY, cY, hmY, hcY, -, hlY, -, -, -, -⟩ := Cond.code_spec hn h2
  obtain ⟨kY, hkY, -⟩ := className_of_methodNamed hn
  have hinitY : kY.init = .initialized := Cond.initialized_spec (findClass_of_methodNamed hn) hkY h3
  have h : At U g.method c below := by rw [hg]; exact X.here
  have hlocals9 : W9 + (maxL + 11) + (headSpec ws rm).room.locals ≤ R.locals := hlocals
  have happ : (headSpec ws rm).appliesLoose y e.platform (U.calling g mk a) = true :=
    Spec.appliesLoose_calling (g := g) h hdg hn hkY hinitY
      (X.room_calling (g := g) (R' := (headSpec ws rm).room) hsize hmY hcY hframes (by rw [hlY]; omega) h4 h5) h1
  obtain ⟨mid, hmid⟩ := h.above
  have hfr : (U.setTop g).frames = (.java g :: mid) ++ below := by rw [State.frames_setTop' g h.top, hmid]; rfl
  obtain ⟨o, s₂, hsteps, -, hend, hq⟩ := Steps.callFree hM p X.admits X.cas X.clock (acts := []) hfr happ hPc trivial
  have hq' : vx_Q Qc XC mc ms free a (U.calling g mk a) o s₂ := hq
  rw [State.frames_setTop' g h.top] at hend
  obtain ⟨g₀, hg0⟩ := Option.isSome_iff_exists.mp h.top
  obtain ⟨r, hr⟩ := State.topJava?_eq_some.mp hg0
  have hr' : (({ U with heap := s₂.heap, slotsUsed := s₂.slotsUsed } : State).setVm s₂.vm).frames = .java g₀ :: r := hr
  rcases hq' with ⟨hqc, L, hfe, hL⟩ | ⟨q, rfl, E, ce, L, hx, hce, hcv, hcl, hW₂, hsm, hL⟩
  · obtain ⟨⟨v, rfl⟩, hW₂, e2, q2, q3, q4, q5, q6⟩ := id hfe
    have e3 : s₂ = ({ (U.calling g mk a).setFrames s₂.frames with heap := s₂.heap, slotsUsed := s₂.slotsUsed } : State).setVm s₂.vm := by
      have : s₂ = ({ s₂ with vm := (U.calling g mk a).vm } : State).setVm s₂.vm := rfl
      rw [e2] at this
      exact this
    obtain ⟨c₂, i₂, len₂, hc₂, hd₂, hf₂⟩ := hend
    have hW' : U.WarmedH s₂.vm := hW₂
    have hcc : c₂ = c := by
      have h1 : s₂.code? g.method = U.code? g.method := by
        rw [State.code?_eq, State.code?_eq, hW'.alike.method?]
      exact Option.some.inj (hc₂.symm.trans (h1.trans h.code))
    subst hcc
    have hlen : len₂ = len := by rw [hdg] at hd₂; cases hd₂; rfl
    subst hlen
    have hs₂ : s₂ = (({ U with heap := s₂.heap, slotsUsed := s₂.slotsUsed } : State).setVm s₂.vm).setTop { g with pc := g.pc + len₂, stack := v.toList ++ g.stack } := by
      refine e3.trans ?_
      rw [hf₂, State.calling_eq h.top, State.setFrames_setFrames, State.setTop_of_frames _ hr', hr]
      rfl
    have hsame : U.sameButNew ({ U with heap := s₂.heap, slotsUsed := s₂.slotsUsed } : State) L mc ms := by
      refine ⟨?_, q2, q3, q4, q5, q6⟩
      obtain ⟨t, ht, -⟩ := State.frames_cons hr
      show ({ U with heap := s₂.heap, slotsUsed := s₂.slotsUsed } : State) = { U.setFrames U.frames with heap := s₂.heap, slotsUsed := s₂.slotsUsed }
      rw [State.setFrames_self ht]
    subst hg
    refine Or.inl ⟨v, ⟨(({ U with heap := s₂.heap, slotsUsed := s₂.slotsUsed } : State).setVm s₂.vm), Ls ++ L, c0 + mc, s0 + ms⟩,
      ⟨X.admits, X.cas, X.clock, X.frames, X.room, X.hears, X.method, X.code, (X.here.setHeapUsed s₂.heap s₂.slotsUsed).setVm hW'.alike, X.tail, State.WarmedH.trans X.warmed hW', X.limits, X.bytes, X.same.trans (hsame.setVm s.vm)⟩,
      ⟨g, mk, s₂, L, rfl, rfl, hqc, rfl, hL, rfl, rfl⟩, ?_⟩
    show Steps p.tables e below _ ((({ U with heap := s₂.heap, slotsUsed := s₂.slotsUsed } : State).setVm s₂.vm).setTop { g with pc := g.pc + len₂, stack := v.toList ++ g.stack })
    rw [← hs₂]
    exact hsteps
  · obtain ⟨e2, q2, q3, q4, q5, q6⟩ := id hsm
    have e3 : s₂ = ({ (U.calling g mk a).setFrames s₂.frames with heap := s₂.heap, slotsUsed := s₂.slotsUsed } : State).setVm s₂.vm := by
      have : s₂ = ({ s₂ with vm := (U.calling g mk a).vm } : State).setVm s₂.vm := rfl
      rw [e2] at this
      exact this
    have hf₂ : s₂.frames = .throwing q :: .java g :: U.frames.tail := hend
    have hW' : U.WarmedH s₂.vm := hW₂
    have hs₂ : s₂ = ((({ U with heap := s₂.heap, slotsUsed := s₂.slotsUsed } : State).setVm s₂.vm).setTop g).pushFrame (.throwing q) := by
      refine e3.trans ?_
      rw [hf₂, State.calling_eq h.top, State.setFrames_setFrames, State.pushFrame, State.frames_setTop _ hr', State.setTop_of_frames _ hr', State.setFrames_setFrames, hr]
      rfl
    have hsame : U.sameButNew ({ U with heap := s₂.heap, slotsUsed := s₂.slotsUsed } : State) L mc ms := by
      refine ⟨?_, q2, q3, q4, q5, q6⟩
      obtain ⟨t, ht, -⟩ := State.frames_cons hr
      show ({ U with heap := s₂.heap, slotsUsed := s₂.slotsUsed } : State) = { U.setFrames U.frames with heap := s₂.heap, slotsUsed := s₂.slotsUsed }
      rw [State.setFrames_self ht]
    subst hg
    refine Or.inr ⟨q, ⟨(({ U with heap := s₂.heap, slotsUsed := s₂.slotsUsed } : State).setVm s₂.vm), Ls ++ L, c0 + mc, s0 + ms⟩,
      ⟨X.admits, X.cas, X.clock, X.frames, X.room, X.hears, X.method, X.code, (X.here.setHeapUsed s₂.heap s₂.slotsUsed).setVm hW'.alike, X.tail, State.WarmedH.trans X.warmed hW', X.limits, X.bytes, X.same.trans (hsame.setVm s.vm)⟩,
      ⟨g, mk, s₂, L, E, ce, rfl, rfl, hx, hce, hcv, hcl, rfl, hL, rfl, rfl⟩, ?_⟩
    show Steps p.tables e below _ (((({ U with heap := s₂.heap, slotsUsed := s₂.slotsUsed } : State).setVm s₂.vm).setTop g).pushFrame (.throwing q))
    rw [← hs₂]
    exact hsteps
end Payer
section Calls
variable {p : Program} {l : Launch} {e : Env} {R : Room} {s : State} {m : MethodId} {args : Array Value} {below : List Frame} {meth : Method} {c : Code} {T : State} {locs : List Loc} {cells slots : Nat}
theorem vx_callV (X : Stand p l e R s m args below meth c T locs cells slots) (hexec : p.tables.exec = Jvm.exec) {own C : String} {index : Nat} {y : MethodName} {bytes : ByteArray} {maxL : Nat} {ret : Option FieldType}
    (hown : s.vm.findClass own = some m.cls) (hlink : (Cond.methodLink own index y).before args s = true) (hinst : (Cond.instanceMethod y).before args s = true) (hsel : (Cond.selects C y y).before args s = true)
    (hcode : (Cond.code y bytes maxL ret).before args s = true) (hy : y.cls ≠ "java/lang/invoke/MethodHandle" ∧ y.cls ≠ "java/lang/invoke/VarHandle")
    {W9 : Nat} {Pre : Pt → Array Value → Prop} {Post : Pt → Array Value → Option Value → Pt → Prop} {PostX : Pt → Array Value → Addr → Pt → Prop} (hK : vx_Back l R p e below s args y 3 W9 Pre Post PostX)
    {b : Addr} {cellB : Cell} (hcell : T.heap[b]? = some cellB) (hobj : cellB.vm.isStatics = false) (hcls : s.vm.findClass C = some cellB.cls)
    {g : JFrame} (hg : g.method = m) (hsize : g.locals.size = c.maxLocals) {argsL rest : List Value} (hlen : ∀ sig, parseMethodDescriptor y.desc = some sig → argsL.length = sig.parameters.length)
    (hstack : g.stack = argsL.reverse ++ .ref b :: rest) (hW : 2 * g.monitorRoom + (rest.map fun v => v.category).sum ≤ W9) (hdg : decode c.code g.pc = .ok (.invokevirtual index, 3))
    (hpre : ∀ vm₁, s.WarmedH vm₁ → Pre ⟨T.setVm vm₁, locs, cells, slots⟩ (Value.ref b :: argsL).toArray) :
    (∃ (v : Option Value) (vm₁ : Vm) (B : Pt), s.WarmedH vm₁ ∧ Stand p l e R s m args below meth c B.U B.locs B.cells B.slots ∧ Post ⟨T.setVm vm₁, locs, cells, slots⟩ (Value.ref b :: argsL).toArray v B ∧
      ∀ target, Steps p.tables e below (B.U.setTop { g with pc := g.pc + 3, stack := v.toList ++ rest }) target → Steps p.tables e below (T.setTop g) target) ∨
    (∃ (q : Addr) (vm₁ : Vm) (B : Pt), s.WarmedH vm₁ ∧ Stand p l e R s m args below meth c B.U B.locs B.cells B.slots ∧ PostX ⟨T.setVm vm₁, locs, cells, slots⟩ (Value.ref b :: argsL).toArray q B ∧
      Steps p.tables e below (T.setTop g) ((B.U.setTop { g with stack := rest }).pushFrame (.throwing q))) := by
  obtain ⟨mk, methM, hnamed, hmethM, hstM, habM⟩ := Cond.instanceMethod_spec hinst
  obtain ⟨methM', cM, hmethM', -, -, -, -, -, -, hsigM⟩ := Cond.code_spec hnamed hcode
  cases hmethM.symm.trans hmethM'
  obtain ⟨c2, r2, m2, q1, q2, q3, q4, kP, hkP, hkPi⟩ := Cond.selects_spec hsel
  cases hcls.symm.trans q1
  cases (State.methodFound?_of_named hnamed hy).symm.trans q2
  cases hnamed.symm.trans q3
  have hselP : selectMethod e.platform s.vm cellB.cls mk = .method mk := by rw [Launch.admits_selectMethod X.admits]; exact q4
  obtain ⟨vm₁, X₁, hstep₁⟩ := X.invokevirtual hexec hown hlink hnamed hmethM hstM hkP hkPi hy (a := b) (cell := cellB) hcell
    (fun z h => by rw [h] at hobj; cases hobj) hselP hmethM habM hkP hkPi (g := g) hg (argsL := argsL) (rest := rest) (hlen _ hsigM) hstack hdg
  rcases hK m meth c ⟨T.setVm vm₁, locs, cells, slots⟩ { g with stack := rest } (.invokevirtual index) mk (Value.ref b :: argsL).toArray X₁ hg hsize hdg hW (X₁.named hnamed) (hpre vm₁ X₁.warmed) with ⟨v, B, X', hpost, hsteps⟩ | ⟨q, B, X', hpost, hsteps⟩
  · exact Or.inl ⟨v, vm₁, B, X₁.warmed, X', hpost, fun target h => hstep₁ _ fun acts => by rw [doInvoke_state]; exact hsteps.trans h⟩
  · exact Or.inr ⟨q, vm₁, B, X₁.warmed, X', hpost, hstep₁ _ fun acts => by rw [doInvoke_state]; exact hsteps⟩
theorem vx_callS (X : Stand p l e R s m args below meth c T locs cells slots) (hexec : p.tables.exec = Jvm.exec) {own : String} {index : Nat} {y : MethodName} {bytes : ByteArray} {maxL : Nat} {ret : Option FieldType}
    (hown : s.vm.findClass own = some m.cls) (hlink : (Cond.methodLink own index y).before args s = true) (hstat : (Cond.static y).before args s = true) (hinit : (Cond.initialized y.cls).before args s = true)
    (hcode : (Cond.code y bytes maxL ret).before args s = true) (hy : y.cls ≠ "java/lang/invoke/MethodHandle" ∧ y.cls ≠ "java/lang/invoke/VarHandle")
    {W9 : Nat} {Pre : Pt → Array Value → Prop} {Post : Pt → Array Value → Option Value → Pt → Prop} {PostX : Pt → Array Value → Addr → Pt → Prop} (hK : vx_Back l R p e below s args y 3 W9 Pre Post PostX)
    {g : JFrame} (hg : g.method = m) (hsize : g.locals.size = c.maxLocals) {argsL rest : List Value} (hlen : ∀ sig, parseMethodDescriptor y.desc = some sig → argsL.length = sig.parameters.length)
    (hstack : g.stack = argsL.reverse ++ rest) (hW : 2 * g.monitorRoom + (rest.map fun v => v.category).sum ≤ W9) (hdg : decode c.code g.pc = .ok (.invokestatic index, 3))
    (hpre : ∀ vm₁, s.WarmedH vm₁ → Pre ⟨T.setVm vm₁, locs, cells, slots⟩ argsL.toArray) :
    (∃ (v : Option Value) (vm₁ : Vm) (B : Pt), s.WarmedH vm₁ ∧ Stand p l e R s m args below meth c B.U B.locs B.cells B.slots ∧ Post ⟨T.setVm vm₁, locs, cells, slots⟩ argsL.toArray v B ∧
      ∀ target, Steps p.tables e below (B.U.setTop { g with pc := g.pc + 3, stack := v.toList ++ rest }) target → Steps p.tables e below (T.setTop g) target) ∨
    (∃ (q : Addr) (vm₁ : Vm) (B : Pt), s.WarmedH vm₁ ∧ Stand p l e R s m args below meth c B.U B.locs B.cells B.slots ∧ PostX ⟨T.setVm vm₁, locs, cells, slots⟩ argsL.toArray q B ∧
      Steps p.tables e below (T.setTop g) ((B.U.setTop { g with stack := rest }).pushFrame (.throwing q))) := by
  obtain ⟨mk, hnamed⟩ := Cond.code_named hcode
  obtain ⟨methM, cM, hmethM, -, -, -, -, -, -, hsigM⟩ := Cond.code_spec hnamed hcode
  have hstatic : methM.isStatic = true := Cond.static_spec hnamed hmethM hstat
  obtain ⟨kP, hkP, -⟩ := className_of_methodNamed hnamed
  have hinitP : kP.init = .initialized := Cond.initialized_spec (findClass_of_methodNamed hnamed) hkP hinit
  obtain ⟨vm₁, X₁, hstep₁⟩ := X.invokestatic hexec hown hlink hnamed hmethM hstatic hkP hinitP hy (g := g) hg (argsL := argsL) (rest := rest) (hlen _ hsigM) hstack hdg
  rcases hK m meth c ⟨T.setVm vm₁, locs, cells, slots⟩ { g with stack := rest } (.invokestatic index) mk argsL.toArray X₁ hg hsize hdg hW (X₁.named hnamed) (hpre vm₁ X₁.warmed) with ⟨v, B, X', hpost, hsteps⟩ | ⟨q, B, X', hpost, hsteps⟩
  · exact Or.inl ⟨v, vm₁, B, X₁.warmed, X', hpost, fun target h => hstep₁ _ fun acts => by rw [doInvoke_state]; exact hsteps.trans h⟩
  · exact Or.inr ⟨q, vm₁, B, X₁.warmed, X', hpost, hstep₁ _ fun acts => by rw [doInvoke_state]; exact hsteps⟩
end Calls
theorem vx_cls {s : State} {T : State} {vm₁ : Vm} {E : String} {k : ClassId} (hW : s.WarmedH vm₁) (h : (T.setVm vm₁).vm.findClass E = some k) : s.vm.findClass E = some k := by
  have h1 : vm₁.findClass E = some k := h
  rw [hW.alike.findClass] at h1
  exact h1
/-- the method's frame g, with q thrown over it -/
def vx_W (p : Program) (l : Launch) (e : Env) (R : Room) (s : State) (m : MethodId) (args : Array Value) (below : List Frame) (meth : Method) (c : Code) (H : Heap) (locs : List Loc) (cells slots : Nat) (Q : State → Prop) (g : JFrame) (q : Addr) : Prop :=
  ∀ T : State, T.heap = H → Stand p l e R s m args below meth c T locs cells slots → ∃ t, Steps p.tables e below ((T.setTop g).pushFrame (.throwing q)) t ∧ Q t
def vx_Run (p : Program) (l : Launch) (e : Env) (R : Room) (s : State) (m : MethodId) (args : Array Value) (below : List Frame) (meth : Method) (c : Code) (H : Heap) (locs : List Loc) (cells slots mc ms : Nat) (g : JFrame) (rest : List Value) (Qa : State → Outcome → State → Prop) (XC : String → State → State → Prop) (free : Addr → Prop) : Prop :=
  ∀ T : State, T.heap = H → Stand p l e R s m args below meth c T locs cells slots →
    (∃ (v : Option Value) (st₀ t T' : State) (L : List Loc), st₀.heap = H ∧ Stand p l e R s m args below meth c T' (locs ++ L) (cells + mc) (slots + ms) ∧ (∀ q ∈ L, free q.base) ∧ T'.heap = t.heap ∧ T'.vm = t.vm ∧ Qa st₀ (.returned v) t ∧
      Goes p e below T g T' { g with pc := g.pc + 3, stack := v.toList ++ rest }) ∨
    (∃ (q : Addr) (st₀ t T' : State) (L : List Loc) (E : String) (ce : Cell), st₀.heap = H ∧ Stand p l e R s m args below meth c T' (locs ++ L) (cells + mc) (slots + ms) ∧ (∀ z ∈ L, free z.base) ∧ T'.heap = t.heap ∧ T'.vm = t.vm ∧ XC E st₀ t ∧ t.heap[q]? = some ce ∧ ce.vm = .none ∧ s.vm.findClass E = some ce.cls ∧
      Steps p.tables e below (T.setTop g) ((T'.setTop { g with stack := rest }).pushFrame (.throwing q)))
def vx_X {S : Type} (px : S → Prop) (B : String → S → State → Prop) (A : Nat → Prop) : String → State → State → Prop := fun E st t => ∃ u : S, px u ∧ B E u t ∧ va_F A st t
section Runs
variable {p : Program} {l : Launch} {e : Env} {R : Room} {s : State} {m : MethodId} {args : Array Value} {below : List Frame} {meth : Method} {c : Code} {H : Heap} {locs : List Loc} {cells slots : Nat}
variable {y : MethodName} {bytes cc : ByteArray} {maxL nL mc ms n index : Nat} {ret : Option FieldType} {ws : List Cond} {rm : Room} {Pc : Array Value → State → Prop} {Qc : Array Value → State → Outcome → State → Prop} {XC : String → State → State → Prop} {free : Addr → Prop} {Ts : List Cond} {own C : String} {b : Addr} {As rest : List Value} {g : JFrame}
theorem vx_callBack (cb : CallB R s args own index y bytes maxL ret ws rm mc ms n) (hM : vx_Met l y ws rm Pc Qc XC mc ms free) (hbl : FrameBlind Pc) : vx_Back l R p e below s args y 3 8 (PreOf R mc ms Pc) (PostOf Qc mc ms free) (vx_Post XC mc ms free) := by
  obtain ⟨hrc, hrs, hfr, hlo, hws, hcw, -, hini, -⟩ := cb
  exact vx_back (bytes := bytes) (maxL := maxL) (ret := ret) hM hbl hrc hrs hfr hlo hws hcw (fun a' U hW => word_at hW (Or.inl (by first | rfl | simp [Cond.onTables, Cond.keeps, Cond.steady])) hini)
theorem vx_runV (S : CallFix p m c cc nL s args Ts own) (hM : vx_Met l y ws rm Pc Qc XC mc ms free) (cw : CallW R s args own C index y bytes maxL ret ws rm mc ms n) (hp : PreV s H C b Pc As)
    (hg : g.method = m) (hn : As.length = n) (hsize : g.locals.size = nL) (hstack : g.stack = As.reverse ++ .ref b :: rest) (hW : 2 * g.monitorRoom + (rest.map fun v => v.category).sum ≤ 8) (hdg : decode cc g.pc = .ok (.invokevirtual index, 3)) (hf : cells + mc ≤ R.cells ∧ slots + ms ≤ R.slots) :
    vx_Run p l e R s m args below meth c H locs cells slots mc ms g rest (Qc (Value.ref b :: As).toArray) XC free := by
  have hK : vx_Back l R p e below s args y 3 8 (PreOf R mc ms Pc) (PostOf Qc mc ms free) (vx_Post XC mc ms free) := vx_callBack cw.1 hM hp.1
  obtain ⟨⟨-, -, -, -, -, -, hcode, -, hy, hlen, hl⟩, hin, hse⟩ := cw
  obtain ⟨hx, hb, hml, ho, -⟩ := S
  obtain ⟨-, ⟨cellB, hcB, hoB, hclB⟩, hPc⟩ := hp
  intro T hT X
  rcases vx_callV X hx (C := C) (bytes := bytes) (maxL := maxL) (ret := ret) ho hl hin hse hcode hy hK (by rw [hT]; exact hcB) hoB hclB hg (hsize.trans hml.symm) (argsL := As) (rest := rest) (fun sig h => hn.trans (hlen sig h)) hstack hW (by rw [hb]; exact hdg)
    (fun vm₁ hW₁ => ⟨hf.1, hf.2, hPc (T.setVm vm₁) hT hW₁⟩) with ⟨v, vm₁, ⟨U', l2, c2, s2⟩, hW₁, X', ⟨g', mk, t, L, e1, e2, hq, h1, hL, h2, h3⟩, st⟩ | ⟨q, vm₁, ⟨U', l2, c2, s2⟩, hW₁, X', ⟨g', mk, t, L, E, ce, e1, e2, hq, hce, hcv, hcl, h1, hL, h2, h3⟩, st⟩
  · dsimp only [Pt.U, Pt.locs, Pt.cells, Pt.slots] at X' e1 e2 h1 h2 h3 st
    subst h1; subst h2; subst h3
    exact Or.inl ⟨v, (T.setVm vm₁).calling g' mk (Value.ref b :: As).toArray, t, U', L, hT, X', hL, e1, e2, hq, st⟩
  · dsimp only [Pt.U, Pt.locs, Pt.cells, Pt.slots] at X' e1 e2 h1 h2 h3 st hcl
    subst h1; subst h2; subst h3
    exact Or.inr ⟨q, (T.setVm vm₁).calling g' mk (Value.ref b :: As).toArray, t, U', L, E, ce, hT, X', hL, e1, e2, hq, hce, hcv, vx_cls hW₁ hcl, st⟩
theorem vx_runS (S : CallFix p m c cc nL s args Ts own) (hM : vx_Met l y ws rm Pc Qc XC mc ms free) (cw : CallB R s args own index y bytes maxL ret ws rm mc ms n ∧ (Cond.static y).before args s = true) (hp : PreS s H Pc As)
    (hg : g.method = m) (hn : As.length = n) (hsize : g.locals.size = nL) (hstack : g.stack = As.reverse ++ rest) (hW : 2 * g.monitorRoom + (rest.map fun v => v.category).sum ≤ 8) (hdg : decode cc g.pc = .ok (.invokestatic index, 3)) (hf : cells + mc ≤ R.cells ∧ slots + ms ≤ R.slots) :
    vx_Run p l e R s m args below meth c H locs cells slots mc ms g rest (Qc As.toArray) XC free := by
  have hK : vx_Back l R p e below s args y 3 8 (PreOf R mc ms Pc) (PostOf Qc mc ms free) (vx_Post XC mc ms free) := vx_callBack cw.1 hM hp.1
  obtain ⟨⟨-, -, -, -, -, -, hcode, hini, hy, hlen, hl⟩, hstt⟩ := cw
  obtain ⟨hx, hb, hml, ho, -⟩ := S
  intro T hT X
  rcases vx_callS X hx (bytes := bytes) (maxL := maxL) (ret := ret) ho hl hstt hini hcode hy hK hg (hsize.trans hml.symm) (argsL := As) (rest := rest) (fun sig h => hn.trans (hlen sig h)) hstack hW (by rw [hb]; exact hdg)
    (fun vm₁ hW₁ => ⟨hf.1, hf.2, hp.2 (T.setVm vm₁) hT hW₁⟩) with ⟨v, vm₁, ⟨U', l2, c2, s2⟩, hW₁, X', ⟨g', mk, t, L, e1, e2, hq, h1, hL, h2, h3⟩, st⟩ | ⟨q, vm₁, ⟨U', l2, c2, s2⟩, hW₁, X', ⟨g', mk, t, L, E, ce, e1, e2, hq, hce, hcv, hcl, h1, hL, h2, h3⟩, st⟩
  · dsimp only [Pt.U, Pt.locs, Pt.cells, Pt.slots] at X' e1 e2 h1 h2 h3 st
    subst h1; subst h2; subst h3
    exact Or.inl ⟨v, (T.setVm vm₁).calling g' mk As.toArray, t, U', L, hT, X', hL, e1, e2, hq, st⟩
  · dsimp only [Pt.U, Pt.locs, Pt.cells, Pt.slots] at X' e1 e2 h1 h2 h3 st hcl
    subst h1; subst h2; subst h3
    exact Or.inr ⟨q, (T.setVm vm₁).calling g' mk As.toArray, t, U', L, E, ce, hT, X', hL, e1, e2, hq, hce, hcv, vx_cls hW₁ hcl, st⟩
end Runs
section Rows
variable {p : Program} {l : Launch} {e : Env} {R : Room} {s : State} {m : MethodId} {args : Array Value} {below : List Frame} {meth : Method} {c : Code} {H : Heap} {locs : List Loc} {cells slots : Nat} {Q : State → Prop}
variable {mc ms : Nat} {free : Addr → Prop} {A0 A1 : Nat → Prop} {H0 : Heap} {a : Array Value} {pc : Nat} {ls : Array Slot} {st0 rest : List Value}
theorem vx_keep {st₀ t T' : State} {L : List Loc} (h0 : st₀.heap = H) (e1 : T'.heap = t.heap) (hS : va_S A0 H0 H locs) (hA : ∀ q, q < H.size → A1 q → A0 q) (hf : ∀ q, free q → A0 q) (hL : ∀ q ∈ L, free q.base) (hF : va_F A1 st₀ t) :
    H.size ≤ T'.heap.size ∧ (∀ q : Nat, q < H.size → ¬ A1 q → T'.heap[q]? = H[q]?) ∧ va_S A0 H0 T'.heap (locs ++ L) := by
  obtain ⟨hz, hk⟩ := hF
  rw [h0] at hz hk
  exact ⟨by rw [e1]; exact hz, fun q h1 h2 => by rw [e1]; exact hk q h1 h2,
    ⟨Nat.le_trans hS.1 (by rw [e1]; exact hz), fun q h1 h2 => by rw [e1, hk q (Nat.lt_of_lt_of_le h1 hS.1) (fun z => h2 (hA q (Nat.lt_of_lt_of_le h1 hS.1) z))]; exact hS.2.1 q h1 h2, fun q hq => by
      rcases List.mem_append.mp hq with h | h
      · exact hS.2.2 q h
      · exact hf _ (hL q h)⟩⟩
theorem vx_calli {S SX : Type} {post : Int32 → S → Prop} {px : SX → Prop} {B : S → State → Prop} {BX : String → SX → State → Prop} {AX : Nat → Prop} (hr : vx_Run p l e R s m args below meth c H locs cells slots mc ms (F0 m pc ls st0) rest (va_Qi post B A1 a) (vx_X px BX AX) free) (hS : va_S A0 H0 H locs) (hA : ∀ q, q < H.size → A1 q → A0 q) (hf : ∀ q, free q → A0 q) (hAX : ∀ q, q < H.size → AX q → A0 q)
    (kx : ∀ (E : String) (ce : Cell) (q9 : Addr) (u : SX) (t : State) (H1 : Heap) (locs1 : List Loc), t.heap = H1 → s.vm.Alike t.vm → px u → BX E u t → H.size ≤ H1.size → (∀ q : Nat, q < H.size → ¬ AX q → H1[q]? = H[q]?) → va_S A0 H0 H1 locs1 → H1[q9]? = some ce → ce.vm = .none → s.vm.findClass E = some ce.cls → vx_W p l e R s m args below meth c H1 locs1 (cells + mc) (slots + ms) Q (F0 m pc ls rest) q9)
    (kk : ∀ (r : Int32) (u : S) (t : State) (H1 : Heap) (locs1 : List Loc), t.heap = H1 → s.vm.Alike t.vm → post r u → B u t → H.size ≤ H1.size → (∀ q : Nat, q < H.size → ¬ A1 q → H1[q]? = H[q]?) → va_S A0 H0 H1 locs1 → W p l e R s m args below meth c H1 locs1 (cells + mc) (slots + ms) Q (F0 m (pc + 3) ls (.int r :: rest))) : W p l e R s m args below meth c H locs cells slots Q (F0 m pc ls st0) := by
  intro T hT X
  rcases hr T hT X with ⟨v, st₀, t, T', L, h0, X', hL, e1, e2, ⟨⟨r, u, hv, hp, hb⟩, hF⟩, st⟩ | ⟨q, st₀, t, T', L, E, ce, h0, X', hL, e1, e2, ⟨u, hp, hb, hF⟩, hce, hcv, hcl, st⟩
  · cases hv
    obtain ⟨k1, k2, k3⟩ := vx_keep h0 e1 hS hA hf hL hF
    obtain ⟨t2, a1, b1⟩ := kk r u t T'.heap (locs ++ L) e1.symm (by rw [← e2]; exact X'.warmed.alike) hp hb k1 k2 k3 T' rfl X'
    exact ⟨t2, st t2 a1, b1⟩
  · obtain ⟨k1, k2, k3⟩ := vx_keep h0 e1 hS hAX hf hL hF
    obtain ⟨t2, a1, b1⟩ := kx E ce q u t T'.heap (locs ++ L) e1.symm (by rw [← e2]; exact X'.warmed.alike) hp hb k1 k2 k3 (by rw [e1]; exact hce) hcv hcl T' rfl X'
    exact ⟨t2, st.trans a1, b1⟩
theorem vx_calll {S SX : Type} {post : Int64 → S → Prop} {px : SX → Prop} {B : S → State → Prop} {BX : String → SX → State → Prop} {AX : Nat → Prop} (hr : vx_Run p l e R s m args below meth c H locs cells slots mc ms (F0 m pc ls st0) rest (va_Ql post B A1 a) (vx_X px BX AX) free) (hS : va_S A0 H0 H locs) (hA : ∀ q, q < H.size → A1 q → A0 q) (hf : ∀ q, free q → A0 q) (hAX : ∀ q, q < H.size → AX q → A0 q)
    (kx : ∀ (E : String) (ce : Cell) (q9 : Addr) (u : SX) (t : State) (H1 : Heap) (locs1 : List Loc), t.heap = H1 → s.vm.Alike t.vm → px u → BX E u t → H.size ≤ H1.size → (∀ q : Nat, q < H.size → ¬ AX q → H1[q]? = H[q]?) → va_S A0 H0 H1 locs1 → H1[q9]? = some ce → ce.vm = .none → s.vm.findClass E = some ce.cls → vx_W p l e R s m args below meth c H1 locs1 (cells + mc) (slots + ms) Q (F0 m pc ls rest) q9)
    (kk : ∀ (r : Int64) (u : S) (t : State) (H1 : Heap) (locs1 : List Loc), t.heap = H1 → s.vm.Alike t.vm → post r u → B u t → H.size ≤ H1.size → (∀ q : Nat, q < H.size → ¬ A1 q → H1[q]? = H[q]?) → va_S A0 H0 H1 locs1 → W p l e R s m args below meth c H1 locs1 (cells + mc) (slots + ms) Q (F0 m (pc + 3) ls (.long r :: rest))) : W p l e R s m args below meth c H locs cells slots Q (F0 m pc ls st0) := by
  intro T hT X
  rcases hr T hT X with ⟨v, st₀, t, T', L, h0, X', hL, e1, e2, ⟨⟨r, u, hv, hp, hb⟩, hF⟩, st⟩ | ⟨q, st₀, t, T', L, E, ce, h0, X', hL, e1, e2, ⟨u, hp, hb, hF⟩, hce, hcv, hcl, st⟩
  · cases hv
    obtain ⟨k1, k2, k3⟩ := vx_keep h0 e1 hS hA hf hL hF
    obtain ⟨t2, a1, b1⟩ := kk r u t T'.heap (locs ++ L) e1.symm (by rw [← e2]; exact X'.warmed.alike) hp hb k1 k2 k3 T' rfl X'
    exact ⟨t2, st t2 a1, b1⟩
  · obtain ⟨k1, k2, k3⟩ := vx_keep h0 e1 hS hAX hf hL hF
    obtain ⟨t2, a1, b1⟩ := kx E ce q u t T'.heap (locs ++ L) e1.symm (by rw [← e2]; exact X'.warmed.alike) hp hb k1 k2 k3 (by rw [e1]; exact hce) hcv hcl T' rfl X'
    exact ⟨t2, st.trans a1, b1⟩
theorem vx_callf {S SX : Type} {post : UInt32 → S → Prop} {px : SX → Prop} {B : S → State → Prop} {BX : String → SX → State → Prop} {AX : Nat → Prop} (hr : vx_Run p l e R s m args below meth c H locs cells slots mc ms (F0 m pc ls st0) rest (va_Qf post B A1 a) (vx_X px BX AX) free) (hS : va_S A0 H0 H locs) (hA : ∀ q, q < H.size → A1 q → A0 q) (hf : ∀ q, free q → A0 q) (hAX : ∀ q, q < H.size → AX q → A0 q)
    (kx : ∀ (E : String) (ce : Cell) (q9 : Addr) (u : SX) (t : State) (H1 : Heap) (locs1 : List Loc), t.heap = H1 → s.vm.Alike t.vm → px u → BX E u t → H.size ≤ H1.size → (∀ q : Nat, q < H.size → ¬ AX q → H1[q]? = H[q]?) → va_S A0 H0 H1 locs1 → H1[q9]? = some ce → ce.vm = .none → s.vm.findClass E = some ce.cls → vx_W p l e R s m args below meth c H1 locs1 (cells + mc) (slots + ms) Q (F0 m pc ls rest) q9)
    (kk : ∀ (r : UInt32) (u : S) (t : State) (H1 : Heap) (locs1 : List Loc), t.heap = H1 → s.vm.Alike t.vm → post r u → B u t → H.size ≤ H1.size → (∀ q : Nat, q < H.size → ¬ A1 q → H1[q]? = H[q]?) → va_S A0 H0 H1 locs1 → W p l e R s m args below meth c H1 locs1 (cells + mc) (slots + ms) Q (F0 m (pc + 3) ls (.float r :: rest))) : W p l e R s m args below meth c H locs cells slots Q (F0 m pc ls st0) := by
  intro T hT X
  rcases hr T hT X with ⟨v, st₀, t, T', L, h0, X', hL, e1, e2, ⟨⟨r, u, hv, hp, hb⟩, hF⟩, st⟩ | ⟨q, st₀, t, T', L, E, ce, h0, X', hL, e1, e2, ⟨u, hp, hb, hF⟩, hce, hcv, hcl, st⟩
  · cases hv
    obtain ⟨k1, k2, k3⟩ := vx_keep h0 e1 hS hA hf hL hF
    obtain ⟨t2, a1, b1⟩ := kk r u t T'.heap (locs ++ L) e1.symm (by rw [← e2]; exact X'.warmed.alike) hp hb k1 k2 k3 T' rfl X'
    exact ⟨t2, st t2 a1, b1⟩
  · obtain ⟨k1, k2, k3⟩ := vx_keep h0 e1 hS hAX hf hL hF
    obtain ⟨t2, a1, b1⟩ := kx E ce q u t T'.heap (locs ++ L) e1.symm (by rw [← e2]; exact X'.warmed.alike) hp hb k1 k2 k3 (by rw [e1]; exact hce) hcv hcl T' rfl X'
    exact ⟨t2, st.trans a1, b1⟩
theorem vx_calld {S SX : Type} {post : UInt64 → S → Prop} {px : SX → Prop} {B : S → State → Prop} {BX : String → SX → State → Prop} {AX : Nat → Prop} (hr : vx_Run p l e R s m args below meth c H locs cells slots mc ms (F0 m pc ls st0) rest (va_Qd post B A1 a) (vx_X px BX AX) free) (hS : va_S A0 H0 H locs) (hA : ∀ q, q < H.size → A1 q → A0 q) (hf : ∀ q, free q → A0 q) (hAX : ∀ q, q < H.size → AX q → A0 q)
    (kx : ∀ (E : String) (ce : Cell) (q9 : Addr) (u : SX) (t : State) (H1 : Heap) (locs1 : List Loc), t.heap = H1 → s.vm.Alike t.vm → px u → BX E u t → H.size ≤ H1.size → (∀ q : Nat, q < H.size → ¬ AX q → H1[q]? = H[q]?) → va_S A0 H0 H1 locs1 → H1[q9]? = some ce → ce.vm = .none → s.vm.findClass E = some ce.cls → vx_W p l e R s m args below meth c H1 locs1 (cells + mc) (slots + ms) Q (F0 m pc ls rest) q9)
    (kk : ∀ (r : UInt64) (u : S) (t : State) (H1 : Heap) (locs1 : List Loc), t.heap = H1 → s.vm.Alike t.vm → post r u → B u t → H.size ≤ H1.size → (∀ q : Nat, q < H.size → ¬ A1 q → H1[q]? = H[q]?) → va_S A0 H0 H1 locs1 → W p l e R s m args below meth c H1 locs1 (cells + mc) (slots + ms) Q (F0 m (pc + 3) ls (.double r :: rest))) : W p l e R s m args below meth c H locs cells slots Q (F0 m pc ls st0) := by
  intro T hT X
  rcases hr T hT X with ⟨v, st₀, t, T', L, h0, X', hL, e1, e2, ⟨⟨r, u, hv, hp, hb⟩, hF⟩, st⟩ | ⟨q, st₀, t, T', L, E, ce, h0, X', hL, e1, e2, ⟨u, hp, hb, hF⟩, hce, hcv, hcl, st⟩
  · cases hv
    obtain ⟨k1, k2, k3⟩ := vx_keep h0 e1 hS hA hf hL hF
    obtain ⟨t2, a1, b1⟩ := kk r u t T'.heap (locs ++ L) e1.symm (by rw [← e2]; exact X'.warmed.alike) hp hb k1 k2 k3 T' rfl X'
    exact ⟨t2, st t2 a1, b1⟩
  · obtain ⟨k1, k2, k3⟩ := vx_keep h0 e1 hS hAX hf hL hF
    obtain ⟨t2, a1, b1⟩ := kx E ce q u t T'.heap (locs ++ L) e1.symm (by rw [← e2]; exact X'.warmed.alike) hp hb k1 k2 k3 (by rw [e1]; exact hce) hcv hcl T' rfl X'
    exact ⟨t2, st.trans a1, b1⟩
theorem vx_callv {S SX : Type} {post : S → Prop} {px : SX → Prop} {B : S → State → Prop} {BX : String → SX → State → Prop} {AX : Nat → Prop} (hr : vx_Run p l e R s m args below meth c H locs cells slots mc ms (F0 m pc ls st0) rest (va_Qv post B A1 a) (vx_X px BX AX) free) (hS : va_S A0 H0 H locs) (hA : ∀ q, q < H.size → A1 q → A0 q) (hf : ∀ q, free q → A0 q) (hAX : ∀ q, q < H.size → AX q → A0 q)
    (kx : ∀ (E : String) (ce : Cell) (q9 : Addr) (u : SX) (t : State) (H1 : Heap) (locs1 : List Loc), t.heap = H1 → s.vm.Alike t.vm → px u → BX E u t → H.size ≤ H1.size → (∀ q : Nat, q < H.size → ¬ AX q → H1[q]? = H[q]?) → va_S A0 H0 H1 locs1 → H1[q9]? = some ce → ce.vm = .none → s.vm.findClass E = some ce.cls → vx_W p l e R s m args below meth c H1 locs1 (cells + mc) (slots + ms) Q (F0 m pc ls rest) q9)
    (kk : ∀ (u : S) (t : State) (H1 : Heap) (locs1 : List Loc), t.heap = H1 → s.vm.Alike t.vm → post u → B u t → H.size ≤ H1.size → (∀ q : Nat, q < H.size → ¬ A1 q → H1[q]? = H[q]?) → va_S A0 H0 H1 locs1 → W p l e R s m args below meth c H1 locs1 (cells + mc) (slots + ms) Q (F0 m (pc + 3) ls (rest))) : W p l e R s m args below meth c H locs cells slots Q (F0 m pc ls st0) := by
  intro T hT X
  rcases hr T hT X with ⟨v, st₀, t, T', L, h0, X', hL, e1, e2, ⟨⟨u, hv, hp, hb⟩, hF⟩, st⟩ | ⟨q, st₀, t, T', L, E, ce, h0, X', hL, e1, e2, ⟨u, hp, hb, hF⟩, hce, hcv, hcl, st⟩
  · cases hv
    obtain ⟨k1, k2, k3⟩ := vx_keep h0 e1 hS hA hf hL hF
    obtain ⟨t2, a1, b1⟩ := kk u t T'.heap (locs ++ L) e1.symm (by rw [← e2]; exact X'.warmed.alike) hp hb k1 k2 k3 T' rfl X'
    exact ⟨t2, st t2 a1, b1⟩
  · obtain ⟨k1, k2, k3⟩ := vx_keep h0 e1 hS hAX hf hL hF
    obtain ⟨t2, a1, b1⟩ := kx E ce q u t T'.heap (locs ++ L) e1.symm (by rw [← e2]; exact X'.warmed.alike) hp hb k1 k2 k3 (by rw [e1]; exact hce) hcv hcl T' rfl X'
    exact ⟨t2, st.trans a1, b1⟩
end Rows
section Ends
variable {p : Program} {l : Launch} {e : Env} {R : Room} {s : State} {m : MethodId} {args : Array Value} {below : List Frame} {meth : Method} {c : Code} {H : Heap} {locs : List Loc} {cells slots : Nat} {Q : State → Prop}
variable {mc ms : Nat} {free : Addr → Prop} {A0 A1 : Nat → Prop} {H0 : Heap} {a : Array Value} {ls : Array Slot} {st0 rest : List Value}
variable {Qc : Array Value → State → Outcome → State → Prop} {XC : String → State → State → Prop}
/-- what a body that may throw owes at its end -/
def vx_MQ (below : List Frame) (Qc : Array Value → State → Outcome → State → Prop) (XC : String → State → State → Prop) (a : Array Value) (s : State) (mc ms : Nat) (free : Addr → Prop) : State → Prop := fun t =>
  ∃ o, t.status = .running ∧ Ended t below o ∧ vx_Q Qc XC mc ms free a s o t
theorem vx_ret {g : JFrame} {mc ms : Nat} (k : W p l e R s m args below meth c H locs cells slots (MQ below Qc args s mc ms free) g) : W p l e R s m args below meth c H locs cells slots (vx_MQ below Qc XC args s mc ms free) g := by
  intro T hT X
  obtain ⟨t, a1, o, b1, b2, b3, b4⟩ := k T hT X
  exact ⟨t, a1, o, b1, b2, Or.inl ⟨b3, b4⟩⟩
/-- not caught here: it goes on to the caller -/
theorem vx_widen {g : JFrame} {q : Addr} {k n : Nat} (h1 : cells ≤ k) (h2 : slots ≤ n) (kk : vx_W p l e R s m args below meth c H locs k n Q g q) : vx_W p l e R s m args below meth c H locs cells slots Q g q := fun T hT X => kk T hT (stand_widen X h1 h2)
theorem vx_out {pc : Nat} {E : String} {ce : Cell} {q : Addr} {mc ms : Nat} (hout : ∀ x ∈ c.exceptionTable.toList, covers x pc = false) (hlocks : meth.locks = false) (hcell : H[q]? = some ce) (hv : ce.vm = .none) (hcl : s.vm.findClass E = some ce.cls)
    (hx : ∀ t : State, t.heap = H → s.vm.Alike t.vm → XC E s t) (hf : ∀ z ∈ locs, free z.base) (hc : cells ≤ mc) (hs : slots ≤ ms) :
    vx_W p l e R s m args below meth c H locs cells slots (vx_MQ below Qc XC args s mc ms free) (F0 m pc ls rest) q := by
  intro T hT X
  obtain ⟨st1, hrun, hend, hW, hsm⟩ := X.leaveThrown q (g := F0 m pc ls rest) rfl rfl rfl hout hlocks
  have hcell9 : (T.setFrames (.throwing q :: below)).heap[q]? = some ce := by
    show T.heap[q]? = some ce
    rw [hT]; exact hcell
  exact ⟨_, st1, .threw q, hrun, hend, Or.inr ⟨q, rfl, E, ce, locs, hx _ hT hW.alike, hcell9, hv, hcl, hW, hsm.mono hc hs, hf⟩⟩
theorem vx_frame {U : State} {k n : Nat} (h : s.sameButNew ({ U with vm := s.vm } : State) locs k n) : s.heap.size ≤ U.heap.size ∧ ∀ q : Nat, q < s.heap.size → (∀ z ∈ locs, z.base ≠ q) → U.heap[q]? = s.heap[q]? := by
  obtain ⟨-, h2, -, -, -, h6⟩ := h
  refine ⟨h2, fun q hq hz => ?_⟩
  obtain ⟨c9, e1, e2, e3, e4⟩ := h6 q _ (Array.getElem?_eq_getElem hq)
  have hs : c9.slots = (s.heap[q]).slots := Array.ext_getElem? fun i => e4 i fun hm => hz _ hm rfl
  have h9 : c9 = s.heap[q] := by
    rw [hs] at e2
    exact e2
  have e5 : U.heap[q]? = some c9 := e1
  rw [e5, h9, Array.getElem?_eq_getElem hq]
/-- the words of a throw but the four that speak of the heap -/
def vx_no (w : Cond) : Bool := decide (w ≠ .isRef (.static Bundle.tN "UNASSIGNED_STACK" Bundle.steD)) && decide (w ≠ .isRef (.static Bundle.tN "SUPPRESSED_SENTINEL" Bundle.listD)) && decide (w ≠ .laysStatic Bundle.tN "UNASSIGNED_STACK" Bundle.steD) && decide (w ≠ .laysStatic Bundle.tN "SUPPRESSED_SENTINEL" Bundle.listD)
def vx_at0 (own : String) (ic : Nat) (X : String) (names : List String) : List Cond := (Bundle.ownAtoms0 own ic X names).filter vx_no
def vx_atS (own : String) (ic : Nat) (X : String) (names : List String) : List Cond := (Bundle.ownAtoms own ic X names).filter vx_no
/-- a word that the tables alone decide, or a good one -/
def vx_ot (w : Cond) : Bool := w.onTables || goodWord w
theorem vx_ot_at {args a' : Array Value} {s U : State} {w : Cond} (hW : s.WarmedH U.vm) (hvm : s.vm = U.vm) (hg : vx_ot w = true) (h : w.before args s = true) : w.before a' U = true := by
  simp only [vx_ot, Bool.or_eq_true] at hg
  rcases hg with hg | hg
  · exact va_tabs hg hvm h
  · exact word_at hW (good_of_word hg) h
/-- a list's words: the good ones out of the method's own list, the others by premises of their own -/
theorem vx_hat {args : Array Value} {s : State} {L B : List Cond} (h1 : ∀ w ∈ L.filter goodWord, w.before args s = true) (h2 : ∀ w ∈ L.filter (fun w => !goodWord w), w ∈ B) (h3 : ∀ w ∈ B, w.before args s = true) : ∀ w ∈ L, w.before args s = true := by
  intro w hw
  by_cases g : goodWord w = true
  · exact h1 w (List.mem_filter.mpr ⟨hw, g⟩)
  · refine h3 w (h2 w (List.mem_filter.mpr ⟨hw, ?_⟩))
    show (!goodWord w) = true
    cases hgw : goodWord w
    · rfl
    · exact absurd hgw g
theorem vx_c {args : Array Value} {s : State} {w : Cond} {B : List Cond} (h : w.before args s = true) (t : ∀ w ∈ B, w.before args s = true) : ∀ w' ∈ w :: B, w'.before args s = true := fun w' h' => (List.mem_cons.mp h').elim (fun e => by rw [e]; exact h) (t w')
theorem vx_n {args : Array Value} {s : State} : ∀ w ∈ ([] : List Cond), w.before args s = true := fun _ h => nomatch h
theorem vx_own {args : Array Value} {s : State} {L : List Cond} (h1 : ∀ w ∈ L.filter vx_no, w.before args s = true)
    (hU : (Cond.isRef (.static Bundle.tN "UNASSIGNED_STACK" Bundle.steD)).before args s = true) (hN : (Cond.isRef (.static Bundle.tN "SUPPRESSED_SENTINEL" Bundle.listD)).before args s = true)
    (lU : (Cond.laysStatic Bundle.tN "UNASSIGNED_STACK" Bundle.steD).before args s = true) (lN : (Cond.laysStatic Bundle.tN "SUPPRESSED_SENTINEL" Bundle.listD).before args s = true) : ∀ w ∈ L, w.before args s = true := by
  intro w hw
  by_cases e1 : w = .isRef (.static Bundle.tN "UNASSIGNED_STACK" Bundle.steD)
  · rw [e1]; exact hU
  · by_cases e2 : w = .isRef (.static Bundle.tN "SUPPRESSED_SENTINEL" Bundle.listD)
    · rw [e2]; exact hN
    · by_cases e3 : w = .laysStatic Bundle.tN "UNASSIGNED_STACK" Bundle.steD
      · rw [e3]; exact lU
      · by_cases e4 : w = .laysStatic Bundle.tN "SUPPRESSED_SENTINEL" Bundle.listD
        · rw [e4]; exact lN
        · exact h1 w (List.mem_filter.mpr ⟨hw, by unfold vx_no; rw [decide_eq_true e1, decide_eq_true e2, decide_eq_true e3, decide_eq_true e4]; rfl⟩)
/-- where a static field lies, its class's statics cell in H -/
def vx_L (C n d : String) (A : Nat → Prop) (U : State) (H : Heap) : Prop := ∃ (c : ClassId) (k : Class) (i : Nat) (f : Field) (a : Nat) (cell : Cell), U.vm.findClass C = some c ∧ U.fieldFound? C n d = some (c, k, i, f) ∧ f.isStatic = true ∧ k.statics = some a ∧ H[a]? = some cell ∧ cell.vm.isStatics = true ∧ cell.cls = c ∧ f.slot < cell.slots.size ∧ k.staticTypes[f.slot]? = some f.type ∧ ¬ A a
theorem vx_L.moved {C n d : String} {A : Nat → Prop} {u U : State} {H : Heap} (hvm : u.vm.Alike U.vm) (h : vx_L C n d A u H) : vx_L C n d A U H := by
  obtain ⟨c, k, i, f, a, cell, h1, h2, h3, h4, h5, h6, h7, h8, h9, h10⟩ := h
  obtain ⟨k', hi', he⟩ := State.fieldFound?_setVm hvm h2
  exact ⟨c, k', i, f, a, cell, by rw [hvm.findClass]; exact h1, hi', h3, by rw [he]; exact h4, h5, h6, h7, h8, by rw [he]; exact h9, h10⟩
theorem vx_L.kept {C n d : String} {A : Nat → Prop} {U : State} {H H1 : Heap} (h : vx_L C n d A U H) (hq : ∀ a : Nat, a < H.size → ¬ A a → H1[a]? = H[a]?) : vx_L C n d A U H1 := by
  obtain ⟨c, k, i, f, a, cell, h1, h2, h3, h4, h5, h6, h7, h8, h9, h10⟩ := h
  exact ⟨c, k, i, f, a, cell, h1, h2, h3, h4, by rw [hq a (Array.getElem?_eq_some_iff.mp h5).1 h10]; exact h5, h6, h7, h8, h9, h10⟩
theorem vx_L.narrow {C n d : String} {A B : Nat → Prop} {U : State} {H : Heap} (h : vx_L C n d A U H) (hAB : ∀ q, B q → A q) : vx_L C n d B U H := by
  obtain ⟨c, k, i, f, a, cell, h1, h2, h3, h4, h5, h6, h7, h8, h9, h10⟩ := h
  exact ⟨c, k, i, f, a, cell, h1, h2, h3, h4, h5, h6, h7, h8, h9, fun z => h10 (hAB _ z)⟩
theorem vx_L.word {C n d : String} {A : Nat → Prop} {s : State} {args : Array Value} (h : vx_L C n d A s s.heap) : (Cond.laysStatic C n d).before args s = true := by
  obtain ⟨c, k, i, f, a, cell, h1, h2, h3, h4, h5, h6, h7, h8, h9, -⟩ := h
  show (Cond.laysStatic C n d).holds args s none s [] = true
  exact Cond.laysStatic_of h1 h2 h3 h4 h5 h6 h7 h8 h9
/-- .. and what it holds: null or some reference -/
def vx_Zq (C n d : String) (A : Nat → Prop) (U : State) (H : Heap) : Prop := va_Zq C n d A U H ∧ vx_L C n d A U H
theorem vx_Zq.moved {C n d : String} {A : Nat → Prop} {u U : State} {H : Heap} (hvm : u.vm.Alike U.vm) (h : vx_Zq C n d A u H) : vx_Zq C n d A U H := ⟨va_Zq.moved hvm h.1, vx_L.moved hvm h.2⟩
theorem vx_Zq.kept {C n d : String} {A : Nat → Prop} {U : State} {H H1 : Heap} (h : vx_Zq C n d A U H) (hq : ∀ a : Nat, a < H.size → ¬ A a → H1[a]? = H[a]?) : vx_Zq C n d A U H1 := ⟨va_Zq.kept h.1 hq, vx_L.kept h.2 hq⟩
theorem vx_Zq.narrow {C n d : String} {A B : Nat → Prop} {U : State} {H : Heap} (h : vx_Zq C n d A U H) (hAB : ∀ q, B q → A q) : vx_Zq C n d B U H := ⟨va_Zq.narrow h.1 hAB, vx_L.narrow h.2 hAB⟩
theorem vx_Zqof {args : Array Value} {s : State} {C n d : String} {A : Nat → Prop} (hl : (Cond.laysStatic C n d).before args s = true) (hini : (Cond.initialized C).before args s = true) (h : (Cond.isRef (.static C n d)).before args s = true) (hA : ∀ a : Nat, a < s.heap.size → ¬ A a) : vx_Zq C n d A s s.heap := by
  refine ⟨va_Zqof hl hini h hA, ?_⟩
  obtain ⟨c, k, i, f, a, cell, h1, h2, h3, h4, h5, h6, h7, h8, h9⟩ := Cond.laysStatic_spec hl
  exact ⟨c, k, i, f, a, cell, h1, h2, h3, h4, h5, h6, h7, h8, h9, hA a (Array.getElem?_eq_some_iff.mp h5).1⟩
theorem vx_isRef {C n d : String} {v : Value} {A : Nat → Prop} {s : State} {args : Array Value} (h : va_Z C n d v A s s.heap) (hv : v.isRef = true) : (Cond.isRef (.static C n d)).before args s = true := by
  obtain ⟨cf, kf, fi, f, a, cell, h1, h2, h3, h4, h5, h6, h7, -⟩ := h
  have he : (Term.static C n d).eval args s none [] s = some v := by
    simp [Term.eval, State.fieldNamed?, h1, h2, h4, h5, h6, h7]
  simp only [Cond.before, Cond.holds, Cond.value, he]
  cases v <;> simp_all [Value.isRef]
theorem vx_isRefq {C n d : String} {A : Nat → Prop} {s : State} {args : Array Value} (h : va_Zq C n d A s s.heap) : (Cond.isRef (.static C n d)).before args s = true := by
  rcases h with h | ⟨t, h⟩
  · exact vx_isRef h rfl
  · exact vx_isRef h rfl
/-- the same frame, seen from here: as if the method were called anew in this heap -/
theorem vx_rebase {T : State} (X : Stand p l e R s m args below meth c T locs cells slots) {R' : Room} (hf : R'.frames ≤ R.frames) (hl : R'.locals ≤ R.locals) (hc : cells + R'.cells ≤ R.cells) (hs : slots + R'.slots ≤ R.slots) :
    Stand p l e R' ((T.setVm s.vm).setFrames (.invoking m args :: below)) m args below meth c T [] 0 0 := by
  have htop : (T.setVm s.vm).topJava?.isSome := X.here.top
  have hF : ((T.setVm s.vm).setFrames (.invoking m args :: below)).frames = .invoking m args :: below := State.frames_setFrames _ (State.cur_lt_of_top htop)
  obtain ⟨g₀, hg0⟩ := Option.isSome_iff_exists.mp htop
  obtain ⟨r, hr⟩ := State.topJava?_eq_some.mp hg0
  have hl9 : e.platform.stackLimits (T.setVm s.vm).me = e.platform.stackLimits s.me := X.limits
  have hb9 : (T.setVm s.vm).me.stackBytes = s.me.stackBytes := X.bytes
  refine ⟨X.admits, X.cas, X.clock, hF, ?_, X.hears, X.method, X.code, X.here, X.tail, X.warmed, ?_, ?_, ?_⟩
  · have h := X.room
    have hU : ((T.setVm s.vm).setFrames (.invoking m args :: below)).localsInUse = s.localsInUse := by
      rw [State.localsInUse_invoking hF (meth := meth) (c := c) X.method X.code, State.localsInUse_invoking X.frames X.method X.code]
    simp only [State.hasRoom, Bool.and_eq_true, decide_eq_true_eq] at h ⊢
    obtain ⟨⟨⟨⟨h1, h2, h3, h4, h5, h6⟩, h7⟩, h8⟩, h9⟩ := h
    rw [X.frames, List.length_cons] at h2 h3
    have q1 := X.heapSize
    have q2 := X.used
    simp only [hF, hU, List.length_cons, State.stackLimits_setFrames, State.stackBytes_setFrames, hl9, hb9]
    refine ⟨⟨⟨⟨by omega, by omega, by omega, by omega, by omega, h6⟩, ?_⟩, ?_⟩, X.book⟩
    · show T.heap.size + R'.cells ≤ e.platform.maxCells
      omega
    · show T.slotsUsed + R'.slots ≤ e.platform.maxSlots
      omega
  · rw [State.stackLimits_setFrames]; rfl
  · rw [State.stackBytes_setFrames]; rfl
  · refine ⟨?_, Nat.le_refl _, Nat.le_refl _, ?_, ?_, fun a c9 h9 => ⟨c9, h9, rfl, rfl, fun _ _ => rfl⟩⟩
    · obtain ⟨t, ht, -⟩ := State.frames_cons hr
      show T.setVm s.vm = { ((T.setVm s.vm).setFrames (.invoking m args :: below)).setFrames (T.setVm s.vm).frames with heap := T.heap, slotsUsed := T.slotsUsed }
      rw [State.setFrames_setFrames, State.setFrames_self ht]
      rfl
    · show T.slotsUsed = T.slotsUsed + ((T.heap.toList.drop T.heap.size).map (·.slots.size)).sum
      rw [List.drop_eq_nil_of_le (Nat.le_of_eq Array.length_toList)]
      rfl
    · show ((T.heap.toList.drop T.heap.size).map (·.slots.size)).sum ≤ 0
      rw [List.drop_eq_nil_of_le (Nat.le_of_eq Array.length_toList)]
      exact Nat.le_refl _
/-- 'throw new E()': new; dup; invokespecial; athrow -/
theorem vx_throw0 {cc : ByteArray} {pc : Nat} (hexec : p.tables.exec = Jvm.exec) (hb : c.code = cc) (hl : l.stackTraces = false) {own cls : String} {names : List String} {ik ic mc ms : Nat} {A : Nat → Prop}
    (hown : s.vm.findClass own = some m.cls) (hcls : Bundle.fit cls = true) (hnames : ∀ n ∈ names, Bundle.fit n = true)
    (hk : (Cond.classLink own ik cls).before args s = true) (hini : (Cond.initialized cls).before args s = true) (hat : ∀ w ∈ vx_at0 own ic cls names, w.before args s = true)
    (hgood : ∀ w ∈ Cond.classLink own ik cls :: Cond.initialized cls :: vx_at0 own ic cls names, vx_ot w = true)
    (hU : vx_Zq Bundle.tN "UNASSIGNED_STACK" Bundle.steD A s s.heap) (hN : vx_Zq Bundle.tN "SUPPRESSED_SENTINEL" Bundle.listD A s s.heap) (hS : va_S A s.heap H locs) (hsize : ls.size = c.maxLocals)
    (d0 : decode cc pc = .ok (.new ik, 3)) (d3 : decode cc (pc + 3) = .ok (.dup, 1)) (d4 : decode cc (pc + 4) = .ok (.invokespecial ic, 3)) (d7 : decode cc (pc + 7) = .ok (.athrow, 1))
    (hout : ∀ x ∈ c.exceptionTable.toList, covers x (pc + 7) = false)
    (hRframes : names.length + 3 < R.frames) (hRlocals : (rest.map fun v => v.category).sum + (13 * (names.length + 1) + 42) ≤ R.locals) (hRcells : cells + 1 ≤ R.cells) (hRslots : slots + 6 ≤ R.slots) (hlocks : meth.locks = false)
    (hx : ∀ t : State, s.vm.Alike t.vm → H.size ≤ t.heap.size → (∀ q : Nat, q < H.size → t.heap[q]? = H[q]?) → XC cls s t)
    (hf : ∀ z ∈ locs, free z.base) (hc : cells + 1 ≤ mc) (hs : slots + 6 ≤ ms) :
    W p l e R s m args below meth c H locs cells slots (vx_MQ below Qc XC args s mc ms free) (F0 m pc ls rest) := by
  intro T hT X
  have htr : e.platform.stackTraces = false := (show e.platform.stackTraces = l.stackTraces by rw [X.admits.platform]).trans hl
  have Y := vx_rebase X (R' := { frames := R.frames, locals := R.locals, cells := 1, slots := 6 }) (Nat.le_refl _) (Nat.le_refl _) hRcells hRslots
  obtain ⟨s', hA⟩ : ∃ z, z = (T.setVm s.vm).setFrames (.invoking m args :: below) := ⟨_, rfl⟩
  rw [← hA] at Y
  have hvm : s'.vm = s.vm := by rw [hA]; rfl
  have hhp : s'.heap = H := by rw [hA]; exact hT
  have hW0 : s.WarmedH s'.vm := by rw [hvm]; exact State.WarmedH.refl s
  have hat' : ∀ w ∈ vx_at0 own ic cls names, w.before args s' = true := fun w hw => vx_ot_at hW0 hvm.symm (hgood w (List.mem_cons_of_mem _ (List.mem_cons_of_mem _ hw))) (hat w hw)
  have hk' : (Cond.classLink own ik cls).before args s' = true := vx_ot_at hW0 hvm.symm (hgood _ List.mem_cons_self) hk
  have hini' : (Cond.initialized cls).before args s' = true := vx_ot_at hW0 hvm.symm (hgood _ (List.mem_cons_of_mem _ List.mem_cons_self)) hini
  have hU' : vx_Zq Bundle.tN "UNASSIGNED_STACK" Bundle.steD A s' s'.heap := by rw [hhp]; exact vx_Zq.moved hW0.alike (hU.kept hS.2.1)
  have hN' : vx_Zq Bundle.tN "SUPPRESSED_SENTINEL" Bundle.listD A s' s'.heap := by rw [hhp]; exact vx_Zq.moved hW0.alike (hN.kept hS.2.1)
  have h : ∀ w ∈ Bundle.ownAtoms0 own ic cls names, w.before args s' = true := vx_own hat' (vx_isRefq hU'.1) (vx_isRefq hN'.1) hU'.2.word hN'.2.word
  have hown' : s'.vm.findClass own = some m.cls := by rw [hvm]; exact hown
  have hins : (Cond.instantiable cls 6).before args s' = true := h _ (by simp [Bundle.ownAtoms0])
  obtain ⟨vm₁, cX, kX, hfX, hkX, -, -, X₁, st1⟩ := Y.newCold hexec (own := own) (C := cls) (index := ik) (n := 6) hown' hk' hins hini'
    (g := F0 m pc ls rest) rfl (by rw [hb]; exact d0) (Nat.le_refl _) (Nat.le_refl _)
  generalize hT1 : (T.setVm vm₁).pushCell { cls := cX, slots := kX.instanceTypes.map defaultValue, vm := .none } = T1 at X₁ st1
  have hcat : (Value.ref T.heap.size).category = 1 := rfl
  have hcellA : T1.heap[T.heap.size]? = some (freshCell cX kX) := by rw [← hT1]; exact State.heap_pushCell_size _ _
  have d3' : decode c.code (pc + 3) = .ok (.dup, 1) := by rw [hb]; exact d3
  obtain ⟨U, hsteps, hrun, hend, hW, hsame, ce, hce, hO⟩ := X₁.ctorThrow0 hexec htr (own := own) (cls := cls) (names := names) (ic := ic) hown' hcls hnames h (fun x hx => nomatch hx) hfX hkX hcellA (by rw [hhp, hT]; exact Nat.le_refl _)
    (g := { method := m, pc := pc + 4, locals := ls, stack := .ref T.heap.size :: .ref T.heap.size :: rest, locked := none }) rfl hsize rfl rfl (rest := rest) rfl
    (by rw [hb]; exact d4) (by rw [hb]; exact d7) hout hRframes (by simp only [List.map_cons, List.sum_cons, hcat]; omega) hlocks
  obtain ⟨f1, f2⟩ := vx_frame hsame
  rw [hhp] at f1 f2
  have hWs : s.WarmedH U.vm := State.WarmedH.trans hW0 hW
  have hcl : s.vm.findClass cls = some ce.cls := by
    have h9 := hO.cls
    rw [hvm] at h9
    exact h9
  have hall : s.sameButNew ({ U with vm := s.vm } : State) locs mc ms := by
    subst hA
    obtain ⟨e1, e2⟩ := hsame
    rw [State.setFrames_setFrames] at e1
    have h2 : (T.setVm s.vm).sameButNew ({ U with vm := s.vm } : State) [] (0 + 1) (0 + 6) := ⟨e1, e2⟩
    have h3 := X.same.trans h2
    rw [List.append_nil] at h3
    exact h3.mono hc hs
  refine ⟨U, ?_, .threw T.heap.size, hrun, hend, Or.inr ⟨T.heap.size, rfl, cls, ce, locs, hx U hWs.alike f1 (fun q hq => f2 q hq (fun z hz => nomatch hz)), hce, hO.vm, hcl, hWs, hall, hf⟩⟩
  refine st1 _ ?_
  show Steps p.tables e below (T1.setTop { method := m, pc := pc + 3, locals := ls, stack := .ref T.heap.size :: rest, locked := none }) _
  jvm_step X₁.here [X₁.here.top, hexec, d3', Value.category]
  exact hsteps
/-- 'throw new E("text")': new; dup; ldc; invokespecial; athrow -/
theorem vx_throwS {cc : ByteArray} {pc : Nat} (hexec : p.tables.exec = Jvm.exec) (hb : c.code = cc) (hl : l.stackTraces = false) {own cls text : String} {names : List String} {ik is ic mc ms sa : Nat} {A : Nat → Prop}
    (hown : s.vm.findClass own = some m.cls) (hcls : Bundle.fit cls = true) (hnames : ∀ n ∈ names, Bundle.fit n = true)
    (hk : (Cond.classLink own ik cls).before args s = true) (hini : (Cond.initialized cls).before args s = true) (hstr : vk_R own is text sa s) (hat : ∀ w ∈ vx_atS own ic cls names, w.before args s = true)
    (hgood : ∀ w ∈ Cond.classLink own ik cls :: Cond.initialized cls :: vx_atS own ic cls names, vx_ot w = true)
    (hU : vx_Zq Bundle.tN "UNASSIGNED_STACK" Bundle.steD A s s.heap) (hN : vx_Zq Bundle.tN "SUPPRESSED_SENTINEL" Bundle.listD A s s.heap) (hS : va_S A s.heap H locs) (hsize : ls.size = c.maxLocals)
    (d0 : decode cc pc = .ok (.new ik, 3)) (d3 : decode cc (pc + 3) = .ok (.dup, 1)) (d4 : decode cc (pc + 4) = .ok (.ldc is, 2)) (d6 : decode cc (pc + 6) = .ok (.invokespecial ic, 3)) (d9 : decode cc (pc + 9) = .ok (.athrow, 1))
    (hout : ∀ x ∈ c.exceptionTable.toList, covers x (pc + 9) = false)
    (hRframes : names.length + 3 < R.frames) (hRlocals : (rest.map fun v => v.category).sum + (13 * (names.length + 1) + 43) ≤ R.locals) (hRcells : cells + 1 ≤ R.cells) (hRslots : slots + 6 ≤ R.slots) (hlocks : meth.locks = false)
    (hx : ∀ t : State, s.vm.Alike t.vm → H.size ≤ t.heap.size → (∀ q : Nat, q < H.size → t.heap[q]? = H[q]?) → XC cls s t)
    (hf : ∀ z ∈ locs, free z.base) (hc : cells + 1 ≤ mc) (hs : slots + 6 ≤ ms) :
    W p l e R s m args below meth c H locs cells slots (vx_MQ below Qc XC args s mc ms free) (F0 m pc ls rest) := by
  intro T hT X
  have htr : e.platform.stackTraces = false := (show e.platform.stackTraces = l.stackTraces by rw [X.admits.platform]).trans hl
  have Y := vx_rebase X (R' := { frames := R.frames, locals := R.locals, cells := 1, slots := 6 }) (Nat.le_refl _) (Nat.le_refl _) hRcells hRslots
  obtain ⟨s', hA⟩ : ∃ z, z = (T.setVm s.vm).setFrames (.invoking m args :: below) := ⟨_, rfl⟩
  rw [← hA] at Y
  have hvm : s'.vm = s.vm := by rw [hA]; rfl
  have hhp : s'.heap = H := by rw [hA]; exact hT
  have hW0 : s.WarmedH s'.vm := by rw [hvm]; exact State.WarmedH.refl s
  have hat' : ∀ w ∈ vx_atS own ic cls names, w.before args s' = true := fun w hw => vx_ot_at hW0 hvm.symm (hgood w (List.mem_cons_of_mem _ (List.mem_cons_of_mem _ hw))) (hat w hw)
  have hk' : (Cond.classLink own ik cls).before args s' = true := vx_ot_at hW0 hvm.symm (hgood _ List.mem_cons_self) hk
  have hini' : (Cond.initialized cls).before args s' = true := vx_ot_at hW0 hvm.symm (hgood _ (List.mem_cons_of_mem _ List.mem_cons_self)) hini
  have hU' : vx_Zq Bundle.tN "UNASSIGNED_STACK" Bundle.steD A s' s'.heap := by rw [hhp]; exact vx_Zq.moved hW0.alike (hU.kept hS.2.1)
  have hN' : vx_Zq Bundle.tN "SUPPRESSED_SENTINEL" Bundle.listD A s' s'.heap := by rw [hhp]; exact vx_Zq.moved hW0.alike (hN.kept hS.2.1)
  have h : ∀ w ∈ Bundle.ownAtoms own ic cls names, w.before args s' = true := vx_own hat' (vx_isRefq hU'.1) (vx_isRefq hN'.1) hU'.2.word hN'.2.word
  have hown' : s'.vm.findClass own = some m.cls := by rw [hvm]; exact hown
  have hins : (Cond.instantiable cls 6).before args s' = true := h _ (by simp [Bundle.ownAtoms])
  obtain ⟨vm₁, cX, kX, hfX, hkX, -, -, X₁, st1⟩ := Y.newCold hexec (own := own) (C := cls) (index := ik) (n := 6) hown' hk' hins hini'
    (g := F0 m pc ls rest) rfl (by rw [hb]; exact d0) (Nat.le_refl _) (Nat.le_refl _)
  generalize hT1 : (T.setVm vm₁).pushCell { cls := cX, slots := kX.instanceTypes.map defaultValue, vm := .none } = T1 at X₁ st1
  have hcat : (Value.ref T.heap.size).category = 1 := rfl
  have hcellA : T1.heap[T.heap.size]? = some (freshCell cX kX) := by rw [← hT1]; exact State.heap_pushCell_size _ _
  have d3' : decode c.code (pc + 3) = .ok (.dup, 1) := by rw [hb]; exact d3
  have d4' : decode c.code (pc + 4) = .ok (.ldc is, 2) := by rw [hb]; exact d4
  have hstr' : vk_R own is text sa s' := vk_R.warm hW0 hstr
  obtain ⟨U, hsteps, hrun, hend, hW, hsame, ce, hce, hO⟩ := X₁.ctorThrowS hexec htr (own := own) (cls := cls) (names := names) (ic := ic) hown' hcls hnames h (fun x hx => nomatch hx) hfX hkX hcellA (by rw [hhp, hT]; exact Nat.le_refl _) (msg := .ref sa) rfl
    (g := { method := m, pc := pc + 6, locals := ls, stack := .ref sa :: .ref T.heap.size :: .ref T.heap.size :: rest, locked := none }) rfl hsize rfl rfl (rest := rest) rfl
    (by rw [hb]; exact d6) (by rw [hb]; exact d9) hout hRframes (by simp only [List.map_cons, List.sum_cons, hcat]; omega) hlocks
  obtain ⟨f1, f2⟩ := vx_frame hsame
  rw [hhp] at f1 f2
  have hWs : s.WarmedH U.vm := State.WarmedH.trans hW0 hW
  have hcl : s.vm.findClass cls = some ce.cls := by
    have h9 := hO.cls
    rw [hvm] at h9
    exact h9
  have hall : s.sameButNew ({ U with vm := s.vm } : State) locs mc ms := by
    subst hA
    obtain ⟨e1, e2⟩ := hsame
    rw [State.setFrames_setFrames] at e1
    have h2 : (T.setVm s.vm).sameButNew ({ U with vm := s.vm } : State) [] (0 + 1) (0 + 6) := ⟨e1, e2⟩
    have h3 := X.same.trans h2
    rw [List.append_nil] at h3
    exact h3.mono hc hs
  refine ⟨U, ?_, .threw T.heap.size, hrun, hend, Or.inr ⟨T.heap.size, rfl, cls, ce, locs, hx U hWs.alike f1 (fun q hq => f2 q hq (fun z hz => nomatch hz)), hce, hO.vm, hcl, hWs, hall, hf⟩⟩
  refine st1 _ ?_
  show Steps p.tables e below (T1.setTop { method := m, pc := pc + 3, locals := ls, stack := .ref T.heap.size :: rest, locked := none }) _
  jvm_step X₁.here [X₁.here.top, hexec, d3', Value.category]
  exact X₁.ldcString hexec (own := own) (text := text) (index := is) (a := sa) hown' hstr'.1 hstr'.2
    (g := { method := m, pc := pc + 4, locals := ls, stack := .ref T.heap.size :: .ref T.heap.size :: rest, locked := none }) rfl d4' _ hsteps
/-- 'throw new E("text")', the text by a wide index -/
theorem vx_throwSW {cc : ByteArray} {pc : Nat} (hexec : p.tables.exec = Jvm.exec) (hb : c.code = cc) (hl : l.stackTraces = false) {own cls text : String} {names : List String} {ik is ic mc ms sa : Nat} {A : Nat → Prop}
    (hown : s.vm.findClass own = some m.cls) (hcls : Bundle.fit cls = true) (hnames : ∀ n ∈ names, Bundle.fit n = true)
    (hk : (Cond.classLink own ik cls).before args s = true) (hini : (Cond.initialized cls).before args s = true) (hstr : vk_R own is text sa s) (hat : ∀ w ∈ vx_atS own ic cls names, w.before args s = true)
    (hgood : ∀ w ∈ Cond.classLink own ik cls :: Cond.initialized cls :: vx_atS own ic cls names, vx_ot w = true)
    (hU : vx_Zq Bundle.tN "UNASSIGNED_STACK" Bundle.steD A s s.heap) (hN : vx_Zq Bundle.tN "SUPPRESSED_SENTINEL" Bundle.listD A s s.heap) (hS : va_S A s.heap H locs) (hsize : ls.size = c.maxLocals)
    (d0 : decode cc pc = .ok (.new ik, 3)) (d3 : decode cc (pc + 3) = .ok (.dup, 1)) (d4 : decode cc (pc + 4) = .ok (.ldc_w is, 3)) (d7 : decode cc (pc + 7) = .ok (.invokespecial ic, 3)) (d10 : decode cc (pc + 10) = .ok (.athrow, 1))
    (hout : ∀ x ∈ c.exceptionTable.toList, covers x (pc + 10) = false)
    (hRframes : names.length + 3 < R.frames) (hRlocals : (rest.map fun v => v.category).sum + (13 * (names.length + 1) + 43) ≤ R.locals) (hRcells : cells + 1 ≤ R.cells) (hRslots : slots + 6 ≤ R.slots) (hlocks : meth.locks = false)
    (hx : ∀ t : State, s.vm.Alike t.vm → H.size ≤ t.heap.size → (∀ q : Nat, q < H.size → t.heap[q]? = H[q]?) → XC cls s t)
    (hf : ∀ z ∈ locs, free z.base) (hc : cells + 1 ≤ mc) (hs : slots + 6 ≤ ms) :
    W p l e R s m args below meth c H locs cells slots (vx_MQ below Qc XC args s mc ms free) (F0 m pc ls rest) := by
  intro T hT X
  have htr : e.platform.stackTraces = false := (show e.platform.stackTraces = l.stackTraces by rw [X.admits.platform]).trans hl
  have Y := vx_rebase X (R' := { frames := R.frames, locals := R.locals, cells := 1, slots := 6 }) (Nat.le_refl _) (Nat.le_refl _) hRcells hRslots
  obtain ⟨s', hA⟩ : ∃ z, z = (T.setVm s.vm).setFrames (.invoking m args :: below) := ⟨_, rfl⟩
  rw [← hA] at Y
  have hvm : s'.vm = s.vm := by rw [hA]; rfl
  have hhp : s'.heap = H := by rw [hA]; exact hT
  have hW0 : s.WarmedH s'.vm := by rw [hvm]; exact State.WarmedH.refl s
  have hat' : ∀ w ∈ vx_atS own ic cls names, w.before args s' = true := fun w hw => vx_ot_at hW0 hvm.symm (hgood w (List.mem_cons_of_mem _ (List.mem_cons_of_mem _ hw))) (hat w hw)
  have hk' : (Cond.classLink own ik cls).before args s' = true := vx_ot_at hW0 hvm.symm (hgood _ List.mem_cons_self) hk
  have hini' : (Cond.initialized cls).before args s' = true := vx_ot_at hW0 hvm.symm (hgood _ (List.mem_cons_of_mem _ List.mem_cons_self)) hini
  have hU' : vx_Zq Bundle.tN "UNASSIGNED_STACK" Bundle.steD A s' s'.heap := by rw [hhp]; exact vx_Zq.moved hW0.alike (hU.kept hS.2.1)
  have hN' : vx_Zq Bundle.tN "SUPPRESSED_SENTINEL" Bundle.listD A s' s'.heap := by rw [hhp]; exact vx_Zq.moved hW0.alike (hN.kept hS.2.1)
  have h : ∀ w ∈ Bundle.ownAtoms own ic cls names, w.before args s' = true := vx_own hat' (vx_isRefq hU'.1) (vx_isRefq hN'.1) hU'.2.word hN'.2.word
  have hown' : s'.vm.findClass own = some m.cls := by rw [hvm]; exact hown
  have hins : (Cond.instantiable cls 6).before args s' = true := h _ (by simp [Bundle.ownAtoms])
  obtain ⟨vm₁, cX, kX, hfX, hkX, -, -, X₁, st1⟩ := Y.newCold hexec (own := own) (C := cls) (index := ik) (n := 6) hown' hk' hins hini'
    (g := F0 m pc ls rest) rfl (by rw [hb]; exact d0) (Nat.le_refl _) (Nat.le_refl _)
  generalize hT1 : (T.setVm vm₁).pushCell { cls := cX, slots := kX.instanceTypes.map defaultValue, vm := .none } = T1 at X₁ st1
  have hcat : (Value.ref T.heap.size).category = 1 := rfl
  have hcellA : T1.heap[T.heap.size]? = some (freshCell cX kX) := by rw [← hT1]; exact State.heap_pushCell_size _ _
  have d3' : decode c.code (pc + 3) = .ok (.dup, 1) := by rw [hb]; exact d3
  have d4' : decode c.code (pc + 4) = .ok (.ldc_w is, 3) := by rw [hb]; exact d4
  have hstr' : vk_R own is text sa s' := vk_R.warm hW0 hstr
  obtain ⟨U, hsteps, hrun, hend, hW, hsame, ce, hce, hO⟩ := X₁.ctorThrowS hexec htr (own := own) (cls := cls) (names := names) (ic := ic) hown' hcls hnames h (fun x hx => nomatch hx) hfX hkX hcellA (by rw [hhp, hT]; exact Nat.le_refl _) (msg := .ref sa) rfl
    (g := { method := m, pc := pc + 7, locals := ls, stack := .ref sa :: .ref T.heap.size :: .ref T.heap.size :: rest, locked := none }) rfl hsize rfl rfl (rest := rest) rfl
    (by rw [hb]; exact d7) (by rw [hb]; exact d10) hout hRframes (by simp only [List.map_cons, List.sum_cons, hcat]; omega) hlocks
  obtain ⟨f1, f2⟩ := vx_frame hsame
  rw [hhp] at f1 f2
  have hWs : s.WarmedH U.vm := State.WarmedH.trans hW0 hW
  have hcl : s.vm.findClass cls = some ce.cls := by
    have h9 := hO.cls
    rw [hvm] at h9
    exact h9
  have hall : s.sameButNew ({ U with vm := s.vm } : State) locs mc ms := by
    subst hA
    obtain ⟨e1, e2⟩ := hsame
    rw [State.setFrames_setFrames] at e1
    have h2 : (T.setVm s.vm).sameButNew ({ U with vm := s.vm } : State) [] (0 + 1) (0 + 6) := ⟨e1, e2⟩
    have h3 := X.same.trans h2
    rw [List.append_nil] at h3
    exact h3.mono hc hs
  refine ⟨U, ?_, .threw T.heap.size, hrun, hend, Or.inr ⟨T.heap.size, rfl, cls, ce, locs, hx U hWs.alike f1 (fun q hq => f2 q hq (fun z hz => nomatch hz)), hce, hO.vm, hcl, hWs, hall, hf⟩⟩
  refine st1 _ ?_
  show Steps p.tables e below (T1.setTop { method := m, pc := pc + 3, locals := ls, stack := .ref T.heap.size :: rest, locked := none }) _
  jvm_step X₁.here [X₁.here.top, hexec, d3', Value.category]
  exact X₁.ldcStringW hexec (own := own) (text := text) (index := is) (a := sa) hown' hstr'.1 hstr'.2
    (g := { method := m, pc := pc + 4, locals := ls, stack := .ref T.heap.size :: .ref T.heap.size :: rest, locked := none }) rfl d4' _ hsteps
end Ends
section Bodies
variable {l : Launch}
theorem vx_ofW {y : MethodName} {ws ws' : List Cond} {rm : Room} {Pc : Array Value → State → Prop} {Qc : Array Value → State → Outcome → State → Prop} {XC : String → State → State → Prop} {mc ms : Nat} {free : Addr → Prop} {cc : ByteArray} {maxL : Nat} {ret : Option FieldType}
    (hy : plainName y.cls = true) (hw : ws = Cond.code y cc maxL ret :: ws')
    (body : ∀ p e s m args below meth c s₁, BodyLoose p l y (headSpec ws rm) cc maxL ret e s m args below meth c s₁ → c.maxLocals = maxL → (∀ x ∈ c.exceptionTable.toList, False) → Pc args s →
      W p l e (headSpec ws rm).room s m args below meth c s.heap [] 0 0 (vx_MQ below Qc XC args s mc ms free) (entryFrame m args maxL)) : vx_Met l y ws rm Pc Qc XC mc ms free := by
  refine MetFree.of_bodyS (code := cc) (maxLocals := maxL) (ret := ret) hy ?_ ?_
  · intro args s m h hn
    obtain ⟨meth, c, h1, h2, h3, h4, h5, h6, -, -⟩ := Cond.code_spec hn (atoms_spec (ws := ws) h _ (by rw [hw]; exact List.mem_cons_self))
    exact ⟨meth, c, h1, h2, h3, h4, h5, h6⟩
  · intro p e s m args below meth c s₁ B hml hP _
    have hh0 : s₁.heap = s.heap := by rw [B.state]; rfl
    have ht : ∀ x ∈ c.exceptionTable.toList, False := by
      obtain ⟨meth9, c9, h1, h2, -, -, -, -, h7, -⟩ := Cond.code_spec B.named (atoms_spec (ws := ws) B.pre _ (by rw [hw]; exact List.mem_cons_self))
      cases Option.some.inj (h1.symm.trans B.method)
      cases Option.some.inj (h2.symm.trans (Stand.of_body B).code)
      intro x hx
      rw [Array.isEmpty_iff.mp h7] at hx
      cases hx
    obtain ⟨t, a1, o, b1, b2, b3⟩ := body p e s m args below meth c s₁ B hml ht hP s₁ hh0 (Stand.of_body B)
    exact ⟨t, o, a1, b1, b2, b3⟩
/-- the table of a body with handlers -/
theorem vx_table {p : Program} {x y : MethodName} {S : Spec} {cc bytes : ByteArray} {maxL maxL' : Nat} {ret ret' : Option FieldType} {e : Env} {s s₁ : State} {m : MethodId} {args : Array Value} {below : List Frame} {meth : Method} {c : Code} {hh : List (Nat × Nat × Nat × Nat)}
    (B : BodyLoose p l y S cc maxL ret e s m args below meth c s₁) (h : (Cond.codeWith y bytes maxL' ret' hh).before args s = true) : c.exceptionTable.toList = tableOf hh := by
  obtain ⟨m9, meth9, c9, hn9, h1, h2, -, -, h6, -⟩ := Cond.codeWith_spec h
  cases Option.some.inj (hn9.symm.trans B.named)
  cases Option.some.inj (h1.symm.trans B.method)
  cases Option.some.inj (h2.symm.trans (Stand.of_body B).code)
  rw [← h6, table_eq]
end Bodies
end VXA
/-! ===== END ===== -/
/-! ===== BEGIN a static call of a method with an exception table ===== -/
section VXS
variable {p : Program} {l : Launch} {e : Env} {R : Room} {s : State} {m : MethodId} {args : Array Value} {below : List Frame} {meth : Method} {c : Code} {T : State} {H : Heap} {locs : List Loc} {cells slots : Nat}
abbrev vx_CSW (R : Room) (s : State) (args : Array Value) (own : String) (index : Nat) (y : MethodName) (bytes : ByteArray) (maxL : Nat) (ret : Option FieldType) (hh : List (Nat × Nat × Nat × Nat)) (ws : List Cond) (rm : Room) (mc ms n : Nat) : Prop :=
  (rm.cells = mc ∧ rm.slots = ms ∧ rm.frames + 1 ≤ R.frames ∧ 8 + (maxL + 11) + rm.locals ≤ R.locals ∧ (∀ w ∈ ws, ∀ (a' : Array Value) (U : State), s.WarmedH U.vm → w.before a' U = true) ∧ Cond.codeWith y bytes maxL ret hh ∈ ws) ∧
  (Cond.codeWith y bytes maxL ret hh).before args s = true ∧ (Cond.initialized y.cls).before args s = true ∧ (y.cls ≠ "java/lang/invoke/MethodHandle" ∧ y.cls ≠ "java/lang/invoke/VarHandle") ∧
  (∀ sig, parseMethodDescriptor y.desc = some sig → n = sig.parameters.length) ∧ (Cond.methodLink own index y).before args s = true ∧ (Cond.static y).before args s = true
theorem vx_cwSW {own : String} {index maxL mc ms : Nat} {y : MethodName} {bytes : ByteArray} {ret : Option FieldType} {hh : List (Nat × Nat × Nat × Nat)} {Ts ws ws' : List Cond} {rm : Room} (n : Nat) (ht : ∀ w ∈ Ts, w.before args s = true) (hT : GoodIn Ts (va_wsS own index y ws)) (hw : ws = Cond.codeWith y bytes maxL ret hh :: ws') (hrc : rm.cells = mc) (hrs : rm.slots = ms)
    (hd : y.cls ≠ "java/lang/invoke/MethodHandle" ∧ y.cls ≠ "java/lang/invoke/VarHandle" ∧ (parseMethodDescriptor y.desc).map (fun d => d.parameters.length) = some n) (hR : rm.frames + 1 ≤ R.frames ∧ 8 + (maxL + 11) + rm.locals ≤ R.locals) :
    vx_CSW R s args own index y bytes maxL ret hh ws rm mc ms n := by
  have ok : ∀ w ∈ va_wsS own index y ws, w.before args s = true := fun w h => ht w (hT w h).1
  have hG : GoodIn Ts ws := fun w h => hT w (by unfold va_wsS; exact List.mem_append_right _ h)
  have hc : Cond.codeWith y bytes maxL ret hh ∈ ws := by rw [hw]; exact List.mem_cons_self
  refine ⟨⟨hrc, hrs, hR.1, hR.2, pay_in ht hG, hc⟩, ht _ (hG _ hc).1, ok _ (by simp [va_wsS]), ⟨hd.1, hd.2.1⟩, fun sig h => ?_, ok _ (by simp [va_wsS]), ok _ (by simp [va_wsS])⟩
  have h2 := hd.2.2
  rw [h] at h2
  exact (Option.some.inj h2).symm
theorem vx_callSW (X : Stand p l e R s m args below meth c T locs cells slots) (hexec : p.tables.exec = Jvm.exec) {own : String} {index : Nat} {y : MethodName} {bytes : ByteArray} {maxL : Nat} {ret : Option FieldType} {hh : List (Nat × Nat × Nat × Nat)}
    (hown : s.vm.findClass own = some m.cls) (hlink : (Cond.methodLink own index y).before args s = true) (hstat : (Cond.static y).before args s = true) (hinit : (Cond.initialized y.cls).before args s = true)
    (hcode : (Cond.codeWith y bytes maxL ret hh).before args s = true) (hy : y.cls ≠ "java/lang/invoke/MethodHandle" ∧ y.cls ≠ "java/lang/invoke/VarHandle")
    {W9 : Nat} {Pre : Pt → Array Value → Prop} {Post : Pt → Array Value → Option Value → Pt → Prop} (hK : Back l R p e below s args y 3 W9 Pre Post)
    {g : JFrame} (hg : g.method = m) (hsize : g.locals.size = c.maxLocals) {argsL rest : List Value} (hlen : ∀ sig, parseMethodDescriptor y.desc = some sig → argsL.length = sig.parameters.length)
    (hstack : g.stack = argsL.reverse ++ rest) (hW : 2 * g.monitorRoom + (rest.map fun v => v.category).sum ≤ W9) (hdg : decode c.code g.pc = .ok (.invokestatic index, 3))
    (hpre : ∀ vm₁, s.WarmedH vm₁ → Pre ⟨T.setVm vm₁, locs, cells, slots⟩ argsL.toArray) :
    ∃ (v : Option Value) (vm₁ : Vm) (B : Pt), s.WarmedH vm₁ ∧ Stand p l e R s m args below meth c B.U B.locs B.cells B.slots ∧ Post ⟨T.setVm vm₁, locs, cells, slots⟩ argsL.toArray v B ∧
      ∀ target, Steps p.tables e below (B.U.setTop { g with pc := g.pc + 3, stack := v.toList ++ rest }) target → Steps p.tables e below (T.setTop g) target := by
  obtain ⟨mk, methM, cM, hnamed, hmethM, -, -, -, -, -, -, hsigM⟩ := Cond.codeWith_spec hcode
  have hstatic : methM.isStatic = true := Cond.static_spec hnamed hmethM hstat
  obtain ⟨kP, hkP, -⟩ := className_of_methodNamed hnamed
  have hinitP : kP.init = .initialized := Cond.initialized_spec (findClass_of_methodNamed hnamed) hkP hinit
  obtain ⟨vm₁, X₁, hstep₁⟩ := X.invokestatic hexec hown hlink hnamed hmethM hstatic hkP hinitP hy (g := g) hg (argsL := argsL) (rest := rest) (hlen _ hsigM) hstack hdg
  obtain ⟨v, B, X', hpost, hsteps⟩ := hK m meth c ⟨T.setVm vm₁, locs, cells, slots⟩ { g with stack := rest } (.invokestatic index) mk argsL.toArray X₁ hg hsize hdg hW (X₁.named hnamed) (hpre vm₁ X₁.warmed)
  exact ⟨v, vm₁, B, X₁.warmed, X', hpost, fun target h => hstep₁ _ fun acts => by rw [doInvoke_state]; exact hsteps.trans h⟩
theorem vx_runSW {y : MethodName} {bytes cc : ByteArray} {maxL nL mc ms n index : Nat} {ret : Option FieldType} {hh : List (Nat × Nat × Nat × Nat)} {ws : List Cond} {rm : Room} {Pc : Array Value → State → Prop} {Qc : Array Value → State → Outcome → State → Prop} {free : Addr → Prop} {Ts : List Cond} {own : String} {As rest : List Value} {g : JFrame}
    (S : CallFix p m c cc nL s args Ts own) (hM : Met l y ws rm Pc Qc mc ms free) (cw : vx_CSW R s args own index y bytes maxL ret hh ws rm mc ms n) (hp : PreS s H Pc As)
    (hg : g.method = m) (hn : As.length = n) (hsize : g.locals.size = nL) (hstack : g.stack = As.reverse ++ rest) (hW : 2 * g.monitorRoom + (rest.map fun v => v.category).sum ≤ 8) (hdg : decode cc g.pc = .ok (.invokestatic index, 3)) (hf : cells + mc ≤ R.cells ∧ slots + ms ≤ R.slots) :
    va_Run p l e R s m args below meth c H locs cells slots mc ms g rest (Qc As.toArray) (free) := by
  obtain ⟨⟨hrc, hrs, hfr, hlo, hws, hcw⟩, hcode, hini, hy, hlen, hl, hstt⟩ := cw
  have hK : Back l R p e below s args y 3 8 (PreOf R mc ms Pc) (PostOf Qc mc ms free) := va_backW (hh := hh) (bytes := bytes) (maxL := maxL) (ret := ret) hM hp.1 hrc hrs hfr hlo hws hcw (fun a' U hW => word_at hW (Or.inl (by first | rfl | simp [Cond.onTables, Cond.keeps, Cond.steady])) hini)
  obtain ⟨hx, hb, hml, ho, -⟩ := S
  intro T hT X
  obtain ⟨v, vm₁, ⟨U', l2, c2, s2⟩, hW₁, X', ⟨g', mk, t, L, e1, e2, hq, h1, hL, h2, h3⟩, st⟩ := vx_callSW X hx (hh := hh) (bytes := bytes) (maxL := maxL) (ret := ret) ho hl hstt hini hcode hy hK hg (hsize.trans hml.symm) (argsL := As) (rest := rest) (fun sig h => hn.trans (hlen sig h)) hstack hW (by rw [hb]; exact hdg)
    (fun vm₁ hW₁ => ⟨hf.1, hf.2, hp.2 (T.setVm vm₁) hT hW₁⟩)
  dsimp only [Pt.U, Pt.locs, Pt.cells, Pt.slots] at X' e1 e2 h1 h2 h3 st
  subst h1; subst h2; subst h3
  exact ⟨v, (T.setVm vm₁).calling g' mk As.toArray, t, U', L, hT, X', hL, e1, e2, hq, st⟩
/-- a thing of a world lies in the heap -/
theorem vx_lt {D : va_G} {cl : List vw_C} {ws : va_W} {H1 : Heap} (h : va_P D cl ws H1) {k : Nat} {q : Nat × va_E} (hk : ws[k]? = some q) : q.1 < H1.size := (h k q hk).lt
end VXS
/-! ===== END ===== -/
/-! ===== BEGIN methods with a table of their own: called by a name, returning or throwing ===== -/
section VXH
/-! vx_backW, vx_callVX, vx_callSX, vx_callVW, vx_runVW, vx_runVX, vx_runSX, vx_ofWH follow the same proofs as their sisters above (Free/Laws.lean, Shelf42/LK1.lean); vx_outP calls Shelf42/NT130.lean (outThrough). -/
section
variable {l : Launch} {R : Room} {p : Program} {e : Env} {below : List Frame} {s : State} {sargs : Array Value} {y : MethodName} {len W9 : Nat}
theorem vx_backW {ws : List Cond} {rm : Room} {Pc : Array Value → State → Prop} {Qc : Array Value → State → Outcome → State → Prop} {XC : String → State → State → Prop} {mc ms : Nat} {free : Addr → Prop} {bytes : ByteArray} {maxL : Nat} {ret : Option FieldType} {hh : List (Nat × Nat × Nat × Nat)}
    (hM : vx_Met l y ws rm Pc Qc XC mc ms free) (hblind : FrameBlind Pc) (hrc : rm.cells = mc) (hrs : rm.slots = ms)
    (hframes : rm.frames + 1 ≤ R.frames) (hlocals : W9 + (maxL + 11) + rm.locals ≤ R.locals)
    (hws : ∀ w ∈ ws, ∀ a' U, s.WarmedH U.vm → w.before a' U = true) (hcode : Cond.codeWith y bytes maxL ret hh ∈ ws) (hinit : ∀ a' U, s.WarmedH U.vm → (Cond.initialized y.cls).before a' U = true) :
    vx_Back l R p e below s sargs y len W9 (PreOf R mc ms Pc) (PostOf Qc mc ms free) (vx_Post XC mc ms free) := by
  intro m meth c A g ig mk a X hg hsize hdg hW hn hp
  have h1 : (headSpec ws rm).pre.before a A.U = true := atoms_intro fun w hw => hws w hw _ _ X.warmed
  have h2 : (Cond.codeWith y bytes maxL ret hh).before a A.U = true := hws _ hcode _ _ X.warmed
  have h3 : (Cond.initialized y.cls).before a A.U = true := hinit _ _ X.warmed
  have h4 : A.cells + (headSpec ws rm).room.cells ≤ R.cells := by rw [show (headSpec ws rm).room.cells = mc from hrc]; exact hp.1
  have h5 : A.slots + (headSpec ws rm).room.slots ≤ R.slots := by rw [show (headSpec ws rm).room.slots = ms from hrs]; exact hp.2.1
  have hPc : Pc a (A.U.calling g mk a) := hblind _ _ _ _ hp.2.2
  obtain ⟨U, Ls, c0, s0⟩ := A
  dsimp only [Pt.U, Pt.locs, Pt.cells, Pt.slots] at h1 h2 h3 h4 h5 X hn hPc ⊢
  obtain ⟨m9, methY, cY, hn9, hmY, hcY, -, hlY, -⟩ := Cond.codeWith_spec h2
  cases Option.some.inj (hn9.symm.trans hn)
  obtain ⟨kY, hkY, -⟩ := className_of_methodNamed hn
  have hinitY : kY.init = .initialized := Cond.initialized_spec (findClass_of_methodNamed hn) hkY h3
  have h : At U g.method c below := by rw [hg]; exact X.here
  have hlocals9 : W9 + (maxL + 11) + (headSpec ws rm).room.locals ≤ R.locals := hlocals
  have happ : (headSpec ws rm).appliesLoose y e.platform (U.calling g mk a) = true :=
    Spec.appliesLoose_calling (g := g) h hdg hn hkY hinitY
      (X.room_calling (g := g) (R' := (headSpec ws rm).room) hsize hmY hcY hframes (by rw [hlY]; omega) h4 h5) h1
  obtain ⟨mid, hmid⟩ := h.above
  have hfr : (U.setTop g).frames = (.java g :: mid) ++ below := by rw [State.frames_setTop' g h.top, hmid]; rfl
  obtain ⟨o, s₂, hsteps, -, hend, hq⟩ := Steps.callFree hM p X.admits X.cas X.clock (acts := []) hfr happ hPc trivial
  have hq' : vx_Q Qc XC mc ms free a (U.calling g mk a) o s₂ := hq
  rw [State.frames_setTop' g h.top] at hend
  obtain ⟨g₀, hg0⟩ := Option.isSome_iff_exists.mp h.top
  obtain ⟨r, hr⟩ := State.topJava?_eq_some.mp hg0
  have hr' : (({ U with heap := s₂.heap, slotsUsed := s₂.slotsUsed } : State).setVm s₂.vm).frames = .java g₀ :: r := hr
  rcases hq' with ⟨hqc, L, hfe, hL⟩ | ⟨q, rfl, E, ce, L, hx, hce, hcv, hcl, hW₂, hsm, hL⟩
  · obtain ⟨⟨v, rfl⟩, hW₂, e2, q2, q3, q4, q5, q6⟩ := id hfe
    have e3 : s₂ = ({ (U.calling g mk a).setFrames s₂.frames with heap := s₂.heap, slotsUsed := s₂.slotsUsed } : State).setVm s₂.vm := by
      have : s₂ = ({ s₂ with vm := (U.calling g mk a).vm } : State).setVm s₂.vm := rfl
      rw [e2] at this
      exact this
    obtain ⟨c₂, i₂, len₂, hc₂, hd₂, hf₂⟩ := hend
    have hW' : U.WarmedH s₂.vm := hW₂
    have hcc : c₂ = c := by
      have h1 : s₂.code? g.method = U.code? g.method := by
        rw [State.code?_eq, State.code?_eq, hW'.alike.method?]
      exact Option.some.inj (hc₂.symm.trans (h1.trans h.code))
    subst hcc
    have hlen : len₂ = len := by rw [hdg] at hd₂; cases hd₂; rfl
    subst hlen
    have hs₂ : s₂ = (({ U with heap := s₂.heap, slotsUsed := s₂.slotsUsed } : State).setVm s₂.vm).setTop { g with pc := g.pc + len₂, stack := v.toList ++ g.stack } := by
      refine e3.trans ?_
      rw [hf₂, State.calling_eq h.top, State.setFrames_setFrames, State.setTop_of_frames _ hr', hr]
      rfl
    have hsame : U.sameButNew ({ U with heap := s₂.heap, slotsUsed := s₂.slotsUsed } : State) L mc ms := by
      refine ⟨?_, q2, q3, q4, q5, q6⟩
      obtain ⟨t, ht, -⟩ := State.frames_cons hr
      show ({ U with heap := s₂.heap, slotsUsed := s₂.slotsUsed } : State) = { U.setFrames U.frames with heap := s₂.heap, slotsUsed := s₂.slotsUsed }
      rw [State.setFrames_self ht]
    subst hg
    refine Or.inl ⟨v, ⟨(({ U with heap := s₂.heap, slotsUsed := s₂.slotsUsed } : State).setVm s₂.vm), Ls ++ L, c0 + mc, s0 + ms⟩,
      ⟨X.admits, X.cas, X.clock, X.frames, X.room, X.hears, X.method, X.code, (X.here.setHeapUsed s₂.heap s₂.slotsUsed).setVm hW'.alike, X.tail, State.WarmedH.trans X.warmed hW', X.limits, X.bytes, X.same.trans (hsame.setVm s.vm)⟩,
      ⟨g, mk, s₂, L, rfl, rfl, hqc, rfl, hL, rfl, rfl⟩, ?_⟩
    show Steps p.tables e below _ ((({ U with heap := s₂.heap, slotsUsed := s₂.slotsUsed } : State).setVm s₂.vm).setTop { g with pc := g.pc + len₂, stack := v.toList ++ g.stack })
    rw [← hs₂]
    exact hsteps
  · obtain ⟨e2, q2, q3, q4, q5, q6⟩ := id hsm
    have e3 : s₂ = ({ (U.calling g mk a).setFrames s₂.frames with heap := s₂.heap, slotsUsed := s₂.slotsUsed } : State).setVm s₂.vm := by
      have : s₂ = ({ s₂ with vm := (U.calling g mk a).vm } : State).setVm s₂.vm := rfl
      rw [e2] at this
      exact this
    have hf₂ : s₂.frames = .throwing q :: .java g :: U.frames.tail := hend
    have hW' : U.WarmedH s₂.vm := hW₂
    have hs₂ : s₂ = ((({ U with heap := s₂.heap, slotsUsed := s₂.slotsUsed } : State).setVm s₂.vm).setTop g).pushFrame (.throwing q) := by
      refine e3.trans ?_
      rw [hf₂, State.calling_eq h.top, State.setFrames_setFrames, State.pushFrame, State.frames_setTop _ hr', State.setTop_of_frames _ hr', State.setFrames_setFrames, hr]
      rfl
    have hsame : U.sameButNew ({ U with heap := s₂.heap, slotsUsed := s₂.slotsUsed } : State) L mc ms := by
      refine ⟨?_, q2, q3, q4, q5, q6⟩
      obtain ⟨t, ht, -⟩ := State.frames_cons hr
      show ({ U with heap := s₂.heap, slotsUsed := s₂.slotsUsed } : State) = { U.setFrames U.frames with heap := s₂.heap, slotsUsed := s₂.slotsUsed }
      rw [State.setFrames_self ht]
    subst hg
    refine Or.inr ⟨q, ⟨(({ U with heap := s₂.heap, slotsUsed := s₂.slotsUsed } : State).setVm s₂.vm), Ls ++ L, c0 + mc, s0 + ms⟩,
      ⟨X.admits, X.cas, X.clock, X.frames, X.room, X.hears, X.method, X.code, (X.here.setHeapUsed s₂.heap s₂.slotsUsed).setVm hW'.alike, X.tail, State.WarmedH.trans X.warmed hW', X.limits, X.bytes, X.same.trans (hsame.setVm s.vm)⟩,
      ⟨g, mk, s₂, L, E, ce, rfl, rfl, hx, hce, hcv, hcl, rfl, hL, rfl, rfl⟩, ?_⟩
    show Steps p.tables e below _ (((({ U with heap := s₂.heap, slotsUsed := s₂.slotsUsed } : State).setVm s₂.vm).setTop g).pushFrame (.throwing q))
    rw [← hs₂]
    exact hsteps
end
variable {p : Program} {l : Launch} {e : Env} {R : Room} {s : State} {m : MethodId} {args : Array Value} {below : List Frame} {meth : Method} {c : Code} {T : State} {H : Heap} {locs : List Loc} {cells slots : Nat}
theorem vx_callVX (X : Stand p l e R s m args below meth c T locs cells slots) (hexec : p.tables.exec = Jvm.exec) {own C : String} {index : Nat} {y : MethodName} {bytes : ByteArray} {maxL : Nat} {ret : Option FieldType} {hh : List (Nat × Nat × Nat × Nat)}
    (hown : s.vm.findClass own = some m.cls) (hlink : (Cond.methodLink own index y).before args s = true) (hinst : (Cond.instanceMethod y).before args s = true) (hsel : (Cond.selects C y y).before args s = true)
    (hcode : (Cond.codeWith y bytes maxL ret hh).before args s = true) (hy : y.cls ≠ "java/lang/invoke/MethodHandle" ∧ y.cls ≠ "java/lang/invoke/VarHandle")
    {W9 : Nat} {Pre : Pt → Array Value → Prop} {Post : Pt → Array Value → Option Value → Pt → Prop} {PostX : Pt → Array Value → Addr → Pt → Prop} (hK : vx_Back l R p e below s args y 3 W9 Pre Post PostX)
    {b : Addr} {cellB : Cell} (hcell : T.heap[b]? = some cellB) (hobj : cellB.vm.isStatics = false) (hcls : s.vm.findClass C = some cellB.cls)
    {g : JFrame} (hg : g.method = m) (hsize : g.locals.size = c.maxLocals) {argsL rest : List Value} (hlen : ∀ sig, parseMethodDescriptor y.desc = some sig → argsL.length = sig.parameters.length)
    (hstack : g.stack = argsL.reverse ++ .ref b :: rest) (hW : 2 * g.monitorRoom + (rest.map fun v => v.category).sum ≤ W9) (hdg : decode c.code g.pc = .ok (.invokevirtual index, 3))
    (hpre : ∀ vm₁, s.WarmedH vm₁ → Pre ⟨T.setVm vm₁, locs, cells, slots⟩ (Value.ref b :: argsL).toArray) :
    (∃ (v : Option Value) (vm₁ : Vm) (B : Pt), s.WarmedH vm₁ ∧ Stand p l e R s m args below meth c B.U B.locs B.cells B.slots ∧ Post ⟨T.setVm vm₁, locs, cells, slots⟩ (Value.ref b :: argsL).toArray v B ∧
      ∀ target, Steps p.tables e below (B.U.setTop { g with pc := g.pc + 3, stack := v.toList ++ rest }) target → Steps p.tables e below (T.setTop g) target) ∨
    (∃ (q : Addr) (vm₁ : Vm) (B : Pt), s.WarmedH vm₁ ∧ Stand p l e R s m args below meth c B.U B.locs B.cells B.slots ∧ PostX ⟨T.setVm vm₁, locs, cells, slots⟩ (Value.ref b :: argsL).toArray q B ∧
      Steps p.tables e below (T.setTop g) ((B.U.setTop { g with stack := rest }).pushFrame (.throwing q))) := by
  obtain ⟨mk, methM, hnamed, hmethM, hstM, habM⟩ := Cond.instanceMethod_spec hinst
  obtain ⟨m8, methM', cM, hn8, hmethM', -, -, -, -, -, -, hsigM⟩ := Cond.codeWith_spec hcode
  cases Option.some.inj (hn8.symm.trans hnamed)
  cases hmethM.symm.trans hmethM'
  obtain ⟨c2, r2, m2, q1, q2, q3, q4, kP, hkP, hkPi⟩ := Cond.selects_spec hsel
  cases hcls.symm.trans q1
  cases (State.methodFound?_of_named hnamed hy).symm.trans q2
  cases hnamed.symm.trans q3
  have hselP : selectMethod e.platform s.vm cellB.cls mk = .method mk := by rw [Launch.admits_selectMethod X.admits]; exact q4
  obtain ⟨vm₁, X₁, hstep₁⟩ := X.invokevirtual hexec hown hlink hnamed hmethM hstM hkP hkPi hy (a := b) (cell := cellB) hcell
    (fun z h => by rw [h] at hobj; cases hobj) hselP hmethM habM hkP hkPi (g := g) hg (argsL := argsL) (rest := rest) (hlen _ hsigM) hstack hdg
  rcases hK m meth c ⟨T.setVm vm₁, locs, cells, slots⟩ { g with stack := rest } (.invokevirtual index) mk (Value.ref b :: argsL).toArray X₁ hg hsize hdg hW (X₁.named hnamed) (hpre vm₁ X₁.warmed) with ⟨v, B, X', hpost, hsteps⟩ | ⟨q, B, X', hpost, hsteps⟩
  · exact Or.inl ⟨v, vm₁, B, X₁.warmed, X', hpost, fun target h => hstep₁ _ fun acts => by rw [doInvoke_state]; exact hsteps.trans h⟩
  · exact Or.inr ⟨q, vm₁, B, X₁.warmed, X', hpost, hstep₁ _ fun acts => by rw [doInvoke_state]; exact hsteps⟩
theorem vx_callSX (X : Stand p l e R s m args below meth c T locs cells slots) (hexec : p.tables.exec = Jvm.exec) {own : String} {index : Nat} {y : MethodName} {bytes : ByteArray} {maxL : Nat} {ret : Option FieldType} {hh : List (Nat × Nat × Nat × Nat)}
    (hown : s.vm.findClass own = some m.cls) (hlink : (Cond.methodLink own index y).before args s = true) (hstat : (Cond.static y).before args s = true) (hinit : (Cond.initialized y.cls).before args s = true)
    (hcode : (Cond.codeWith y bytes maxL ret hh).before args s = true) (hy : y.cls ≠ "java/lang/invoke/MethodHandle" ∧ y.cls ≠ "java/lang/invoke/VarHandle")
    {W9 : Nat} {Pre : Pt → Array Value → Prop} {Post : Pt → Array Value → Option Value → Pt → Prop} {PostX : Pt → Array Value → Addr → Pt → Prop} (hK : vx_Back l R p e below s args y 3 W9 Pre Post PostX)
    {g : JFrame} (hg : g.method = m) (hsize : g.locals.size = c.maxLocals) {argsL rest : List Value} (hlen : ∀ sig, parseMethodDescriptor y.desc = some sig → argsL.length = sig.parameters.length)
    (hstack : g.stack = argsL.reverse ++ rest) (hW : 2 * g.monitorRoom + (rest.map fun v => v.category).sum ≤ W9) (hdg : decode c.code g.pc = .ok (.invokestatic index, 3))
    (hpre : ∀ vm₁, s.WarmedH vm₁ → Pre ⟨T.setVm vm₁, locs, cells, slots⟩ argsL.toArray) :
    (∃ (v : Option Value) (vm₁ : Vm) (B : Pt), s.WarmedH vm₁ ∧ Stand p l e R s m args below meth c B.U B.locs B.cells B.slots ∧ Post ⟨T.setVm vm₁, locs, cells, slots⟩ argsL.toArray v B ∧
      ∀ target, Steps p.tables e below (B.U.setTop { g with pc := g.pc + 3, stack := v.toList ++ rest }) target → Steps p.tables e below (T.setTop g) target) ∨
    (∃ (q : Addr) (vm₁ : Vm) (B : Pt), s.WarmedH vm₁ ∧ Stand p l e R s m args below meth c B.U B.locs B.cells B.slots ∧ PostX ⟨T.setVm vm₁, locs, cells, slots⟩ argsL.toArray q B ∧
      Steps p.tables e below (T.setTop g) ((B.U.setTop { g with stack := rest }).pushFrame (.throwing q))) := by
  obtain ⟨mk, methM, cM, hnamed, hmethM, -, -, -, -, -, -, hsigM⟩ := Cond.codeWith_spec hcode
  have hstatic : methM.isStatic = true := Cond.static_spec hnamed hmethM hstat
  obtain ⟨kP, hkP, -⟩ := className_of_methodNamed hnamed
  have hinitP : kP.init = .initialized := Cond.initialized_spec (findClass_of_methodNamed hnamed) hkP hinit
  obtain ⟨vm₁, X₁, hstep₁⟩ := X.invokestatic hexec hown hlink hnamed hmethM hstatic hkP hinitP hy (g := g) hg (argsL := argsL) (rest := rest) (hlen _ hsigM) hstack hdg
  rcases hK m meth c ⟨T.setVm vm₁, locs, cells, slots⟩ { g with stack := rest } (.invokestatic index) mk argsL.toArray X₁ hg hsize hdg hW (X₁.named hnamed) (hpre vm₁ X₁.warmed) with ⟨v, B, X', hpost, hsteps⟩ | ⟨q, B, X', hpost, hsteps⟩
  · exact Or.inl ⟨v, vm₁, B, X₁.warmed, X', hpost, fun target h => hstep₁ _ fun acts => by rw [doInvoke_state]; exact hsteps.trans h⟩
  · exact Or.inr ⟨q, vm₁, B, X₁.warmed, X', hpost, hstep₁ _ fun acts => by rw [doInvoke_state]; exact hsteps⟩
theorem vx_callVW (X : Stand p l e R s m args below meth c T locs cells slots) (hexec : p.tables.exec = Jvm.exec) {own C : String} {index : Nat} {y : MethodName} {bytes : ByteArray} {maxL : Nat} {ret : Option FieldType} {hh : List (Nat × Nat × Nat × Nat)}
    (hown : s.vm.findClass own = some m.cls) (hlink : (Cond.methodLink own index y).before args s = true) (hinst : (Cond.instanceMethod y).before args s = true) (hsel : (Cond.selects C y y).before args s = true)
    (hcode : (Cond.codeWith y bytes maxL ret hh).before args s = true) (hy : y.cls ≠ "java/lang/invoke/MethodHandle" ∧ y.cls ≠ "java/lang/invoke/VarHandle")
    {W9 : Nat} {Pre : Pt → Array Value → Prop} {Post : Pt → Array Value → Option Value → Pt → Prop} (hK : Back l R p e below s args y 3 W9 Pre Post)
    {b : Addr} {cellB : Cell} (hcell : T.heap[b]? = some cellB) (hobj : cellB.vm.isStatics = false) (hcls : s.vm.findClass C = some cellB.cls)
    {g : JFrame} (hg : g.method = m) (hsize : g.locals.size = c.maxLocals) {argsL rest : List Value} (hlen : ∀ sig, parseMethodDescriptor y.desc = some sig → argsL.length = sig.parameters.length)
    (hstack : g.stack = argsL.reverse ++ .ref b :: rest) (hW : 2 * g.monitorRoom + (rest.map fun v => v.category).sum ≤ W9) (hdg : decode c.code g.pc = .ok (.invokevirtual index, 3))
    (hpre : ∀ vm₁, s.WarmedH vm₁ → Pre ⟨T.setVm vm₁, locs, cells, slots⟩ (Value.ref b :: argsL).toArray) :
    ∃ (v : Option Value) (vm₁ : Vm) (B : Pt), s.WarmedH vm₁ ∧ Stand p l e R s m args below meth c B.U B.locs B.cells B.slots ∧ Post ⟨T.setVm vm₁, locs, cells, slots⟩ (Value.ref b :: argsL).toArray v B ∧
      ∀ target, Steps p.tables e below (B.U.setTop { g with pc := g.pc + 3, stack := v.toList ++ rest }) target → Steps p.tables e below (T.setTop g) target := by
  obtain ⟨mk, methM, hnamed, hmethM, hstM, habM⟩ := Cond.instanceMethod_spec hinst
  obtain ⟨m8, methM', cM, hn8, hmethM', -, -, -, -, -, -, hsigM⟩ := Cond.codeWith_spec hcode
  cases Option.some.inj (hn8.symm.trans hnamed)
  cases hmethM.symm.trans hmethM'
  obtain ⟨c2, r2, m2, q1, q2, q3, q4, kP, hkP, hkPi⟩ := Cond.selects_spec hsel
  cases hcls.symm.trans q1
  cases (State.methodFound?_of_named hnamed hy).symm.trans q2
  cases hnamed.symm.trans q3
  have hselP : selectMethod e.platform s.vm cellB.cls mk = .method mk := by rw [Launch.admits_selectMethod X.admits]; exact q4
  obtain ⟨vm₁, X₁, hstep₁⟩ := X.invokevirtual hexec hown hlink hnamed hmethM hstM hkP hkPi hy (a := b) (cell := cellB) hcell
    (fun z h => by rw [h] at hobj; cases hobj) hselP hmethM habM hkP hkPi (g := g) hg (argsL := argsL) (rest := rest) (hlen _ hsigM) hstack hdg
  obtain ⟨v, B, X', hpost, hsteps⟩ := hK m meth c ⟨T.setVm vm₁, locs, cells, slots⟩ { g with stack := rest } (.invokevirtual index) mk (Value.ref b :: argsL).toArray X₁ hg hsize hdg hW (X₁.named hnamed) (hpre vm₁ X₁.warmed)
  exact ⟨v, vm₁, B, X₁.warmed, X', hpost, fun target h => hstep₁ _ fun acts => by rw [doInvoke_state]; exact hsteps.trans h⟩
abbrev vx_CVW (R : Room) (s : State) (args : Array Value) (own C : String) (index : Nat) (y : MethodName) (bytes : ByteArray) (maxL : Nat) (ret : Option FieldType) (hh : List (Nat × Nat × Nat × Nat)) (ws : List Cond) (rm : Room) (mc ms n : Nat) : Prop :=
  (rm.cells = mc ∧ rm.slots = ms ∧ rm.frames + 1 ≤ R.frames ∧ 8 + (maxL + 11) + rm.locals ≤ R.locals ∧ (∀ w ∈ ws, ∀ (a' : Array Value) (U : State), s.WarmedH U.vm → w.before a' U = true) ∧ Cond.codeWith y bytes maxL ret hh ∈ ws) ∧
  (Cond.codeWith y bytes maxL ret hh).before args s = true ∧ (Cond.initialized y.cls).before args s = true ∧ (y.cls ≠ "java/lang/invoke/MethodHandle" ∧ y.cls ≠ "java/lang/invoke/VarHandle") ∧
  (∀ sig, parseMethodDescriptor y.desc = some sig → n = sig.parameters.length) ∧ (Cond.methodLink own index y).before args s = true ∧ (Cond.instanceMethod y).before args s = true ∧ (Cond.selects C y y).before args s = true
theorem vx_cwVW {own C : String} {index maxL mc ms : Nat} {y : MethodName} {bytes : ByteArray} {ret : Option FieldType} {hh : List (Nat × Nat × Nat × Nat)} {Ts ws ws' : List Cond} {rm : Room} (n : Nat) (ht : ∀ w ∈ Ts, w.before args s = true) (hT : GoodIn Ts (wsV own index C y ws)) (hw : ws = Cond.codeWith y bytes maxL ret hh :: ws') (hrc : rm.cells = mc) (hrs : rm.slots = ms)
    (hd : y.cls = C ∧ y.cls ≠ "java/lang/invoke/MethodHandle" ∧ y.cls ≠ "java/lang/invoke/VarHandle" ∧ (parseMethodDescriptor y.desc).map (fun d => d.parameters.length) = some n) (hR : rm.frames + 1 ≤ R.frames ∧ 8 + (maxL + 11) + rm.locals ≤ R.locals) :
    vx_CVW R s args own C index y bytes maxL ret hh ws rm mc ms n := by
  obtain ⟨hC, hd⟩ := hd
  subst hC
  have ok : ∀ w ∈ wsV own index y.cls y ws, w.before args s = true := fun w h => ht w (hT w h).1
  have hG : GoodIn Ts ws := fun w h => hT w (by unfold wsV; exact List.mem_append_right _ h)
  have hc : Cond.codeWith y bytes maxL ret hh ∈ ws := by rw [hw]; exact List.mem_cons_self
  refine ⟨⟨hrc, hrs, hR.1, hR.2, pay_in ht hG, hc⟩, ht _ (hG _ hc).1, ok _ (by simp [wsV]), ⟨hd.1, hd.2.1⟩, fun sig h => ?_, ok _ (by simp [wsV]), ok _ (by simp [wsV]), ok _ (by simp [wsV])⟩
  have h2 := hd.2.2
  rw [h] at h2
  exact (Option.some.inj h2).symm
theorem vx_runVW {y : MethodName} {bytes cc : ByteArray} {maxL nL mc ms n index : Nat} {ret : Option FieldType} {hh : List (Nat × Nat × Nat × Nat)} {ws : List Cond} {rm : Room} {Pc : Array Value → State → Prop} {Qc : Array Value → State → Outcome → State → Prop} {free : Addr → Prop} {Ts : List Cond} {own C : String} {b : Addr} {As rest : List Value} {g : JFrame}
    (S : CallFix p m c cc nL s args Ts own) (hM : Met l y ws rm Pc Qc mc ms free) (cw : vx_CVW R s args own C index y bytes maxL ret hh ws rm mc ms n) (hp : PreV s H C b Pc As)
    (hg : g.method = m) (hn : As.length = n) (hsize : g.locals.size = nL) (hstack : g.stack = As.reverse ++ .ref b :: rest) (hW : 2 * g.monitorRoom + (rest.map fun v => v.category).sum ≤ 8) (hdg : decode cc g.pc = .ok (.invokevirtual index, 3)) (hf : cells + mc ≤ R.cells ∧ slots + ms ≤ R.slots) :
    va_Run p l e R s m args below meth c H locs cells slots mc ms g rest (Qc (Value.ref b :: As).toArray) free := by
  obtain ⟨⟨hrc, hrs, hfr, hlo, hws, hcw⟩, hcode, hini, hy, hlen, hl, hin, hse⟩ := cw
  have hK : Back l R p e below s args y 3 8 (PreOf R mc ms Pc) (PostOf Qc mc ms free) := va_backW (hh := hh) (bytes := bytes) (maxL := maxL) (ret := ret) hM hp.1 hrc hrs hfr hlo hws hcw (fun a' U hW => word_at hW (Or.inl (by first | rfl | simp [Cond.onTables, Cond.keeps, Cond.steady])) hini)
  obtain ⟨hx, hb, hml, ho, -⟩ := S
  obtain ⟨-, ⟨cellB, hcB, hoB, hclB⟩, hPc⟩ := hp
  intro T hT X
  obtain ⟨v, vm₁, ⟨U', l2, c2, s2⟩, hW₁, X', ⟨g', mk, t, L, e1, e2, hq, h1, hL, h2, h3⟩, st⟩ := vx_callVW X hx (C := C) (hh := hh) (bytes := bytes) (maxL := maxL) (ret := ret) ho hl hin hse hcode hy hK (by rw [hT]; exact hcB) hoB hclB hg (hsize.trans hml.symm) (argsL := As) (rest := rest) (fun sig h => hn.trans (hlen sig h)) hstack hW (by rw [hb]; exact hdg)
    (fun vm₁ hW₁ => ⟨hf.1, hf.2, hPc (T.setVm vm₁) hT hW₁⟩)
  dsimp only [Pt.U, Pt.locs, Pt.cells, Pt.slots] at X' e1 e2 h1 h2 h3 st
  subst h1; subst h2; subst h3
  exact ⟨v, (T.setVm vm₁).calling g' mk (Value.ref b :: As).toArray, t, U', L, hT, X', hL, e1, e2, hq, st⟩
section
variable {y : MethodName} {bytes cc : ByteArray} {maxL nL mc ms n index : Nat} {ret : Option FieldType} {ws : List Cond} {rm : Room} {Pc : Array Value → State → Prop} {Qc : Array Value → State → Outcome → State → Prop} {XC : String → State → State → Prop} {free : Addr → Prop} {Ts : List Cond} {own C : String} {b : Addr} {As rest : List Value} {g : JFrame}
theorem vx_runVX {hh : List (Nat × Nat × Nat × Nat)} (S : CallFix p m c cc nL s args Ts own) (hM : vx_Met l y ws rm Pc Qc XC mc ms free) (cw : vx_CVW R s args own C index y bytes maxL ret hh ws rm mc ms n) (hp : PreV s H C b Pc As)
    (hg : g.method = m) (hn : As.length = n) (hsize : g.locals.size = nL) (hstack : g.stack = As.reverse ++ .ref b :: rest) (hW : 2 * g.monitorRoom + (rest.map fun v => v.category).sum ≤ 8) (hdg : decode cc g.pc = .ok (.invokevirtual index, 3)) (hf : cells + mc ≤ R.cells ∧ slots + ms ≤ R.slots) :
    vx_Run p l e R s m args below meth c H locs cells slots mc ms g rest (Qc (Value.ref b :: As).toArray) XC free := by
  obtain ⟨⟨hrc, hrs, hfr, hlo, hws, hcw⟩, hcode, hini, hy, hlen, hl, hin, hse⟩ := cw
  have hK : vx_Back l R p e below s args y 3 8 (PreOf R mc ms Pc) (PostOf Qc mc ms free) (vx_Post XC mc ms free) := vx_backW (hh := hh) (bytes := bytes) (maxL := maxL) (ret := ret) hM hp.1 hrc hrs hfr hlo hws hcw (fun a' U hW => word_at hW (Or.inl (by first | rfl | simp [Cond.onTables, Cond.keeps, Cond.steady])) hini)
  obtain ⟨hx, hb, hml, ho, -⟩ := S
  obtain ⟨-, ⟨cellB, hcB, hoB, hclB⟩, hPc⟩ := hp
  intro T hT X
  rcases vx_callVX X hx (C := C) (hh := hh) (bytes := bytes) (maxL := maxL) (ret := ret) ho hl hin hse hcode hy hK (by rw [hT]; exact hcB) hoB hclB hg (hsize.trans hml.symm) (argsL := As) (rest := rest) (fun sig h => hn.trans (hlen sig h)) hstack hW (by rw [hb]; exact hdg)
    (fun vm₁ hW₁ => ⟨hf.1, hf.2, hPc (T.setVm vm₁) hT hW₁⟩) with ⟨v, vm₁, ⟨U', l2, c2, s2⟩, hW₁, X', ⟨g', mk, t, L, e1, e2, hq, h1, hL, h2, h3⟩, st⟩ | ⟨q, vm₁, ⟨U', l2, c2, s2⟩, hW₁, X', ⟨g', mk, t, L, E, ce, e1, e2, hq, hce, hcv, hcl, h1, hL, h2, h3⟩, st⟩
  · dsimp only [Pt.U, Pt.locs, Pt.cells, Pt.slots] at X' e1 e2 h1 h2 h3 st
    subst h1; subst h2; subst h3
    exact Or.inl ⟨v, (T.setVm vm₁).calling g' mk (Value.ref b :: As).toArray, t, U', L, hT, X', hL, e1, e2, hq, st⟩
  · dsimp only [Pt.U, Pt.locs, Pt.cells, Pt.slots] at X' e1 e2 h1 h2 h3 st hcl
    subst h1; subst h2; subst h3
    exact Or.inr ⟨q, (T.setVm vm₁).calling g' mk (Value.ref b :: As).toArray, t, U', L, E, ce, hT, X', hL, e1, e2, hq, hce, hcv, vx_cls hW₁ hcl, st⟩
theorem vx_runSX {hh : List (Nat × Nat × Nat × Nat)} (S : CallFix p m c cc nL s args Ts own) (hM : vx_Met l y ws rm Pc Qc XC mc ms free) (cw : vx_CSW R s args own index y bytes maxL ret hh ws rm mc ms n) (hp : PreS s H Pc As)
    (hg : g.method = m) (hn : As.length = n) (hsize : g.locals.size = nL) (hstack : g.stack = As.reverse ++ rest) (hW : 2 * g.monitorRoom + (rest.map fun v => v.category).sum ≤ 8) (hdg : decode cc g.pc = .ok (.invokestatic index, 3)) (hf : cells + mc ≤ R.cells ∧ slots + ms ≤ R.slots) :
    vx_Run p l e R s m args below meth c H locs cells slots mc ms g rest (Qc As.toArray) XC free := by
  obtain ⟨⟨hrc, hrs, hfr, hlo, hws, hcw⟩, hcode, hini, hy, hlen, hl, hstt⟩ := cw
  have hK : vx_Back l R p e below s args y 3 8 (PreOf R mc ms Pc) (PostOf Qc mc ms free) (vx_Post XC mc ms free) := vx_backW (hh := hh) (bytes := bytes) (maxL := maxL) (ret := ret) hM hp.1 hrc hrs hfr hlo hws hcw (fun a' U hW => word_at hW (Or.inl (by first | rfl | simp [Cond.onTables, Cond.keeps, Cond.steady])) hini)
  obtain ⟨hx, hb, hml, ho, -⟩ := S
  intro T hT X
  rcases vx_callSX X hx (hh := hh) (bytes := bytes) (maxL := maxL) (ret := ret) ho hl hstt hini hcode hy hK hg (hsize.trans hml.symm) (argsL := As) (rest := rest) (fun sig h => hn.trans (hlen sig h)) hstack hW (by rw [hb]; exact hdg)
    (fun vm₁ hW₁ => ⟨hf.1, hf.2, hp.2 (T.setVm vm₁) hT hW₁⟩) with ⟨v, vm₁, ⟨U', l2, c2, s2⟩, hW₁, X', ⟨g', mk, t, L, e1, e2, hq, h1, hL, h2, h3⟩, st⟩ | ⟨q, vm₁, ⟨U', l2, c2, s2⟩, hW₁, X', ⟨g', mk, t, L, E, ce, e1, e2, hq, hce, hcv, hcl, h1, hL, h2, h3⟩, st⟩
  · dsimp only [Pt.U, Pt.locs, Pt.cells, Pt.slots] at X' e1 e2 h1 h2 h3 st
    subst h1; subst h2; subst h3
    exact Or.inl ⟨v, (T.setVm vm₁).calling g' mk As.toArray, t, U', L, hT, X', hL, e1, e2, hq, st⟩
  · dsimp only [Pt.U, Pt.locs, Pt.cells, Pt.slots] at X' e1 e2 h1 h2 h3 st hcl
    subst h1; subst h2; subst h3
    exact Or.inr ⟨q, (T.setVm vm₁).calling g' mk As.toArray, t, U', L, E, ce, hT, X', hL, e1, e2, hq, hce, hcv, vx_cls hW₁ hcl, st⟩
end
end VXH
theorem vx_ofWH {l : Launch} {y : MethodName} {ws ws' : List Cond} {rm : Room} {Pc : Array Value → State → Prop} {Qc : Array Value → State → Outcome → State → Prop} {XC : String → State → State → Prop} {mc ms : Nat} {free : Addr → Prop} {cc : ByteArray} {maxL : Nat} {ret : Option FieldType} {hh : List (Nat × Nat × Nat × Nat)}
    (hy : plainName y.cls = true) (hw : ws = Cond.codeWith y cc maxL ret hh :: ws')
    (body : ∀ p e s m args below meth c s₁, BodyLoose p l y (headSpec ws rm) cc maxL ret e s m args below meth c s₁ → c.maxLocals = maxL → Pc args s →
      W p l e (headSpec ws rm).room s m args below meth c s.heap [] 0 0 (vx_MQ below Qc XC args s mc ms free) (entryFrame m args maxL)) : vx_Met l y ws rm Pc Qc XC mc ms free := by
  refine MetFree.of_bodyS (code := cc) (maxLocals := maxL) (ret := ret) hy ?_ ?_
  · intro args s m h hn
    obtain ⟨m9, meth, c, hn9, h1, h2, h3, h4, -, h5, h6, -⟩ := Cond.codeWith_spec (atoms_spec (ws := ws) h _ (by rw [hw]; exact List.mem_cons_self))
    cases hn.symm.trans hn9
    exact ⟨meth, c, h1, h2, h3, h4, h5, h6⟩
  · intro p e s m args below meth c s₁ B hml hP _
    have hh0 : s₁.heap = s.heap := by rw [B.state]; rfl
    obtain ⟨t, a1, o, b1, b2, b3⟩ := body p e s m args below meth c s₁ B hml hP s₁ hh0 (Stand.of_body B)
    exact ⟨t, o, a1, b1, b2, b3⟩
/-! ===== END ===== -/
end
section
def RX0 : String := "LedgerMachine$Block"
def TX0 : u_T := fun k => match k with
  | 0 => ("LedgerMachine$Block", "parent", "I", true)
  | 1 => ("LedgerMachine$Block", "height", "I", true)
  | 2 => ("LedgerMachine$Block", "leaves", "[J", true)
  | 3 => ("LedgerMachine$Block", "receipts", "[J", true)
  | 4 => ("LedgerMachine$Block", "events", "[J", true)
  | 5 => ("LedgerMachine$Block", "gasUsed", "I", true)
  | _ => ("LedgerMachine$Block", "weightsFor", "I", false)
def tyX0 : Nat → FieldType := fun k => match k with
  | 0 => .int
  | 1 => .int
  | 2 => .array .long
  | 3 => .array .long
  | 4 => .array .long
  | 5 => .int
  | _ => .int
abbrev wsX00 : List Cond := u_ws RX0 TX0 7
theorem nmX0 : ∀ a, a < 7 → ∀ b, b < 7 → a ≠ b → (TX0 a).2.1 ≠ (TX0 b).2.1 := by decide +kernel
theorem tyX0_ok : ∀ k, k < 7 → parseFieldDescriptor (TX0 k).2.2.1 = some (tyX0 k) := by decide +kernel
abbrev cX0_init : ByteArray := prog_2_method_1_code
def yX0_init : MethodName := ⟨RX0, "<init>", "(II[J[J[JI)V"⟩
def RX1 : String := "LedgerMachine$Call"
def TX1 : u_T := fun k => match k with
  | 0 => ("LedgerMachine$Call", "caller", "I", false)
  | 1 => ("LedgerMachine$Call", "to", "J", false)
  | 2 => ("LedgerMachine$Call", "value", "J", false)
  | 3 => ("LedgerMachine$Call", "argument", "J", false)
  | 4 => ("LedgerMachine$Call", "gas", "I", false)
  | _ => ("LedgerMachine$Call", "isLook", "Z", false)
def tyX1 : Nat → FieldType := fun k => match k with
  | 0 => .int
  | 1 => .long
  | 2 => .long
  | 3 => .long
  | 4 => .int
  | _ => .boolean
abbrev wsX10 : List Cond := u_ws RX1 TX1 6
theorem nmX1 : ∀ a, a < 6 → ∀ b, b < 6 → a ≠ b → (TX1 a).2.1 ≠ (TX1 b).2.1 := by decide +kernel
theorem tyX1_ok : ∀ k, k < 6 → parseFieldDescriptor (TX1 k).2.2.1 = some (tyX1 k) := by decide +kernel
abbrev cX1_init : ByteArray := prog_3_method_1_code
def yX1_init : MethodName := ⟨RX1, "<init>", "()V"⟩
abbrev cX1_set : ByteArray := prog_3_method_2_code
def yX1_set : MethodName := ⟨RX1, "set", "(IJJJIZ)V"⟩
def RX2 : String := "LedgerMachine$Code"
def TX2 : u_T := fun k => match k with
  | _ => ("LedgerMachine$Code", "octets", "[B", true)
def tyX2 : Nat → FieldType := fun k => match k with
  | _ => .array .byte
abbrev wsX20 : List Cond := u_ws RX2 TX2 1
theorem nmX2 : ∀ a, a < 1 → ∀ b, b < 1 → a ≠ b → (TX2 a).2.1 ≠ (TX2 b).2.1 := by decide +kernel
theorem tyX2_ok : ∀ k, k < 1 → parseFieldDescriptor (TX2 k).2.2.1 = some (tyX2 k) := by decide +kernel
abbrev cX2_init : ByteArray := prog_4_method_1_code
def yX2_init : MethodName := ⟨RX2, "<init>", "([B)V"⟩
abbrev cX2_octetAt : ByteArray := prog_4_method_2_code
def yX2_octetAt : MethodName := ⟨RX2, "octetAt", "(I)I"⟩
abbrev cX2_numberAt : ByteArray := prog_4_method_3_code
def yX2_numberAt : MethodName := ⟨RX2, "numberAt", "(I)J"⟩
abbrev cX2_octetsBehind : ByteArray := prog_4_method_4_code
def yX2_octetsBehind : MethodName := ⟨RX2, "octetsBehind", "(I)I"⟩
def RX3 : String := "LedgerMachine$CodeBook"
def TX3 : u_T := fun k => match k with
  | 0 => ("LedgerMachine$CodeBook", "codes", "[LLedgerMachine$Code;", true)
  | _ => ("LedgerMachine$CodeBook", "count", "I", false)
def tyX3 : Nat → FieldType := fun k => match k with
  | 0 => .array (.object "LedgerMachine$Code")
  | _ => .int
abbrev wsX30 : List Cond := u_ws RX3 TX3 2
theorem nmX3 : ∀ a, a < 2 → ∀ b, b < 2 → a ≠ b → (TX3 a).2.1 ≠ (TX3 b).2.1 := by decide +kernel
theorem tyX3_ok : ∀ k, k < 2 → parseFieldDescriptor (TX3 k).2.2.1 = some (tyX3 k) := by decide +kernel
abbrev cX3_init : ByteArray := prog_5_method_1_code
def yX3_init : MethodName := ⟨RX3, "<init>", "()V"⟩
abbrev cX3_isFull : ByteArray := prog_5_method_2_code
def yX3_isFull : MethodName := ⟨RX3, "isFull", "()Z"⟩
abbrev cX3_has : ByteArray := prog_5_method_3_code
def yX3_has : MethodName := ⟨RX3, "has", "(J)Z"⟩
abbrev cX3_add : ByteArray := prog_5_method_4_code
def yX3_add : MethodName := ⟨RX3, "add", "(LLedgerMachine$Code;)I"⟩
def RX4 : String := "LedgerMachine$Draft"
def TX4 : u_T := fun k => match k with
  | 0 => ("LedgerMachine$Draft", "octets", "[B", true)
  | 1 => ("LedgerMachine$Draft", "begins", "[Z", true)
  | _ => ("LedgerMachine$Draft", "size", "I", false)
def tyX4 : Nat → FieldType := fun k => match k with
  | 0 => .array .byte
  | 1 => .array .boolean
  | _ => .int
abbrev wsX40 : List Cond := u_ws RX4 TX4 3
theorem nmX4 : ∀ a, a < 3 → ∀ b, b < 3 → a ≠ b → (TX4 a).2.1 ≠ (TX4 b).2.1 := by decide +kernel
theorem tyX4_ok : ∀ k, k < 3 → parseFieldDescriptor (TX4 k).2.2.1 = some (tyX4 k) := by decide +kernel
abbrev cX4_init : ByteArray := prog_6_method_1_code
def yX4_init : MethodName := ⟨RX4, "<init>", "()V"⟩
abbrev cX4_hasRoomFor : ByteArray := prog_6_method_2_code
def yX4_hasRoomFor : MethodName := ⟨RX4, "hasRoomFor", "(I)Z"⟩
abbrev cX4_append : ByteArray := prog_6_method_3_code
def yX4_append : MethodName := ⟨RX4, "append", "(IJ)I"⟩
abbrev cX4_take : ByteArray := prog_6_method_4_code
def yX4_take : MethodName := ⟨RX4, "take", "()[B"⟩
abbrev cX4_fault : ByteArray := prog_6_method_5_code
def yX4_fault : MethodName := ⟨RX4, "fault", "()I"⟩
abbrev cX4_firstActThatIsNone : ByteArray := prog_6_method_6_code
def yX4_firstActThatIsNone : MethodName := ⟨RX4, "firstActThatIsNone", "()I"⟩
abbrev cX4_actSize : ByteArray := prog_6_method_7_code
def yX4_actSize : MethodName := ⟨RX4, "actSize", "(I)I"⟩
abbrev cX4_firstLostJump : ByteArray := prog_6_method_8_code
def yX4_firstLostJump : MethodName := ⟨RX4, "firstLostJump", "()I"⟩
abbrev cX4_isBegun : ByteArray := prog_6_method_9_code
def yX4_isBegun : MethodName := ⟨RX4, "isBegun", "(I)Z"⟩
def RX5 : String := "LedgerMachine$EventLog"
def TX5 : u_T := fun k => match k with
  | 0 => ("LedgerMachine$EventLog", "rows", "[J", true)
  | 1 => ("LedgerMachine$EventLog", "count", "I", false)
  | _ => ("LedgerMachine$EventLog", "order", "I", false)
def tyX5 : Nat → FieldType := fun k => match k with
  | 0 => .array .long
  | 1 => .int
  | _ => .int
abbrev wsX50 : List Cond := u_ws RX5 TX5 3
theorem nmX5 : ∀ a, a < 3 → ∀ b, b < 3 → a ≠ b → (TX5 a).2.1 ≠ (TX5 b).2.1 := by decide +kernel
theorem tyX5_ok : ∀ k, k < 3 → parseFieldDescriptor (TX5 k).2.2.1 = some (tyX5 k) := by decide +kernel
abbrev cX5_init : ByteArray := prog_7_method_1_code
def yX5_init : MethodName := ⟨RX5, "<init>", "()V"⟩
abbrev cX5_clear : ByteArray := prog_7_method_2_code
def yX5_clear : MethodName := ⟨RX5, "clear", "()V"⟩
abbrev cX5_beginOrder : ByteArray := prog_7_method_3_code
def yX5_beginOrder : MethodName := ⟨RX5, "beginOrder", "(I)V"⟩
abbrev cX5_add : ByteArray := prog_7_method_4_code
def yX5_add : MethodName := ⟨RX5, "add", "(IJJ)V"⟩
abbrev cX5_backTo : ByteArray := prog_7_method_5_code
def yX5_backTo : MethodName := ⟨RX5, "backTo", "(I)V"⟩
abbrev cX5_copyRows : ByteArray := prog_7_method_6_code
def yX5_copyRows : MethodName := ⟨RX5, "copyRows", "()[J"⟩
def RX6 : String := "LedgerMachine$Frame"
def TX6 : u_T := fun k => match k with
  | 0 => ("LedgerMachine$Frame", "stack", "[J", true)
  | 1 => ("LedgerMachine$Frame", "leavesBefore", "[J", true)
  | 2 => ("LedgerMachine$Frame", "eventsBefore", "I", false)
  | 3 => ("LedgerMachine$Frame", "giveBackBefore", "I", false)
  | 4 => ("LedgerMachine$Frame", "size", "I", false)
  | 5 => ("LedgerMachine$Frame", "code", "LLedgerMachine$Code;", false)
  | 6 => ("LedgerMachine$Frame", "place", "I", false)
  | 7 => ("LedgerMachine$Frame", "operandPlace", "I", false)
  | 8 => ("LedgerMachine$Frame", "gas", "I", false)
  | 9 => ("LedgerMachine$Frame", "account", "I", false)
  | 10 => ("LedgerMachine$Frame", "caller", "I", false)
  | 11 => ("LedgerMachine$Frame", "value", "J", false)
  | 12 => ("LedgerMachine$Frame", "argument", "J", false)
  | 13 => ("LedgerMachine$Frame", "isLook", "Z", false)
  | _ => ("LedgerMachine$Frame", "hasLock", "Z", false)
def tyX6 : Nat → FieldType := fun k => match k with
  | 0 => .array .long
  | 1 => .array .long
  | 2 => .int
  | 3 => .int
  | 4 => .int
  | 5 => .object "LedgerMachine$Code"
  | 6 => .int
  | 7 => .int
  | 8 => .int
  | 9 => .int
  | 10 => .int
  | 11 => .long
  | 12 => .long
  | 13 => .boolean
  | _ => .boolean
abbrev wsX60 : List Cond := u_ws RX6 TX6 15
theorem nmX6 : ∀ a, a < 15 → ∀ b, b < 15 → a ≠ b → (TX6 a).2.1 ≠ (TX6 b).2.1 := by decide +kernel
theorem tyX6_ok : ∀ k, k < 15 → parseFieldDescriptor (TX6 k).2.2.1 = some (tyX6 k) := by decide +kernel
abbrev cX6_init : ByteArray := prog_8_method_1_code
def yX6_init : MethodName := ⟨RX6, "<init>", "()V"⟩
abbrev cX6_begin : ByteArray := prog_8_method_2_code
def yX6_begin : MethodName := ⟨RX6, "begin", "(LLedgerMachine$Call;LLedgerMachine$Code;)V"⟩
abbrev cX6_nextAct : ByteArray := prog_8_method_3_code
def yX6_nextAct : MethodName := ⟨RX6, "nextAct", "()I"⟩
abbrev cX6_operand : ByteArray := prog_8_method_4_code
def yX6_operand : MethodName := ⟨RX6, "operand", "()I"⟩
abbrev cX6_pays : ByteArray := prog_8_method_5_code
def yX6_pays : MethodName := ⟨RX6, "pays", "(I)Z"⟩
abbrev cX6_giveGas : ByteArray := prog_8_method_6_code
def yX6_giveGas : MethodName := ⟨RX6, "giveGas", "(J)I"⟩
abbrev cX6_fits : ByteArray := prog_8_method_7_code
def yX6_fits : MethodName := ⟨RX6, "fits", "(I)Z"⟩
abbrev cX6_leavesOneMore : ByteArray := prog_8_method_8_code
def yX6_leavesOneMore : MethodName := ⟨RX6, "leavesOneMore", "(I)Z"⟩
abbrev cX6_push : ByteArray := prog_8_method_9_code
def yX6_push : MethodName := ⟨RX6, "push", "(J)V"⟩
abbrev cX6_pop : ByteArray := prog_8_method_10_code
def yX6_pop : MethodName := ⟨RX6, "pop", "()J"⟩
abbrev cX6_arrange : ByteArray := prog_8_method_11_code
def yX6_arrange : MethodName := ⟨RX6, "arrange", "(I)V"⟩
abbrev cX6_swap : ByteArray := prog_8_method_12_code
def yX6_swap : MethodName := ⟨RX6, "swap", "(II)V"⟩
abbrev cX6_reckon : ByteArray := prog_8_method_13_code
def yX6_reckon : MethodName := ⟨RX6, "reckon", "(I)I"⟩
abbrev cX6_joined : ByteArray := prog_8_method_14_code
def yX6_joined : MethodName := ⟨RX6, "joined", "(IJJ)J"⟩
abbrev cX6_jump : ByteArray := prog_8_method_15_code
def yX6_jump : MethodName := ⟨RX6, "jump", "()V"⟩
def RX7 : String := "LedgerMachine$Machine"
def TX7 : u_T := fun k => match k with
  | 0 => ("LedgerMachine$Machine", "book", "LLedgerMachine$CodeBook;", true)
  | 1 => ("LedgerMachine$Machine", "state", "LLedgerMachine$State;", true)
  | 2 => ("LedgerMachine$Machine", "events", "LLedgerMachine$EventLog;", true)
  | 3 => ("LedgerMachine$Machine", "next", "LLedgerMachine$Call;", true)
  | 4 => ("LedgerMachine$Machine", "frames", "[LLedgerMachine$Frame;", true)
  | 5 => ("LedgerMachine$Machine", "depth", "I", false)
  | 6 => ("LedgerMachine$Machine", "height", "I", false)
  | 7 => ("LedgerMachine$Machine", "origin", "I", false)
  | 8 => ("LedgerMachine$Machine", "giveBack", "I", false)
  | 9 => ("LedgerMachine$Machine", "framesRun", "I", false)
  | 10 => ("LedgerMachine$Machine", "ending", "I", false)
  | 11 => ("LedgerMachine$Machine", "answer", "J", false)
  | _ => ("LedgerMachine$Machine", "gasLeft", "I", false)
def tyX7 : Nat → FieldType := fun k => match k with
  | 0 => .object "LedgerMachine$CodeBook"
  | 1 => .object "LedgerMachine$State"
  | 2 => .object "LedgerMachine$EventLog"
  | 3 => .object "LedgerMachine$Call"
  | 4 => .array (.object "LedgerMachine$Frame")
  | 5 => .int
  | 6 => .int
  | 7 => .int
  | 8 => .int
  | 9 => .int
  | 10 => .int
  | 11 => .long
  | _ => .int
abbrev wsX70 : List Cond := u_ws RX7 TX7 13
theorem nmX7 : ∀ a, a < 13 → ∀ b, b < 13 → a ≠ b → (TX7 a).2.1 ≠ (TX7 b).2.1 := by decide +kernel
theorem tyX7_ok : ∀ k, k < 13 → parseFieldDescriptor (TX7 k).2.2.1 = some (tyX7 k) := by decide +kernel
abbrev cX7_init : ByteArray := prog_9_method_1_code
def yX7_init : MethodName := ⟨RX7, "<init>", "()V"⟩
abbrev cX7_load : ByteArray := prog_9_method_2_code
def yX7_load : MethodName := ⟨RX7, "load", "([JI)V"⟩
abbrev cX7_run : ByteArray := prog_9_method_3_code
def yX7_run : MethodName := ⟨RX7, "run", "(IIJJIZ)V"⟩
abbrev cX7_changesState : ByteArray := prog_9_method_4_code
def yX7_changesState : MethodName := ⟨RX7, "changesState", "(I)Z"⟩
abbrev cX7_begin : ByteArray := prog_9_method_5_code
def yX7_begin : MethodName := ⟨RX7, "begin", "()V"⟩
abbrev cX7_fails : ByteArray := prog_9_method_6_code
def yX7_fails : MethodName := ⟨RX7, "fails", "()Z"⟩
abbrev cX7_hasLock : ByteArray := prog_9_method_7_code
def yX7_hasLock : MethodName := ⟨RX7, "hasLock", "(I)Z"⟩
abbrev cX7_hasFrame : ByteArray := prog_9_method_8_code
def yX7_hasFrame : MethodName := ⟨RX7, "hasFrame", "(I)Z"⟩
abbrev cX7_remember : ByteArray := prog_9_method_9_code
def yX7_remember : MethodName := ⟨RX7, "remember", "(LLedgerMachine$Frame;)V"⟩
abbrev cX7_undo : ByteArray := prog_9_method_10_code
def yX7_undo : MethodName := ⟨RX7, "undo", "(LLedgerMachine$Frame;)V"⟩
abbrev cX7_finish : ByteArray := prog_9_method_11_code
def yX7_finish : MethodName := ⟨RX7, "finish", "(LLedgerMachine$Frame;I)V"⟩
abbrev cX7_end : ByteArray := prog_9_method_12_code
def yX7_end : MethodName := ⟨RX7, "end", "(IJI)V"⟩
abbrev cX7_perform : ByteArray := prog_9_method_13_code
def yX7_perform : MethodName := ⟨RX7, "perform", "(LLedgerMachine$Frame;I)I"⟩
abbrev cX7_endWith : ByteArray := prog_9_method_14_code
def yX7_endWith : MethodName := ⟨RX7, "endWith", "(IJ)I"⟩
abbrev cX7_tell : ByteArray := prog_9_method_15_code
def yX7_tell : MethodName := ⟨RX7, "tell", "(LLedgerMachine$Frame;I)I"⟩
abbrev cX7_known : ByteArray := prog_9_method_16_code
def yX7_known : MethodName := ⟨RX7, "known", "(LLedgerMachine$Frame;I)J"⟩
abbrev cX7_loadCell : ByteArray := prog_9_method_17_code
def yX7_loadCell : MethodName := ⟨RX7, "loadCell", "(LLedgerMachine$Frame;)I"⟩
abbrev cX7_storeCell : ByteArray := prog_9_method_18_code
def yX7_storeCell : MethodName := ⟨RX7, "storeCell", "(LLedgerMachine$Frame;JJ)I"⟩
abbrev cX7_prepareCall : ByteArray := prog_9_method_19_code
def yX7_prepareCall : MethodName := ⟨RX7, "prepareCall", "(LLedgerMachine$Frame;)I"⟩
abbrev cX7_prepareLook : ByteArray := prog_9_method_20_code
def yX7_prepareLook : MethodName := ⟨RX7, "prepareLook", "(LLedgerMachine$Frame;)I"⟩
abbrev cX7_make : ByteArray := prog_9_method_21_code
def yX7_make : MethodName := ⟨RX7, "make", "(LLedgerMachine$Frame;JJ)I"⟩
abbrev cX7_leastFreeAccount : ByteArray := prog_9_method_22_code
def yX7_leastFreeAccount : MethodName := ⟨RX7, "leastFreeAccount", "()I"⟩
abbrev cX7_become : ByteArray := prog_9_method_23_code
def yX7_become : MethodName := ⟨RX7, "become", "(LLedgerMachine$Frame;J)I"⟩
abbrev cX7_emit : ByteArray := prog_9_method_24_code
def yX7_emit : MethodName := ⟨RX7, "emit", "(LLedgerMachine$Frame;JJ)I"⟩
abbrev cX7_close : ByteArray := prog_9_method_25_code
def yX7_close : MethodName := ⟨RX7, "close", "(LLedgerMachine$Frame;J)I"⟩
def RX8 : String := "LedgerMachine$Order"
def TX8 : u_T := fun k => match k with
  | 0 => ("LedgerMachine$Order", "from", "I", true)
  | 1 => ("LedgerMachine$Order", "to", "I", true)
  | 2 => ("LedgerMachine$Order", "value", "J", true)
  | 3 => ("LedgerMachine$Order", "argument", "J", true)
  | 4 => ("LedgerMachine$Order", "gas", "I", true)
  | 5 => ("LedgerMachine$Order", "price", "I", true)
  | _ => ("LedgerMachine$Order", "nonce", "I", true)
def tyX8 : Nat → FieldType := fun k => match k with
  | 0 => .int
  | 1 => .int
  | 2 => .long
  | 3 => .long
  | 4 => .int
  | 5 => .int
  | _ => .int
abbrev wsX80 : List Cond := u_ws RX8 TX8 7
theorem nmX8 : ∀ a, a < 7 → ∀ b, b < 7 → a ≠ b → (TX8 a).2.1 ≠ (TX8 b).2.1 := by decide +kernel
theorem tyX8_ok : ∀ k, k < 7 → parseFieldDescriptor (TX8 k).2.2.1 = some (tyX8 k) := by decide +kernel
abbrev cX8_init : ByteArray := prog_10_method_1_code
def yX8_init : MethodName := ⟨RX8, "<init>", "(IIJJIII)V"⟩
abbrev cX8_priceOf : ByteArray := prog_10_method_2_code
def yX8_priceOf : MethodName := ⟨RX8, "priceOf", "(I)J"⟩
def RX9 : String := "LedgerMachine$State"
def TX9 : u_T := fun k => match k with
  | _ => ("LedgerMachine$State", "leaves", "[J", true)
def tyX9 : Nat → FieldType := fun k => match k with
  | _ => .array .long
abbrev wsX90 : List Cond := u_ws RX9 TX9 1
theorem nmX9 : ∀ a, a < 1 → ∀ b, b < 1 → a ≠ b → (TX9 a).2.1 ≠ (TX9 b).2.1 := by decide +kernel
theorem tyX9_ok : ∀ k, k < 1 → parseFieldDescriptor (TX9 k).2.2.1 = some (tyX9 k) := by decide +kernel
abbrev cX9_init : ByteArray := prog_11_method_1_code
def yX9_init : MethodName := ⟨RX9, "<init>", "()V"⟩
abbrev cX9_loadFrom : ByteArray := prog_11_method_2_code
def yX9_loadFrom : MethodName := ⟨RX9, "loadFrom", "([J)V"⟩
abbrev cX9_saveTo : ByteArray := prog_11_method_3_code
def yX9_saveTo : MethodName := ⟨RX9, "saveTo", "([J)V"⟩
abbrev cX9_copyLeaves : ByteArray := prog_11_method_4_code
def yX9_copyLeaves : MethodName := ⟨RX9, "copyLeaves", "()[J"⟩
abbrev cX9_balanceOf : ByteArray := prog_11_method_5_code
def yX9_balanceOf : MethodName := ⟨RX9, "balanceOf", "(I)J"⟩
abbrev cX9_addToBalance : ByteArray := prog_11_method_6_code
def yX9_addToBalance : MethodName := ⟨RX9, "addToBalance", "(IJ)V"⟩
abbrev cX9_move : ByteArray := prog_11_method_7_code
def yX9_move : MethodName := ⟨RX9, "move", "(IIJ)V"⟩
abbrev cX9_nonceOf : ByteArray := prog_11_method_8_code
def yX9_nonceOf : MethodName := ⟨RX9, "nonceOf", "(I)J"⟩
abbrev cX9_raiseNonce : ByteArray := prog_11_method_9_code
def yX9_raiseNonce : MethodName := ⟨RX9, "raiseNonce", "(I)V"⟩
abbrev cX9_codeOf : ByteArray := prog_11_method_10_code
def yX9_codeOf : MethodName := ⟨RX9, "codeOf", "(I)J"⟩
abbrev cX9_setCode : ByteArray := prog_11_method_11_code
def yX9_setCode : MethodName := ⟨RX9, "setCode", "(IJ)V"⟩
abbrev cX9_cellOf : ByteArray := prog_11_method_12_code
def yX9_cellOf : MethodName := ⟨RX9, "cellOf", "(II)J"⟩
abbrev cX9_setCell : ByteArray := prog_11_method_13_code
def yX9_setCell : MethodName := ⟨RX9, "setCell", "(IIJ)V"⟩
abbrev cX9_clearCells : ByteArray := prog_11_method_14_code
def yX9_clearCells : MethodName := ⟨RX9, "clearCells", "(I)V"⟩
abbrev cX9_isEmpty : ByteArray := prog_11_method_15_code
def yX9_isEmpty : MethodName := ⟨RX9, "isEmpty", "(I)Z"⟩
def RX10 : String := "LedgerMachine"
def TX10 : u_T := fun k => match k with
  | 0 => ("LedgerMachine", "draft", "LLedgerMachine$Draft;", true)
  | 1 => ("LedgerMachine", "machine", "LLedgerMachine$Machine;", true)
  | 2 => ("LedgerMachine", "orders", "[LLedgerMachine$Order;", true)
  | 3 => ("LedgerMachine", "orderCount", "I", false)
  | 4 => ("LedgerMachine", "blocks", "[LLedgerMachine$Block;", true)
  | 5 => ("LedgerMachine", "blockCount", "I", false)
  | 6 => ("LedgerMachine", "weights", "[I", true)
  | 7 => ("LedgerMachine", "votedHeights", "[J", true)
  | 8 => ("LedgerMachine", "besides", "[J", true)
  | 9 => ("LedgerMachine", "viewEnding", "I", false)
  | 10 => ("LedgerMachine", "viewGas", "I", false)
  | _ => ("LedgerMachine", "viewFrames", "I", false)
def tyX10 : Nat → FieldType := fun k => match k with
  | 0 => .object "LedgerMachine$Draft"
  | 1 => .object "LedgerMachine$Machine"
  | 2 => .array (.object "LedgerMachine$Order")
  | 3 => .int
  | 4 => .array (.object "LedgerMachine$Block")
  | 5 => .int
  | 6 => .array .int
  | 7 => .array .long
  | 8 => .array .long
  | 9 => .int
  | 10 => .int
  | _ => .int
abbrev wsX100 : List Cond := u_ws RX10 TX10 12
theorem nmX10 : ∀ a, a < 12 → ∀ b, b < 12 → a ≠ b → (TX10 a).2.1 ≠ (TX10 b).2.1 := by decide +kernel
theorem tyX10_ok : ∀ k, k < 12 → parseFieldDescriptor (TX10 k).2.2.1 = some (tyX10 k) := by decide +kernel
abbrev cX10_init : ByteArray := prog_1_method_1_code
def yX10_init : MethodName := ⟨RX10, "<init>", "()V"⟩
abbrev cX10_draft : ByteArray := prog_1_method_2_code
def yX10_draft : MethodName := ⟨RX10, "draft", "(IJ)I"⟩
abbrev cX10_code : ByteArray := prog_1_method_3_code
def yX10_code : MethodName := ⟨RX10, "code", "()I"⟩
abbrev cX10_endow : ByteArray := prog_1_method_4_code
def yX10_endow : MethodName := ⟨RX10, "endow", "(IJI)V"⟩
abbrev cX10_weight : ByteArray := prog_1_method_5_code
def yX10_weight : MethodName := ⟨RX10, "weight", "(II)V"⟩
abbrev cX10_order : ByteArray := prog_1_method_6_code
def yX10_order : MethodName := ⟨RX10, "order", "(IIJJIII)I"⟩
abbrev cX10_block : ByteArray := prog_1_method_7_code
def yX10_block : MethodName := ⟨RX10, "block", "(II)I"⟩
abbrev cX10_told : ByteArray := prog_1_method_8_code
def yX10_told : MethodName := ⟨RX10, "told", "(II)I"⟩
abbrev cX10_receipt : ByteArray := prog_1_method_9_code
def yX10_receipt : MethodName := ⟨RX10, "receipt", "(III)J"⟩
abbrev cX10_event : ByteArray := prog_1_method_10_code
def yX10_event : MethodName := ⟨RX10, "event", "(III)J"⟩
abbrev cX10_leaf : ByteArray := prog_1_method_11_code
def yX10_leaf : MethodName := ⟨RX10, "leaf", "(II)J"⟩
abbrev cX10_digest : ByteArray := prog_1_method_12_code
def yX10_digest : MethodName := ⟨RX10, "digest", "(III)J"⟩
abbrev cX10_view : ByteArray := prog_1_method_13_code
def yX10_view : MethodName := ⟨RX10, "view", "(IIIJI)J"⟩
abbrev cX10_seen : ByteArray := prog_1_method_14_code
def yX10_seen : MethodName := ⟨RX10, "seen", "(I)I"⟩
abbrev cX10_vote : ByteArray := prog_1_method_15_code
def yX10_vote : MethodName := ⟨RX10, "vote", "(II)I"⟩
abbrev cX10_certain : ByteArray := prog_1_method_16_code
def yX10_certain : MethodName := ⟨RX10, "certain", "(I)I"⟩
abbrev cX10_beside : ByteArray := prog_1_method_17_code
def yX10_beside : MethodName := ⟨RX10, "beside", "(IJ)V"⟩
abbrev cX10_proves : ByteArray := prog_1_method_18_code
def yX10_proves : MethodName := ⟨RX10, "proves", "(JIJ)Z"⟩
abbrev cX10_isWithin : ByteArray := prog_1_method_19_code
def yX10_isWithin : MethodName := ⟨RX10, "isWithin", "(JI)Z"⟩
abbrev cX10_isAccount : ByteArray := prog_1_method_20_code
def yX10_isAccount : MethodName := ⟨RX10, "isAccount", "(J)Z"⟩
abbrev cX10_isBlock : ByteArray := prog_1_method_21_code
def yX10_isBlock : MethodName := ⟨RX10, "isBlock", "(I)Z"⟩
abbrev cX10_isCertain : ByteArray := prog_1_method_22_code
def yX10_isCertain : MethodName := ⟨RX10, "isCertain", "(I)Z"⟩
abbrev cX10_doOrder : ByteArray := prog_1_method_23_code
def yX10_doOrder : MethodName := ⟨RX10, "doOrder", "(III[J)I"⟩
abbrev cX10_isVoid : ByteArray := prog_1_method_24_code
def yX10_isVoid : MethodName := ⟨RX10, "isVoid", "(LLedgerMachine$Order;I)Z"⟩
abbrev cX10_leafDigest : ByteArray := prog_1_method_25_code
def yX10_leafDigest : MethodName := ⟨RX10, "leafDigest", "(IJ)J"⟩
abbrev cX10_pairDigest : ByteArray := prog_1_method_26_code
def yX10_pairDigest : MethodName := ⟨RX10, "pairDigest", "(JJ)J"⟩
abbrev cX10_nodeDigest : ByteArray := prog_1_method_27_code
def yX10_nodeDigest : MethodName := ⟨RX10, "nodeDigest", "([JII)J"⟩
abbrev cX10_mix : ByteArray := prog_1_method_28_code
def yX10_mix : MethodName := ⟨RX10, "mix", "(JJ)J"⟩
abbrev cX10_neverZero : ByteArray := prog_1_method_29_code
def yX10_neverZero : MethodName := ⟨RX10, "neverZero", "(J)J"⟩
def RX11 : String := "LedgerMachineModel"
def TX11 : u_T := fun k => match k with
  | 0 => ("LedgerMachineModel", "thrown", "I", false)
  | 1 => ("LedgerMachineModel", "codes", "[I", true)
  | 2 => ("LedgerMachineModel", "codeSize", "[I", true)
  | 3 => ("LedgerMachineModel", "codeMany", "I", false)
  | 4 => ("LedgerMachineModel", "draft", "[I", true)
  | 5 => ("LedgerMachineModel", "drafted", "I", false)
  | 6 => ("LedgerMachineModel", "begins", "[Z", true)
  | 7 => ("LedgerMachineModel", "orders", "I", false)
  | 8 => ("LedgerMachineModel", "oFrom", "[I", true)
  | 9 => ("LedgerMachineModel", "oTo", "[I", true)
  | 10 => ("LedgerMachineModel", "oValue", "[J", true)
  | 11 => ("LedgerMachineModel", "oArgument", "[J", true)
  | 12 => ("LedgerMachineModel", "oGas", "[I", true)
  | 13 => ("LedgerMachineModel", "oPrice", "[I", true)
  | 14 => ("LedgerMachineModel", "oNonce", "[I", true)
  | 15 => ("LedgerMachineModel", "blocks", "I", false)
  | 16 => ("LedgerMachineModel", "parent", "[I", true)
  | 17 => ("LedgerMachineModel", "heightOf", "[I", true)
  | 18 => ("LedgerMachineModel", "many", "[I", true)
  | 19 => ("LedgerMachineModel", "eventMany", "[I", true)
  | 20 => ("LedgerMachineModel", "gasOf", "[I", true)
  | 21 => ("LedgerMachineModel", "votedFor", "[I", true)
  | 22 => ("LedgerMachineModel", "isCertain", "[Z", true)
  | 23 => ("LedgerMachineModel", "states", "[J", true)
  | 24 => ("LedgerMachineModel", "rEnd", "[I", true)
  | 25 => ("LedgerMachineModel", "rGas", "[I", true)
  | 26 => ("LedgerMachineModel", "rValue", "[J", true)
  | 27 => ("LedgerMachineModel", "eAccount", "[I", true)
  | 28 => ("LedgerMachineModel", "eTopic", "[J", true)
  | 29 => ("LedgerMachineModel", "eDatum", "[J", true)
  | 30 => ("LedgerMachineModel", "eOrder", "[I", true)
  | 31 => ("LedgerMachineModel", "weights", "[I", true)
  | 32 => ("LedgerMachineModel", "hasVoted", "[Z", true)
  | 33 => ("LedgerMachineModel", "besides", "[J", true)
  | 34 => ("LedgerMachineModel", "now", "[J", true)
  | 35 => ("LedgerMachineModel", "kept", "[J", true)
  | 36 => ("LedgerMachineModel", "keptEvents", "[I", true)
  | 37 => ("LedgerMachineModel", "keptBack", "[I", true)
  | 38 => ("LedgerMachineModel", "fCode", "[I", true)
  | 39 => ("LedgerMachineModel", "fAt", "[I", true)
  | 40 => ("LedgerMachineModel", "fGas", "[J", true)
  | 41 => ("LedgerMachineModel", "fSelf", "[I", true)
  | 42 => ("LedgerMachineModel", "fCaller", "[I", true)
  | 43 => ("LedgerMachineModel", "fValue", "[J", true)
  | 44 => ("LedgerMachineModel", "fArgument", "[J", true)
  | 45 => ("LedgerMachineModel", "fLook", "[Z", true)
  | 46 => ("LedgerMachineModel", "fLock", "[Z", true)
  | 47 => ("LedgerMachineModel", "stack", "[J", true)
  | 48 => ("LedgerMachineModel", "top", "[I", true)
  | 49 => ("LedgerMachineModel", "depth", "I", false)
  | 50 => ("LedgerMachineModel", "origin", "I", false)
  | 51 => ("LedgerMachineModel", "height", "I", false)
  | 52 => ("LedgerMachineModel", "events", "I", false)
  | 53 => ("LedgerMachineModel", "nAccount", "[I", true)
  | 54 => ("LedgerMachineModel", "nTopic", "[J", true)
  | 55 => ("LedgerMachineModel", "nDatum", "[J", true)
  | 56 => ("LedgerMachineModel", "back", "I", false)
  | 57 => ("LedgerMachineModel", "frames", "I", false)
  | 58 => ("LedgerMachineModel", "end", "I", false)
  | 59 => ("LedgerMachineModel", "ended", "J", false)
  | 60 => ("LedgerMachineModel", "gasLeft", "J", false)
  | 61 => ("LedgerMachineModel", "seenEnd", "I", false)
  | 62 => ("LedgerMachineModel", "seenGas", "I", false)
  | 63 => ("LedgerMachineModel", "seenFrames", "I", false)
  | _ => ("LedgerMachineModel", "level", "[J", true)
def tyX11 : Nat → FieldType := fun k => match k with
  | 0 => .int
  | 1 => .array .int
  | 2 => .array .int
  | 3 => .int
  | 4 => .array .int
  | 5 => .int
  | 6 => .array .boolean
  | 7 => .int
  | 8 => .array .int
  | 9 => .array .int
  | 10 => .array .long
  | 11 => .array .long
  | 12 => .array .int
  | 13 => .array .int
  | 14 => .array .int
  | 15 => .int
  | 16 => .array .int
  | 17 => .array .int
  | 18 => .array .int
  | 19 => .array .int
  | 20 => .array .int
  | 21 => .array .int
  | 22 => .array .boolean
  | 23 => .array .long
  | 24 => .array .int
  | 25 => .array .int
  | 26 => .array .long
  | 27 => .array .int
  | 28 => .array .long
  | 29 => .array .long
  | 30 => .array .int
  | 31 => .array .int
  | 32 => .array .boolean
  | 33 => .array .long
  | 34 => .array .long
  | 35 => .array .long
  | 36 => .array .int
  | 37 => .array .int
  | 38 => .array .int
  | 39 => .array .int
  | 40 => .array .long
  | 41 => .array .int
  | 42 => .array .int
  | 43 => .array .long
  | 44 => .array .long
  | 45 => .array .boolean
  | 46 => .array .boolean
  | 47 => .array .long
  | 48 => .array .int
  | 49 => .int
  | 50 => .int
  | 51 => .int
  | 52 => .int
  | 53 => .array .int
  | 54 => .array .long
  | 55 => .array .long
  | 56 => .int
  | 57 => .int
  | 58 => .int
  | 59 => .long
  | 60 => .long
  | 61 => .int
  | 62 => .int
  | 63 => .int
  | _ => .array .long
abbrev wsX110 : List Cond := u_ws RX11 TX11 65
theorem nmX11 : ∀ a, a < 65 → ∀ b, b < 65 → a ≠ b → (TX11 a).2.1 ≠ (TX11 b).2.1 := by decide +kernel
theorem tyX11_ok : ∀ k, k < 65 → parseFieldDescriptor (TX11 k).2.2.1 = some (tyX11 k) := by decide +kernel
abbrev cX11_init : ByteArray := prog_13_method_1_code
def yX11_init : MethodName := ⟨RX11, "<init>", "()V"⟩
abbrev cX11_thrown : ByteArray := prog_13_method_2_code
def yX11_thrown : MethodName := ⟨RX11, "thrown", "()I"⟩
abbrev cX11_sizeOf : ByteArray := prog_13_method_3_code
def yX11_sizeOf : MethodName := ⟨RX11, "sizeOf", "(I)I"⟩
abbrev cX11_judged : ByteArray := prog_13_method_4_code
def yX11_judged : MethodName := ⟨RX11, "judged", "()I"⟩
abbrev cX11_draft : ByteArray := prog_13_method_5_code
def yX11_draft : MethodName := ⟨RX11, "draft", "(IJ)I"⟩
abbrev cX11_code : ByteArray := prog_13_method_6_code
def yX11_code : MethodName := ⟨RX11, "code", "()I"⟩
abbrev cX11_isAccount : ByteArray := prog_13_method_7_code
def yX11_isAccount : MethodName := ⟨RX11, "isAccount", "(J)Z"⟩
abbrev cX11_isEmpty : ByteArray := prog_13_method_8_code
def yX11_isEmpty : MethodName := ⟨RX11, "isEmpty", "(I)Z"⟩
abbrev cX11_endow : ByteArray := prog_13_method_9_code
def yX11_endow : MethodName := ⟨RX11, "endow", "(IJI)V"⟩
abbrev cX11_weight : ByteArray := prog_13_method_10_code
def yX11_weight : MethodName := ⟨RX11, "weight", "(II)V"⟩
abbrev cX11_order : ByteArray := prog_13_method_11_code
def yX11_order : MethodName := ⟨RX11, "order", "(IIJJIII)I"⟩
abbrev cX11_end : ByteArray := prog_13_method_12_code
def yX11_end : MethodName := ⟨RX11, "end", "(IJJ)V"⟩
abbrev cX11_isLocked : ByteArray := prog_13_method_13_code
def yX11_isLocked : MethodName := ⟨RX11, "isLocked", "(J)Z"⟩
abbrev cX11_begin : ByteArray := prog_13_method_14_code
def yX11_begin : MethodName := ⟨RX11, "begin", "(IJJJJZ)Z"⟩
abbrev cX11_finish : ByteArray := prog_13_method_15_code
def yX11_finish : MethodName := ⟨RX11, "finish", "(IJ)V"⟩
abbrev cX11_tell : ByteArray := prog_13_method_16_code
def yX11_tell : MethodName := ⟨RX11, "tell", "()V"⟩
abbrev cX11_run : ByteArray := prog_13_method_17_code
def yX11_run : MethodName := ⟨RX11, "run", "(I)V"⟩
abbrev cX11_push : ByteArray := prog_13_method_18_code
def yX11_push : MethodName := ⟨RX11, "push", "(J)V"⟩
abbrev cX11_pop : ByteArray := prog_13_method_19_code
def yX11_pop : MethodName := ⟨RX11, "pop", "()J"⟩
abbrev cX11_costOf : ByteArray := prog_13_method_20_code
def yX11_costOf : MethodName := ⟨RX11, "costOf", "(I)I"⟩
abbrev cX11_takes : ByteArray := prog_13_method_21_code
def yX11_takes : MethodName := ⟨RX11, "takes", "(I)I"⟩
abbrev cX11_gives : ByteArray := prog_13_method_22_code
def yX11_gives : MethodName := ⟨RX11, "gives", "(I)I"⟩
abbrev cX11_act : ByteArray := prog_13_method_23_code
def yX11_act : MethodName := ⟨RX11, "act", "()V"⟩
abbrev cX11_simple : ByteArray := prog_13_method_24_code
def yX11_simple : MethodName := ⟨RX11, "simple", "(III)V"⟩
abbrev cX11_reckon : ByteArray := prog_13_method_25_code
def yX11_reckon : MethodName := ⟨RX11, "reckon", "(I)V"⟩
abbrev cX11_jumpOrCell : ByteArray := prog_13_method_26_code
def yX11_jumpOrCell : MethodName := ⟨RX11, "jumpOrCell", "(II)V"⟩
abbrev cX11_tellOf : ByteArray := prog_13_method_27_code
def yX11_tellOf : MethodName := ⟨RX11, "tellOf", "(I)V"⟩
abbrev cX11_greater : ByteArray := prog_13_method_28_code
def yX11_greater : MethodName := ⟨RX11, "greater", "(I)V"⟩
abbrev cX11_calls : ByteArray := prog_13_method_29_code
def yX11_calls : MethodName := ⟨RX11, "calls", "(Z)V"⟩
abbrev cX11_hasFrame : ByteArray := prog_13_method_30_code
def yX11_hasFrame : MethodName := ⟨RX11, "hasFrame", "(I)Z"⟩
abbrev cX11_make : ByteArray := prog_13_method_31_code
def yX11_make : MethodName := ⟨RX11, "make", "(I)V"⟩
abbrev cX11_emit : ByteArray := prog_13_method_32_code
def yX11_emit : MethodName := ⟨RX11, "emit", "(I)V"⟩
abbrev cX11_close : ByteArray := prog_13_method_33_code
def yX11_close : MethodName := ⟨RX11, "close", "(I)V"⟩
abbrev cX11_wholeCall : ByteArray := prog_13_method_34_code
def yX11_wholeCall : MethodName := ⟨RX11, "wholeCall", "(IIJJJZ)V"⟩
abbrev cX11_block : ByteArray := prog_13_method_35_code
def yX11_block : MethodName := ⟨RX11, "block", "(II)I"⟩
abbrev cX11_keepEvents : ByteArray := prog_13_method_36_code
def yX11_keepEvents : MethodName := ⟨RX11, "keepEvents", "(II)V"⟩
abbrev cX11_doOrder : ByteArray := prog_13_method_37_code
def yX11_doOrder : MethodName := ⟨RX11, "doOrder", "(IIII)I"⟩
abbrev cX11_isBlock : ByteArray := prog_13_method_38_code
def yX11_isBlock : MethodName := ⟨RX11, "isBlock", "(I)Z"⟩
abbrev cX11_told : ByteArray := prog_13_method_39_code
def yX11_told : MethodName := ⟨RX11, "told", "(II)I"⟩
abbrev cX11_receipt : ByteArray := prog_13_method_40_code
def yX11_receipt : MethodName := ⟨RX11, "receipt", "(III)J"⟩
abbrev cX11_event : ByteArray := prog_13_method_41_code
def yX11_event : MethodName := ⟨RX11, "event", "(III)J"⟩
abbrev cX11_valueOf : ByteArray := prog_13_method_42_code
def yX11_valueOf : MethodName := ⟨RX11, "valueOf", "(II)J"⟩
abbrev cX11_mix : ByteArray := prog_13_method_43_code
def yX11_mix : MethodName := ⟨RX11, "mix", "(JJ)J"⟩
abbrev cX11_leafDigest : ByteArray := prog_13_method_44_code
def yX11_leafDigest : MethodName := ⟨RX11, "leafDigest", "(IJ)J"⟩
abbrev cX11_both : ByteArray := prog_13_method_45_code
def yX11_both : MethodName := ⟨RX11, "both", "(JJ)J"⟩
abbrev cX11_leaf : ByteArray := prog_13_method_46_code
def yX11_leaf : MethodName := ⟨RX11, "leaf", "(II)J"⟩
abbrev cX11_digest : ByteArray := prog_13_method_47_code
def yX11_digest : MethodName := ⟨RX11, "digest", "(III)J"⟩
abbrev cX11_view : ByteArray := prog_13_method_48_code
def yX11_view : MethodName := ⟨RX11, "view", "(IIIJI)J"⟩
abbrev cX11_seen : ByteArray := prog_13_method_49_code
def yX11_seen : MethodName := ⟨RX11, "seen", "(I)I"⟩
abbrev cX11_vote : ByteArray := prog_13_method_50_code
def yX11_vote : MethodName := ⟨RX11, "vote", "(II)I"⟩
abbrev cX11_certain : ByteArray := prog_13_method_51_code
def yX11_certain : MethodName := ⟨RX11, "certain", "(I)I"⟩
abbrev cX11_beside : ByteArray := prog_13_method_52_code
def yX11_beside : MethodName := ⟨RX11, "beside", "(IJ)V"⟩
abbrev cX11_proves : ByteArray := prog_13_method_53_code
def yX11_proves : MethodName := ⟨RX11, "proves", "(JIJ)Z"⟩
def RJx8e188 : String := "java/lang/Cloneable"
def RJ9 : String := "java/lang/Math"
abbrev cJ9_max_f86c9 : ByteArray := prog_19_method_66_code
def yJ9_max_f86c9 : MethodName := ⟨RJ9, "max", "(JJ)J"⟩
abbrev cJ9_min_7cf53 : ByteArray := prog_19_method_69_code
def yJ9_min_7cf53 : MethodName := ⟨RJ9, "min", "(II)I"⟩
abbrev cJ9_min_f86c9 : ByteArray := prog_19_method_70_code
def yJ9_min_f86c9 : MethodName := ⟨RJ9, "min", "(JJ)J"⟩
def RJ0 : String := "java/lang/String"
def RJ10 : String := "java/lang/System"
def RJ7 : String := "java/util/Arrays"
abbrev cJ7_fill_53178 : ByteArray := prog_24_method_103_code
def yJ7_fill_53178 : MethodName := ⟨RJ7, "fill", "([II)V"⟩
abbrev cJ7_copyOf_9075b : ByteArray := prog_24_method_121_code
def yJ7_copyOf_9075b : MethodName := ⟨RJ7, "copyOf", "([BI)[B"⟩
abbrev cJ7_copyOf_c38d5 : ByteArray := prog_24_method_124_code
def yJ7_copyOf_c38d5 : MethodName := ⟨RJ7, "copyOf", "([JI)[J"⟩
def RL : String := "LedgerMachineLaw"
abbrev cL_draft : ByteArray := method_3_code
def yL_draft : MethodName := ⟨RL, "draft", "(LLedgerMachine;IJ[J)I"⟩
abbrev cL_code : ByteArray := method_4_code
def yL_code : MethodName := ⟨RL, "code", "(LLedgerMachine;[J)I"⟩
abbrev cL_endow : ByteArray := method_5_code
def yL_endow : MethodName := ⟨RL, "endow", "(LLedgerMachine;IJI)I"⟩
abbrev cL_weight : ByteArray := method_6_code
def yL_weight : MethodName := ⟨RL, "weight", "(LLedgerMachine;II)I"⟩
abbrev cL_order : ByteArray := method_7_code
def yL_order : MethodName := ⟨RL, "order", "(LLedgerMachine;IIJJIII[J)I"⟩
abbrev cL_block : ByteArray := method_8_code
def yL_block : MethodName := ⟨RL, "block", "(LLedgerMachine;II[J)I"⟩
abbrev cL_told : ByteArray := method_9_code
def yL_told : MethodName := ⟨RL, "told", "(LLedgerMachine;II[J)I"⟩
abbrev cL_receipt : ByteArray := method_10_code
def yL_receipt : MethodName := ⟨RL, "receipt", "(LLedgerMachine;III[J)I"⟩
abbrev cL_event : ByteArray := method_11_code
def yL_event : MethodName := ⟨RL, "event", "(LLedgerMachine;III[J)I"⟩
abbrev cL_leaf : ByteArray := method_12_code
def yL_leaf : MethodName := ⟨RL, "leaf", "(LLedgerMachine;II[J)I"⟩
abbrev cL_digest : ByteArray := method_13_code
def yL_digest : MethodName := ⟨RL, "digest", "(LLedgerMachine;III[J)I"⟩
abbrev cL_view : ByteArray := method_14_code
def yL_view : MethodName := ⟨RL, "view", "(LLedgerMachine;IIIJI[J)I"⟩
abbrev cL_seen : ByteArray := method_15_code
def yL_seen : MethodName := ⟨RL, "seen", "(LLedgerMachine;I[J)I"⟩
abbrev cL_vote : ByteArray := method_16_code
def yL_vote : MethodName := ⟨RL, "vote", "(LLedgerMachine;II[J)I"⟩
abbrev cL_certain : ByteArray := method_17_code
def yL_certain : MethodName := ⟨RL, "certain", "(LLedgerMachine;I[J)I"⟩
abbrev cL_beside : ByteArray := method_18_code
def yL_beside : MethodName := ⟨RL, "beside", "(LLedgerMachine;IJ)I"⟩
abbrev cL_proves : ByteArray := method_19_code
def yL_proves : MethodName := ⟨RL, "proves", "(LLedgerMachine;JIJ[J)I"⟩
abbrev cL_law : ByteArray := code
def yL_law : MethodName := ⟨RL, "law", "([I)Z"⟩
abbrev vwCl : List vw_C := [(RX0, TX0, 7), (RX1, TX1, 6), (RX2, TX2, 1), (RX3, TX3, 2), (RX4, TX4, 3), (RX5, TX5, 3), (RX6, TX6, 15), (RX7, TX7, 13), (RX8, TX8, 7), (RX9, TX9, 1), (RX10, TX10, 12), (RX11, TX11, 65)]
end
section
/-! THE ABSTRACT MEMORY: ints, longs, references of each cell by place, its kind (number, length), how many cells. An address k here is the cell B + k of the heap, B the heap's size at the law's entry. -/
abbrev rx_M : Type := (Nat → Nat → Int32) × (Nat → Nat → Int64) × (Nat → Nat → Option Nat) × (Nat → Nat × Nat) × Nat
def rx_u {α : Type} (f : Nat → Nat → α) (a i : Nat) (x : α) : Nat → Nat → α := fun b => if b = a then (fun j => if j = i then x else f a j) else f b
def rx_k1 {α : Type} (f : Nat → α) (a : Nat) (x : α) : Nat → α := fun b => if b = a then x else f b
/-- the launch, the law's start, the classes' numbers and slots, the array classes, the cells ahead of B that are read (0: the script, 1, 2: static rows), the script's length and ints -/
abbrev rx_E : Type := Launch × State × va_G × (Nat → ClassId) × (Nat → Nat) × Nat × (Nat → Int32)
def rx_B (G : rx_E) : Nat := G.2.1.heap.size
/-- a method: its name, code, locals, answer, its table of handlers -/
abbrev rx_Me : Type := MethodName × ByteArray × Nat × Option FieldType × List ExceptionTableEntry
def rx_tr (G : rx_E) : Value → Value
  | .ref a => .ref (rx_B G + a)
  | .float j => .ref (G.2.2.2.2.1 j.toNat)
  | v => v
def rx_trs (G : rx_E) (l : List Value) : List Value := l.map (rx_tr G)
/-- locals: a store is laid ahead of what was; reading finds the latest, unless a half of it was written since -/
def rx_lf (i : Nat) (f : Bool) : List (Nat × Value) → Option Value
  | [] => none
  | (j, v) :: l => bif Nat.beq j i then (bif f && Nat.beq v.category 2 then none else some v) else bif Nat.beq j (i + 1) then rx_lf i true l else bif Nat.beq (j + 1) i && Nat.beq v.category 2 then none else rx_lf i f l
def rx_lk (l : List (Nat × Value)) (i : Nat) : Option Value := rx_lf i false l
def rx_has (G : rx_E) (ls : Array Slot) (n : Nat) (l : List (Nat × Value)) : Prop := ls.size = n ∧ lv_wf ls ∧ ∀ (i : Nat) (v : Value), rx_lk l i = some v → ls[i]? = some (.val (rx_tr G v))
def rx_rf (r : Option Nat) : Value := match r with
  | none => .null
  | some a => .ref a
/-- the types of an object's fields: 0 a whole number of one word, 1 a long, 2 a reference -/
def rx_tc (t : FieldType) : Nat := match t with
  | .long => 1
  | .array _ => 2
  | .object _ => 2
  | _ => 0
def rx_fv (G : rx_E) (mu : rx_M) (a k t : Nat) : Value := if t = 0 then .int (mu.1 a k) else if t = 1 then .long (mu.2.1 a k) else va_rf ((mu.2.2.1 a k).map (rx_B G + ·))
def rx_row (G : rx_E) (mu : rx_M) (a : Nat) (ty : Nat → FieldType) (n : Nat) : List Value := (List.range n).map (fun k => rx_fv G mu a k (rx_tc (ty k)))
/-- fields' types and number of an object's class -/
def rx_ty : Nat → (Nat → FieldType) × Nat
  | 0 => (tyX0, 7) | 1 => (tyX1, 6) | 2 => (tyX2, 1) | 3 => (tyX3, 2) | 4 => (tyX4, 3) | 5 => (tyX5, 3) | 6 => (tyX6, 15) | 7 => (tyX7, 13) | 8 => (tyX8, 7) | 9 => (tyX9, 1) | 10 => (tyX10, 12) | _ => (tyX11, 65)
/-- kinds 0 .. 11: objects; 12: bytes, 13: ints, 14: longs, 15: booleans, 16 .. 19: rows of Blocks, Codes, Frames, Orders; above: nothing is said -/
def rx_ent (G : rx_E) (mu : rx_M) (a : Nat) : va_E :=
  if (mu.2.2.2.1 a).1 < 12 then .inr ((mu.2.2.2.1 a).1, rx_row G mu a (rx_ty (mu.2.2.2.1 a).1).1 (rx_ty (mu.2.2.2.1 a).1).2)
  else if (mu.2.2.2.1 a).1 = 14 then .inl (G.2.2.2.1 14, (mu.2.2.2.1 a).2, .inr (.inl (mu.2.1 a)))
  else if (mu.2.2.2.1 a).1 < 16 then .inl (G.2.2.2.1 (mu.2.2.2.1 a).1, (mu.2.2.2.1 a).2, .inl (mu.1 a))
  else .inl (G.2.2.2.1 (mu.2.2.2.1 a).1, (mu.2.2.2.1 a).2, .inr (.inr (.inr (.inr (fun j => (mu.2.2.1 a j).map (rx_B G + ·))))))
def rx_Rel (G : rx_E) (mu : rx_M) (H : Heap) : Prop := H.size = rx_B G + mu.2.2.2.2 ∧ ∀ a, a < mu.2.2.2.2 → (mu.2.2.2.1 a).1 < 20 → va_at G.2.2.1 vwCl (rx_B G + a, rx_ent G mu a) H
/-- the world: the tables as at the start, the memory, what stands ahead of B as it was -/
def rx_In (G : rx_E) (mu : rx_M) (vm : Vm) (H : Heap) : Prop := G.2.1.WarmedH vm ∧ rx_Rel G mu H ∧ ∀ q, q < rx_B G → H[q]? = G.2.1.heap[q]?
def rx_room (d mc ms : Nat) : Room := { frames := d, cells := mc, slots := ms, locals := 40 * d }
def rx_Qc (G : rx_E) (Q : Option Value → rx_M → Prop) : Array Value → State → Outcome → State → Prop := fun _ st oc t => ∃ (v : Option Value) (mu : rx_M), oc = .returned (v.map (rx_tr G)) ∧ Q v mu ∧ rx_In G mu t.vm t.heap ∧ st.heap.size ≤ t.heap.size
def rx_XC (G : rx_E) (Z : String → rx_M → Prop) : String → State → State → Prop := fun E st t => ∃ mu : rx_M, Z E mu ∧ rx_Rel G mu t.heap ∧ (∀ q, q < rx_B G → t.heap[q]? = G.2.1.heap[q]?) ∧ st.heap.size ≤ t.heap.size
def rx_Ctx (G : rx_E) (M : rx_Me) (p : Program) (s : State) (m : MethodId) (meth : Method) (c : Code) : Prop :=
  p.tables.exec = Jvm.exec ∧ c.code = M.2.1 ∧ meth.sig.returnType = M.2.2.2.1 ∧ c.maxLocals = M.2.2.1 ∧ s.vm.findClass M.1.cls = some m.cls ∧ meth.locks = false ∧ meth.name = M.1.name ∧ G.2.1.WarmedH s.vm ∧ rx_B G ≤ s.heap.size ∧ (∀ q, q < rx_B G → s.heap[q]? = G.2.1.heap[q]?) ∧ c.exceptionTable.toList = M.2.2.2.2
/-- the judgement: from this frame the method comes to its end with Q, or has thrown with Z; at most mc cells of ms slots more are made -/
def rx_W (G : rx_E) (M : rx_Me) (d pc : Nat) (lv : List (Nat × Value)) (st : List Value) (mu : rx_M) (mc ms : Nat) (Q : Option Value → rx_M → Prop) (Z : String → rx_M → Prop) : Prop :=
  ∀ (p : Program) (e : Env) (R : Room) (s : State) (m : MethodId) (args : Array Value) (below : List Frame) (meth : Method) (c : Code) (H : Heap) (locs : List Loc) (cells slots MC MS : Nat) (ls : Array Slot),
    rx_Ctx G M p s m meth c → d ≤ R.frames ∧ 40 * d ≤ R.locals ∧ cells + mc ≤ MC ∧ slots + ms ≤ MS ∧ MC ≤ R.cells ∧ MS ≤ R.slots → rx_In G mu s.vm H → s.heap.size ≤ H.size → (∀ q ∈ locs, rx_B G ≤ q.base) → rx_has G ls M.2.2.1 lv →
    W p G.1 e R s m args below meth c H locs cells slots (vx_MQ below (rx_Qc G Q) (rx_XC G Z) args s MC MS (fun q => rx_B G ≤ q)) (F0 m pc ls (rx_trs G st))
/-- a method that returns: its contract -/
def rx_C (G : rx_E) (M : rx_Me) (d : Nat) (as : List Value) (mu : rx_M) (mc ms : Nat) (Q : Option Value → rx_M → Prop) : Prop :=
  Met G.1 M.1 [Cond.code M.1 M.2.1 M.2.2.1 M.2.2.2.1] (rx_room d mc ms) (fun a U => a = (rx_trs G as).toArray ∧ rx_In G mu U.vm U.heap) (rx_Qc G Q) mc ms (fun q => rx_B G ≤ q)
/-- a method that returns or throws -/
def rx_X (G : rx_E) (M : rx_Me) (d : Nat) (as : List Value) (mu : rx_M) (mc ms : Nat) (Q : Option Value → rx_M → Prop) (Z : String → rx_M → Prop) : Prop :=
  vx_Met G.1 M.1 [Cond.code M.1 M.2.1 M.2.2.1 M.2.2.2.1] (rx_room d mc ms) (fun a U => a = (rx_trs G as).toArray ∧ rx_In G mu U.vm U.heap) (rx_Qc G Q) (rx_XC G Z) mc ms (fun q => rx_B G ≤ q)
theorem rx_cat (G : rx_E) (v : Value) : (rx_tr G v).category = v.category := by cases v <;> rfl
theorem rx_lf_mem {i : Nat} {v : Value} : ∀ (l : List (Nat × Value)) (f : Bool), rx_lf i f l = some v → (i, v) ∈ l
  | [], _, h => by cases h
  | (j, w) :: l, f, h => by
    unfold rx_lf at h
    cases h1 : Nat.beq j i
    · simp only [h1, cond_false] at h
      refine List.mem_cons_of_mem _ ?_
      cases h2 : Nat.beq j (i + 1)
      · simp only [h2, cond_false] at h
        cases h3 : (Nat.beq (j + 1) i && Nat.beq w.category 2)
        · simp only [h3, cond_false] at h
          exact rx_lf_mem l f h
        · simp only [h3, cond_true] at h
          cases h
      · simp only [h2, cond_true] at h
        exact rx_lf_mem l true h
    · simp only [h1, cond_true] at h
      cases h3 : (f && Nat.beq w.category 2)
      · simp only [h3, cond_false] at h
        rw [Nat.eq_of_beq_eq_true h1, Option.some.inj h]
        exact List.mem_cons_self
      · simp only [h3, cond_true] at h
        cases h
theorem rx_args (G : rx_E) (l : List Value) : ∀ k, lv_args k (rx_trs G l) = (lv_args k l).map (fun q => (q.1, rx_tr G q.2)) := by
  induction l with
  | nil => intro k; rfl
  | cons v l ih =>
    intro k
    cases v <;> simp [rx_trs, rx_tr, lv_args, Value.category] at ih ⊢ <;> exact ih _
theorem rx_sl (G : rx_E) (l : List Value) : (lg_sl (rx_trs G l)).length = (lg_sl l).length := by
  induction l with
  | nil => rfl
  | cons v l ih => cases v <;> simp [rx_trs, rx_tr, lg_sl, Value.category] at ih ⊢ <;> exact ih
theorem rx_has_entry {G : rx_E} {ls : Array Slot} {n : Nat} {as : List Value} (h : lv_has ls n (lv_args 0 (rx_trs G as))) : rx_has G ls n (lv_args 0 as) := by
  refine ⟨h.1, h.2.1, fun i v hv => ?_⟩
  have h1 := rx_lf_mem _ _ hv
  have h2 : (i, rx_tr G v) ∈ lv_args 0 (rx_trs G as) := by
    rw [rx_args]
    exact List.mem_map.mpr ⟨(i, v), h1, rfl⟩
  exact h.2.2 _ h2
/-- all that is known of the locals, as the kit's list -/
def rx_en (G : rx_E) (n : Nat) (l : List (Nat × Value)) : List (Nat × Value) := (List.range n).filterMap (fun i => (rx_lk l i).map (fun v => (i, rx_tr G v)))
theorem rx_has_en {G : rx_E} {ls : Array Slot} {n : Nat} {l : List (Nat × Value)} (h : rx_has G ls n l) : lv_has ls n (rx_en G n l) := by
  refine ⟨h.1, h.2.1, fun q hq => ?_⟩
  obtain ⟨i, -, hi⟩ := List.mem_filterMap.mp hq
  cases hv : rx_lk l i with
  | none => rw [hv] at hi; cases hi
  | some v =>
    rw [hv] at hi
    cases hi
    exact h.2.2 i v hv
theorem rx_en_mem {G : rx_E} {ls : Array Slot} {n i : Nat} {l : List (Nat × Value)} {v : Value} (h : rx_has G ls n l) (hv : rx_lk l i = some v) : (i, rx_tr G v) ∈ rx_en G n l := by
  have hi : i < n := by
    rw [← h.1]
    exact (Array.getElem?_eq_some_iff.mp (h.2.2 i v hv)).1
  exact List.mem_filterMap.mpr ⟨i, List.mem_range.mpr hi, by rw [hv]; rfl⟩
theorem rx_lf_t {i : Nat} {v : Value} : ∀ (l : List (Nat × Value)) (f : Bool), rx_lf i f l = some v → (f = true → v.category ≠ 2) ∧ rx_lf i false l = some v
  | [], _, h => by cases h
  | (j, w) :: l, f, h => by
    unfold rx_lf at h ⊢
    cases h1 : Nat.beq j i
    · simp only [h1, cond_false] at h ⊢
      cases h2 : Nat.beq j (i + 1)
      · simp only [h2, cond_false] at h ⊢
        cases h3 : (Nat.beq (j + 1) i && Nat.beq w.category 2)
        · simp only [h3, cond_false] at h ⊢
          exact rx_lf_t l f h
        · simp only [h3, cond_true] at h
          cases h
      · simp only [h2, cond_true] at h ⊢
        exact ⟨fun _ => (rx_lf_t l true h).1 rfl, h⟩
    · simp only [h1, cond_true] at h ⊢
      cases f
      · exact ⟨(fun q => nomatch q), h⟩
      · simp only [Bool.true_and, Bool.false_and, cond_false] at h ⊢
        cases h3 : (Nat.beq w.category 2)
        · simp only [h3, cond_false] at h
          refine ⟨fun _ q => ?_, h⟩
          rw [Option.some.inj h, q] at h3
          cases h3
        · simp only [h3, cond_true] at h
          cases h
/-- a store of one word -/
theorem rx_has_st1 {G : rx_E} {ls ls' : Array Slot} {n i : Nat} {l : List (Nat × Value)} {x : Value} (h : rx_has G ls n l) (hc : x.category = 1) (h' : lv_has ls' n ((i, rx_tr G x) :: (rx_en G n l).filter (fun q => !(q.1 == i) && !(q.1 + 1 == i && q.2.category == 2)))) : rx_has G ls' n ((i, x) :: l) := by
  refine ⟨h'.1, h'.2.1, fun j v hv => ?_⟩
  unfold rx_lk rx_lf at hv
  cases h1 : Nat.beq i j
  · simp only [h1, cond_false] at hv
    have hij : i ≠ j := fun q => by rw [q, Nat.beq_refl] at h1; cases h1
    cases h2 : Nat.beq i (j + 1)
    · simp only [h2, cond_false] at hv
      have hij2 : i ≠ j + 1 := fun q => by rw [q, Nat.beq_refl] at h2; cases h2
      have h3 : (Nat.beq (i + 1) j && Nat.beq x.category 2) = false := by rw [hc, show Nat.beq 1 2 = false from rfl, Bool.and_false]
      simp only [h3, cond_false] at hv
      refine h'.2.2 (j, rx_tr G v) (List.mem_cons_of_mem _ (List.mem_filter.mpr ⟨rx_en_mem h hv, ?_⟩))
      simp only [Bool.and_eq_true, Bool.not_eq_true', beq_eq_false_iff_ne, ne_eq, Bool.and_eq_false_iff]
      exact ⟨fun q => hij q.symm, Or.inl (fun q => hij2 q.symm)⟩
    · simp only [h2, cond_true] at hv
      obtain ⟨g1, g2⟩ := rx_lf_t l true hv
      refine h'.2.2 (j, rx_tr G v) (List.mem_cons_of_mem _ (List.mem_filter.mpr ⟨rx_en_mem h g2, ?_⟩))
      simp only [Bool.and_eq_true, Bool.not_eq_true', beq_eq_false_iff_ne, ne_eq, Bool.and_eq_false_iff]
      refine ⟨fun q => hij q.symm, Or.inr ?_⟩
      rw [rx_cat]
      exact g1 rfl
  · simp only [h1, cond_true, Bool.false_and, cond_false] at hv
    rw [← Nat.eq_of_beq_eq_true h1, ← Option.some.inj hv]
    exact h'.2.2 _ List.mem_cons_self
theorem rx_has_st2 {G : rx_E} {ls ls' : Array Slot} {n i : Nat} {l : List (Nat × Value)} {x : Value} (h : rx_has G ls n l) (hc : x.category = 2) (h' : lv_has ls' n ((i, rx_tr G x) :: (rx_en G n l).filter (fun q => !(q.1 == i) && (!(q.1 == i + 1) && !(q.1 + 1 == i && q.2.category == 2))))) : rx_has G ls' n ((i, x) :: l) := by
  refine ⟨h'.1, h'.2.1, fun j v hv => ?_⟩
  unfold rx_lk rx_lf at hv
  cases h1 : Nat.beq i j
  · simp only [h1, cond_false] at hv
    have hij : i ≠ j := fun q => by rw [q, Nat.beq_refl] at h1; cases h1
    cases h2 : Nat.beq i (j + 1)
    · simp only [h2, cond_false] at hv
      have hij2 : i ≠ j + 1 := fun q => by rw [q, Nat.beq_refl] at h2; cases h2
      cases h3 : Nat.beq (i + 1) j
      · simp only [h3, Bool.false_and, cond_false] at hv
        have hij3 : i + 1 ≠ j := fun q => by rw [q, Nat.beq_refl] at h3; cases h3
        refine h'.2.2 (j, rx_tr G v) (List.mem_cons_of_mem _ (List.mem_filter.mpr ⟨rx_en_mem h hv, ?_⟩))
        simp only [Bool.and_eq_true, Bool.not_eq_true', beq_eq_false_iff_ne, ne_eq, Bool.and_eq_false_iff]
        exact ⟨fun q => hij q.symm, fun q => hij3 q.symm, Or.inl (fun q => hij2 q.symm)⟩
      · simp only [h3, hc, Nat.beq_refl, Bool.true_and, cond_true] at hv
        cases hv
    · simp only [h2, cond_true] at hv
      obtain ⟨g1, g2⟩ := rx_lf_t l true hv
      have e2 := Nat.eq_of_beq_eq_true h2
      refine h'.2.2 (j, rx_tr G v) (List.mem_cons_of_mem _ (List.mem_filter.mpr ⟨rx_en_mem h g2, ?_⟩))
      simp only [Bool.and_eq_true, Bool.not_eq_true', beq_eq_false_iff_ne, ne_eq, Bool.and_eq_false_iff]
      refine ⟨fun q => hij q.symm, by omega, Or.inr ?_⟩
      rw [rx_cat]
      exact g1 rfl
  · simp only [h1, cond_true, Bool.false_and, cond_false] at hv
    rw [← Nat.eq_of_beq_eq_true h1, ← Option.some.inj hv]
    exact h'.2.2 _ List.mem_cons_self
end
section
theorem rx_In_blind {G : rx_E} {mu : rx_M} {as : List Value} : FrameBlind (fun a U => a = (rx_trs G as).toArray ∧ rx_In G mu U.vm U.heap) := fun _ _ _ _ h => h
/-- a method out of its walk -/
theorem rx_meth {G : rx_E} {M : rx_Me} {d : Nat} {as : List Value} {mu : rx_M} {mc ms : Nat} {Q : Option Value → rx_M → Prop} {Z : String → rx_M → Prop} (hy : plainName M.1.cls = true) (ht : M.2.2.2.2 = []) (hn : (lg_sl as).length ≤ M.2.2.1)
    (k : rx_W G M d 0 (lv_args 0 as) [] mu mc ms Q Z) : rx_X G M d as mu mc ms Q Z := by
  refine vx_ofW (cc := M.2.1) (maxL := M.2.2.1) (ret := M.2.2.2.1) hy rfl ?_
  intro p e s m args below meth c s₁ B hml hex hv
  obtain ⟨rfl, hin⟩ := hv
  have hl := lv_entry (rx_trs G as) (n := M.2.2.1) (by rw [rx_sl]; exact hn)
  rw [lg_entry_eq]
  generalize (lg_sl (rx_trs G as) ++ List.replicate (M.2.2.1 - (lg_sl (rx_trs G as)).length) Slot.unset).toArray = ls at hl ⊢
  have hl := rx_has_entry hl
  have hB : rx_B G ≤ s.heap.size := by rw [hin.2.1.1]; exact Nat.le_add_right _ _
  exact k p e (rx_room d mc ms) s m (rx_trs G as).toArray below meth c s.heap [] 0 0 mc ms ls ⟨B.exec, B.bytes, B.returns, hml, findClass_of_methodNamed B.named, B.notSynchronized, (name_of_methodNamed B.named B.method).1, hin.1, hB, hin.2.2, by rw [ht]; exact List.eq_nil_iff_forall_not_mem.mpr (fun x hx => hex x hx)⟩ ⟨Nat.le_refl _, Nat.le_refl _, by omega, by omega, Nat.le_refl _, Nat.le_refl _⟩ hin (Nat.le_refl _) (fun _ h => by cases h) hl
theorem rx_noX {G : rx_E} {M : rx_Me} {d : Nat} {as : List Value} {mu : rx_M} {mc ms : Nat} {Q : Option Value → rx_M → Prop} (k : rx_X G M d as mu mc ms Q (fun _ _ => False)) : rx_C G M d as mu mc ms Q := by
  intro p e h1 h2 h3 s m args below h4 h5 h6 h7
  obtain ⟨k', o, a1, a2, a3, a4⟩ := k p e h1 h2 h3 s m args below h4 h5 h6 h7
  refine ⟨k', o, a1, a2, a3, ?_⟩
  rcases a4 with h | ⟨q, -, E, ce, L, ⟨mu', hF, -⟩, -⟩
  · exact h
  · exact hF.elim
theorem rx_meth0 {G : rx_E} {M : rx_Me} {d : Nat} {as : List Value} {mu : rx_M} {mc ms : Nat} {Q : Option Value → rx_M → Prop} (hy : plainName M.1.cls = true) (ht : M.2.2.2.2 = []) (hn : (lg_sl as).length ≤ M.2.2.1)
    (k : rx_W G M d 0 (lv_args 0 as) [] mu mc ms Q (fun _ _ => False)) : rx_C G M d as mu mc ms Q := rx_noX (rx_meth hy ht hn k)
section RXS
variable {G : rx_E} {M : rx_Me} {d pc mc ms : Nat} {lv : List (Nat × Value)} {st : List Value} {mu : rx_M} {Q : Option Value → rx_M → Prop} {Z : String → rx_M → Prop}
/-- a step that touches neither locals nor memory -/
theorem rx_s {st' : List Value} {pc' : Nat} (k : rx_W G M d pc' lv st' mu mc ms Q Z)
    (h : ∀ (p : Program) (e : Env) (R : Room) (s : State) (m : MethodId) (args : Array Value) (below : List Frame) (meth : Method) (c : Code) (H : Heap) (locs : List Loc) (cells slots : Nat) (Qf : State → Prop) (ls : Array Slot), p.tables.exec = Jvm.exec → c.code = M.2.1 → W p G.1 e R s m args below meth c H locs cells slots Qf (F0 m pc' ls (rx_trs G st')) → W p G.1 e R s m args below meth c H locs cells slots Qf (F0 m pc ls (rx_trs G st))) :
    rx_W G M d pc lv st mu mc ms Q Z := by
  intro p e R s m args below meth c H locs cells slots MC MS ls C h1 h2 h3 h4 h5
  exact h _ _ _ _ _ _ _ _ _ _ _ _ _ _ _ C.1 C.2.1 (k p e R s m args below meth c H locs cells slots MC MS ls C h1 h2 h3 h4 h5)
theorem rx_iconst {n : Int} {v : Int32} (hd : decode M.2.1 pc = .ok (.iconst n, 1)) (hv : Int32.ofInt n = v) (k : rx_W G M d (pc + 1) lv (.int v :: st) mu mc ms Q Z) : rx_W G M d pc lv st mu mc ms Q Z :=
  rx_s k fun _ _ _ _ _ _ _ _ _ _ _ _ _ _ _ hx hb k => lv_iconst hx hb hd hv k
theorem rx_iadd {x y : Int32} (hd : decode M.2.1 pc = .ok (.iadd, 1)) (k : rx_W G M d (pc + 1) lv (.int (x + y) :: st) mu mc ms Q Z) : rx_W G M d pc lv (.int y :: .int x :: st) mu mc ms Q Z :=
  rx_s k fun _ _ _ _ _ _ _ _ _ _ _ _ _ _ _ hx hb k => lv_iadd hx hb hd k
end RXS
end
section
/-- the array classes, by kind -/
def rx_tys (G : rx_E) : List (ClassId × FieldType) := [(G.2.2.2.1 12, .byte), (G.2.2.2.1 13, .int), (G.2.2.2.1 14, .long), (G.2.2.2.1 15, .boolean), (G.2.2.2.1 16, .object RX0), (G.2.2.2.1 17, .object RX2), (G.2.2.2.1 18, .object RX6), (G.2.2.2.1 19, .object RX8)]
def rx_costs : List Int32 := [0, 1, 2, 1, 1, 1, 1, 1, 2, 3, 3, 1, 1, 1, 1, 1, 1, 1, 1, 2, 2, 10, 20, 1, 1, 1, 1, 1, 1, 1, 5, 30, 25, 100, 40, 15, 0, 0, 20, 3]
def rx_takes : List Int32 := [0, 0, 0, 1, 0, 0, 2, 2, 2, 2, 2, 2, 2, 2, 2, 2, 2, 2, 1, 0, 1, 1, 2, 0, 0, 0, 0, 0, 0, 0, 1, 4, 3, 2, 1, 2, 1, 1, 1, 0]
def rx_A (G : rx_E) : Nat → Prop := fun q => rx_B G ≤ q
/-- what holds at the law's start -/
def rx_OK (G : rx_E) : Prop := (∀ w ∈ lw_tbl, ∃ a, w.before a G.2.1 = true) ∧ va_K G.2.2.1 vwCl (rx_tys G) G.2.1 ∧
  (va_Z RX7 "COSTS" "[I" (.ref (G.2.2.2.2.1 1)) (rx_A G) G.2.1 G.2.1.heap ∧ va_T .int (G.2.2.2.2.1 1) 40 (fun j => .int (rx_costs.getD j 0)) (rx_A G) G.2.1 G.2.1.heap) ∧
  (va_Z RX6 "TAKES" "[I" (.ref (G.2.2.2.2.1 2)) (rx_A G) G.2.1 G.2.1.heap ∧ va_T .int (G.2.2.2.2.1 2) 40 (fun j => .int (rx_takes.getD j 0)) (rx_A G) G.2.1 G.2.1.heap) ∧
  (va_X (G.2.2.2.2.1 0) G.2.2.2.2.2.1 G.2.2.2.2.2.2 G.2.1 G.2.1.heap ∧ G.2.2.2.2.1 0 < rx_B G ∧ G.2.2.2.2.2.1 ≤ 5120 ∧
  G.1.stackTraces = false ∧ vx_Zq Bundle.tN "UNASSIGNED_STACK" Bundle.steD (rx_A G) G.2.1 G.2.1.heap ∧ vx_Zq Bundle.tN "SUPPRESSED_SENTINEL" Bundle.listD (rx_A G) G.2.1 G.2.1.heap)
theorem rx_w {G : rx_E} {s : State} {w : Cond} (h : rx_OK G) (hW : G.2.1.WarmedH s.vm) (hm : w ∈ lw_tbl) (hg : goodWord w = true) (args : Array Value) : w.before args s = true := by
  obtain ⟨a, ha⟩ := h.1 w hm
  exact word_at hW (good_of_word hg) ha
theorem rx_wN {G : rx_E} {s : State} {a : String} {i : Nat} {b n d h0 : String} (h : rx_OK G) (hW : G.2.1.WarmedH s.vm) (hm : Cond.fieldLinkNest a i b n d h0 ∈ lw_tbl) (args : Array Value) : (Cond.fieldLinkNest a i b n d h0).before args s = true := by
  obtain ⟨a9, ha⟩ := h.1 _ hm
  exact va_Nw.use rfl (va_Nw.warmF hW (va_Nw.of rfl ha))
theorem rx_wM {G : rx_E} {s : State} {a : String} {i : Nat} {x : MethodName} {h0 : String} (h : rx_OK G) (hW : G.2.1.WarmedH s.vm) (hm : Cond.methodLinkNest a i x h0 ∈ lw_tbl) (args : Array Value) : (Cond.methodLinkNest a i x h0).before args s = true := by
  obtain ⟨a9, ha⟩ := h.1 _ hm
  exact va_Nw.use rfl (va_Nw.warmM hW (va_Nw.of rfl ha))
theorem rx_K {G : rx_E} {s : State} (h : rx_OK G) (hW : G.2.1.WarmedH s.vm) : va_K G.2.2.1 vwCl (rx_tys G) s := va_K.moved hW.alike h.2.1
/-- a class of objects: its row in the list, its words, its fields' types -/
def rx_Cl (ci : Nat) (C : String) (T : u_T) (N : Nat) : Prop := ci < 12 ∧ vwCl[ci]? = some (C, T, N) ∧ (∀ w ∈ u_ws C T N, w ∈ lw_tbl ∧ goodWord w = true) ∧ (rx_ty ci).2 = N ∧ (∀ k, k < N → parseFieldDescriptor (T k).2.2.1 = some ((rx_ty ci).1 k)) ∧ (∀ a, a < N → ∀ b, b < N → a ≠ b → (T a).2.1 ≠ (T b).2.1)
/-- a field by a class's own constant: its class's kind, its place, its type -/
def rx_Fd (own : String) (idx ci k : Nat) (ty : FieldType) : Prop := ∃ (C : String) (T : u_T) (N : Nat), rx_Cl ci C T N ∧ k < N ∧ (rx_ty ci).1 k = ty ∧ ((Cond.fieldLink own idx (T k).1 (T k).2.1 (T k).2.2.1 ∈ lw_tbl) ∨ ∃ host, Cond.fieldLinkNest own idx (T k).1 (T k).2.1 (T k).2.2.1 host ∈ lw_tbl)
theorem rx_ent_eq {G : rx_E} {mu mu' : rx_M} {a : Nat} (h1 : mu'.1 a = mu.1 a) (h2 : mu'.2.1 a = mu.2.1 a) (h3 : mu'.2.2.1 a = mu.2.2.1 a) (h4 : mu'.2.2.2.1 a = mu.2.2.2.1 a) : rx_ent G mu' a = rx_ent G mu a := by
  simp only [rx_ent, rx_row, rx_fv, h1, h2, h3, h4]
theorem rx_Rel_set {G : rx_E} {mu mu' : rx_M} {H H1 : Heap} {a : Nat} (h : rx_Rel G mu H) (hs : H1.size = H.size) (oq : ∀ q : Nat, q ≠ rx_B G + a → H1[q]? = H[q]?) (hk : mu'.2.2.2 = mu.2.2.2)
    (ho : ∀ b, b ≠ a → mu'.1 b = mu.1 b ∧ mu'.2.1 b = mu.2.1 b ∧ mu'.2.2.1 b = mu.2.2.1 b) (hat : va_at G.2.2.1 vwCl (rx_B G + a, rx_ent G mu' a) H1) : rx_Rel G mu' H1 := by
  refine ⟨by rw [hs, h.1, hk], fun b hb hkb => ?_⟩
  by_cases hba : b = a
  · subst hba
    exact hat
  · rw [hk] at hb hkb
    obtain ⟨h1, h2, h3⟩ := ho b hba
    rw [rx_ent_eq h1 h2 h3 (by rw [hk])]
    exact (h.2 b hb hkb).kept (oq _ (fun q => hba (Nat.add_left_cancel q)))
theorem rx_In_set {G : rx_E} {mu mu' : rx_M} {vm : Vm} {H H1 : Heap} {a : Nat} (h : rx_In G mu vm H) (hs : H1.size = H.size) (oq : ∀ q : Nat, q ≠ rx_B G + a → H1[q]? = H[q]?) (hk : mu'.2.2.2 = mu.2.2.2)
    (ho : ∀ b, b ≠ a → mu'.1 b = mu.1 b ∧ mu'.2.1 b = mu.2.1 b ∧ mu'.2.2.1 b = mu.2.2.1 b) (hat : va_at G.2.2.1 vwCl (rx_B G + a, rx_ent G mu' a) H1) : rx_In G mu' vm H1 :=
  ⟨h.1, rx_Rel_set h.2.1 hs oq hk ho hat, fun q hq => (oq q (by omega)).trans (h.2.2 q hq)⟩
theorem rx_row_get {G : rx_E} {mu : rx_M} {a n k : Nat} {ty : Nat → FieldType} (hk : k < n) : (rx_row G mu a ty n)[k]? = some (rx_fv G mu a k (rx_tc (ty k))) := by
  simp [rx_row, hk]
theorem rx_obj {G : rx_E} {mu : rx_M} {vm : Vm} {H : Heap} {a ci : Nat} (h : rx_In G mu vm H) (hn : a < mu.2.2.2.2) (hk : (mu.2.2.2.1 a).1 = ci) (hci : ci < 12) : va_at G.2.2.1 vwCl (rx_B G + a, .inr (ci, rx_row G mu a (rx_ty ci).1 (rx_ty ci).2)) H := by
  have h1 := h.2.1.2 a hn (by omega)
  unfold rx_ent at h1
  rw [hk, if_pos hci] at h1
  exact h1
theorem rx_ent_obj {G : rx_E} {mu : rx_M} {a ci : Nat} (hk : (mu.2.2.2.1 a).1 = ci) (hci : ci < 12) : rx_ent G mu a = .inr (ci, rx_row G mu a (rx_ty ci).1 (rx_ty ci).2) := by
  unfold rx_ent
  rw [hk, if_pos hci]
theorem rx_P1 {D : va_G} {q : Nat × va_E} {H : Heap} (h : va_at D vwCl q H) : va_P D vwCl [q] H := by
  intro k x hk
  match k, hk with
  | 0, hk => cases hk; exact h
  | k + 1, hk => simp at hk
section RXF
variable {G : rx_E} {M : rx_Me} {d pc mc ms : Nat} {lv : List (Nat × Value)} {st : List Value} {mu : rx_M} {Q : Option Value → rx_M → Prop} {Z : String → rx_M → Prop}
theorem rx_getf {a idx ci k : Nat} {ty : FieldType} {v : Value} (hG : rx_OK G) (hF : rx_Fd M.1.cls idx ci k ty) (hd : decode M.2.1 pc = .ok (.getfield idx, 3)) (hn : a < mu.2.2.2.2) (hk : (mu.2.2.2.1 a).1 = ci) (hv : rx_fv G mu a k (rx_tc ty) = rx_tr G v)
    (kk : rx_W G M d (pc + 3) lv (v :: st) mu mc ms Q Z) : rx_W G M d pc lv (.ref a :: st) mu mc ms Q Z := by
  intro p e R s m args below meth c H locs cells slots MC MS ls C h1 h2 h3 h4 h5
  obtain ⟨C0, T, N, ⟨hci, hc, hw, hN, hty, hnm⟩, hkN, rfl, hl⟩ := hF
  have hP := rx_P1 (rx_obj h2 hn hk hci)
  have hK := rx_K hG C.2.2.2.2.2.2.2.1
  have hts : ∀ w ∈ u_ws C0 T N, w.before args s = true := fun w h => rx_w hG C.2.2.2.2.2.2.2.1 (hw w h).1 (hw w h).2 args
  have hvv : (rx_row G mu a (rx_ty ci).1 (rx_ty ci).2)[k]? = some (rx_tr G v) := by rw [hN, rx_row_get hkN, hv]
  have kk' := kk p e R s m args below meth c H locs cells slots MC MS ls C h1 h2 h3 h4 h5
  rcases hl with hl | ⟨host, hl⟩
  · exact va_get C.1 C.2.1 hts (fun _ h => h) C.2.2.2.2.1 hK hP 0 rfl hc k hkN (rx_w hG C.2.2.2.2.2.2.2.1 hl rfl args) (fun _ h => h) hvv hd kk'
  · exact va_getN C.1 C.2.1 hts (fun _ h => h) C.2.2.2.2.1 hK hP 0 rfl hc k hkN (rx_wN hG C.2.2.2.2.2.2.2.1 hl args) (fun _ h => h) hvv hd kk'
theorem rx_getI {a idx ci k : Nat} {ty : FieldType} (hG : rx_OK G) (hF : rx_Fd M.1.cls idx ci k ty) (ht : rx_tc ty = 0) (hd : decode M.2.1 pc = .ok (.getfield idx, 3)) (hn : a < mu.2.2.2.2) (hk : (mu.2.2.2.1 a).1 = ci)
    (kk : rx_W G M d (pc + 3) lv (.int (mu.1 a k) :: st) mu mc ms Q Z) : rx_W G M d pc lv (.ref a :: st) mu mc ms Q Z := rx_getf hG hF hd hn hk (by rw [ht]; rfl) kk
theorem rx_getL {a idx ci k : Nat} {ty : FieldType} (hG : rx_OK G) (hF : rx_Fd M.1.cls idx ci k ty) (ht : rx_tc ty = 1) (hd : decode M.2.1 pc = .ok (.getfield idx, 3)) (hn : a < mu.2.2.2.2) (hk : (mu.2.2.2.1 a).1 = ci)
    (kk : rx_W G M d (pc + 3) lv (.long (mu.2.1 a k) :: st) mu mc ms Q Z) : rx_W G M d pc lv (.ref a :: st) mu mc ms Q Z := rx_getf hG hF hd hn hk (by rw [ht]; rfl) kk
theorem rx_getR {a idx ci k : Nat} {ty : FieldType} (hG : rx_OK G) (hF : rx_Fd M.1.cls idx ci k ty) (ht : rx_tc ty = 2) (hd : decode M.2.1 pc = .ok (.getfield idx, 3)) (hn : a < mu.2.2.2.2) (hk : (mu.2.2.2.1 a).1 = ci) {r : Nat} (hr : mu.2.2.1 a k = some r)
    (kk : rx_W G M d (pc + 3) lv (.ref r :: st) mu mc ms Q Z) : rx_W G M d pc lv (.ref a :: st) mu mc ms Q Z := rx_getf hG hF hd hn hk (by rw [ht]; simp [rx_fv, hr, va_rf, rx_tr]) kk
end RXF
end
section
theorem rx_u_self {α : Type} (f : Nat → Nat → α) (a i : Nat) (x : α) : rx_u f a i x a = fun j => if j = i then x else f a j := by simp [rx_u]
theorem rx_u_ne {α : Type} (f : Nat → Nat → α) {a b : Nat} (i : Nat) (x : α) (h : b ≠ a) : rx_u f a i x b = f b := by simp [rx_u, h]
section RXP
variable {G : rx_E} {M : rx_Me} {d pc mc ms : Nat} {lv : List (Nat × Value)} {st : List Value} {mu : rx_M} {Q : Option Value → rx_M → Prop} {Z : String → rx_M → Prop}
/-- a store into a field: v the value, mu' the memory behind it -/
theorem rx_putf {a idx ci k : Nat} {ty : FieldType} {v : Value} {mu' : rx_M} (hG : rx_OK G) (hF : rx_Fd M.1.cls idx ci k ty) (hd : decode M.2.1 pc = .ok (.putfield idx, 3)) (hn : a < mu.2.2.2.2) (hk : (mu.2.2.2.1 a).1 = ci)
    (hfin : ∀ (C : String) (T : u_T) (N : Nat), rx_Cl ci C T N → (T k).2.2.2 = false ∨ ((T k).2.2.2 = true ∧ M.1.name = "<init>" ∧ (T k).1 = M.1.cls ∧ ∃ (idx' : Nat), idx' = idx ∧ Cond.fieldLink M.1.cls idx (T k).1 (T k).2.1 (T k).2.2.1 ∈ lw_tbl))
    (hv : narrow ty (rx_tr G v) = rx_tr G v) (hf : fits ty (rx_tr G v) = true) (hmk : mu'.2.2.2 = mu.2.2.2) (ho : ∀ b, b ≠ a → mu'.1 b = mu.1 b ∧ mu'.2.1 b = mu.2.1 b ∧ mu'.2.2.1 b = mu.2.2.1 b)
    (hrow : ∀ j, rx_fv G mu' a j (rx_tc ((rx_ty ci).1 j)) = if j = k then rx_tr G v else rx_fv G mu a j (rx_tc ((rx_ty ci).1 j)))
    (kk : rx_W G M d (pc + 3) lv st mu' mc ms Q Z) : rx_W G M d pc lv (v :: .ref a :: st) mu mc ms Q Z := by
  intro p e R s m args below meth c H locs cells slots MC MS ls C h1 h2 h3 h4 h5
  obtain ⟨C0, T, N, hCl, hkN, rfl, hl⟩ := hF
  have hfin' := hfin C0 T N hCl
  obtain ⟨hci, hc, hw, hN, hty, hnm⟩ := hCl
  have hat := rx_obj h2 hn hk hci
  have hWs : G.2.1.WarmedH s.vm := C.2.2.2.2.2.2.2.1
  have hK := rx_K hG hWs
  have hts : ∀ w ∈ u_ws C0 T N, w.before args s = true := fun w h => rx_w hG hWs (hw w h).1 (hw w h).2 args
  have hap := va_apart (own := M.1.cls) hts (fun _ h => h) (rx_ty ci).1 hty hnm hK hc
  obtain ⟨r, g1, cell, q1, q2, q3, q4⟩ := hat
  have hr : r = (C0, T, N) := Option.some.inj (g1.symm.trans hc)
  subst hr
  obtain ⟨hS, hfc, kC, hkC, hkind⟩ := hK.1 ci _ hc
  obtain ⟨cf, kf, fi, f, hi, hsl⟩ := hS k hkN
  have hst := (u_facts hfc hkC (u_lays hts (fun _ h => h) hkN) hi).1
  have hlay := hts _ (u_in_lay hkN)
  unfold u_lay at hlay
  have fin : ∀ H' : Heap, H'[rx_B G + a]? = some (cell.setSlot ((G.2.2.1.2 ci) k) (rx_tr G v)) → H'.size = H.size → (∀ q, q ≠ rx_B G + a → H'[q]? = H[q]?) → W p G.1 e R s m args below meth c H' (locs ++ [⟨rx_B G + a, (G.2.2.1.2 ci) k⟩]) cells slots (vx_MQ below (rx_Qc G Q) (rx_XC G Z) args s MC MS (fun q => rx_B G ≤ q)) (F0 m (pc + 3) ls (rx_trs G st)) := by
    intro H' e1 e2 e3
    refine kk p e R s m args below meth c H' _ cells slots MC MS ls C h1 (rx_In_set h2 e2 e3 hmk ho ?_) (by rw [e2]; exact h3) (fun q hq => ?_) h5
    · rw [rx_ent_obj (by rw [hmk]; exact hk) hci]
      refine ⟨_, hc, t_OB.to (V := updV (vp_V (rx_row G mu a (rx_ty ci).1 (rx_ty ci).2)) k (rx_tr G v)) ⟨_, e1, q2, q3, t_set q4 hap hkN _⟩ (fun j hj => ?_)⟩
      have hj' : j < (rx_ty ci).2 := by rw [hN]; exact hj
      have e5 := hrow j
      simp only [vp_V, List.getD_eq_getElem?_getD, rx_row_get hj', Option.getD_some, updV, e5]
    · rcases List.mem_append.mp hq with h | h
      · exact h4 q h
      · rw [List.mem_singleton.mp h]
        exact Nat.le_add_right _ _
  rcases hfin' with hf0 | ⟨hf1, hini, hdecl, idx', -, hlF⟩
  · rw [if_neg (by rw [hf0]; decide)] at hlay
    have h6 := u_store hfc hkC hkind hlay hi (hty k hkN) hv hf
    rcases hl with hl | ⟨host, hl⟩
    · refine W.putK C.1 C.2.1 (f := f) ⟨C.2.2.2.2.1, rx_w hG hWs hl rfl args, ⟨_, _, _, hi⟩, hst⟩ (by rw [q2]; exact h6) q1 q3 (by rw [hsl]; exact k2_hasslot (q4 k hkN)) rfl rfl hd fun H' e1 e2 e3 => ?_
      rw [hsl] at e1 ⊢
      exact fin H' e1 e2 e3
    · refine va_WputK C.1 C.2.1 (f := f) C.2.2.2.2.1 (rx_wN hG hWs hl args) hi hst (by rw [q2]; exact h6) q1 q3 (by rw [hsl]; exact k2_hasslot (q4 k hkN)) rfl rfl hd fun H' e1 e2 e3 => ?_
      rw [hsl] at e1 ⊢
      exact fin H' e1 e2 e3
  · rw [if_pos hf1] at hlay
    have hcf : m.cls = cf := by
      obtain ⟨_, _, c', _, _, _, -, -, hf', -, -, -, hown2, -⟩ := Cond.laysFinal_spec hlay
      have e1 : c' = cf := by have := hi.symm.trans hf'; simp at this; exact this.1.symm
      rw [hdecl] at hown2
      rw [← e1]; exact Option.some.inj (C.2.2.2.2.1.symm.trans hown2)
    have h6 := u_fits hfc hkC hkind (Or.inr hlay) hi (hty k hkN) hv hf
    refine W.putFinK C.1 C.2.1 C.2.2.2.2.1 (rx_w hG hWs hlF rfl args) hi hst hcf (C.2.2.2.2.2.2.1.trans hini) (by rw [q2]; exact h6) q1 q3 (by rw [hsl]; exact k2_hasslot (q4 k hkN)) rfl rfl hd fun H' e1 e2 e3 => ?_
    rw [hsl] at e1 ⊢
    exact fin H' e1 e2 e3
/-- a field may be written here: it isn't final, or its constructor writes it -/
def rx_Wr (M : rx_Me) (idx ci k : Nat) : Prop := ∀ (C : String) (T : u_T) (N : Nat), rx_Cl ci C T N → (T k).2.2.2 = false ∨ ((T k).2.2.2 = true ∧ M.1.name = "<init>" ∧ (T k).1 = M.1.cls ∧ ∃ (idx' : Nat), idx' = idx ∧ Cond.fieldLink M.1.cls idx (T k).1 (T k).2.1 (T k).2.2.1 ∈ lw_tbl)
theorem rx_tc_ne {t : FieldType} : rx_tc t = 0 ∨ rx_tc t = 1 ∨ rx_tc t = 2 := by cases t <;> simp [rx_tc]
theorem rx_putI {a idx ci k : Nat} {ty : FieldType} {x : Int32} (hG : rx_OK G) (hF : rx_Fd M.1.cls idx ci k ty) (hfin : rx_Wr M idx ci k) (ht : rx_tc ty = 0) (hd : decode M.2.1 pc = .ok (.putfield idx, 3)) (hn : a < mu.2.2.2.2) (hk : (mu.2.2.2.1 a).1 = ci)
    (hv : narrow ty (.int x) = .int x) (hf : fits ty (.int x) = true) (kk : rx_W G M d (pc + 3) lv st (rx_u mu.1 a k x, mu.2) mc ms Q Z) : rx_W G M d pc lv (.int x :: .ref a :: st) mu mc ms Q Z := by
  have hty : (rx_ty ci).1 k = ty := by obtain ⟨_, _, _, -, -, h, -⟩ := hF; exact h
  refine rx_putf (v := .int x) (mu' := (rx_u mu.1 a k x, mu.2)) hG hF hd hn hk hfin hv hf rfl (fun b hb => ⟨rx_u_ne _ _ _ hb, rfl, rfl⟩) (fun j => ?_) kk
  by_cases hj : j = k
  · subst hj
    rw [if_pos rfl, hty, ht]
    simp [rx_fv, rx_u_self, rx_tr]
  · rw [if_neg hj]
    simp [rx_fv, rx_u_self, hj]
theorem rx_putL {a idx ci k : Nat} {x : Int64} (hG : rx_OK G) (hF : rx_Fd M.1.cls idx ci k .long) (hfin : rx_Wr M idx ci k) (hd : decode M.2.1 pc = .ok (.putfield idx, 3)) (hn : a < mu.2.2.2.2) (hk : (mu.2.2.2.1 a).1 = ci)
    (kk : rx_W G M d (pc + 3) lv st (mu.1, rx_u mu.2.1 a k x, mu.2.2) mc ms Q Z) : rx_W G M d pc lv (.long x :: .ref a :: st) mu mc ms Q Z := by
  have hty : (rx_ty ci).1 k = .long := by obtain ⟨_, _, _, -, -, h, -⟩ := hF; exact h
  refine rx_putf (v := .long x) (mu' := (mu.1, rx_u mu.2.1 a k x, mu.2.2)) hG hF hd hn hk hfin rfl rfl rfl (fun b hb => ⟨rfl, rx_u_ne _ _ _ hb, rfl⟩) (fun j => ?_) kk
  by_cases hj : j = k
  · subst hj
    rw [if_pos rfl, hty]
    simp [rx_fv, rx_u_self, rx_tr, rx_tc]
  · rw [if_neg hj]
    simp [rx_fv, rx_u_self, hj]
theorem rx_putR {a idx ci k r : Nat} {ty : FieldType} (hG : rx_OK G) (hF : rx_Fd M.1.cls idx ci k ty) (hfin : rx_Wr M idx ci k) (ht : ∃ t, ty = .array t ∨ ∃ c, ty = .object c) (hd : decode M.2.1 pc = .ok (.putfield idx, 3)) (hn : a < mu.2.2.2.2) (hk : (mu.2.2.2.1 a).1 = ci)
    (kk : rx_W G M d (pc + 3) lv st (mu.1, mu.2.1, rx_u mu.2.2.1 a k (some r), mu.2.2.2) mc ms Q Z) : rx_W G M d pc lv (.ref r :: .ref a :: st) mu mc ms Q Z := by
  have hty : (rx_ty ci).1 k = ty := by obtain ⟨_, _, _, -, -, h, -⟩ := hF; exact h
  have h2 : rx_tc ty = 2 := by rcases ht with ⟨t, rfl | ⟨c, rfl⟩⟩ <;> rfl
  refine rx_putf (v := .ref r) (mu' := (mu.1, mu.2.1, rx_u mu.2.2.1 a k (some r), mu.2.2.2)) hG hF hd hn hk hfin (by rcases ht with ⟨t, rfl | ⟨c, rfl⟩⟩ <;> rfl) (by rcases ht with ⟨t, rfl | ⟨c, rfl⟩⟩ <;> rfl) rfl (fun b hb => ⟨rfl, rfl, rx_u_ne _ _ _ hb⟩) (fun j => ?_) kk
  by_cases hj : j = k
  · subst hj
    rw [if_pos rfl, hty, h2]
    simp [rx_fv, rx_u_self, rx_tr, va_rf]
  · rw [if_neg hj]
    simp [rx_fv, rx_u_self, hj]
end RXP
end
section
theorem rx_arrJ {G : rx_E} {mu : rx_M} {vm : Vm} {H : Heap} {a n : Nat} (h : rx_In G mu vm H) (hn : a < mu.2.2.2.2) (hk : mu.2.2.2.1 a = (14, n)) : H[rx_B G + a]? = some (vp_cell (G.2.2.2.1 14) (n, .inr (.inl (mu.2.1 a)))) := by
  have h1 := h.2.1.2 a hn (by rw [hk]; show 14 < 20; decide)
  unfold rx_ent at h1
  rw [hk, if_neg (show ¬ 14 < 12 by decide), if_pos rfl] at h1
  exact h1
theorem rx_arrI {G : rx_E} {mu : rx_M} {vm : Vm} {H : Heap} {a n t : Nat} (h : rx_In G mu vm H) (hn : a < mu.2.2.2.2) (hk : mu.2.2.2.1 a = (t, n)) (ht : t = 12 ∨ t = 13 ∨ t = 15) : H[rx_B G + a]? = some (vp_cell (G.2.2.2.1 t) (n, .inl (mu.1 a))) := by
  have h1 := h.2.1.2 a hn (by rw [hk]; show t < 20; omega)
  unfold rx_ent at h1
  rw [hk, if_neg (show ¬ t < 12 by omega), if_neg (show ¬ t = 14 by omega), if_pos (show t < 16 by omega)] at h1
  exact h1
theorem rx_arrR {G : rx_E} {mu : rx_M} {vm : Vm} {H : Heap} {a n t : Nat} (h : rx_In G mu vm H) (hn : a < mu.2.2.2.2) (hk : mu.2.2.2.1 a = (t, n)) (ht : 16 ≤ t ∧ t < 20) : H[rx_B G + a]? = some (vp_cell (G.2.2.2.1 t) (n, .inr (.inr (.inr (.inr (fun j => (mu.2.2.1 a j).map (rx_B G + ·))))))) := by
  have h1 := h.2.1.2 a hn (by rw [hk]; show t < 20; omega)
  unfold rx_ent at h1
  rw [hk, if_neg (show ¬ t < 12 by omega), if_neg (show ¬ t = 14 by omega), if_neg (show ¬ t < 16 by omega)] at h1
  exact h1
theorem rx_aty {G : rx_E} {s : State} (hG : rx_OK G) (hW : G.2.1.WarmedH s.vm) (t0 : Nat) {q : ClassId × FieldType} (h : (rx_tys G)[t0]? = some q) : ArrOfT s q.1 q.2 ∧ va_RA s q.1 q.2 := (rx_K hG hW).2 t0 q h
section RXA
variable {G : rx_E} {M : rx_Me} {d pc mc ms : Nat} {lv : List (Nat × Value)} {st : List Value} {mu : rx_M} {Q : Option Value → rx_M → Prop} {Z : String → rx_M → Prop}
theorem rx_iald {a j n : Nat} {i : Int32} (hG : rx_OK G) (hd : decode M.2.1 pc = .ok (.iaload, 1)) (hn : a < mu.2.2.2.2) (hk : mu.2.2.2.1 a = (13, n)) (hi : i = nI j) (hj : j < n) (hN : n < 2147483648)
    (kk : rx_W G M d (pc + 1) lv (.int (mu.1 a j) :: st) mu mc ms Q Z) : rx_W G M d pc lv (.int i :: .ref a :: st) mu mc ms Q Z := by
  intro p e R s m args below meth c H locs cells slots MC MS ls C h1 h2 h3 h4 h5
  subst hi
  have hcl : (nI j).toNatClampNeg = j := nI_clamp (by omega)
  have hin := vp_in_nI hj hN
  refine W.iald (v := .int (mu.1 a j)) C.1 C.2.1 (rx_arrI h2 hn hk (by omega)) ((rx_aty hG C.2.2.2.2.2.2.2.1 1 rfl).1 n (fun j => .int (mu.1 a j))) (fun q => by cases q) (by show ¬ (nI j < 0 ∨ (arrV _ _ _).slots.size ≤ _); rw [arrV_size]; exact hin) (by show (arrV _ _ _).slots[_]? = _; rw [hcl, arrV_read _ _ hj]) rfl rfl hd ?_
  exact kk p e R s m args below meth c H locs cells slots MC MS ls C h1 h2 h3 h4 h5
theorem rx_bald {a j n : Nat} {i : Int32} (hG : rx_OK G) (hd : decode M.2.1 pc = .ok (.baload, 1)) (hn : a < mu.2.2.2.2) (hk : mu.2.2.2.1 a = (12, n)) (hi : i = nI j) (hj : j < n) (hN : n < 2147483648)
    (kk : rx_W G M d (pc + 1) lv (.int (mu.1 a j) :: st) mu mc ms Q Z) : rx_W G M d pc lv (.int i :: .ref a :: st) mu mc ms Q Z := by
  intro p e R s m args below meth c H locs cells slots MC MS ls C h1 h2 h3 h4 h5
  subst hi
  have hcl : (nI j).toNatClampNeg = j := nI_clamp (by omega)
  have hin := vp_in_nI hj hN
  refine W.bald (v := .int (mu.1 a j)) C.1 C.2.1 (rx_arrI h2 hn hk (by omega)) ((rx_aty hG C.2.2.2.2.2.2.2.1 0 rfl).1 n (fun j => .int (mu.1 a j))) (fun q => by cases q) (by show ¬ (nI j < 0 ∨ (arrV _ _ _).slots.size ≤ _); rw [arrV_size]; exact hin) (by show (arrV _ _ _).slots[_]? = _; rw [hcl, arrV_read _ _ hj]) rfl rfl hd ?_
  exact kk p e R s m args below meth c H locs cells slots MC MS ls C h1 h2 h3 h4 h5
theorem rx_zald {a j n : Nat} {i : Int32} (hG : rx_OK G) (hd : decode M.2.1 pc = .ok (.baload, 1)) (hn : a < mu.2.2.2.2) (hk : mu.2.2.2.1 a = (15, n)) (hi : i = nI j) (hj : j < n) (hN : n < 2147483648)
    (kk : rx_W G M d (pc + 1) lv (.int (mu.1 a j) :: st) mu mc ms Q Z) : rx_W G M d pc lv (.int i :: .ref a :: st) mu mc ms Q Z := by
  intro p e R s m args below meth c H locs cells slots MC MS ls C h1 h2 h3 h4 h5
  subst hi
  have hcl : (nI j).toNatClampNeg = j := nI_clamp (by omega)
  have hin := vp_in_nI hj hN
  refine W.zald (v := .int (mu.1 a j)) C.1 C.2.1 (rx_arrI h2 hn hk (by omega)) ((rx_aty hG C.2.2.2.2.2.2.2.1 3 rfl).1 n (fun j => .int (mu.1 a j))) (fun q => by cases q) (by show ¬ (nI j < 0 ∨ (arrV _ _ _).slots.size ≤ _); rw [arrV_size]; exact hin) (by show (arrV _ _ _).slots[_]? = _; rw [hcl, arrV_read _ _ hj]) rfl rfl hd ?_
  exact kk p e R s m args below meth c H locs cells slots MC MS ls C h1 h2 h3 h4 h5
theorem rx_lald {a j n : Nat} {i : Int32} (hG : rx_OK G) (hd : decode M.2.1 pc = .ok (.laload, 1)) (hn : a < mu.2.2.2.2) (hk : mu.2.2.2.1 a = (14, n)) (hi : i = nI j) (hj : j < n) (hN : n < 2147483648)
    (kk : rx_W G M d (pc + 1) lv (.long (mu.2.1 a j) :: st) mu mc ms Q Z) : rx_W G M d pc lv (.int i :: .ref a :: st) mu mc ms Q Z := by
  intro p e R s m args below meth c H locs cells slots MC MS ls C h1 h2 h3 h4 h5
  subst hi
  have hcl : (nI j).toNatClampNeg = j := nI_clamp (by omega)
  have hin := vp_in_nI hj hN
  refine W.lald (v := .long (mu.2.1 a j)) C.1 C.2.1 (rx_arrJ h2 hn hk) ((rx_aty hG C.2.2.2.2.2.2.2.1 2 rfl).1 n (fun j => .long (mu.2.1 a j))) (fun q => by cases q) (by show ¬ (nI j < 0 ∨ (arrV _ _ _).slots.size ≤ _); rw [arrV_size]; exact hin) (by show (arrV _ _ _).slots[_]? = _; rw [hcl, arrV_read _ _ hj]) rfl rfl hd ?_
  exact kk p e R s m args below meth c H locs cells slots MC MS ls C h1 h2 h3 h4 h5
/-- the element class of a row of references -/
def rx_el : Nat → String
  | 16 => RX0 | 17 => RX2 | 18 => RX6 | _ => RX8
def rx_eli : Nat → Nat
  | 16 => 0 | 17 => 2 | 18 => 6 | _ => 8
theorem rx_tysR {G : rx_E} {t : Nat} (ht : 16 ≤ t ∧ t < 20) : (rx_tys G)[t - 12]? = some (G.2.2.2.1 t, .object (rx_el t)) := by
  have : t = 16 ∨ t = 17 ∨ t = 18 ∨ t = 19 := by omega
  rcases this with rfl | rfl | rfl | rfl <;> rfl
theorem rx_aald {a j n t : Nat} {i : Int32} (hG : rx_OK G) (hd : decode M.2.1 pc = .ok (.aaload, 1)) (hn : a < mu.2.2.2.2) (hk : mu.2.2.2.1 a = (t, n)) (ht : 16 ≤ t ∧ t < 20) (hi : i = nI j) (hj : j < n) (hN : n < 2147483648) {r : Nat} (hr : mu.2.2.1 a j = some r)
    (kk : rx_W G M d (pc + 1) lv (.ref r :: st) mu mc ms Q Z) : rx_W G M d pc lv (.int i :: .ref a :: st) mu mc ms Q Z := by
  intro p e R s m args below meth c H locs cells slots MC MS ls C h1 h2 h3 h4 h5
  subst hi
  have hcl : (nI j).toNatClampNeg = j := nI_clamp (by omega)
  have hin := vp_in_nI hj hN
  refine W.aald (v := .ref (rx_B G + r)) (ty := .object (rx_el t)) C.1 C.2.1 (rx_arrR h2 hn hk ht) ((rx_aty hG C.2.2.2.2.2.2.2.1 (t - 12) (rx_tysR ht)).1 n (fun j => va_rf ((mu.2.2.1 a j).map (rx_B G + ·)))) rfl (fun q => by cases q) (by show ¬ (nI j < 0 ∨ (arrV _ _ _).slots.size ≤ _); rw [arrV_size]; exact hin) (by show (arrV _ _ _).slots[_]? = _; rw [hcl, arrV_read _ _ hj]; show some (va_rf ((mu.2.2.1 a j).map (rx_B G + ·))) = _; rw [hr]; rfl) rfl rfl hd ?_
  exact kk p e R s m args below meth c H locs cells slots MC MS ls C h1 h2 h3 h4 h5
theorem rx_alen {a n t : Nat} {x : Int32} (hG : rx_OK G) (hd : decode M.2.1 pc = .ok (.arraylength, 1)) (hn : a < mu.2.2.2.2) (hk : mu.2.2.2.1 a = (t, n)) (ht : 12 ≤ t ∧ t < 16) (hx : nI n = x)
    (kk : rx_W G M d (pc + 1) lv (.int x :: st) mu mc ms Q Z) : rx_W G M d pc lv (.ref a :: st) mu mc ms Q Z := by
  intro p e R s m args below meth c H locs cells slots MC MS ls C h1 h2 h3 h4 h5
  have kk' := kk p e R s m args below meth c H locs cells slots MC MS ls C h1 h2 h3 h4 h5
  have hsz : ∀ (cA : ClassId) (f : Nat → Value), (arrV cA n f).slots.size.toInt32 = x := fun cA f => by rw [arrV_size]; exact hx
  have : t = 14 ∨ (t = 12 ∨ t = 13 ∨ t = 15) := by omega
  rcases this with rfl | h
  · exact W.alen (ty := .long) C.1 C.2.1 (rx_arrJ h2 hn hk) ((rx_aty hG C.2.2.2.2.2.2.2.1 2 rfl).1 n (fun j => .long (mu.2.1 a j))) (hsz _ _) rfl rfl hd kk'
  · have hA := rx_arrI h2 hn hk h
    rcases h with rfl | rfl | rfl
    · exact W.alen (ty := .byte) C.1 C.2.1 hA ((rx_aty hG C.2.2.2.2.2.2.2.1 0 rfl).1 n (fun j => .int (mu.1 a j))) (hsz _ _) rfl rfl hd kk'
    · exact W.alen (ty := .int) C.1 C.2.1 hA ((rx_aty hG C.2.2.2.2.2.2.2.1 1 rfl).1 n (fun j => .int (mu.1 a j))) (hsz _ _) rfl rfl hd kk'
    · exact W.alen (ty := .boolean) C.1 C.2.1 hA ((rx_aty hG C.2.2.2.2.2.2.2.1 3 rfl).1 n (fun j => .int (mu.1 a j))) (hsz _ _) rfl rfl hd kk'
theorem rx_locs {locs : List Loc} {a i : Nat} (h4 : ∀ q ∈ locs, rx_B G ≤ q.base) : ∀ q ∈ locs ++ [(⟨rx_B G + a, i⟩ : Loc)], rx_B G ≤ q.base := by
  intro q hq
  rcases List.mem_append.mp hq with h | h
  · exact h4 q h
  · rw [List.mem_singleton.mp h]
    exact Nat.le_add_right _ _
theorem rx_last {a j n : Nat} {i : Int32} {x : Int64} (hG : rx_OK G) (hd : decode M.2.1 pc = .ok (.lastore, 1)) (hn : a < mu.2.2.2.2) (hk : mu.2.2.2.1 a = (14, n)) (hi : i = nI j) (hj : j < n) (hN : n < 2147483648)
    (kk : rx_W G M d (pc + 1) lv st (mu.1, rx_u mu.2.1 a j x, mu.2.2) mc ms Q Z) : rx_W G M d pc lv (.long x :: .int i :: .ref a :: st) mu mc ms Q Z := by
  intro p e R s m args below meth c H locs cells slots MC MS ls C h1 h2 h3 h4 h5
  subst hi
  have hcl : (nI j).toNatClampNeg = j := nI_clamp (by omega)
  have hin := vp_in_nI hj hN
  refine W.last C.1 C.2.1 (rx_arrJ h2 hn hk) ((rx_aty hG C.2.2.2.2.2.2.2.1 2 rfl).1 n (fun j => .long (mu.2.1 a j))) (fun q => by cases q) (by show ¬ (nI j < 0 ∨ (arrV _ _ _).slots.size ≤ _); rw [arrV_size]; exact hin) rfl rfl hd fun H1 e1 e2 e3 => ?_
  rw [hcl] at e1 ⊢
  refine kk p e R s m args below meth c H1 _ cells slots MC MS ls C h1 (rx_In_set (a := a) h2 e2 e3 rfl (fun b hb => ⟨rfl, rx_u_ne _ _ _ hb, rfl⟩) ?_) (by rw [e2]; exact h3) (rx_locs h4) h5
  unfold rx_ent
  simp only [hk]
  rw [if_neg (by decide), if_pos trivial]
  show H1[rx_B G + a]? = _
  rw [e1, vp_cell_l, vp_cell_l, arrV_store, rx_u_self]
  refine congrArg some (congrArg (arrV _ _) (funext fun b => ?_))
  by_cases hb : b = j <;> simp [updV, hb]
theorem rx_iast {a j n : Nat} {i x : Int32} (hG : rx_OK G) (hd : decode M.2.1 pc = .ok (.iastore, 1)) (hn : a < mu.2.2.2.2) (hk : mu.2.2.2.1 a = (13, n)) (hi : i = nI j) (hj : j < n) (hN : n < 2147483648)
    (kk : rx_W G M d (pc + 1) lv st (rx_u mu.1 a j x, mu.2) mc ms Q Z) : rx_W G M d pc lv (.int x :: .int i :: .ref a :: st) mu mc ms Q Z := by
  intro p e R s m args below meth c H locs cells slots MC MS ls C h1 h2 h3 h4 h5
  subst hi
  have hcl : (nI j).toNatClampNeg = j := nI_clamp (by omega)
  have hin := vp_in_nI hj hN
  refine W.iast C.1 C.2.1 (rx_arrI h2 hn hk (by omega)) ((rx_aty hG C.2.2.2.2.2.2.2.1 1 rfl).1 n (fun j => .int (mu.1 a j))) (fun q => by cases q) (by show ¬ (nI j < 0 ∨ (arrV _ _ _).slots.size ≤ _); rw [arrV_size]; exact hin) rfl rfl hd fun H1 e1 e2 e3 => ?_
  rw [hcl] at e1 ⊢
  refine kk p e R s m args below meth c H1 _ cells slots MC MS ls C h1 (rx_In_set (a := a) h2 e2 e3 rfl (fun b hb => ⟨rx_u_ne _ _ _ hb, rfl, rfl⟩) ?_) (by rw [e2]; exact h3) (rx_locs h4) h5
  unfold rx_ent
  simp only [hk]
  rw [if_neg (by decide), if_neg (by decide), if_pos (by decide)]
  show H1[rx_B G + a]? = _
  rw [e1, vp_cell_i, vp_cell_i, arrV_store, rx_u_self]
  refine congrArg some (congrArg (arrV _ _) (funext fun b => ?_))
  by_cases hb : b = j <;> simp [updV, hb]
theorem rx_bast {a j n : Nat} {i x : Int32} (hG : rx_OK G) (hd : decode M.2.1 pc = .ok (.bastore, 1)) (hn : a < mu.2.2.2.2) (hk : mu.2.2.2.1 a = (12, n)) (hi : i = nI j) (hj : j < n) (hN : n < 2147483648)
    (kk : rx_W G M d (pc + 1) lv st (rx_u mu.1 a j (x.toInt8.toInt32), mu.2) mc ms Q Z) : rx_W G M d pc lv (.int x :: .int i :: .ref a :: st) mu mc ms Q Z := by
  intro p e R s m args below meth c H locs cells slots MC MS ls C h1 h2 h3 h4 h5
  subst hi
  have hcl : (nI j).toNatClampNeg = j := nI_clamp (by omega)
  have hin := vp_in_nI hj hN
  refine W.bast C.1 C.2.1 (rx_arrI h2 hn hk (by omega)) ((rx_aty hG C.2.2.2.2.2.2.2.1 0 rfl).1 n (fun j => .int (mu.1 a j))) (fun q => by cases q) (by show ¬ (nI j < 0 ∨ (arrV _ _ _).slots.size ≤ _); rw [arrV_size]; exact hin) rfl rfl hd fun H1 e1 e2 e3 => ?_
  rw [hcl] at e1 ⊢
  rw [show narrow .byte (.int x) = .int x.toInt8.toInt32 from rfl] at e1
  refine kk p e R s m args below meth c H1 _ cells slots MC MS ls C h1 (rx_In_set (a := a) h2 e2 e3 rfl (fun b hb => ⟨rx_u_ne _ _ _ hb, rfl, rfl⟩) ?_) (by rw [e2]; exact h3) (rx_locs h4) h5
  unfold rx_ent
  simp only [hk]
  rw [if_neg (by decide), if_neg (by decide), if_pos (by decide)]
  show H1[rx_B G + a]? = _
  rw [e1, vp_cell_i, vp_cell_i, arrV_store, rx_u_self]
  refine congrArg some (congrArg (arrV _ _) (funext fun b => ?_))
  by_cases hb : b = j <;> simp [updV, hb]
theorem rx_zast {a j n : Nat} {i x : Int32} (hG : rx_OK G) (hd : decode M.2.1 pc = .ok (.bastore, 1)) (hn : a < mu.2.2.2.2) (hk : mu.2.2.2.1 a = (15, n)) (hi : i = nI j) (hj : j < n) (hN : n < 2147483648) (hx : narrow .boolean (.int x) = .int x)
    (kk : rx_W G M d (pc + 1) lv st (rx_u mu.1 a j x, mu.2) mc ms Q Z) : rx_W G M d pc lv (.int x :: .int i :: .ref a :: st) mu mc ms Q Z := by
  intro p e R s m args below meth c H locs cells slots MC MS ls C h1 h2 h3 h4 h5
  subst hi
  have hcl : (nI j).toNatClampNeg = j := nI_clamp (by omega)
  have hin := vp_in_nI hj hN
  refine W.zast C.1 C.2.1 (rx_arrI h2 hn hk (by omega)) ((rx_aty hG C.2.2.2.2.2.2.2.1 3 rfl).1 n (fun j => .int (mu.1 a j))) (fun q => by cases q) (by show ¬ (nI j < 0 ∨ (arrV _ _ _).slots.size ≤ _); rw [arrV_size]; exact hin) rfl rfl hd fun H1 e1 e2 e3 => ?_
  rw [hcl] at e1 ⊢
  rw [hx] at e1
  refine kk p e R s m args below meth c H1 _ cells slots MC MS ls C h1 (rx_In_set (a := a) h2 e2 e3 rfl (fun b hb => ⟨rx_u_ne _ _ _ hb, rfl, rfl⟩) ?_) (by rw [e2]; exact h3) (rx_locs h4) h5
  unfold rx_ent
  simp only [hk]
  rw [if_neg (by decide), if_neg (by decide), if_pos (by decide)]
  show H1[rx_B G + a]? = _
  rw [e1, vp_cell_i, vp_cell_i, arrV_store, rx_u_self]
  refine congrArg some (congrArg (arrV _ _) (funext fun b => ?_))
  by_cases hb : b = j <;> simp [updV, hb]
end RXA
end
section
section RXO
variable {G : rx_E} {M : rx_Me} {d pc mc ms : Nat} {lv : List (Nat × Value)} {st : List Value} {mu : rx_M} {Q : Option Value → rx_M → Prop} {Z : String → rx_M → Prop}
theorem rx_bipush {n : Int} {v : Int32} (hd : decode M.2.1 pc = .ok (.bipush n, 2)) (hv : (Int8.ofInt n).toInt32 = v) (k : rx_W G M d (pc + 2) lv (.int v :: st) mu mc ms Q Z) : rx_W G M d pc lv (st) mu mc ms Q Z :=
  rx_s k fun _ _ _ _ _ _ _ _ _ _ _ _ _ _ _ hx hb k => lv_bipush hx hb hd hv k
theorem rx_sipush {n : Int} {v : Int32} (hd : decode M.2.1 pc = .ok (.sipush n, 3)) (hv : (Int16.ofInt n).toInt32 = v) (k : rx_W G M d (pc + 3) lv (.int v :: st) mu mc ms Q Z) : rx_W G M d pc lv (st) mu mc ms Q Z :=
  rx_s k fun _ _ _ _ _ _ _ _ _ _ _ _ _ _ _ hx hb k => lv_sipush hx hb hd hv k
theorem rx_lconst {n : Fin 2} {v : Int64} (hd : decode M.2.1 pc = .ok (.lconst n, 1)) (hv : Int64.ofNat (n : Nat) = v) (k : rx_W G M d (pc + 1) lv (.long v :: st) mu mc ms Q Z) : rx_W G M d pc lv (st) mu mc ms Q Z :=
  rx_s k fun _ _ _ _ _ _ _ _ _ _ _ _ _ _ _ hx hb k => lv_lconst hx hb hd hv k
theorem rx_isub {x y : Int32} (hd : decode M.2.1 pc = .ok (.isub, 1)) (k : rx_W G M d (pc + 1) lv (.int (x - y) :: st) mu mc ms Q Z) : rx_W G M d pc lv (.int y :: .int x :: st) mu mc ms Q Z :=
  rx_s k fun _ _ _ _ _ _ _ _ _ _ _ _ _ _ _ hx hb k => lv_isub hx hb hd k
theorem rx_imul {x y : Int32} (hd : decode M.2.1 pc = .ok (.imul, 1)) (k : rx_W G M d (pc + 1) lv (.int (x * y) :: st) mu mc ms Q Z) : rx_W G M d pc lv (.int y :: .int x :: st) mu mc ms Q Z :=
  rx_s k fun _ _ _ _ _ _ _ _ _ _ _ _ _ _ _ hx hb k => lv_imul hx hb hd k
theorem rx_iand {x y : Int32} (hd : decode M.2.1 pc = .ok (.iand, 1)) (k : rx_W G M d (pc + 1) lv (.int (x &&& y) :: st) mu mc ms Q Z) : rx_W G M d pc lv (.int y :: .int x :: st) mu mc ms Q Z :=
  rx_s k fun _ _ _ _ _ _ _ _ _ _ _ _ _ _ _ hx hb k => lv_iand hx hb hd k
theorem rx_ior {x y : Int32} (hd : decode M.2.1 pc = .ok (.ior, 1)) (k : rx_W G M d (pc + 1) lv (.int (x ||| y) :: st) mu mc ms Q Z) : rx_W G M d pc lv (.int y :: .int x :: st) mu mc ms Q Z :=
  rx_s k fun _ _ _ _ _ _ _ _ _ _ _ _ _ _ _ hx hb k => lv_ior hx hb hd k
theorem rx_ixor {x y : Int32} (hd : decode M.2.1 pc = .ok (.ixor, 1)) (k : rx_W G M d (pc + 1) lv (.int (x ^^^ y) :: st) mu mc ms Q Z) : rx_W G M d pc lv (.int y :: .int x :: st) mu mc ms Q Z :=
  rx_s k fun _ _ _ _ _ _ _ _ _ _ _ _ _ _ _ hx hb k => lv_ixor hx hb hd k
theorem rx_ishl {x y : Int32} (hd : decode M.2.1 pc = .ok (.ishl, 1)) (k : rx_W G M d (pc + 1) lv (.int (x <<< (y &&& 31)) :: st) mu mc ms Q Z) : rx_W G M d pc lv (.int y :: .int x :: st) mu mc ms Q Z :=
  rx_s k fun _ _ _ _ _ _ _ _ _ _ _ _ _ _ _ hx hb k => lv_ishl hx hb hd k
theorem rx_ishr {x y : Int32} (hd : decode M.2.1 pc = .ok (.ishr, 1)) (k : rx_W G M d (pc + 1) lv (.int (x >>> (y &&& 31)) :: st) mu mc ms Q Z) : rx_W G M d pc lv (.int y :: .int x :: st) mu mc ms Q Z :=
  rx_s k fun _ _ _ _ _ _ _ _ _ _ _ _ _ _ _ hx hb k => lv_ishr hx hb hd k
theorem rx_idiv {x y : Int32} (hd : decode M.2.1 pc = .ok (.idiv, 1)) (hne : ¬ y = 0) (k : rx_W G M d (pc + 1) lv (.int (x / y) :: st) mu mc ms Q Z) : rx_W G M d pc lv (.int y :: .int x :: st) mu mc ms Q Z :=
  rx_s k fun _ _ _ _ _ _ _ _ _ _ _ _ _ _ _ hx hb k => lv_idiv hx hb hd hne k
theorem rx_irem {x y : Int32} (hd : decode M.2.1 pc = .ok (.irem, 1)) (hne : ¬ y = 0) (k : rx_W G M d (pc + 1) lv (.int (x - x / y * y) :: st) mu mc ms Q Z) : rx_W G M d pc lv (.int y :: .int x :: st) mu mc ms Q Z :=
  rx_s k fun _ _ _ _ _ _ _ _ _ _ _ _ _ _ _ hx hb k => lv_irem hx hb hd hne k
theorem rx_ladd {x y : Int64} (hd : decode M.2.1 pc = .ok (.ladd, 1)) (k : rx_W G M d (pc + 1) lv (.long (x + y) :: st) mu mc ms Q Z) : rx_W G M d pc lv (.long y :: .long x :: st) mu mc ms Q Z :=
  rx_s k fun _ _ _ _ _ _ _ _ _ _ _ _ _ _ _ hx hb k => lv_ladd hx hb hd k
theorem rx_lsub {x y : Int64} (hd : decode M.2.1 pc = .ok (.lsub, 1)) (k : rx_W G M d (pc + 1) lv (.long (x - y) :: st) mu mc ms Q Z) : rx_W G M d pc lv (.long y :: .long x :: st) mu mc ms Q Z :=
  rx_s k fun _ _ _ _ _ _ _ _ _ _ _ _ _ _ _ hx hb k => lv_lsub hx hb hd k
theorem rx_lmul {x y : Int64} (hd : decode M.2.1 pc = .ok (.lmul, 1)) (k : rx_W G M d (pc + 1) lv (.long (x * y) :: st) mu mc ms Q Z) : rx_W G M d pc lv (.long y :: .long x :: st) mu mc ms Q Z :=
  rx_s k fun _ _ _ _ _ _ _ _ _ _ _ _ _ _ _ hx hb k => lv_lmul hx hb hd k
theorem rx_land {x y : Int64} (hd : decode M.2.1 pc = .ok (.land, 1)) (k : rx_W G M d (pc + 1) lv (.long (x &&& y) :: st) mu mc ms Q Z) : rx_W G M d pc lv (.long y :: .long x :: st) mu mc ms Q Z :=
  rx_s k fun _ _ _ _ _ _ _ _ _ _ _ _ _ _ _ hx hb k => lv_land hx hb hd k
theorem rx_lor {x y : Int64} (hd : decode M.2.1 pc = .ok (.lor, 1)) (k : rx_W G M d (pc + 1) lv (.long (x ||| y) :: st) mu mc ms Q Z) : rx_W G M d pc lv (.long y :: .long x :: st) mu mc ms Q Z :=
  rx_s k fun _ _ _ _ _ _ _ _ _ _ _ _ _ _ _ hx hb k => lv_lor hx hb hd k
theorem rx_lxor {x y : Int64} (hd : decode M.2.1 pc = .ok (.lxor, 1)) (k : rx_W G M d (pc + 1) lv (.long (x ^^^ y) :: st) mu mc ms Q Z) : rx_W G M d pc lv (.long y :: .long x :: st) mu mc ms Q Z :=
  rx_s k fun _ _ _ _ _ _ _ _ _ _ _ _ _ _ _ hx hb k => lv_lxor hx hb hd k
theorem rx_ldiv {x y : Int64} (hd : decode M.2.1 pc = .ok (.ldiv, 1)) (hne : ¬ y = 0) (k : rx_W G M d (pc + 1) lv (.long (x / y) :: st) mu mc ms Q Z) : rx_W G M d pc lv (.long y :: .long x :: st) mu mc ms Q Z :=
  rx_s k fun _ _ _ _ _ _ _ _ _ _ _ _ _ _ _ hx hb k => lv_ldiv hx hb hd hne k
theorem rx_lrem {x y : Int64} (hd : decode M.2.1 pc = .ok (.lrem, 1)) (hne : ¬ y = 0) (k : rx_W G M d (pc + 1) lv (.long (x - x / y * y) :: st) mu mc ms Q Z) : rx_W G M d pc lv (.long y :: .long x :: st) mu mc ms Q Z :=
  rx_s k fun _ _ _ _ _ _ _ _ _ _ _ _ _ _ _ hx hb k => lv_lrem hx hb hd hne k
theorem rx_lneg {x : Int64} (hd : decode M.2.1 pc = .ok (.lneg, 1)) (k : rx_W G M d (pc + 1) lv (.long (-x) :: st) mu mc ms Q Z) : rx_W G M d pc lv (.long x :: st) mu mc ms Q Z :=
  rx_s k fun _ _ _ _ _ _ _ _ _ _ _ _ _ _ _ hx hb k => lv_lneg hx hb hd k
theorem rx_ineg {x : Int32} (hd : decode M.2.1 pc = .ok (.ineg, 1)) (k : rx_W G M d (pc + 1) lv (.int (-x) :: st) mu mc ms Q Z) : rx_W G M d pc lv (.int x :: st) mu mc ms Q Z :=
  rx_s k fun _ _ _ _ _ _ _ _ _ _ _ _ _ _ _ hx hb k => lv_ineg hx hb hd k
theorem rx_i2l {x : Int32} (hd : decode M.2.1 pc = .ok (.i2l, 1)) (k : rx_W G M d (pc + 1) lv (.long x.toInt64 :: st) mu mc ms Q Z) : rx_W G M d pc lv (.int x :: st) mu mc ms Q Z :=
  rx_s k fun _ _ _ _ _ _ _ _ _ _ _ _ _ _ _ hx hb k => lv_i2l hx hb hd rfl k
theorem rx_l2i {x : Int64} (hd : decode M.2.1 pc = .ok (.l2i, 1)) (k : rx_W G M d (pc + 1) lv (.int x.toInt32 :: st) mu mc ms Q Z) : rx_W G M d pc lv (.long x :: st) mu mc ms Q Z :=
  rx_s k fun _ _ _ _ _ _ _ _ _ _ _ _ _ _ _ hx hb k => lv_l2i hx hb hd rfl k
theorem rx_i2b {x : Int32} (hd : decode M.2.1 pc = .ok (.i2b, 1)) (k : rx_W G M d (pc + 1) lv (.int x.toInt8.toInt32 :: st) mu mc ms Q Z) : rx_W G M d pc lv (.int x :: st) mu mc ms Q Z :=
  rx_s k fun _ _ _ _ _ _ _ _ _ _ _ _ _ _ _ hx hb k => lv_i2b hx hb hd rfl k
theorem rx_lshl {x : Int64} {y : Int32} (hd : decode M.2.1 pc = .ok (.lshl, 1)) (k : rx_W G M d (pc + 1) lv (.long (x <<< (y.toInt64 &&& 63)) :: st) mu mc ms Q Z) : rx_W G M d pc lv (.int y :: .long x :: st) mu mc ms Q Z :=
  rx_s k fun _ _ _ _ _ _ _ _ _ _ _ _ _ _ _ hx hb k => lv_lshl hx hb hd rfl k
theorem rx_lshr {x : Int64} {y : Int32} (hd : decode M.2.1 pc = .ok (.lshr, 1)) (k : rx_W G M d (pc + 1) lv (.long (x >>> (y.toInt64 &&& 63)) :: st) mu mc ms Q Z) : rx_W G M d pc lv (.int y :: .long x :: st) mu mc ms Q Z :=
  rx_s k fun _ _ _ _ _ _ _ _ _ _ _ _ _ _ _ hx hb k => lv_lshr hx hb hd rfl k
theorem rx_lushr {x : Int64} {y : Int32} (hd : decode M.2.1 pc = .ok (.lushr, 1)) (k : rx_W G M d (pc + 1) lv (.long (x.toUInt64 >>> (y.toInt64.toUInt64 &&& Int64.toUInt64 63)).toInt64 :: st) mu mc ms Q Z) : rx_W G M d pc lv (.int y :: .long x :: st) mu mc ms Q Z :=
  rx_s k fun _ _ _ _ _ _ _ _ _ _ _ _ _ _ _ hx hb k => lv_lushr hx hb hd rfl k
theorem rx_lcmp {x y : Int64} (hd : decode M.2.1 pc = .ok (.lcmp, 1)) (k : rx_W G M d (pc + 1) lv (.int (lg_cmp x y) :: st) mu mc ms Q Z) : rx_W G M d pc lv (.long y :: .long x :: st) mu mc ms Q Z :=
  rx_s k fun _ _ _ _ _ _ _ _ _ _ _ _ _ _ _ hx hb k => W.lcmp hx hb hd k
theorem rx_dup {v : Value} (hd : decode M.2.1 pc = .ok (.dup, 1)) (hv : v.category = 1) (k : rx_W G M d (pc + 1) lv (v :: v :: st) mu mc ms Q Z) : rx_W G M d pc lv (v :: st) mu mc ms Q Z :=
  rx_s k fun _ _ _ _ _ _ _ _ _ _ _ _ _ _ _ hx hb k => lv_dup hx hb hd ((rx_cat G v).trans hv) k
theorem rx_pop {v : Value} (hd : decode M.2.1 pc = .ok (.pop, 1)) (hv : v.category = 1) (k : rx_W G M d (pc + 1) lv (st) mu mc ms Q Z) : rx_W G M d pc lv (v :: st) mu mc ms Q Z :=
  rx_s k fun _ _ _ _ _ _ _ _ _ _ _ _ _ _ _ hx hb k => lv_pop hx hb hd ((rx_cat G v).trans hv) k
theorem rx_pop2 {v : Value} (hd : decode M.2.1 pc = .ok (.pop2, 1)) (hv : v.category = 2) (k : rx_W G M d (pc + 1) lv (st) mu mc ms Q Z) : rx_W G M d pc lv (v :: st) mu mc ms Q Z :=
  rx_s k fun _ _ _ _ _ _ _ _ _ _ _ _ _ _ _ hx hb k => lv_pop2_2 hx hb hd ((rx_cat G v).trans hv) k
theorem rx_dup2l {v : Value} (hd : decode M.2.1 pc = .ok (.dup2, 1)) (hv : v.category = 2) (k : rx_W G M d (pc + 1) lv (v :: v :: st) mu mc ms Q Z) : rx_W G M d pc lv (v :: st) mu mc ms Q Z :=
  rx_s k fun _ _ _ _ _ _ _ _ _ _ _ _ _ _ _ hx hb k => lv_dup2_2 hx hb hd ((rx_cat G v).trans hv) k
theorem rx_dup2 {v w : Value} (hd : decode M.2.1 pc = .ok (.dup2, 1)) (hv : v.category = 1) (hw : w.category = 1) (k : rx_W G M d (pc + 1) lv (v :: w :: v :: w :: st) mu mc ms Q Z) : rx_W G M d pc lv (v :: w :: st) mu mc ms Q Z :=
  rx_s k fun _ _ _ _ _ _ _ _ _ _ _ _ _ _ _ hx hb k => lv_dup2_11 hx hb hd ((rx_cat G v).trans hv) ((rx_cat G w).trans hw) k
theorem rx_goto {off : Int} {tgt : Nat} (hd : decode M.2.1 pc = .ok (.goto off, 3)) (ht : (pc : Int) + off = (tgt : Int)) (k : rx_W G M d tgt lv st mu mc ms Q Z) : rx_W G M d pc lv st mu mc ms Q Z :=
  rx_s k fun _ _ _ _ _ _ _ _ _ _ _ _ _ _ _ hx hb k => lv_goto hx hb hd ht k
/-- a branch: two roads -/
theorem rx_b {st' : List Value} {pc1 pc2 : Nat} {c0 : Prop} (k1 : c0 → rx_W G M d pc1 lv st' mu mc ms Q Z) (k2 : ¬ c0 → rx_W G M d pc2 lv st' mu mc ms Q Z)
    (h : ∀ (p : Program) (e : Env) (R : Room) (s : State) (m : MethodId) (args : Array Value) (below : List Frame) (meth : Method) (c : Code) (H : Heap) (locs : List Loc) (cells slots : Nat) (Qf : State → Prop) (ls : Array Slot), p.tables.exec = Jvm.exec → c.code = M.2.1 → (c0 → W p G.1 e R s m args below meth c H locs cells slots Qf (F0 m pc1 ls (rx_trs G st'))) → (¬ c0 → W p G.1 e R s m args below meth c H locs cells slots Qf (F0 m pc2 ls (rx_trs G st'))) → W p G.1 e R s m args below meth c H locs cells slots Qf (F0 m pc ls (rx_trs G st))) :
    rx_W G M d pc lv st mu mc ms Q Z := by
  intro p e R s m args below meth c H locs cells slots MC MS ls C h1 h2 h3 h4 h5
  exact h _ _ _ _ _ _ _ _ _ _ _ _ _ _ _ C.1 C.2.1 (fun g => k1 g p e R s m args below meth c H locs cells slots MC MS ls C h1 h2 h3 h4 h5) (fun g => k2 g p e R s m args below meth c H locs cells slots MC MS ls C h1 h2 h3 h4 h5)
theorem rx_if_eq {x : Int32} {off : Int} {tgt : Nat} (hd : decode M.2.1 pc = .ok (.ifCond .eq off, 3)) (ht : (pc : Int) + off = (tgt : Int)) (kt : x = 0 → rx_W G M d tgt lv st mu mc ms Q Z) (kf : ¬ (x = 0) → rx_W G M d (pc + 3) lv st mu mc ms Q Z) : rx_W G M d pc lv (.int x :: st) mu mc ms Q Z :=
  rx_b (st' := st) kt kf fun _ _ _ _ _ _ _ _ _ _ _ _ _ _ _ hx hb k1 k2 => lv_if_eq hx hb hd ht k1 k2
theorem rx_icmp_eq {x y : Int32} {off : Int} {tgt : Nat} (hd : decode M.2.1 pc = .ok (.if_icmp .eq off, 3)) (ht : (pc : Int) + off = (tgt : Int)) (kt : x = y → rx_W G M d tgt lv st mu mc ms Q Z) (kf : ¬ (x = y) → rx_W G M d (pc + 3) lv st mu mc ms Q Z) : rx_W G M d pc lv (.int y :: .int x :: st) mu mc ms Q Z :=
  rx_b (st' := st) kt kf fun _ _ _ _ _ _ _ _ _ _ _ _ _ _ _ hx hb k1 k2 => lv_icmp_eq hx hb hd ht k1 k2
theorem rx_if_ne {x : Int32} {off : Int} {tgt : Nat} (hd : decode M.2.1 pc = .ok (.ifCond .ne off, 3)) (ht : (pc : Int) + off = (tgt : Int)) (kt : ¬ x = 0 → rx_W G M d tgt lv st mu mc ms Q Z) (kf : x = 0 → rx_W G M d (pc + 3) lv st mu mc ms Q Z) : rx_W G M d pc lv (.int x :: st) mu mc ms Q Z :=
  rx_b (st' := st) (c0 := x = 0) kf kt fun _ _ _ _ _ _ _ _ _ _ _ _ _ _ _ hx hb k1 k2 => lv_if_ne hx hb hd ht k2 k1
theorem rx_icmp_ne {x y : Int32} {off : Int} {tgt : Nat} (hd : decode M.2.1 pc = .ok (.if_icmp .ne off, 3)) (ht : (pc : Int) + off = (tgt : Int)) (kt : ¬ x = y → rx_W G M d tgt lv st mu mc ms Q Z) (kf : x = y → rx_W G M d (pc + 3) lv st mu mc ms Q Z) : rx_W G M d pc lv (.int y :: .int x :: st) mu mc ms Q Z :=
  rx_b (st' := st) (c0 := x = y) kf kt fun _ _ _ _ _ _ _ _ _ _ _ _ _ _ _ hx hb k1 k2 => lv_icmp_ne hx hb hd ht k2 k1
theorem rx_if_lt {x : Int32} {off : Int} {tgt : Nat} (hd : decode M.2.1 pc = .ok (.ifCond .lt off, 3)) (ht : (pc : Int) + off = (tgt : Int)) (kt : x < 0 → rx_W G M d tgt lv st mu mc ms Q Z) (kf : ¬ (x < 0) → rx_W G M d (pc + 3) lv st mu mc ms Q Z) : rx_W G M d pc lv (.int x :: st) mu mc ms Q Z :=
  rx_b (st' := st) kt kf fun _ _ _ _ _ _ _ _ _ _ _ _ _ _ _ hx hb k1 k2 => lv_if_lt hx hb hd ht k1 k2
theorem rx_icmp_lt {x y : Int32} {off : Int} {tgt : Nat} (hd : decode M.2.1 pc = .ok (.if_icmp .lt off, 3)) (ht : (pc : Int) + off = (tgt : Int)) (kt : x < y → rx_W G M d tgt lv st mu mc ms Q Z) (kf : ¬ (x < y) → rx_W G M d (pc + 3) lv st mu mc ms Q Z) : rx_W G M d pc lv (.int y :: .int x :: st) mu mc ms Q Z :=
  rx_b (st' := st) kt kf fun _ _ _ _ _ _ _ _ _ _ _ _ _ _ _ hx hb k1 k2 => lv_icmp_lt hx hb hd ht k1 k2
theorem rx_if_ge {x : Int32} {off : Int} {tgt : Nat} (hd : decode M.2.1 pc = .ok (.ifCond .ge off, 3)) (ht : (pc : Int) + off = (tgt : Int)) (kt : 0 ≤ x → rx_W G M d tgt lv st mu mc ms Q Z) (kf : ¬ (0 ≤ x) → rx_W G M d (pc + 3) lv st mu mc ms Q Z) : rx_W G M d pc lv (.int x :: st) mu mc ms Q Z :=
  rx_b (st' := st) kt kf fun _ _ _ _ _ _ _ _ _ _ _ _ _ _ _ hx hb k1 k2 => lv_if_ge hx hb hd ht k1 k2
theorem rx_icmp_ge {x y : Int32} {off : Int} {tgt : Nat} (hd : decode M.2.1 pc = .ok (.if_icmp .ge off, 3)) (ht : (pc : Int) + off = (tgt : Int)) (kt : y ≤ x → rx_W G M d tgt lv st mu mc ms Q Z) (kf : ¬ (y ≤ x) → rx_W G M d (pc + 3) lv st mu mc ms Q Z) : rx_W G M d pc lv (.int y :: .int x :: st) mu mc ms Q Z :=
  rx_b (st' := st) kt kf fun _ _ _ _ _ _ _ _ _ _ _ _ _ _ _ hx hb k1 k2 => lv_icmp_ge hx hb hd ht k1 k2
theorem rx_if_gt {x : Int32} {off : Int} {tgt : Nat} (hd : decode M.2.1 pc = .ok (.ifCond .gt off, 3)) (ht : (pc : Int) + off = (tgt : Int)) (kt : 0 < x → rx_W G M d tgt lv st mu mc ms Q Z) (kf : ¬ (0 < x) → rx_W G M d (pc + 3) lv st mu mc ms Q Z) : rx_W G M d pc lv (.int x :: st) mu mc ms Q Z :=
  rx_b (st' := st) kt kf fun _ _ _ _ _ _ _ _ _ _ _ _ _ _ _ hx hb k1 k2 => lv_if_gt hx hb hd ht k1 k2
theorem rx_icmp_gt {x y : Int32} {off : Int} {tgt : Nat} (hd : decode M.2.1 pc = .ok (.if_icmp .gt off, 3)) (ht : (pc : Int) + off = (tgt : Int)) (kt : y < x → rx_W G M d tgt lv st mu mc ms Q Z) (kf : ¬ (y < x) → rx_W G M d (pc + 3) lv st mu mc ms Q Z) : rx_W G M d pc lv (.int y :: .int x :: st) mu mc ms Q Z :=
  rx_b (st' := st) kt kf fun _ _ _ _ _ _ _ _ _ _ _ _ _ _ _ hx hb k1 k2 => lv_icmp_gt hx hb hd ht k1 k2
theorem rx_if_le {x : Int32} {off : Int} {tgt : Nat} (hd : decode M.2.1 pc = .ok (.ifCond .le off, 3)) (ht : (pc : Int) + off = (tgt : Int)) (kt : x ≤ 0 → rx_W G M d tgt lv st mu mc ms Q Z) (kf : ¬ (x ≤ 0) → rx_W G M d (pc + 3) lv st mu mc ms Q Z) : rx_W G M d pc lv (.int x :: st) mu mc ms Q Z :=
  rx_b (st' := st) kt kf fun _ _ _ _ _ _ _ _ _ _ _ _ _ _ _ hx hb k1 k2 => lv_if_le hx hb hd ht k1 k2
theorem rx_icmp_le {x y : Int32} {off : Int} {tgt : Nat} (hd : decode M.2.1 pc = .ok (.if_icmp .le off, 3)) (ht : (pc : Int) + off = (tgt : Int)) (kt : x ≤ y → rx_W G M d tgt lv st mu mc ms Q Z) (kf : ¬ (x ≤ y) → rx_W G M d (pc + 3) lv st mu mc ms Q Z) : rx_W G M d pc lv (.int y :: .int x :: st) mu mc ms Q Z :=
  rx_b (st' := st) kt kf fun _ _ _ _ _ _ _ _ _ _ _ _ _ _ _ hx hb k1 k2 => lv_icmp_le hx hb hd ht k1 k2
theorem rx_lc_eq {x y : Int64} {off : Int} {tgt : Nat} (hd0 : decode M.2.1 pc = .ok (.lcmp, 1)) (hd : decode M.2.1 (pc + 1) = .ok (.ifCond .eq off, 3)) (ht : (pc : Int) + 1 + off = (tgt : Int)) (kt : x = y → rx_W G M d tgt lv st mu mc ms Q Z) (kf : ¬ (x = y) → rx_W G M d (pc + 4) lv st mu mc ms Q Z) : rx_W G M d pc lv (.long y :: .long x :: st) mu mc ms Q Z :=
  rx_lcmp hd0 (rx_if_eq hd (by rw [← ht]; simp) (fun h => kt ((lg_cmp_eq x y).mp h)) (fun h => kf (fun g => h ((lg_cmp_eq x y).mpr g))))
theorem rx_lc_lt {x y : Int64} {off : Int} {tgt : Nat} (hd0 : decode M.2.1 pc = .ok (.lcmp, 1)) (hd : decode M.2.1 (pc + 1) = .ok (.ifCond .lt off, 3)) (ht : (pc : Int) + 1 + off = (tgt : Int)) (kt : x < y → rx_W G M d tgt lv st mu mc ms Q Z) (kf : ¬ (x < y) → rx_W G M d (pc + 4) lv st mu mc ms Q Z) : rx_W G M d pc lv (.long y :: .long x :: st) mu mc ms Q Z :=
  rx_lcmp hd0 (rx_if_lt hd (by rw [← ht]; simp) (fun h => kt ((lg_cmp_lt x y).mp h)) (fun h => kf (fun g => h ((lg_cmp_lt x y).mpr g))))
theorem rx_lc_ge {x y : Int64} {off : Int} {tgt : Nat} (hd0 : decode M.2.1 pc = .ok (.lcmp, 1)) (hd : decode M.2.1 (pc + 1) = .ok (.ifCond .ge off, 3)) (ht : (pc : Int) + 1 + off = (tgt : Int)) (kt : y ≤ x → rx_W G M d tgt lv st mu mc ms Q Z) (kf : ¬ (y ≤ x) → rx_W G M d (pc + 4) lv st mu mc ms Q Z) : rx_W G M d pc lv (.long y :: .long x :: st) mu mc ms Q Z :=
  rx_lcmp hd0 (rx_if_ge hd (by rw [← ht]; simp) (fun h => kt ((lg_cmp_ge x y).mp h)) (fun h => kf (fun g => h ((lg_cmp_ge x y).mpr g))))
theorem rx_lc_gt {x y : Int64} {off : Int} {tgt : Nat} (hd0 : decode M.2.1 pc = .ok (.lcmp, 1)) (hd : decode M.2.1 (pc + 1) = .ok (.ifCond .gt off, 3)) (ht : (pc : Int) + 1 + off = (tgt : Int)) (kt : y < x → rx_W G M d tgt lv st mu mc ms Q Z) (kf : ¬ (y < x) → rx_W G M d (pc + 4) lv st mu mc ms Q Z) : rx_W G M d pc lv (.long y :: .long x :: st) mu mc ms Q Z :=
  rx_lcmp hd0 (rx_if_gt hd (by rw [← ht]; simp) (fun h => kt ((lg_cmp_gt x y).mp h)) (fun h => kf (fun g => h ((lg_cmp_gt x y).mpr g))))
theorem rx_lc_le {x y : Int64} {off : Int} {tgt : Nat} (hd0 : decode M.2.1 pc = .ok (.lcmp, 1)) (hd : decode M.2.1 (pc + 1) = .ok (.ifCond .le off, 3)) (ht : (pc : Int) + 1 + off = (tgt : Int)) (kt : x ≤ y → rx_W G M d tgt lv st mu mc ms Q Z) (kf : ¬ (x ≤ y) → rx_W G M d (pc + 4) lv st mu mc ms Q Z) : rx_W G M d pc lv (.long y :: .long x :: st) mu mc ms Q Z :=
  rx_lcmp hd0 (rx_if_le hd (by rw [← ht]; simp) (fun h => kt ((lg_cmp_le x y).mp h)) (fun h => kf (fun g => h ((lg_cmp_le x y).mpr g))))
theorem rx_lc_ne {x y : Int64} {off : Int} {tgt : Nat} (hd0 : decode M.2.1 pc = .ok (.lcmp, 1)) (hd : decode M.2.1 (pc + 1) = .ok (.ifCond .ne off, 3)) (ht : (pc : Int) + 1 + off = (tgt : Int)) (kt : ¬ x = y → rx_W G M d tgt lv st mu mc ms Q Z) (kf : x = y → rx_W G M d (pc + 4) lv st mu mc ms Q Z) : rx_W G M d pc lv (.long y :: .long x :: st) mu mc ms Q Z :=
  rx_lcmp hd0 (rx_if_ne hd (by rw [← ht]; simp) (fun h => kt (fun g => h ((lg_cmp_eq x y).mpr g))) (fun h => kf ((lg_cmp_eq x y).mp h)))
theorem rx_ld {i : Nat} {v : Value} {pc' : Nat} (hl : rx_lk lv i = some v) (k : rx_W G M d pc' lv (v :: st) mu mc ms Q Z)
    (h : ∀ (p : Program) (e : Env) (R : Room) (s : State) (m : MethodId) (args : Array Value) (below : List Frame) (meth : Method) (c : Code) (H : Heap) (locs : List Loc) (cells slots : Nat) (Qf : State → Prop) (ls : Array Slot), p.tables.exec = Jvm.exec → c.code = M.2.1 → ls[i]? = some (.val (rx_tr G v)) → W p G.1 e R s m args below meth c H locs cells slots Qf (F0 m pc' ls (rx_trs G (v :: st))) → W p G.1 e R s m args below meth c H locs cells slots Qf (F0 m pc ls (rx_trs G st))) :
    rx_W G M d pc lv st mu mc ms Q Z := by
  intro p e R s m args below meth c H locs cells slots MC MS ls C h1 h2 h3 h4 h5
  exact h _ _ _ _ _ _ _ _ _ _ _ _ _ _ _ C.1 C.2.1 (h5.2.2 i v hl) (k p e R s m args below meth c H locs cells slots MC MS ls C h1 h2 h3 h4 h5)
theorem rx_iload {i : Nat} {x : Int32} (hd : decode M.2.1 pc = .ok (.iload i, 2)) (hl : rx_lk lv i = some (.int x)) (k : rx_W G M d (pc + 2) lv (.int x :: st) mu mc ms Q Z) : rx_W G M d pc lv st mu mc ms Q Z :=
  rx_ld hl k fun _ _ _ _ _ _ _ _ _ _ _ _ _ _ _ hx hb hl k => lv_iload hx hb hd hl k
theorem rx_iload_n {n : Fin 4} {x : Int32} (hd : decode M.2.1 pc = .ok (.iload_n n, 1)) (hl : rx_lk lv n = some (.int x)) (k : rx_W G M d (pc + 1) lv (.int x :: st) mu mc ms Q Z) : rx_W G M d pc lv st mu mc ms Q Z :=
  rx_ld hl k fun _ _ _ _ _ _ _ _ _ _ _ _ _ _ _ hx hb hl k => lv_iload_n hx hb hd rfl hl k
theorem rx_lload {i : Nat} {x : Int64} (hd : decode M.2.1 pc = .ok (.lload i, 2)) (hl : rx_lk lv i = some (.long x)) (k : rx_W G M d (pc + 2) lv (.long x :: st) mu mc ms Q Z) : rx_W G M d pc lv st mu mc ms Q Z :=
  rx_ld hl k fun _ _ _ _ _ _ _ _ _ _ _ _ _ _ _ hx hb hl k => lv_lload hx hb hd hl k
theorem rx_lload_n {n : Fin 4} {x : Int64} (hd : decode M.2.1 pc = .ok (.lload_n n, 1)) (hl : rx_lk lv n = some (.long x)) (k : rx_W G M d (pc + 1) lv (.long x :: st) mu mc ms Q Z) : rx_W G M d pc lv st mu mc ms Q Z :=
  rx_ld hl k fun _ _ _ _ _ _ _ _ _ _ _ _ _ _ _ hx hb hl k => lv_lload_n hx hb hd rfl hl k
/-- a reference of the memory, or of a cell ahead of it -/
def rx_isR : Value → Bool
  | .ref _ => true
  | .float _ => true
  | _ => false
theorem rx_isR_of {G : rx_E} {v : Value} (h : rx_isR v = true) : ∃ x : Nat, rx_tr G v = .ref x := by
  cases v <;> first | exact ⟨_, rfl⟩ | cases h
theorem rx_aload {i : Nat} {v : Value} (hd : decode M.2.1 pc = .ok (.aload i, 2)) (hl : rx_lk lv i = some v) (hr : rx_isR v = true) (k : rx_W G M d (pc + 2) lv (v :: st) mu mc ms Q Z) : rx_W G M d pc lv st mu mc ms Q Z :=
  rx_ld hl k fun _ _ _ _ _ _ _ _ _ _ _ _ _ _ _ hx hb hl k => by
    obtain ⟨x, e⟩ := rx_isR_of (G := G) hr
    simp only [rx_trs, List.map_cons, e] at hl k ⊢
    exact lv_aload hx hb hd hl k
theorem rx_aload_n {n : Fin 4} {v : Value} (hd : decode M.2.1 pc = .ok (.aload_n n, 1)) (hl : rx_lk lv n = some v) (hr : rx_isR v = true) (k : rx_W G M d (pc + 1) lv (v :: st) mu mc ms Q Z) : rx_W G M d pc lv st mu mc ms Q Z :=
  rx_ld hl k fun _ _ _ _ _ _ _ _ _ _ _ _ _ _ _ hx hb hl k => by
    obtain ⟨x, e⟩ := rx_isR_of (G := G) hr
    simp only [rx_trs, List.map_cons, e] at hl k ⊢
    exact lv_aload_n hx hb hd rfl hl k
theorem rx_istore {i : Nat} {x : Int32} (hd : decode M.2.1 pc = .ok (.istore i, 2)) (hn : i < M.2.2.1) (k : rx_W G M d (pc + 2) ((i, .int x) :: lv) st mu mc ms Q Z) : rx_W G M d pc lv (.int x :: st) mu mc ms Q Z := by
  intro p e R s m args below meth c H locs cells slots MC MS ls C h1 h2 h3 h4 h5
  exact lv_istore C.1 C.2.1 hd (rx_has_en h5) hn rfl (fun ls' h' => k p e R s m args below meth c H locs cells slots MC MS ls' C h1 h2 h3 h4 (rx_has_st1 h5 rfl h'))
theorem rx_istore_n {n : Fin 4} {x : Int32} (hd : decode M.2.1 pc = .ok (.istore_n n, 1)) (hn : (n : Nat) < M.2.2.1) (k : rx_W G M d (pc + 1) (((n : Nat), .int x) :: lv) st mu mc ms Q Z) : rx_W G M d pc lv (.int x :: st) mu mc ms Q Z := by
  intro p e R s m args below meth c H locs cells slots MC MS ls C h1 h2 h3 h4 h5
  exact lv_istore_n C.1 C.2.1 hd rfl (rx_has_en h5) hn rfl (fun ls' h' => k p e R s m args below meth c H locs cells slots MC MS ls' C h1 h2 h3 h4 (rx_has_st1 h5 rfl h'))
theorem rx_lstore {i : Nat} {x : Int64} (hd : decode M.2.1 pc = .ok (.lstore i, 2)) (hn : i + 1 < M.2.2.1) (k : rx_W G M d (pc + 2) ((i, .long x) :: lv) st mu mc ms Q Z) : rx_W G M d pc lv (.long x :: st) mu mc ms Q Z := by
  intro p e R s m args below meth c H locs cells slots MC MS ls C h1 h2 h3 h4 h5
  exact lv_lstore C.1 C.2.1 hd (rx_has_en h5) hn rfl (fun ls' h' => k p e R s m args below meth c H locs cells slots MC MS ls' C h1 h2 h3 h4 (rx_has_st2 h5 rfl h'))
theorem rx_lstore_n {n : Fin 4} {x : Int64} (hd : decode M.2.1 pc = .ok (.lstore_n n, 1)) (hn : (n : Nat) + 1 < M.2.2.1) (k : rx_W G M d (pc + 1) (((n : Nat), .long x) :: lv) st mu mc ms Q Z) : rx_W G M d pc lv (.long x :: st) mu mc ms Q Z := by
  intro p e R s m args below meth c H locs cells slots MC MS ls C h1 h2 h3 h4 h5
  exact lv_lstore_n C.1 C.2.1 hd rfl (rx_has_en h5) hn rfl (fun ls' h' => k p e R s m args below meth c H locs cells slots MC MS ls' C h1 h2 h3 h4 (rx_has_st2 h5 rfl h'))
theorem rx_astore {i : Nat} {v : Value} (hd : decode M.2.1 pc = .ok (.astore i, 2)) (hn : i < M.2.2.1) (hr : rx_isR v = true) (k : rx_W G M d (pc + 2) ((i, v) :: lv) st mu mc ms Q Z) : rx_W G M d pc lv (v :: st) mu mc ms Q Z := by
  intro p e R s m args below meth c H locs cells slots MC MS ls C h1 h2 h3 h4 h5
  obtain ⟨x, ex⟩ := rx_isR_of (G := G) hr
  have hc : v.category = 1 := by rw [← rx_cat G v, ex]; rfl
  show W p G.1 e R s m args below meth c H locs cells slots _ (F0 m pc ls (rx_tr G v :: rx_trs G st))
  rw [ex]
  exact lv_astore C.1 C.2.1 hd (rx_has_en h5) hn rfl (fun ls' h' => k p e R s m args below meth c H locs cells slots MC MS ls' C h1 h2 h3 h4 (rx_has_st1 h5 hc (by rw [ex]; exact h')))
theorem rx_astore_n {n : Fin 4} {v : Value} (hd : decode M.2.1 pc = .ok (.astore_n n, 1)) (hn : (n : Nat) < M.2.2.1) (hr : rx_isR v = true) (k : rx_W G M d (pc + 1) (((n : Nat), v) :: lv) st mu mc ms Q Z) : rx_W G M d pc lv (v :: st) mu mc ms Q Z := by
  intro p e R s m args below meth c H locs cells slots MC MS ls C h1 h2 h3 h4 h5
  obtain ⟨x, ex⟩ := rx_isR_of (G := G) hr
  have hc : v.category = 1 := by rw [← rx_cat G v, ex]; rfl
  show W p G.1 e R s m args below meth c H locs cells slots _ (F0 m pc ls (rx_tr G v :: rx_trs G st))
  rw [ex]
  exact lv_astore_n C.1 C.2.1 hd rfl (rx_has_en h5) hn rfl (fun ls' h' => k p e R s m args below meth c H locs cells slots MC MS ls' C h1 h2 h3 h4 (rx_has_st1 h5 hc (by rw [ex]; exact h')))
theorem rx_iinc {i : Nat} {n : Int} {x v : Int32} (hd : decode M.2.1 pc = .ok (.iinc i n, 3)) (hl : rx_lk lv i = some (.int x)) (hv : x + Int32.ofInt n = v) (k : rx_W G M d (pc + 3) ((i, .int v) :: lv) st mu mc ms Q Z) : rx_W G M d pc lv st mu mc ms Q Z := by
  intro p e R s m args below meth c H locs cells slots MC MS ls C h1 h2 h3 h4 h5
  have hg := h5.2.2 i _ hl
  have hi : i < M.2.2.1 := by rw [← h5.1]; exact lv_lt hg
  obtain ⟨k0, hk0⟩ := List.getElem?_of_mem (rx_en_mem h5 hl)
  exact lv_iinc C.1 C.2.1 hd (rx_has_en h5) (k := k0) hk0 hv hi rfl (fun ls' h' => k p e R s m args below meth c H locs cells slots MC MS ls' C h1 h2 h3 h4 (rx_has_st1 (x := .int v) h5 rfl h'))
/-- fewer locals -/
def rx_sub : List (Nat × Value) → List (Nat × Value) → Prop
  | [], _ => True
  | q :: l, lv => rx_lk lv q.1 = some q.2 ∧ rx_sub l lv
theorem rx_sub_mem {l lv : List (Nat × Value)} (h : rx_sub l lv) : ∀ q ∈ l, rx_lk lv q.1 = some q.2 := by
  induction l with
  | nil => intro q hq; cases hq
  | cons a l ih =>
    intro q hq
    rcases List.mem_cons.mp hq with rfl | hq
    · exact h.1
    · exact ih h.2 q hq
theorem rx_lv {lv' : List (Nat × Value)} (h : rx_sub lv' lv) (k : rx_W G M d pc lv' st mu mc ms Q Z) : rx_W G M d pc lv st mu mc ms Q Z := by
  intro p e R s m args below meth c H locs cells slots MC MS ls C h1 h2 h3 h4 h5
  exact k p e R s m args below meth c H locs cells slots MC MS ls C h1 h2 h3 h4 ⟨h5.1, h5.2.1, fun i v hv => h5.2.2 i v (rx_sub_mem h _ (rx_lf_mem _ _ hv))⟩
/-- less to come -/
theorem rx_le {mc' ms' : Nat} (h1 : mc' ≤ mc) (h2 : ms' ≤ ms) (k : rx_W G M d pc lv st mu mc' ms' Q Z) : rx_W G M d pc lv st mu mc ms Q Z := by
  intro p e R s m args below meth c H locs cells slots MC MS ls C h3
  exact k p e R s m args below meth c H locs cells slots MC MS ls C ⟨h3.1, h3.2.1, by omega, by omega, h3.2.2.2.2.1, h3.2.2.2.2.2⟩
end RXO
end
section
section RXR
variable {G : rx_E} {M : rx_Me} {d pc mc ms : Nat} {lv : List (Nat × Value)} {st : List Value} {mu : rx_M} {Q : Option Value → rx_M → Prop} {Z : String → rx_M → Prop}
theorem rx_ldc {idx : Nat} {v : Int32} (hG : rx_OK G) (hw : Cond.constant M.1.cls idx v ∈ lw_tbl) (hd : decode M.2.1 pc = .ok (.ldc idx, 2)) (k : rx_W G M d (pc + 2) lv (.int v :: st) mu mc ms Q Z) : rx_W G M d pc lv st mu mc ms Q Z := by
  intro p e R s m args below meth c H locs cells slots MC MS ls C h1 h2 h3 h4 h5
  exact lv_ldc C.1 C.2.1 C.2.2.2.2.1 (rx_w hG C.2.2.2.2.2.2.2.1 hw rfl args) hd (k p e R s m args below meth c H locs cells slots MC MS ls C h1 h2 h3 h4 h5)
theorem rx_ldc2 {idx : Nat} {v : Int64} (hG : rx_OK G) (hw : Cond.constantLong M.1.cls idx v ∈ lw_tbl) (hd : decode M.2.1 pc = .ok (.ldc2_w idx, 3)) (k : rx_W G M d (pc + 3) lv (.long v :: st) mu mc ms Q Z) : rx_W G M d pc lv st mu mc ms Q Z := by
  intro p e R s m args below meth c H locs cells slots MC MS ls C h1 h2 h3 h4 h5
  exact lv_ldc2 C.1 C.2.1 C.2.2.2.2.1 (rx_w hG C.2.2.2.2.2.2.2.1 hw rfl args) hd (k p e R s m args below meth c H locs cells slots MC MS ls C h1 h2 h3 h4 h5)
/-- a switch: x within, at place j -/
theorem rx_tabIn {x : Int32} {dflt lo hi off : Int} {offs : Array Int} {len tgt : Nat} (hd : decode M.2.1 pc = .ok (.tableswitch dflt lo hi offs, len)) (h1 : ¬ x.toInt < lo) (h2 : ¬ hi < x.toInt) (ho : offs[(x.toInt - lo).toNat]? = some off) (ht : (pc : Int) + off = (tgt : Int)) (k : rx_W G M d tgt lv st mu mc ms Q Z) : rx_W G M d pc lv (.int x :: st) mu mc ms Q Z :=
  rx_s k fun _ _ _ _ _ _ _ _ _ _ _ _ _ _ _ hx hb k => lv_tableIn hx hb hd h1 h2 ho ht k
theorem rx_tabOut {x : Int32} {dflt lo hi : Int} {offs : Array Int} {len tgt : Nat} (hd : decode M.2.1 pc = .ok (.tableswitch dflt lo hi offs, len)) (h : x.toInt < lo ∨ hi < x.toInt) (ht : (pc : Int) + dflt = (tgt : Int)) (k : rx_W G M d tgt lv st mu mc ms Q Z) : rx_W G M d pc lv (.int x :: st) mu mc ms Q Z :=
  rx_s k fun _ _ _ _ _ _ _ _ _ _ _ _ _ _ _ hx hb k => lv_tableOut hx hb hd h ht k
theorem rx_end {locs : List Loc} {cells slots MC MS : Nat} {p : Program} {e : Env} {R : Room} {s : State} {m : MethodId} {args : Array Value} {below : List Frame} {meth : Method} {c : Code} {H : Heap} {g : JFrame} {Q0 : State → Prop} (h1 : cells ≤ MC) (h2 : slots ≤ MS) (k : W p G.1 e R s m args below meth c H locs MC MS Q0 g) : W p G.1 e R s m args below meth c H locs cells slots Q0 g := W.widen h1 h2 k
theorem rx_fin {mu : rx_M} {s t : State} {H : Heap} (h2 : rx_In G mu s.vm H) (hC : G.2.1.WarmedH s.vm) (ht : t.heap = H) (hW : s.WarmedH t.vm) : rx_In G mu t.vm t.heap := ⟨State.WarmedH.trans hC hW, by rw [ht]; exact h2.2.1, by rw [ht]; exact h2.2.2⟩
theorem rx_iret {x : Int32} (hr : M.2.2.2.1 = some .int) (hd : decode M.2.1 pc = .ok (.ireturn, 1)) (k : Q (some (.int x)) mu) : rx_W G M d pc lv [.int x] mu mc ms Q Z := by
  intro p e R s m args below meth c H locs cells slots MC MS ls C h1 h2 h3 h4 h5
  have hlocks : meth.locks = false := C.2.2.2.2.2.1
  refine vx_ret (rx_end (by omega) (by omega) (W.iret (v := x) C.1 C.2.1 (C.2.2.1.trans hr) (fun t ht hW => ⟨some (.int x), mu, rfl, k, rx_fin h2 C.2.2.2.2.2.2.2.1 ht hW, by rw [ht]; exact h3⟩) h4 hd))
theorem rx_zret {x : Int32} (hr : M.2.2.2.1 = some .boolean) (hx : narrow .boolean (.int x) = .int x) (hd : decode M.2.1 pc = .ok (.ireturn, 1)) (k : Q (some (.int x)) mu) : rx_W G M d pc lv [.int x] mu mc ms Q Z := by
  intro p e R s m args below meth c H locs cells slots MC MS ls C h1 h2 h3 h4 h5
  have hlocks : meth.locks = false := C.2.2.2.2.2.1
  refine vx_ret (rx_end (by omega) (by omega) (W.zret (v := x) C.1 C.2.1 (C.2.2.1.trans hr) hx (fun t ht hW => ⟨some (.int x), mu, rfl, k, rx_fin h2 C.2.2.2.2.2.2.2.1 ht hW, by rw [ht]; exact h3⟩) h4 hd))
theorem rx_lret {x : Int64} (hr : M.2.2.2.1 = some .long) (hd : decode M.2.1 pc = .ok (.lreturn, 1)) (k : Q (some (.long x)) mu) : rx_W G M d pc lv [.long x] mu mc ms Q Z := by
  intro p e R s m args below meth c H locs cells slots MC MS ls C h1 h2 h3 h4 h5
  have hlocks : meth.locks = false := C.2.2.2.2.2.1
  refine vx_ret (rx_end (by omega) (by omega) (W.lret (v := x) C.1 C.2.1 (C.2.2.1.trans hr) (fun t ht hW => ⟨some (.long x), mu, rfl, k, rx_fin h2 C.2.2.2.2.2.2.2.1 ht hW, by rw [ht]; exact h3⟩) h4 hd))
theorem rx_vret (hr : M.2.2.2.1 = none) (hd : decode M.2.1 pc = .ok (.return_, 1)) (k : Q none mu) : rx_W G M d pc lv [] mu mc ms Q Z := by
  intro p e R s m args below meth c H locs cells slots MC MS ls C h1 h2 h3 h4 h5
  have hlocks : meth.locks = false := C.2.2.2.2.2.1
  refine vx_ret (rx_end (by omega) (by omega) (W.vret C.1 C.2.1 (C.2.2.1.trans hr) (fun t ht hW => ⟨none, mu, rfl, k, rx_fin h2 C.2.2.2.2.2.2.2.1 ht hW, by rw [ht]; exact h3⟩) h4 hd))
theorem rx_aret {a : Nat} (hr : ∃ t, M.2.2.2.1 = some (.array t)) (hd : decode M.2.1 pc = .ok (.areturn, 1)) (k : Q (some (.ref a)) mu) : rx_W G M d pc lv [.ref a] mu mc ms Q Z := by
  intro p e R s m args below meth c H locs cells slots MC MS ls C h1 h2 h3 h4 h5
  have hlocks : meth.locks = false := C.2.2.2.2.2.1
  obtain ⟨t0, hr⟩ := hr
  refine vx_ret (rx_end (by omega) (by omega) (W.aret (v := .ref (rx_B G + a)) C.1 C.2.1 (C.2.2.1.trans hr) (Or.inr ⟨_, rfl⟩) (Or.inr ⟨_, rfl⟩) (fun t ht hW => ⟨some (.ref a), mu, rfl, k, rx_fin h2 C.2.2.2.2.2.2.2.1 ht hW, by rw [ht]; exact h3⟩) h4 hd))
end RXR
end
section
/-- what stands of a method in the tables: its code, its class -/
def rx_Me_ok (M : rx_Me) (n : Nat) : Prop := Cond.code M.1 M.2.1 M.2.2.1 M.2.2.2.1 ∈ lw_tbl ∧ Cond.initialized M.1.cls ∈ lw_tbl ∧ M.2.2.1 ≤ 21 ∧ (M.1.cls ≠ "java/lang/invoke/MethodHandle" ∧ M.1.cls ≠ "java/lang/invoke/VarHandle") ∧ (parseMethodDescriptor M.1.desc).map (fun q => q.parameters.length) = some n
theorem rx_ini {w : String} : goodWord (Cond.initialized w) = true := rfl
section RXC
variable {G : rx_E} {M : rx_Me} {d pc mc ms : Nat} {lv : List (Nat × Value)} {st : List Value} {mu : rx_M} {Q : Option Value → rx_M → Prop} {Z : String → rx_M → Prop}
theorem rx_goodc {G : rx_E} {N : rx_Me} {n : Nat} {s : State} (hG : rx_OK G) (hW : G.2.1.WarmedH s.vm) (hN : rx_Me_ok N n) (args : Array Value) : ∀ w ∈ [Cond.code N.1 N.2.1 N.2.2.1 N.2.2.2.1], w.before args s = true := by
  intro w hw
  rw [List.mem_singleton.mp hw]
  exact rx_w hG hW hN.1 rfl args
theorem rx_goodi {N : rx_Me} : GoodIn [Cond.code N.1 N.2.1 N.2.2.1 N.2.2.2.1] [Cond.code N.1 N.2.1 N.2.2.1 N.2.2.2.1] := fun w hw => ⟨hw, by rw [List.mem_singleton.mp hw]; exact Or.inl rfl⟩
/-- behind a call: what the callee left, for the caller -/
theorem rx_back {aa : Array Value} {mc' ms' : Nat} {Q' : Option Value → rx_M → Prop} {p : Program} {e : Env} {R : Room} {s : State} {m : MethodId} {args : Array Value} {below : List Frame} {meth : Method} {c : Code} {H : Heap} {locs : List Loc} {cells slots MC MS : Nat} {ls : Array Slot} {st0 rest : List Value}
    (hC : rx_Ctx G M p s m meth c) (h1 : d + 1 ≤ R.frames ∧ 40 * (d + 1) ≤ R.locals ∧ cells + (mc' + mc) ≤ MC ∧ slots + (ms' + ms) ≤ MS ∧ MC ≤ R.cells ∧ MS ≤ R.slots) (h3 : s.heap.size ≤ H.size) (h4 : ∀ q ∈ locs, rx_B G ≤ q.base) (h5 : rx_has G ls M.2.2.1 lv)
    (hr : va_Run p G.1 e R s m args below meth c H locs cells slots mc' ms' (F0 m pc ls st0) (rx_trs G rest) (rx_Qc G Q' aa) (fun q => rx_B G ≤ q))
    (kk : ∀ v mu', Q' v mu' → rx_W G M (d + 1) (pc + 3) lv (v.toList ++ rest) mu' mc ms Q Z) : W p G.1 e R s m args below meth c H locs cells slots (vx_MQ below (rx_Qc G Q) (rx_XC G Z) args s MC MS (fun q => rx_B G ≤ q)) (F0 m pc ls st0) := by
  intro T hT X
  obtain ⟨v, st₀, t, T', L, e0, X', hL, e1, e2, ⟨v', mu', hv, hq, hin, hgr⟩, st⟩ := hr T hT X
  have hvv : v = v'.map (rx_tr G) := Outcome.returned.inj hv
  subst hvv
  have hIn : rx_In G mu' s.vm T'.heap := ⟨hC.2.2.2.2.2.2.2.1, by rw [e1]; exact hin.2.1, by rw [e1]; exact hin.2.2⟩
  have hk := kk v' mu' hq p e R s m args below meth c T'.heap (locs ++ L) (cells + mc') (slots + ms') MC MS ls hC ⟨h1.1, h1.2.1, by omega, by omega, h1.2.2.2.2.1, h1.2.2.2.2.2⟩ hIn (by rw [e1]; rw [e0] at hgr; exact Nat.le_trans h3 hgr) (fun q hq => by
    rcases List.mem_append.mp hq with h | h
    · exact h4 q h
    · exact hL q h) h5
  obtain ⟨t2, a1, b1⟩ := hk T' rfl X'
  refine ⟨t2, st t2 ?_, b1⟩
  have : (rx_trs G (v'.toList ++ rest)) = (v'.map (rx_tr G)).toList ++ rx_trs G rest := by
    cases v' <;> simp [rx_trs]
  rw [this] at a1
  exact a1
/-- a call of a static method: by its class's own constant, or a nest mate's -/
def rx_LkS (own : String) (idx : Nat) (N : rx_Me) : Prop := Cond.static N.1 ∈ lw_tbl ∧ (Cond.methodLink own idx N.1 ∈ lw_tbl ∨ ∃ host, Cond.methodLinkNest own idx N.1 host ∈ lw_tbl)
def rx_LkV (own : String) (idx : Nat) (N : rx_Me) (ci : Nat) : Prop := (∃ T n, rx_Cl ci N.1.cls T n) ∧ Cond.instanceMethod N.1 ∈ lw_tbl ∧ Cond.selects N.1.cls N.1 N.1 ∈ lw_tbl ∧ (Cond.methodLink own idx N.1 ∈ lw_tbl ∨ ∃ host, Cond.methodLinkNest own idx N.1 host ∈ lw_tbl)
def rx_LkI (own : String) (idx : Nat) (N : rx_Me) (ci : Nat) : Prop := (∃ T n, rx_Cl ci N.1.cls T n) ∧ N.1.name = "<init>" ∧ N.2.2.2.1 = none ∧ Cond.instanceMethod N.1 ∈ lw_tbl ∧ (Cond.methodLink own idx N.1 ∈ lw_tbl ∨ ∃ host, Cond.methodLinkNest own idx N.1 host ∈ lw_tbl)
theorem rx_rm8 {l : List Value} (h : (l.map fun v => v.category).sum ≤ 8) : ((rx_trs G l).map fun v => v.category).sum ≤ 8 := by
  have : (rx_trs G l).map (fun v => v.category) = l.map (fun v => v.category) := by
    simp only [rx_trs, List.map_map]
    exact List.map_congr_left (fun v _ => rx_cat G v)
  rw [this]; exact h
theorem rx_rev {l : List Value} : (rx_trs G l).reverse = rx_trs G l.reverse := by simp [rx_trs]
theorem rx_trs_app {a b : List Value} : rx_trs G (a ++ b) = rx_trs G a ++ rx_trs G b := by simp [rx_trs]
theorem rx_invS {N : rx_Me} {idx n mc' ms' : Nat} {as : List Value} {Q' : Option Value → rx_M → Prop} (hG : rx_OK G) (hN : rx_Me_ok N n) (hL : rx_LkS M.1.cls idx N) (hd : decode M.2.1 pc = .ok (.invokestatic idx, 3)) (hn : as.length = n) (h8 : (st.map fun v => v.category).sum ≤ 8)
    (hc : rx_C G N d as mu mc' ms' Q') (kk : ∀ v mu', Q' v mu' → rx_W G M (d + 1) (pc + 3) lv (v.toList ++ st) mu' mc ms Q Z) : rx_W G M (d + 1) pc lv (as.reverse ++ st) mu (mc' + mc) (ms' + ms) Q Z := by
  intro p e R s m args below meth c H locs cells slots MC MS ls C h1 h2 h3 h4 h5
  have hWs : G.2.1.WarmedH s.vm := C.2.2.2.2.2.2.2.1
  have hts := rx_goodc hG hWs hN args
  obtain ⟨hst, hl⟩ := hL
  obtain ⟨hcode, hini, hmx, hmh, hpar⟩ := hN
  have hlen : (rx_trs G as).length = n := by simp [rx_trs, hn]
  have hp : PreS s H (fun a U => a = (rx_trs G as).toArray ∧ rx_In G mu U.vm U.heap) (rx_trs G as) := ⟨rx_In_blind, fun U hU hW => ⟨rfl, State.WarmedH.trans hWs hW, by rw [hU]; exact h2.2.1, by rw [hU]; exact h2.2.2⟩⟩
  have hS : CallFix p m c M.2.1 M.2.2.1 s args [Cond.code N.1 N.2.1 N.2.2.1 N.2.2.2.1] M.1.cls := ⟨C.1, C.2.1, C.2.2.2.1, C.2.2.2.2.1, hts⟩
  have hfr : (rx_room d mc' ms').frames + 1 ≤ R.frames ∧ 8 + (N.2.2.1 + 11) + (rx_room d mc' ms').locals ≤ R.locals := ⟨h1.1, by show 8 + (N.2.2.1 + 11) + 40 * d ≤ R.locals; omega⟩
  have hstk : (F0 m pc ls (rx_trs G (as.reverse ++ st))).stack = (rx_trs G as).reverse ++ rx_trs G st := by rw [rx_rev, ← rx_trs_app]
  rcases hl with hl | ⟨host, hl⟩
  · refine rx_back C h1 h3 h4 h5 (va_runS (g := F0 m pc ls (rx_trs G (as.reverse ++ st))) hS hc ⟨callB_of n hts rx_goodi rfl rfl rfl (rx_w hG hWs hini rfl args) (rx_w hG hWs hl rfl args) ⟨hmh.1, hmh.2, hpar⟩ hfr, rx_w hG hWs hst rfl args⟩ hp rfl hlen (h5.1) hstk (lv_room (rx_rm8 h8)) hd ⟨by omega, by omega⟩) kk
  · refine rx_back C h1 h3 h4 h5 (va_runSN (g := F0 m pc ls (rx_trs G (as.reverse ++ st))) hS hc ⟨va_cnB n hts rx_goodi rfl rfl rfl (va_Nw.of rfl (rx_wM hG hWs hl args)) (rx_w hG hWs hini rfl args) ⟨hmh.1, hmh.2, hpar⟩ hfr, rx_w hG hWs hst rfl args, trivial⟩ hp rfl hlen (h5.1) hstk (lv_room (rx_rm8 h8)) hd ⟨by omega, by omega⟩) kk
theorem rx_invV {N : rx_Me} {idx n mc' ms' a ci : Nat} {as : List Value} {Q' : Option Value → rx_M → Prop} (hG : rx_OK G) (hN : rx_Me_ok N n) (hL : rx_LkV M.1.cls idx N ci) (hb : a < mu.2.2.2.2) (hk : (mu.2.2.2.1 a).1 = ci) (hd : decode M.2.1 pc = .ok (.invokevirtual idx, 3)) (hn : as.length = n) (h8 : (st.map fun v => v.category).sum ≤ 8)
    (hc : rx_C G N d (.ref a :: as) mu mc' ms' Q') (kk : ∀ v mu', Q' v mu' → rx_W G M (d + 1) (pc + 3) lv (v.toList ++ st) mu' mc ms Q Z) : rx_W G M (d + 1) pc lv (as.reverse ++ .ref a :: st) mu (mc' + mc) (ms' + ms) Q Z := by
  intro p e R s m args below meth c H locs cells slots MC MS ls C h1 h2 h3 h4 h5
  have hWs : G.2.1.WarmedH s.vm := C.2.2.2.2.2.2.2.1
  have hts := rx_goodc hG hWs hN args
  obtain ⟨⟨T, nf, hci, hcl, -⟩, hin, hsel, hl⟩ := hL
  have hcell := va_recv (rx_K hG hWs) (rx_P1 (rx_obj h2 hb hk hci)) hcl (q0 := 0) rfl
  obtain ⟨hcode, hini, hmx, hmh, hpar⟩ := hN
  have hlen : (rx_trs G as).length = n := by simp [rx_trs, hn]
  have hp : PreV s H N.1.cls (rx_B G + a) (fun v U => v = (rx_trs G (.ref a :: as)).toArray ∧ rx_In G mu U.vm U.heap) (rx_trs G as) := ⟨rx_In_blind, hcell, fun U hU hW => ⟨rfl, State.WarmedH.trans hWs hW, by rw [hU]; exact h2.2.1, by rw [hU]; exact h2.2.2⟩⟩
  have hS : CallFix p m c M.2.1 M.2.2.1 s args [Cond.code N.1 N.2.1 N.2.2.1 N.2.2.2.1] M.1.cls := ⟨C.1, C.2.1, C.2.2.2.1, C.2.2.2.2.1, hts⟩
  have hfr : (rx_room d mc' ms').frames + 1 ≤ R.frames ∧ 8 + (N.2.2.1 + 11) + (rx_room d mc' ms').locals ≤ R.locals := ⟨h1.1, by show 8 + (N.2.2.1 + 11) + 40 * d ≤ R.locals; omega⟩
  have hstk : (F0 m pc ls (rx_trs G (as.reverse ++ .ref a :: st))).stack = (rx_trs G as).reverse ++ .ref (rx_B G + a) :: rx_trs G st := by rw [rx_rev]; show rx_trs G (as.reverse ++ .ref a :: st) = _; rw [rx_trs_app]; rfl
  rcases hl with hl | ⟨host, hl⟩
  · refine rx_back C h1 h3 h4 h5 (va_runV (C := N.1.cls) (g := F0 m pc ls (rx_trs G (as.reverse ++ .ref a :: st))) hS hc ⟨callB_of n hts rx_goodi rfl rfl rfl (rx_w hG hWs hini rfl args) (rx_w hG hWs hl rfl args) ⟨hmh.1, hmh.2, hpar⟩ hfr, rx_w hG hWs hin rfl args, rx_w hG hWs hsel rfl args⟩ hp rfl hlen (h5.1) hstk (lv_room (rx_rm8 h8)) hd ⟨by omega, by omega⟩) kk
  · refine rx_back C h1 h3 h4 h5 (va_runVN (C := N.1.cls) (g := F0 m pc ls (rx_trs G (as.reverse ++ .ref a :: st))) hS hc ⟨va_cnB n hts rx_goodi rfl rfl rfl (va_Nw.of rfl (rx_wM hG hWs hl args)) (rx_w hG hWs hini rfl args) ⟨hmh.1, hmh.2, hpar⟩ hfr, rx_w hG hWs hin rfl args, rx_w hG hWs hsel rfl args⟩ hp rfl hlen (h5.1) hstk (lv_room (rx_rm8 h8)) hd ⟨by omega, by omega⟩) kk
theorem rx_invI {N : rx_Me} {idx n mc' ms' a ci : Nat} {as : List Value} {Q' : Option Value → rx_M → Prop} (hG : rx_OK G) (hN : rx_Me_ok N n) (hL : rx_LkI M.1.cls idx N ci) (hd : decode M.2.1 pc = .ok (.invokespecial idx, 3)) (hn : as.length = n) (h8 : (st.map fun v => v.category).sum ≤ 8)
    (hc : rx_C G N d (.ref a :: as) mu mc' ms' Q') (kk : ∀ v mu', Q' v mu' → rx_W G M (d + 1) (pc + 3) lv (v.toList ++ st) mu' mc ms Q Z) : rx_W G M (d + 1) pc lv (as.reverse ++ .ref a :: st) mu (mc' + mc) (ms' + ms) Q Z := by
  intro p e R s m args below meth c H locs cells slots MC MS ls C h1 h2 h3 h4 h5
  have hWs : G.2.1.WarmedH s.vm := C.2.2.2.2.2.2.2.1
  have hts := rx_goodc hG hWs hN args
  obtain ⟨-, hnm, hnr, hin, hl⟩ := hL
  obtain ⟨yN, cN, lN0, rN, tN0⟩ := N
  dsimp only at hnr hnm hin hl
  subst hnr
  obtain ⟨hcode, hini, hmx, hmh, hpar⟩ := hN
  have hmx : lN0 ≤ 21 := hmx
  have hlen : (rx_trs G as).length = n := by simp [rx_trs, hn]
  have hp : PreS s H (fun v U => v = (rx_trs G (.ref a :: as)).toArray ∧ rx_In G mu U.vm U.heap) (.ref (rx_B G + a) :: rx_trs G as) := ⟨rx_In_blind, fun U hU hW => ⟨rfl, State.WarmedH.trans hWs hW, by rw [hU]; exact h2.2.1, by rw [hU]; exact h2.2.2⟩⟩
  have hS : CallFix p m c M.2.1 M.2.2.1 s args [Cond.code yN cN lN0 none] M.1.cls := ⟨C.1, C.2.1, C.2.2.2.1, C.2.2.2.2.1, hts⟩
  have hfr : (rx_room d mc' ms').frames + 1 ≤ R.frames ∧ 8 + (lN0 + 11) + (rx_room d mc' ms').locals ≤ R.locals := ⟨h1.1, by show 8 + (lN0 + 11) + 40 * d ≤ R.locals; omega⟩
  have hstk : (F0 m pc ls (rx_trs G (as.reverse ++ .ref a :: st))).stack = (rx_trs G as).reverse ++ .ref (rx_B G + a) :: rx_trs G st := by rw [rx_rev]; show rx_trs G (as.reverse ++ .ref a :: st) = _; rw [rx_trs_app]; rfl
  rcases hl with hl | ⟨host, hl⟩
  · refine rx_back C h1 h3 h4 h5 (va_runI (g := F0 m pc ls (rx_trs G (as.reverse ++ .ref a :: st))) hS hc ⟨callB_of n hts rx_goodi rfl rfl rfl (rx_w hG hWs hini rfl args) (rx_w hG hWs hl rfl args) ⟨hmh.1, hmh.2, hpar⟩ hfr, hnm, rx_w hG hWs hin rfl args⟩ hp rfl hlen (h5.1) hstk (lv_room (rx_rm8 h8)) hd ⟨by omega, by omega⟩) kk
  · refine rx_back C h1 h3 h4 h5 (va_runIN (g := F0 m pc ls (rx_trs G (as.reverse ++ .ref a :: st))) hS hc ⟨va_cnB n hts rx_goodi rfl rfl rfl (va_Nw.of rfl (rx_wM hG hWs hl args)) (rx_w hG hWs hini rfl args) ⟨hmh.1, hmh.2, hpar⟩ hfr, hnm, rx_w hG hWs hin rfl args⟩ hp rfl hlen (h5.1) hstk (lv_room (rx_rm8 h8)) hd ⟨by omega, by omega⟩) kk
end RXC
end
section
/-- a new cell of a kind, of n places: all is 0, or none -/
def rx_al (mu : rx_M) (t n : Nat) : rx_M := (rx_k1 mu.1 mu.2.2.2.2 (fun _ => 0), rx_k1 mu.2.1 mu.2.2.2.2 (fun _ => 0), rx_k1 mu.2.2.1 mu.2.2.2.2 (fun _ => none), rx_k1 mu.2.2.2.1 mu.2.2.2.2 (t, n), mu.2.2.2.2 + 1)
theorem rx_k1_self {α : Type} (f : Nat → α) (a : Nat) (x : α) : rx_k1 f a x a = x := by simp [rx_k1]
theorem rx_k1_ne {α : Type} (f : Nat → α) {a b : Nat} (x : α) (h : b ≠ a) : rx_k1 f a x b = f b := by simp [rx_k1, h]
def rx_dv (t : Nat) : Value := if t = 0 then .int 0 else if t = 1 then .long 0 else .null
theorem rx_In_push {G : rx_E} {mu : rx_M} {vm : Vm} {H H1 : Heap} {t n : Nat} (h : rx_In G mu vm H) (hs : H1.size = H.size + 1) (oq : ∀ q : Nat, q < H.size → H1[q]? = H[q]?) (hat : va_at G.2.2.1 vwCl (rx_B G + mu.2.2.2.2, rx_ent G (rx_al mu t n) mu.2.2.2.2) H1) : rx_In G (rx_al mu t n) vm H1 := by
  have hz := h.2.1.1
  refine ⟨h.1, ⟨by rw [hs, hz]; rfl, fun a ha hk => ?_⟩, fun q hq => (oq q (by omega)).trans (h.2.2 q hq)⟩
  by_cases hn : a = mu.2.2.2.2
  · subst hn
    exact hat
  · have ha' : a < mu.2.2.2.2 := by have : a < mu.2.2.2.2 + 1 := ha; omega
    have hk' : (mu.2.2.2.1 a).1 < 20 := by rw [← rx_k1_ne mu.2.2.2.1 (t, n) hn]; exact hk
    rw [rx_ent_eq (mu := mu) (mu' := rx_al mu t n) (rx_k1_ne _ _ hn) (rx_k1_ne _ _ hn) (rx_k1_ne _ _ hn) (rx_k1_ne _ _ hn)]
    exact (h.2.1.2 a ha' hk').kept (oq _ (by show rx_B G + a < H.size; omega))
section RXN
variable {G : rx_E} {M : rx_Me} {d pc mc ms : Nat} {lv : List (Nat × Value)} {st : List Value} {mu : rx_M} {Q : Option Value → rx_M → Prop} {Z : String → rx_M → Prop}
theorem rx_new {idx ci N : Nat} {C0 : String} {T : u_T} (hG : rx_OK G) (hCl : rx_Cl ci C0 T N) (hw : Cond.classLink M.1.cls idx C0 ∈ lw_tbl ∧ Cond.instantiable C0 N ∈ lw_tbl ∧ Cond.initialized C0 ∈ lw_tbl) (hdv : ∀ j, j < N → defaultValue ((rx_ty ci).1 j) = rx_dv (rx_tc ((rx_ty ci).1 j))) (hd : decode M.2.1 pc = .ok (.new idx, 3))
    (kk : rx_W G M d (pc + 3) lv (.ref mu.2.2.2.2 :: st) (rx_al mu ci N) mc ms Q Z) : rx_W G M d pc lv st mu (mc + 1) (ms + N) Q Z := by
  intro p e R s m args below meth c H locs cells slots MC MS ls C h1 h2 h3 h4 h5
  have hWs : G.2.1.WarmedH s.vm := C.2.2.2.2.2.2.2.1
  obtain ⟨hci, hc, hws, hN, hty, hnm⟩ := hCl
  have hts : ∀ w ∈ u_ws C0 T N, w.before args s = true := fun w h => rx_w hG hWs (hws w h).1 (hws w h).2 args
  have hKn := (rx_K hG hWs).1 ci _ hc
  refine W.newcK C.1 C.2.1 C.2.2.2.2.1 (rx_w hG hWs hw.1 rfl args) (rx_w hG hWs hw.2.1 rfl args) (rx_w hG hWs hw.2.2 rfl args) rfl hd (by omega) (by omega) hKn.2.1 rfl fun H1 kC hkC e1 z1 o1 => ?_
  have hat : va_at G.2.2.1 vwCl (rx_B G + mu.2.2.2.2, rx_ent G (rx_al mu ci N) mu.2.2.2.2) H1 := by
    rw [rx_ent_obj (ci := ci) (congrArg Prod.fst (rx_k1_self mu.2.2.2.1 mu.2.2.2.2 (ci, N))) hci]
    have e1' : H1[rx_B G + mu.2.2.2.2]? = some (blank (G.2.2.1.1 ci) kC) := by rw [← h2.2.1.1]; exact e1
    refine ⟨_, hc, (u_born (rx_ty ci).1 hts (fun _ h => h) hKn hkC e1' hty).to (fun j hj => ?_)⟩
    rw [hdv j hj]
    have hj' : j < (rx_ty ci).2 := by rw [hN]; exact hj
    simp only [vp_V, List.getD_eq_getElem?_getD, rx_row_get hj', Option.getD_some]
    simp only [rx_fv, rx_al, rx_k1_self, rx_dv]
    split
    · rfl
    · split <;> rfl
  have := kk p e R s m args below meth c H1 locs (cells + 1) (slots + N) MC MS ls C ⟨h1.1, h1.2.1, by omega, by omega, h1.2.2.2.2.1, h1.2.2.2.2.2⟩ (rx_In_push h2 z1 o1 hat) (by rw [z1]; exact Nat.le_succ_of_le h3) h4 h5
  rw [h2.2.1.1]
  exact this
theorem rx_newa {x : Int32} {n t : Nat} {atype : ArrayType} (hG : rx_OK G) (ht : (t = 12 ∧ atype = .byte) ∨ (t = 13 ∧ atype = .int) ∨ (t = 14 ∧ atype = .long) ∨ (t = 15 ∧ atype = .boolean)) (hw : Cond.arrayClass (newarray.typeOf atype) ∈ lw_tbl) (hd : decode M.2.1 pc = .ok (.newarray atype, 2)) (hx : x = nI n) (hn : n < 65536)
    (kk : rx_W G M d (pc + 2) lv (.ref mu.2.2.2.2 :: st) (rx_al mu t n) mc ms Q Z) : rx_W G M d pc lv (.int x :: st) mu (mc + 1) (ms + n) Q Z := by
  intro p e R s m args below meth c H locs cells slots MC MS ls C h1 h2 h3 h4 h5
  have hWs : G.2.1.WarmedH s.vm := C.2.2.2.2.2.2.2.1
  subst hx
  refine va_newaK C.1 C.2.1 (rx_w hG hWs hw rfl args) rfl hd rfl (nI_pos (by omega)) (nI_clamp (by omega)) (by rcases ht with ⟨-, rfl⟩ | ⟨-, rfl⟩ | ⟨-, rfl⟩ | ⟨-, rfl⟩ <;> simp [newarray.typeOf, componentBytes] <;> omega) (by omega) (by omega) rfl fun H1 cA e1 z1 o1 hAr hNm => ?_
  have hat : va_at G.2.2.1 vwCl (rx_B G + mu.2.2.2.2, rx_ent G (rx_al mu t n) mu.2.2.2.2) H1 := by
    have e1' := e1
    rw [h2.2.1.1] at e1'
    unfold rx_ent
    simp only [rx_al, rx_k1_self]
    rcases ht with ⟨rfl, rfl⟩ | ⟨rfl, rfl⟩ | ⟨rfl, rfl⟩ | ⟨rfl, rfl⟩
    · have hcA : G.2.2.2.1 12 = cA := Option.some.inj ((rx_aty hG hWs 0 rfl).2.symm.trans hNm)
      rw [if_neg (by decide), if_neg (by decide), if_pos (by decide), hcA]
      exact e1'
    · have hcA : G.2.2.2.1 13 = cA := Option.some.inj ((rx_aty hG hWs 1 rfl).2.symm.trans hNm)
      rw [if_neg (by decide), if_neg (by decide), if_pos (by decide), hcA]
      exact e1'
    · have hcA : G.2.2.2.1 14 = cA := Option.some.inj ((rx_aty hG hWs 2 rfl).2.symm.trans hNm)
      rw [if_neg (by decide), if_pos rfl, hcA]
      exact e1'
    · have hcA : G.2.2.2.1 15 = cA := Option.some.inj ((rx_aty hG hWs 3 rfl).2.symm.trans hNm)
      rw [if_neg (by decide), if_neg (by decide), if_pos (by decide), hcA]
      exact e1'
  have := kk p e R s m args below meth c H1 locs (cells + 1) (slots + n) MC MS ls C ⟨h1.1, h1.2.1, by omega, by omega, h1.2.2.2.2.1, h1.2.2.2.2.2⟩ (rx_In_push h2 z1 o1 hat) (by rw [z1]; exact Nat.le_succ_of_le h3) h4 h5
  rw [h2.2.1.1]
  exact this
theorem rx_objI {idx a : Nat} (hG : rx_OK G) (hw : Cond.methodLink M.1.cls idx Lib.objectInit ∈ lw_tbl ∧ Cond.instanceMethod Lib.objectInit ∈ lw_tbl ∧ Cond.code Lib.objectInit ⟨#[0xb1]⟩ 1 none ∈ lw_tbl) (hd : decode M.2.1 pc = .ok (.invokespecial idx, 3)) (h8 : (st.map fun v => v.category).sum ≤ 8)
    (kk : rx_W G M (d + 1) (pc + 3) lv st mu mc ms Q Z) : rx_W G M (d + 1) pc lv (.ref a :: st) mu mc ms Q Z := by
  intro p e R s m args below meth c H locs cells slots MC MS ls C h1 h2 h3 h4 h5
  have hWs : G.2.1.WarmedH s.vm := C.2.2.2.2.2.2.2.1
  have h9 := lv_room (m := m) (pc := pc) (ls := ls) (rest := rx_trs G (.ref a :: st)) (rx_rm8 (G := G) h8)
  refine W.objInit C.1 C.2.1 C.2.2.2.2.1 (rx_w hG hWs hw.1 rfl args) (rx_w hG hWs hw.2.1 rfl args) (rx_w hG hWs hw.2.2 rfl args) rfl (h5.1.trans C.2.2.2.1.symm) rfl hd (by omega) (Nat.le_trans (Nat.add_le_add_right h9 12) (by omega)) ?_
  exact kk p e R s m args below meth c H locs cells slots MC MS ls C h1 h2 h3 h4 h5
theorem rx_anew {x : Int32} {n t idx : Nat} (hG : rx_OK G) (ht : 16 ≤ t ∧ t < 20) (hw : Cond.classLink M.1.cls idx (rx_el t) ∈ lw_tbl ∧ Cond.arrayOver (.object (rx_el t)) ∈ lw_tbl) (hd : decode M.2.1 pc = .ok (.anewarray idx, 3)) (hx : x = nI n) (hn : n < 65536)
    (kk : rx_W G M d (pc + 3) lv (.ref mu.2.2.2.2 :: st) (rx_al mu t n) mc ms Q Z) : rx_W G M d pc lv (.int x :: st) mu (mc + 1) (ms + n) Q Z := by
  intro p e R s m args below meth c H locs cells slots MC MS ls C h1 h2 h3 h4 h5
  have hWs : G.2.1.WarmedH s.vm := C.2.2.2.2.2.2.2.1
  subst hx
  have hcl : (nI n).toNatClampNeg = n := nI_clamp (by omega)
  obtain ⟨a9, ha9⟩ := hG.1 _ hw.2
  refine W.anew C.1 C.2.1 C.2.2.2.2.1 (rx_w hG hWs hw.1 rfl args) (va_AO.use (va_AO.moved hWs.alike (va_AO.of ha9))) rfl hd rfl (nI_pos (by omega)) (by rw [hcl]; omega) (by omega) (by rw [hcl]; omega) fun cA kA comp f1 f2 f3 f4 => ?_
  rw [hcl]
  generalize hH1 : H.push ({ cls := cA, slots := Array.replicate n .null, vm := .none } : Cell) = H1
  have z1 : H1.size = H.size + 1 := by rw [← hH1, Array.size_push]
  have e1 : H1[H.size]? = some (arrV cA n (fun _ => .null)) := by rw [← hH1, Array.getElem?_push_size, ← arrV_new]
  have o1 : ∀ q : Nat, q < H.size → H1[q]? = H[q]? := fun q hq => by rw [← hH1, Array.getElem?_push, if_neg (Nat.ne_of_lt hq)]
  have hat : va_at G.2.2.1 vwCl (rx_B G + mu.2.2.2.2, rx_ent G (rx_al mu t n) mu.2.2.2.2) H1 := by
    have e1' := e1
    rw [h2.2.1.1] at e1'
    obtain ⟨-, -, -, -, -, hnm⟩ := (rx_aty hG hWs (t - 12) (rx_tysR ht)).2
    have hcA : G.2.2.2.1 t = cA := Option.some.inj (hnm.symm.trans f1)
    unfold rx_ent
    simp only [rx_al, rx_k1_self]
    rw [if_neg (by omega), if_neg (by omega), if_neg (by omega), hcA]
    exact e1'
  have := kk p e R s m args below meth c H1 locs (cells + 1) (slots + n) MC MS ls C ⟨h1.1, h1.2.1, by omega, by omega, h1.2.2.2.2.1, h1.2.2.2.2.2⟩ (rx_In_push h2 z1 o1 hat) (by rw [z1]; exact Nat.le_succ_of_le h3) h4 h5
  rw [h2.2.1.1]
  exact this
theorem rx_eli_cl {t : Nat} (ht : 16 ≤ t ∧ t < 20) : ∃ (T : u_T) (N : Nat), vwCl[rx_eli t]? = some (rx_el t, T, N) ∧ rx_eli t < 12 := by
  have : t = 16 ∨ t = 17 ∨ t = 18 ∨ t = 19 := by omega
  rcases this with rfl | rfl | rfl | rfl
  · exact ⟨_, _, rfl, by decide⟩
  · exact ⟨_, _, rfl, by decide⟩
  · exact ⟨_, _, rfl, by decide⟩
  · exact ⟨_, _, rfl, by decide⟩
theorem rx_aast {a j n t r : Nat} {i : Int32} (hG : rx_OK G) (hd : decode M.2.1 pc = .ok (.aastore, 1)) (hn : a < mu.2.2.2.2) (hk : mu.2.2.2.1 a = (t, n)) (ht : 16 ≤ t ∧ t < 20) (hi : i = nI j) (hj : j < n) (hN : n < 2147483648) (hr : r < mu.2.2.2.2) (hkr : (mu.2.2.2.1 r).1 = rx_eli t)
    (kk : rx_W G M d (pc + 1) lv st (mu.1, mu.2.1, rx_u mu.2.2.1 a j (some r), mu.2.2.2) mc ms Q Z) : rx_W G M d pc lv (.ref r :: .int i :: .ref a :: st) mu mc ms Q Z := by
  intro p e R s m args below meth c H locs cells slots MC MS ls C h1 h2 h3 h4 h5
  subst hi
  have hWs : G.2.1.WarmedH s.vm := C.2.2.2.2.2.2.2.1
  have hcl : (nI j).toNatClampNeg = j := nI_clamp (by omega)
  obtain ⟨T, NN, hel, hel12⟩ := rx_eli_cl ht
  obtain ⟨r', hr', cellV, g1, g2, g3, -⟩ := rx_obj h2 hr hkr hel12
  have hcls := ((rx_K hG hWs).1 (rx_eli t) _ hel).2
  obtain ⟨kA, comp, k1, k2, k3, -⟩ := (rx_aty hG hWs (t - 12) (rx_tysR ht)).2
  have hcomp : comp = G.2.2.1.1 (rx_eli t) := Option.some.inj (k3.symm.trans hcls.1)
  subst hcomp
  obtain ⟨kC, hkC, -⟩ := hcls.2
  refine W.aast C.1 C.2.1 (rx_arrR h2 hn hk ht) (fun q h => by cases h) (fun h => by cases h) k1 k2 rfl hkC ⟨nI_pos (by omega), by show _ < (arrV _ _ _).slots.size; rw [arrV_size, hcl]; exact hj⟩ g1 (fun q h => by rw [g3] at h; cases h) (by rw [g2]; exact hkC) (by rw [g2]; exact va_assign hcls) rfl rfl hd fun H1 e1 e2 e3 => ?_
  rw [hcl] at e1 ⊢
  refine kk p e R s m args below meth c H1 _ cells slots MC MS ls C h1 (rx_In_set (a := a) h2 e2 e3 rfl (fun b hb => ⟨rfl, rfl, rx_u_ne _ _ _ hb⟩) ?_) (by rw [e2]; exact h3) (rx_locs h4) h5
  unfold rx_ent
  simp only [hk]
  rw [if_neg (by omega), if_neg (by omega), if_neg (by omega)]
  show H1[rx_B G + a]? = _
  rw [e1, vp_cell_q, vp_cell_q, arrV_store, rx_u_self]
  refine congrArg some (congrArg (arrV _ _) (funext fun b => ?_))
  by_cases hb : b = j
  · subst hb; simp [updV, va_rf]
  · simp [updV, hb]
theorem rx_S {s : State} {H : Heap} {locs : List Loc} {mu : rx_M} {vm : Vm} (hB : rx_B G ≤ s.heap.size) (hs : ∀ q, q < rx_B G → s.heap[q]? = G.2.1.heap[q]?) (h2 : rx_In G mu vm H) (h3 : s.heap.size ≤ H.size) (h4 : ∀ q ∈ locs, rx_B G ≤ q.base) : va_S (rx_A G) s.heap H locs :=
  ⟨h3, fun q _ hA => by have hq : q < rx_B G := Nat.not_le.mp hA; rw [h2.2.2 q hq, hs q hq], h4⟩
theorem rx_keptB {s : State} (hs : ∀ q, q < rx_B G → s.heap[q]? = G.2.1.heap[q]?) : ∀ a : Nat, a < G.2.1.heap.size → ¬ rx_A G a → s.heap[a]? = G.2.1.heap[a]? := fun a _ h => hs a (Nat.not_le.mp h)
/-- a static row of ints -/
theorem rx_getsC {idx : Nat} (hG : rx_OK G) (hw : Cond.fieldLink M.1.cls idx RX7 "COSTS" "[I" ∈ lw_tbl) (hd : decode M.2.1 pc = .ok (.getstatic idx, 3)) (k : rx_W G M d (pc + 3) lv (.float 1 :: st) mu mc ms Q Z) : rx_W G M d pc lv st mu mc ms Q Z := by
  intro p e R s m args below meth c H locs cells slots MC MS ls C h1 h2 h3 h4 h5
  have hWs : G.2.1.WarmedH s.vm := C.2.2.2.2.2.2.2.1
  have hB := C.2.2.2.2.2.2.2.2.1
  have hs := C.2.2.2.2.2.2.2.2.2.1
  exact va_gets C.1 C.2.1 (va_Z.kept (va_Z.moved hWs.alike hG.2.2.1.1) (rx_keptB hs)) (rx_S hB hs h2 h3 h4) C.2.2.2.2.1 (rx_w hG hWs hw rfl args) (fun _ h => h) hd (k p e R s m args below meth c H locs cells slots MC MS ls C h1 h2 h3 h4 h5)
theorem rx_getsT {idx : Nat} (hG : rx_OK G) (hw : Cond.fieldLink M.1.cls idx RX6 "TAKES" "[I" ∈ lw_tbl) (hd : decode M.2.1 pc = .ok (.getstatic idx, 3)) (k : rx_W G M d (pc + 3) lv (.float 2 :: st) mu mc ms Q Z) : rx_W G M d pc lv st mu mc ms Q Z := by
  intro p e R s m args below meth c H locs cells slots MC MS ls C h1 h2 h3 h4 h5
  have hWs : G.2.1.WarmedH s.vm := C.2.2.2.2.2.2.2.1
  have hB := C.2.2.2.2.2.2.2.2.1
  have hs := C.2.2.2.2.2.2.2.2.2.1
  exact va_gets C.1 C.2.1 (va_Z.kept (va_Z.moved hWs.alike hG.2.2.2.1.1) (rx_keptB hs)) (rx_S hB hs h2 h3 h4) C.2.2.2.2.1 (rx_w hG hWs hw rfl args) (fun _ h => h) hd (k p e R s m args below meth c H locs cells slots MC MS ls C h1 h2 h3 h4 h5)
theorem rx_ialdC {j : Nat} {i : Int32} (hG : rx_OK G) (hd : decode M.2.1 pc = .ok (.iaload, 1)) (hi : i = nI j) (hj : j < 40) (k : rx_W G M d (pc + 1) lv (.int (rx_costs.getD j 0) :: st) mu mc ms Q Z) : rx_W G M d pc lv (.int i :: .float 1 :: st) mu mc ms Q Z := by
  intro p e R s m args below meth c H locs cells slots MC MS ls C h1 h2 h3 h4 h5
  subst hi
  have hWs : G.2.1.WarmedH s.vm := C.2.2.2.2.2.2.2.1
  have hB := C.2.2.2.2.2.2.2.2.1
  have hs := C.2.2.2.2.2.2.2.2.2.1
  exact va_ti (v := .int (rx_costs.getD j 0)) C.1 C.2.1 (va_T.kept (va_T.moved hWs.alike hG.2.2.1.2) (rx_keptB hs)) (rx_S hB hs h2 h3 h4) (vp_in_nI hj (by decide)) (by rw [nI_clamp (by omega)]) hd (k p e R s m args below meth c H locs cells slots MC MS ls C h1 h2 h3 h4 h5)
theorem rx_ialdT {j : Nat} {i : Int32} (hG : rx_OK G) (hd : decode M.2.1 pc = .ok (.iaload, 1)) (hi : i = nI j) (hj : j < 40) (k : rx_W G M d (pc + 1) lv (.int (rx_takes.getD j 0) :: st) mu mc ms Q Z) : rx_W G M d pc lv (.int i :: .float 2 :: st) mu mc ms Q Z := by
  intro p e R s m args below meth c H locs cells slots MC MS ls C h1 h2 h3 h4 h5
  subst hi
  have hWs : G.2.1.WarmedH s.vm := C.2.2.2.2.2.2.2.1
  have hB := C.2.2.2.2.2.2.2.2.1
  have hs := C.2.2.2.2.2.2.2.2.2.1
  exact va_ti (v := .int (rx_takes.getD j 0)) C.1 C.2.1 (va_T.kept (va_T.moved hWs.alike hG.2.2.2.1.2) (rx_keptB hs)) (rx_S hB hs h2 h3 h4) (vp_in_nI hj (by decide)) (by rw [nI_clamp (by omega)]) hd (k p e R s m args below meth c H locs cells slots MC MS ls C h1 h2 h3 h4 h5)
/-- the script: its length, an int of it -/
theorem rx_slen (hG : rx_OK G) (hd : decode M.2.1 pc = .ok (.arraylength, 1)) (k : rx_W G M d (pc + 1) lv (.int (nI G.2.2.2.2.2.1) :: st) mu mc ms Q Z) : rx_W G M d pc lv (.float 0 :: st) mu mc ms Q Z := by
  intro p e R s m args below meth c H locs cells slots MC MS ls C h1 h2 h3 h4 h5
  have hWs : G.2.1.WarmedH s.vm := C.2.2.2.2.2.2.2.1
  have hB := C.2.2.2.2.2.2.2.2.1
  have hs := C.2.2.2.2.2.2.2.2.2.1
  have hb := hG.2.2.2.2.2.1
  exact va_slen C.1 C.2.1 (va_X.kept (va_X.moved hWs.alike hG.2.2.2.2.1) (hs _ hb)) (Nat.lt_of_lt_of_le hb hB) (show ¬ rx_A G _ from Nat.not_le.mpr hb) (rx_S hB hs h2 h3 h4) hd (k p e R s m args below meth c H locs cells slots MC MS ls C h1 h2 h3 h4 h5)
theorem rx_sld {j : Nat} {i : Int32} (hG : rx_OK G) (hd : decode M.2.1 pc = .ok (.iaload, 1)) (hi : i = nI j) (hj : j < G.2.2.2.2.2.1) (k : rx_W G M d (pc + 1) lv (.int (G.2.2.2.2.2.2 j) :: st) mu mc ms Q Z) : rx_W G M d pc lv (.int i :: .float 0 :: st) mu mc ms Q Z := by
  intro p e R s m args below meth c H locs cells slots MC MS ls C h1 h2 h3 h4 h5
  subst hi
  have hWs : G.2.1.WarmedH s.vm := C.2.2.2.2.2.2.2.1
  have hB := C.2.2.2.2.2.2.2.2.1
  have hs := C.2.2.2.2.2.2.2.2.2.1
  have hb := hG.2.2.2.2.2.1
  have hL := hG.2.2.2.2.2.2.1
  have kk := k p e R s m args below meth c H locs cells slots MC MS ls C h1 h2 h3 h4 h5
  refine va_sld C.1 C.2.1 (va_X.kept (va_X.moved hWs.alike hG.2.2.2.2.1) (hs _ hb)) (Nat.lt_of_lt_of_le hb hB) (show ¬ rx_A G _ from Nat.not_le.mpr hb) (rx_S hB hs h2 h3 h4) (vp_in_nI hj (by omega)) hd ?_
  rw [nI_clamp (by omega)]
  exact kk
end RXN
end
section
theorem rx_nn (z : Int32) (hz : ¬ z < 0) : z.toInt = (z.toNatClampNeg : Int) := by
  have hz0 : (0 : Int) ≤ z.toInt := by
    have := Int32.not_lt.mp hz
    simpa using Int32.le_iff_toInt_le.mp this
  show z.toInt = ((z.toInt.toNat : Nat) : Int)
  omega
/-- the words of System.arraycopy -/
def rx_Cp (own : String) (idx : Nat) : Prop := Cond.methodLink own idx arraycopyName ∈ lw_tbl ∧ Cond.native arraycopyName ∈ lw_tbl ∧ Cond.static arraycopyName ∈ lw_tbl ∧ Cond.initialized "java/lang/System" ∈ lw_tbl
section RXCP
variable {G : rx_E} {M : rx_Me} {d pc mc ms : Nat} {lv : List (Nat × Value)} {st : List Value} {mu : rx_M} {Q : Option Value → rx_M → Prop} {Z : String → rx_M → Prop}
theorem rx_copyJ {a a0 n0 n1 sp dp n idx : Nat} {isp idp i_n : Int32} (hG : rx_OK G) (hw : rx_Cp M.1.cls idx) (hd : decode M.2.1 pc = .ok (.invokestatic idx, 3)) (hn0 : a0 < mu.2.2.2.2) (hk0 : mu.2.2.2.1 a0 = (14, n0)) (hn : a < mu.2.2.2.2) (hk : mu.2.2.2.1 a = (14, n1)) (e1 : isp = nI sp) (e2 : idp = nI dp) (e3 : i_n = nI n) (hs : sp + n ≤ n0) (hp : dp + n ≤ n1) (hN : n0 < 2147483648 ∧ n1 < 2147483648) (h8 : (st.map fun v => v.category).sum ≤ 8)
    (kk : rx_W G M (d + 1) (pc + 3) lv st (mu.1, rx_k1 mu.2.1 a (va_cpy (mu.2.1 a0) (mu.2.1 a) sp dp n), mu.2.2) mc ms Q Z) : rx_W G M (d + 1) pc lv (.int i_n :: .int idp :: .ref a :: .int isp :: .ref a0 :: st) mu mc ms Q Z := by
  intro p e R s m args below meth c H locs cells slots MC MS ls C h1 h2 h3 h4 h5
  have hWs : G.2.1.WarmedH s.vm := C.2.2.2.2.2.2.2.1
  subst e1; subst e2; subst e3
  have c1 : (nI sp).toNatClampNeg = sp := nI_clamp (by omega)
  have c2 : (nI dp).toNatClampNeg = dp := nI_clamp (by omega)
  have c3 : (nI n).toNatClampNeg = n := nI_clamp (by omega)
  have p1 : ¬ nI sp < 0 := nI_pos (by omega)
  have p2 : ¬ nI dp < 0 := nI_pos (by omega)
  have p3 : ¬ nI n < 0 := nI_pos (by omega)
  have hc0 := rx_arrJ h2 hn0 hk0 
  have hc1 := rx_arrJ h2 hn hk 
  have hAr := rx_aty hG hWs 2 rfl
  obtain ⟨-, k0, hkk, cm0, hkk0⟩ := hAr.1 n0 (fun j => .long (mu.2.1 a0 j))
  have h9 := rx_rm8 (G := G) h8
  have hnf : nativeFrameWords "java/lang/System" "arraycopy" 5 ≤ 16 := by decide +kernel
  intro T hT X
  obtain ⟨vm', X', step⟩ := X.arraycopy C.1 C.2.2.2.2.1 (rx_w hG hWs hw.1 rfl args) (rx_w hG hWs hw.2.1 rfl args) (rx_w hG hWs hw.2.2.1 rfl args) (rx_w hG hWs hw.2.2.2 rfl args) (src := rx_B G + a0) (dst := rx_B G + a) (cs := vp_cell (G.2.2.2.1 14) (n0, .inr (.inl (mu.2.1 a0)))) (cd := vp_cell (G.2.2.2.1 14) (n1, .inr (.inl (mu.2.1 a)))) (srcPos := nI sp) (destPos := nI dp) (n := nI n) (by rw [hT]; exact hc0) (by rw [hT]; exact hc1)
    (fun _ h => by cases h) (fun _ h => by cases h) (fun h => by cases h) (fun h => by cases h) hkk hkk hkk0 hkk0 (by rfl) p1 p2 p3
    (by rw [rx_nn _ p1, rx_nn _ p3, c1, c3]; show ¬ _ > ((arrV (G.2.2.2.1 14) n0 (fun j => .long (mu.2.1 a0 j))).slots.size : Int); rw [arrV_size]; omega)
    (by rw [rx_nn _ p2, rx_nn _ p3, c2, c3]; show ¬ _ > ((arrV (G.2.2.2.1 14) n1 (fun j => .long (mu.2.1 a j))).slots.size : Int); rw [arrV_size]; omega)
    (fun vm₁ _ i hi => by
      rw [c3] at hi
      have e : (vp_cell (G.2.2.2.1 14) (n0, .inr (.inl (mu.2.1 a0)))).slots.getD ((nI sp).toNatClampNeg + i) .null = .long (mu.2.1 a0 (sp + i)) := by
        show (arrV (G.2.2.2.1 14) n0 (fun j => .long (mu.2.1 a0 j))).slots.getD _ _ = _
        rw [c1, Array.getD_eq_getD_getElem?, arrV_read _ _ (by omega)]
        rfl
      refine ⟨?_, ?_⟩
      · rw [e]
        exact rfl
      · rw [e]
        exact trivial)
    (g := F0 m pc ls (rx_trs G (.int (nI n) :: .int (nI dp) :: .ref a :: .int (nI sp) :: .ref a0 :: st))) rfl (h5.1.trans C.2.2.2.1.symm) (rest := rx_trs G st) rfl (by rw [C.2.1]; exact hd) (by omega) (by show 2 * 0 + _ + _ ≤ _; omega)
  have e1 : copied (vp_cell (G.2.2.2.1 14) (n0, .inr (.inl (mu.2.1 a0)))) (vp_cell (G.2.2.2.1 14) (n1, .inr (.inl (mu.2.1 a)))) (nI sp) (nI dp) (nI n) = vp_cell (G.2.2.2.1 14) (n1, .inr (.inl (va_cpy (mu.2.1 a0) (mu.2.1 a) sp dp n))) := by
    have := va_copied (fun z => .long z) (G.2.2.2.1 14) (G.2.2.2.1 14) (n0 := n0) (n1 := n1) (sp := (nI sp).toNatClampNeg) (dp := (nI dp).toNatClampNeg) (n := (nI n).toNatClampNeg) (mu.2.1 a0) (mu.2.1 a) (by rw [c1, c3]; exact hs)
    rw [c1, c2, c3] at this
    refine Eq.trans ?_ this
    unfold copied
    rw [c1, c2, c3]
    rfl
  rw [e1] at X' step
  have hl : rx_B G + a < H.size := (Array.getElem?_eq_some_iff.mp hc1).1
  generalize hcell : vp_cell (G.2.2.2.1 14) (n1, .inr (.inl (va_cpy (mu.2.1 a0) (mu.2.1 a) sp dp n))) = cell1 at X' step
  have hheap : ((T.setVm vm').setCell (rx_B G + a) cell1).heap = H.setIfInBounds (rx_B G + a) cell1 := by rw [← hT]; rfl
  have oq : ∀ q : Nat, q ≠ rx_B G + a → (H.setIfInBounds (rx_B G + a) cell1)[q]? = H[q]? := fun q hq => by simp [Array.getElem?_setIfInBounds, Ne.symm hq]
  obtain ⟨t, a1, b1⟩ := kk p e R s m args below meth c (H.setIfInBounds (rx_B G + a) cell1) _ cells slots MC MS ls C h1 (rx_In_set (a := a) h2 (by simp) oq rfl (fun b hb => ⟨rfl, rx_k1_ne _ _ hb, rfl⟩) (by
      unfold rx_ent
      simp only [hk]
      rw [if_neg (by decide), if_pos trivial]
      show (H.setIfInBounds (rx_B G + a) cell1)[rx_B G + a]? = _
      rw [rx_k1_self, hcell]
      simp [Array.getElem?_setIfInBounds, hl])) (by simp; exact h3) (fun q hq => by
      rcases List.mem_append.mp hq with h | h
      · exact h4 q h
      · obtain ⟨z, -, hz⟩ := List.mem_map.mp h
        rw [← hz]
        exact Nat.le_add_right _ _) h5 _ hheap X'
  exact ⟨t, step t a1, b1⟩
theorem rx_copyB {a a0 n0 n1 sp dp n idx : Nat} {isp idp i_n : Int32} (hG : rx_OK G) (hw : rx_Cp M.1.cls idx) (hd : decode M.2.1 pc = .ok (.invokestatic idx, 3)) (hn0 : a0 < mu.2.2.2.2) (hk0 : mu.2.2.2.1 a0 = (12, n0)) (hn : a < mu.2.2.2.2) (hk : mu.2.2.2.1 a = (12, n1)) (e1 : isp = nI sp) (e2 : idp = nI dp) (e3 : i_n = nI n) (hs : sp + n ≤ n0) (hp : dp + n ≤ n1) (hN : n0 < 2147483648 ∧ n1 < 2147483648) (hfit : ∀ i, i < n → fits .byte (.int (mu.1 a0 (sp + i))) = true) (h8 : (st.map fun v => v.category).sum ≤ 8)
    (kk : rx_W G M (d + 1) (pc + 3) lv st (rx_k1 mu.1 a (va_cpy (mu.1 a0) (mu.1 a) sp dp n), mu.2) mc ms Q Z) : rx_W G M (d + 1) pc lv (.int i_n :: .int idp :: .ref a :: .int isp :: .ref a0 :: st) mu mc ms Q Z := by
  intro p e R s m args below meth c H locs cells slots MC MS ls C h1 h2 h3 h4 h5
  have hWs : G.2.1.WarmedH s.vm := C.2.2.2.2.2.2.2.1
  subst e1; subst e2; subst e3
  have c1 : (nI sp).toNatClampNeg = sp := nI_clamp (by omega)
  have c2 : (nI dp).toNatClampNeg = dp := nI_clamp (by omega)
  have c3 : (nI n).toNatClampNeg = n := nI_clamp (by omega)
  have p1 : ¬ nI sp < 0 := nI_pos (by omega)
  have p2 : ¬ nI dp < 0 := nI_pos (by omega)
  have p3 : ¬ nI n < 0 := nI_pos (by omega)
  have hc0 := rx_arrI h2 hn0 hk0 (by omega)
  have hc1 := rx_arrI h2 hn hk (by omega)
  have hAr := rx_aty hG hWs 0 rfl
  obtain ⟨-, k0, hkk, cm0, hkk0⟩ := hAr.1 n0 (fun j => .int (mu.1 a0 j))
  have h9 := rx_rm8 (G := G) h8
  have hnf : nativeFrameWords "java/lang/System" "arraycopy" 5 ≤ 16 := by decide +kernel
  intro T hT X
  obtain ⟨vm', X', step⟩ := X.arraycopy C.1 C.2.2.2.2.1 (rx_w hG hWs hw.1 rfl args) (rx_w hG hWs hw.2.1 rfl args) (rx_w hG hWs hw.2.2.1 rfl args) (rx_w hG hWs hw.2.2.2 rfl args) (src := rx_B G + a0) (dst := rx_B G + a) (cs := vp_cell (G.2.2.2.1 12) (n0, .inl (mu.1 a0))) (cd := vp_cell (G.2.2.2.1 12) (n1, .inl (mu.1 a))) (srcPos := nI sp) (destPos := nI dp) (n := nI n) (by rw [hT]; exact hc0) (by rw [hT]; exact hc1)
    (fun _ h => by cases h) (fun _ h => by cases h) (fun h => by cases h) (fun h => by cases h) hkk hkk hkk0 hkk0 (by rfl) p1 p2 p3
    (by rw [rx_nn _ p1, rx_nn _ p3, c1, c3]; show ¬ _ > ((arrV (G.2.2.2.1 12) n0 (fun j => .int (mu.1 a0 j))).slots.size : Int); rw [arrV_size]; omega)
    (by rw [rx_nn _ p2, rx_nn _ p3, c2, c3]; show ¬ _ > ((arrV (G.2.2.2.1 12) n1 (fun j => .int (mu.1 a j))).slots.size : Int); rw [arrV_size]; omega)
    (fun vm₁ _ i hi => by
      rw [c3] at hi
      have e : (vp_cell (G.2.2.2.1 12) (n0, .inl (mu.1 a0))).slots.getD ((nI sp).toNatClampNeg + i) .null = .int (mu.1 a0 (sp + i)) := by
        show (arrV (G.2.2.2.1 12) n0 (fun j => .int (mu.1 a0 j))).slots.getD _ _ = _
        rw [c1, Array.getD_eq_getD_getElem?, arrV_read _ _ (by omega)]
        rfl
      refine ⟨?_, ?_⟩
      · rw [e]
        exact hfit i hi
      · rw [e]
        exact trivial)
    (g := F0 m pc ls (rx_trs G (.int (nI n) :: .int (nI dp) :: .ref a :: .int (nI sp) :: .ref a0 :: st))) rfl (h5.1.trans C.2.2.2.1.symm) (rest := rx_trs G st) rfl (by rw [C.2.1]; exact hd) (by omega) (by show 2 * 0 + _ + _ ≤ _; omega)
  have e1 : copied (vp_cell (G.2.2.2.1 12) (n0, .inl (mu.1 a0))) (vp_cell (G.2.2.2.1 12) (n1, .inl (mu.1 a))) (nI sp) (nI dp) (nI n) = vp_cell (G.2.2.2.1 12) (n1, .inl (va_cpy (mu.1 a0) (mu.1 a) sp dp n)) := by
    have := va_copied (fun z => .int z) (G.2.2.2.1 12) (G.2.2.2.1 12) (n0 := n0) (n1 := n1) (sp := (nI sp).toNatClampNeg) (dp := (nI dp).toNatClampNeg) (n := (nI n).toNatClampNeg) (mu.1 a0) (mu.1 a) (by rw [c1, c3]; exact hs)
    rw [c1, c2, c3] at this
    refine Eq.trans ?_ this
    unfold copied
    rw [c1, c2, c3]
    rfl
  rw [e1] at X' step
  have hl : rx_B G + a < H.size := (Array.getElem?_eq_some_iff.mp hc1).1
  generalize hcell : vp_cell (G.2.2.2.1 12) (n1, .inl (va_cpy (mu.1 a0) (mu.1 a) sp dp n)) = cell1 at X' step
  have hheap : ((T.setVm vm').setCell (rx_B G + a) cell1).heap = H.setIfInBounds (rx_B G + a) cell1 := by rw [← hT]; rfl
  have oq : ∀ q : Nat, q ≠ rx_B G + a → (H.setIfInBounds (rx_B G + a) cell1)[q]? = H[q]? := fun q hq => by simp [Array.getElem?_setIfInBounds, Ne.symm hq]
  obtain ⟨t, a1, b1⟩ := kk p e R s m args below meth c (H.setIfInBounds (rx_B G + a) cell1) _ cells slots MC MS ls C h1 (rx_In_set (a := a) h2 (by simp) oq rfl (fun b hb => ⟨rx_k1_ne _ _ hb, rfl, rfl⟩) (by
      unfold rx_ent
      simp only [hk]
      rw [if_neg (by decide), if_neg (by decide), if_pos (by decide)]
      show (H.setIfInBounds (rx_B G + a) cell1)[rx_B G + a]? = _
      rw [rx_k1_self, hcell]
      simp [Array.getElem?_setIfInBounds, hl])) (by simp; exact h3) (fun q hq => by
      rcases List.mem_append.mp hq with h | h
      · exact h4 q h
      · obtain ⟨z, -, hz⟩ := List.mem_map.mp h
        rw [← hz]
        exact Nat.le_add_right _ _) h5 _ hheap X'
  exact ⟨t, step t a1, b1⟩
end RXCP
end
section
/-- a copy of a row -/
def rx_cl (mu : rx_M) (a : Nat) : rx_M := (rx_k1 mu.1 mu.2.2.2.2 (mu.1 a), rx_k1 mu.2.1 mu.2.2.2.2 (mu.2.1 a), rx_k1 mu.2.2.1 mu.2.2.2.2 (fun _ => none), rx_k1 mu.2.2.2.1 mu.2.2.2.2 (mu.2.2.2.1 a), mu.2.2.2.2 + 1)
theorem rx_In_pushc {G : rx_E} {mu : rx_M} {vm : Vm} {H H1 : Heap} {a : Nat} (h : rx_In G mu vm H) (hs : H1.size = H.size + 1) (oq : ∀ q : Nat, q < H.size → H1[q]? = H[q]?) (hat : va_at G.2.2.1 vwCl (rx_B G + mu.2.2.2.2, rx_ent G (rx_cl mu a) mu.2.2.2.2) H1) : rx_In G (rx_cl mu a) vm H1 := by
  have hz := h.2.1.1
  refine ⟨h.1, ⟨by rw [hs, hz]; rfl, fun b hb hk => ?_⟩, fun q hq => (oq q (by omega)).trans (h.2.2 q hq)⟩
  by_cases hn : b = mu.2.2.2.2
  · subst hn
    exact hat
  · have hb' : b < mu.2.2.2.2 := by have : b < mu.2.2.2.2 + 1 := hb; omega
    have hk' : (mu.2.2.2.1 b).1 < 20 := by rw [← rx_k1_ne mu.2.2.2.1 (mu.2.2.2.1 a) hn]; exact hk
    rw [rx_ent_eq (mu := mu) (mu' := rx_cl mu a) (rx_k1_ne _ _ hn) (rx_k1_ne _ _ hn) (rx_k1_ne _ _ hn) (rx_k1_ne _ _ hn)]
    exact (h.2.1.2 b hb' hk').kept (oq _ (by show rx_B G + b < H.size; omega))
/-- the words of a row's clone, and of the cast behind it -/
def rx_Cn (own ad : String) (idx idx2 : Nat) : Prop := Cond.methodLink own idx ⟨ad, "clone", "()Ljava/lang/Object;"⟩ ∈ lw_tbl ∧ Cond.sameMethod ad "java/lang/Object" "clone" "()Ljava/lang/Object;" ∈ lw_tbl ∧ Cond.native ⟨"java/lang/Object", "clone", "()Ljava/lang/Object;"⟩ ∈ lw_tbl ∧ Cond.instanceMethod ⟨"java/lang/Object", "clone", "()Ljava/lang/Object;"⟩ ∈ lw_tbl ∧ Cond.selects ad ⟨ad, "clone", "()Ljava/lang/Object;"⟩ ⟨"java/lang/Object", "clone", "()Ljava/lang/Object;"⟩ ∈ lw_tbl ∧ Cond.castable ad "java/lang/Cloneable" ∈ lw_tbl ∧ Cond.classLink own idx2 ad ∈ lw_tbl
section RXCN
variable {G : rx_E} {M : rx_Me} {d pc mc ms : Nat} {lv : List (Nat × Value)} {st : List Value} {mu : rx_M} {Q : Option Value → rx_M → Prop} {Z : String → rx_M → Prop}
theorem rx_cloneJ {a n idx idx2 : Nat} (hG : rx_OK G) (hw : rx_Cn M.1.cls "[J" idx idx2) (hd : decode M.2.1 pc = .ok (.invokevirtual idx, 3)) (hd2 : decode M.2.1 (pc + 3) = .ok (.checkcast idx2, 3)) (hn : a < mu.2.2.2.2) (hk : mu.2.2.2.1 a = (14, n)) (h8 : (st.map fun v => v.category).sum ≤ 8)
    (kk : rx_W G M (d + 1) (pc + 6) lv (.ref mu.2.2.2.2 :: st) (rx_cl mu a) mc ms Q Z) : rx_W G M (d + 1) pc lv (.ref a :: st) mu (mc + 1) (ms + n) Q Z := by
  intro p e R s m args below meth c H locs cells slots MC MS ls C h1 h2 h3 h4 h5
  have hWs : G.2.1.WarmedH s.vm := C.2.2.2.2.2.2.2.1
  have hc1 := rx_arrJ h2 hn hk 
  have hAr := rx_aty hG hWs 2 rfl
  have hnm : s.vm.findClass "[J" = some (G.2.2.2.1 14) := hAr.2
  obtain ⟨-, kS, hkS, compS, hkindS⟩ := hAr.1 0 (fun _ => .null)
  have h9 := rx_rm8 (G := G) h8
  obtain ⟨a9, ha9⟩ := hG.1 _ hw.2.2.2.2.2.1
  have hcst : (Cond.castable "[J" "java/lang/Cloneable").before args s = true := va_Nw.use rfl (va_Nw.warmC hWs (va_Nw.of rfl ha9))
  obtain ⟨c0, t0', f1, f2, f3⟩ := Cond.castable_spec hcst
  cases hnm.symm.trans f1
  have hsz : (vp_cell (G.2.2.2.1 14) (n, .inr (.inl (mu.2.1 a)))).slots.size = n := arrV_size _ _ _
  intro T hT X
  have hcellT : T.heap[rx_B G + a]? = some (vp_cell (G.2.2.2.1 14) (n, .inr (.inl (mu.2.1 a)))) := by rw [hT]; exact hc1
  obtain ⟨-, kA, hkA, comp, hkind⟩ := State.isArrayOf_alike X.warmed.alike (hAr.1 0 (fun _ => .null))
  obtain ⟨vm', X', st'⟩ := X.cloneArray C.1 C.2.2.2.2.1 (rx_w hG hWs hw.1 rfl args) (rx_w hG hWs hw.2.1 rfl args) (rx_w hG hWs hw.2.2.1 rfl args) (rx_w hG hWs hw.2.2.2.1 rfl args) (rx_w hG hWs hw.2.2.2.2.1 rfl args) (a := rx_B G + a) (cell := vp_cell (G.2.2.2.1 14) (n, .inr (.inl (mu.2.1 a)))) hcellT (fun k h => by cases h) (fun h => by cases h) hnm f2 f3
    (fun i v hv => by
      have hk' : T.vm.classes[G.2.2.2.1 14]? = some kA := hkA
      have hfits : fits .long v = true := by
        have hi : i < n := by rw [← hsz]; exact (Array.getElem?_eq_some_iff.mp hv).1
        have hv' : (arrV (G.2.2.2.1 14) n (fun j => .long (mu.2.1 a j))).slots[i]? = some v := hv
        rw [arrV_read _ _ hi] at hv'
        rw [← Option.some.inj hv']
        exact rfl
      show T.fitsSlot (G.2.2.2.1 14) .none i v = true
      have hkind' : kA.kind = .array comp .long := hkind
      simpa [State.fitsSlot, State.slotType?, hk', hkind'] using hfits)
    (g := F0 m pc ls (rx_trs G (.ref a :: st))) rfl (h5.1.trans C.2.2.2.1.symm) rfl (by rw [C.2.1]; exact hd) (by omega) (by show 2 * 0 + ((rx_trs G st).map fun v => v.category).sum + 14 ≤ _; omega) (by omega) (by rw [hsz]; omega) (hloader := Vm.clonesLoader_of_array hkS hkindS)
  have hcellE : ({ cls := (vp_cell (G.2.2.2.1 14) (n, .inr (.inl (mu.2.1 a)))).cls, slots := (vp_cell (G.2.2.2.1 14) (n, .inr (.inl (mu.2.1 a)))).slots } : Cell) = vp_cell (G.2.2.2.1 14) (n, .inr (.inl (mu.2.1 a))) := rfl
  rw [hcellE, hsz] at X'
  rw [hcellE] at st'
  generalize hH1 : H.push (vp_cell (G.2.2.2.1 14) (n, .inr (.inl (mu.2.1 a)))) = H1
  have z1 : H1.size = H.size + 1 := by rw [← hH1, Array.size_push]
  have e1 : H1[H.size]? = some (vp_cell (G.2.2.2.1 14) (n, .inr (.inl (mu.2.1 a)))) := by rw [← hH1, Array.getElem?_push_size]
  have o1 : ∀ q : Nat, q < H.size → H1[q]? = H[q]? := fun q hq => by rw [← hH1, Array.getElem?_push, if_neg (Nat.ne_of_lt hq)]
  have hat : va_at G.2.2.1 vwCl (rx_B G + mu.2.2.2.2, rx_ent G (rx_cl mu a) mu.2.2.2.2) H1 := by
    have e1' := e1
    rw [h2.2.1.1] at e1'
    unfold rx_ent
    simp only [rx_cl, rx_k1_self, hk]
    rw [if_neg (by decide), if_pos trivial]
    exact e1'
  have hIn := rx_In_pushc h2 z1 o1 hat
  have hkk := kk p e R s m args below meth c H1 locs (cells + 1) (slots + n) MC MS ls C ⟨h1.1, h1.2.1, by omega, by omega, h1.2.2.2.2.1, h1.2.2.2.2.2⟩ hIn (by rw [z1]; exact Nat.le_succ_of_le h3) h4 h5
  have e2 : H1[rx_B G + mu.2.2.2.2]? = some (vp_cell (G.2.2.2.1 14) (n, .inr (.inl (mu.2.1 a)))) := by rw [← h2.2.1.1]; exact e1
  have hcast : W p G.1 e R s m args below meth c H1 locs (cells + 1) (slots + n) (vx_MQ below (rx_Qc G Q) (rx_XC G Z) args s MC MS (fun q => rx_B G ≤ q)) (F0 m (pc + 3) ls (.ref (rx_B G + mu.2.2.2.2) :: rx_trs G st)) :=
    va_castA (D := G.2.2.1) (cl := vwCl) (ws := [(rx_B G + mu.2.2.2.2, .inl (G.2.2.2.1 14, n, .inr (.inl (mu.2.1 a))))]) C.1 C.2.1 C.2.2.2.2.1 (rx_w hG hWs hw.2.2.2.2.2.2 rfl args) (rx_P1 e2) 0 rfl hnm hd2 hkk
  obtain ⟨t, b1, b2⟩ := hcast ((T.setVm vm').pushCell (vp_cell (G.2.2.2.1 14) (n, .inr (.inl (mu.2.1 a))))) (by rw [← hH1, ← hT]; rfl) X'
  refine ⟨t, st' t ?_, b2⟩
  rw [hT, h2.2.1.1]
  exact b1
theorem rx_cloneB {a n idx idx2 : Nat} (hG : rx_OK G) (hw : rx_Cn M.1.cls "[B" idx idx2) (hd : decode M.2.1 pc = .ok (.invokevirtual idx, 3)) (hd2 : decode M.2.1 (pc + 3) = .ok (.checkcast idx2, 3)) (hn : a < mu.2.2.2.2) (hk : mu.2.2.2.1 a = (12, n)) (hfit : ∀ i, i < n → fits .byte (.int (mu.1 a i)) = true) (h8 : (st.map fun v => v.category).sum ≤ 8)
    (kk : rx_W G M (d + 1) (pc + 6) lv (.ref mu.2.2.2.2 :: st) (rx_cl mu a) mc ms Q Z) : rx_W G M (d + 1) pc lv (.ref a :: st) mu (mc + 1) (ms + n) Q Z := by
  intro p e R s m args below meth c H locs cells slots MC MS ls C h1 h2 h3 h4 h5
  have hWs : G.2.1.WarmedH s.vm := C.2.2.2.2.2.2.2.1
  have hc1 := rx_arrI h2 hn hk (by omega)
  have hAr := rx_aty hG hWs 0 rfl
  have hnm : s.vm.findClass "[B" = some (G.2.2.2.1 12) := hAr.2
  obtain ⟨-, kS, hkS, compS, hkindS⟩ := hAr.1 0 (fun _ => .null)
  have h9 := rx_rm8 (G := G) h8
  obtain ⟨a9, ha9⟩ := hG.1 _ hw.2.2.2.2.2.1
  have hcst : (Cond.castable "[B" "java/lang/Cloneable").before args s = true := va_Nw.use rfl (va_Nw.warmC hWs (va_Nw.of rfl ha9))
  obtain ⟨c0, t0', f1, f2, f3⟩ := Cond.castable_spec hcst
  cases hnm.symm.trans f1
  have hsz : (vp_cell (G.2.2.2.1 12) (n, .inl (mu.1 a))).slots.size = n := arrV_size _ _ _
  intro T hT X
  have hcellT : T.heap[rx_B G + a]? = some (vp_cell (G.2.2.2.1 12) (n, .inl (mu.1 a))) := by rw [hT]; exact hc1
  obtain ⟨-, kA, hkA, comp, hkind⟩ := State.isArrayOf_alike X.warmed.alike (hAr.1 0 (fun _ => .null))
  obtain ⟨vm', X', st'⟩ := X.cloneArray C.1 C.2.2.2.2.1 (rx_w hG hWs hw.1 rfl args) (rx_w hG hWs hw.2.1 rfl args) (rx_w hG hWs hw.2.2.1 rfl args) (rx_w hG hWs hw.2.2.2.1 rfl args) (rx_w hG hWs hw.2.2.2.2.1 rfl args) (a := rx_B G + a) (cell := vp_cell (G.2.2.2.1 12) (n, .inl (mu.1 a))) hcellT (fun k h => by cases h) (fun h => by cases h) hnm f2 f3
    (fun i v hv => by
      have hk' : T.vm.classes[G.2.2.2.1 12]? = some kA := hkA
      have hfits : fits .byte v = true := by
        have hi : i < n := by rw [← hsz]; exact (Array.getElem?_eq_some_iff.mp hv).1
        have hv' : (arrV (G.2.2.2.1 12) n (fun j => .int (mu.1 a j))).slots[i]? = some v := hv
        rw [arrV_read _ _ hi] at hv'
        rw [← Option.some.inj hv']
        exact hfit i hi
      show T.fitsSlot (G.2.2.2.1 12) .none i v = true
      have hkind' : kA.kind = .array comp .byte := hkind
      simpa [State.fitsSlot, State.slotType?, hk', hkind'] using hfits)
    (g := F0 m pc ls (rx_trs G (.ref a :: st))) rfl (h5.1.trans C.2.2.2.1.symm) rfl (by rw [C.2.1]; exact hd) (by omega) (by show 2 * 0 + ((rx_trs G st).map fun v => v.category).sum + 14 ≤ _; omega) (by omega) (by rw [hsz]; omega) (hloader := Vm.clonesLoader_of_array hkS hkindS)
  have hcellE : ({ cls := (vp_cell (G.2.2.2.1 12) (n, .inl (mu.1 a))).cls, slots := (vp_cell (G.2.2.2.1 12) (n, .inl (mu.1 a))).slots } : Cell) = vp_cell (G.2.2.2.1 12) (n, .inl (mu.1 a)) := rfl
  rw [hcellE, hsz] at X'
  rw [hcellE] at st'
  generalize hH1 : H.push (vp_cell (G.2.2.2.1 12) (n, .inl (mu.1 a))) = H1
  have z1 : H1.size = H.size + 1 := by rw [← hH1, Array.size_push]
  have e1 : H1[H.size]? = some (vp_cell (G.2.2.2.1 12) (n, .inl (mu.1 a))) := by rw [← hH1, Array.getElem?_push_size]
  have o1 : ∀ q : Nat, q < H.size → H1[q]? = H[q]? := fun q hq => by rw [← hH1, Array.getElem?_push, if_neg (Nat.ne_of_lt hq)]
  have hat : va_at G.2.2.1 vwCl (rx_B G + mu.2.2.2.2, rx_ent G (rx_cl mu a) mu.2.2.2.2) H1 := by
    have e1' := e1
    rw [h2.2.1.1] at e1'
    unfold rx_ent
    simp only [rx_cl, rx_k1_self, hk]
    rw [if_neg (by decide), if_neg (by decide), if_pos (by decide)]
    exact e1'
  have hIn := rx_In_pushc h2 z1 o1 hat
  have hkk := kk p e R s m args below meth c H1 locs (cells + 1) (slots + n) MC MS ls C ⟨h1.1, h1.2.1, by omega, by omega, h1.2.2.2.2.1, h1.2.2.2.2.2⟩ hIn (by rw [z1]; exact Nat.le_succ_of_le h3) h4 h5
  have e2 : H1[rx_B G + mu.2.2.2.2]? = some (vp_cell (G.2.2.2.1 12) (n, .inl (mu.1 a))) := by rw [← h2.2.1.1]; exact e1
  have hcast : W p G.1 e R s m args below meth c H1 locs (cells + 1) (slots + n) (vx_MQ below (rx_Qc G Q) (rx_XC G Z) args s MC MS (fun q => rx_B G ≤ q)) (F0 m (pc + 3) ls (.ref (rx_B G + mu.2.2.2.2) :: rx_trs G st)) :=
    va_castA (D := G.2.2.1) (cl := vwCl) (ws := [(rx_B G + mu.2.2.2.2, .inl (G.2.2.2.1 12, n, .inl (mu.1 a)))]) C.1 C.2.1 C.2.2.2.2.1 (rx_w hG hWs hw.2.2.2.2.2.2 rfl args) (rx_P1 e2) 0 rfl hnm hd2 hkk
  obtain ⟨t, b1, b2⟩ := hcast ((T.setVm vm').pushCell (vp_cell (G.2.2.2.1 12) (n, .inl (mu.1 a)))) (by rw [← hH1, ← hT]; rfl) X'
  refine ⟨t, st' t ?_, b2⟩
  rw [hT, h2.2.1.1]
  exact b1
end RXCN
end
section
/-- a word that holds behind the start too -/
def rx_gd (w : Cond) : Bool := goodWord w || (match w with
  | .castable _ _ => true
  | .declares _ => true
  | _ => false)
theorem rx_wG {G : rx_E} {s : State} {w : Cond} (h : rx_OK G) (hW : G.2.1.WarmedH s.vm) (hm : w ∈ lw_tbl) (hg : rx_gd w = true) (args : Array Value) : w.before args s = true := by
  by_cases hq : goodWord w = true
  · exact rx_w h hW hm hq args
  · obtain ⟨a, ha⟩ := h.1 w hm
    cases w with
    | castable C T => exact va_Nw.use rfl (va_Nw.warmC hW (va_Nw.of rfl ha))
    | declares x => exact va_Nw.use rfl (va_Nw.warmD hW (va_Nw.of rfl ha))
    | _ => simp [rx_gd, hq] at hg
/-- the memory behind a throw: some cells more of which nothing is said -/
def rx_gap (mu : rx_M) (n : Nat) : rx_M := (mu.1, mu.2.1, mu.2.2.1, (fun a => if a < mu.2.2.2.2 then mu.2.2.2.1 a else (20, 0)), n)
theorem rx_Rel_gap {G : rx_E} {mu : rx_M} {H H1 : Heap} (h : rx_Rel G mu H) (hs : H.size ≤ H1.size) (oq : ∀ q : Nat, q < H.size → H1[q]? = H[q]?) : ∃ n, mu.2.2.2.2 ≤ n ∧ rx_Rel G (rx_gap mu n) H1 := by
  have hz := h.1
  refine ⟨H1.size - rx_B G, by omega, by show H1.size = rx_B G + (H1.size - rx_B G); omega, fun a ha hk => ?_⟩
  by_cases hn : a < mu.2.2.2.2
  · have e : (rx_gap mu (H1.size - rx_B G)).2.2.2.1 a = mu.2.2.2.1 a := by simp [rx_gap, hn]
    rw [e] at hk
    rw [rx_ent_eq (mu := mu) (mu' := rx_gap mu (H1.size - rx_B G)) rfl rfl rfl e]
    exact (h.2 a hn hk).kept (oq _ (by show rx_B G + a < H.size; omega))
  · have e : (rx_gap mu (H1.size - rx_B G)).2.2.2.1 a = (20, 0) := by simp [rx_gap, hn]
    rw [e] at hk
    exact absurd hk (by decide)
/-- the words of 'throw new cls(text)' in class 10 -/
def rx_Th (ik ic : Nat) (cls : String) : Prop := Bundle.fit cls = true ∧ ∀ w ∈ Cond.classLink RX10 ik cls :: Cond.initialized cls :: vx_atS RX10 ic cls ["java/lang/RuntimeException", "java/lang/Exception"], w ∈ lw_tbl ∧ rx_gd w = true ∧ vx_ot w = true
section RXTH
variable {G : rx_E} {M : rx_Me} {d pc mc ms : Nat} {lv : List (Nat × Value)} {st : List Value} {mu : rx_M} {Q : Option Value → rx_M → Prop} {Z : String → rx_M → Prop}
theorem rx_throw {ik is ic : Nat} {cls text : String} (hG : rx_OK G) (hM : M.1.cls = RX10) (hM0 : M.2.2.2.2 = []) (hT : rx_Th ik ic cls) (hstr : Cond.stringRef RX10 is text ∈ lw_tbl)
    (d0 : decode M.2.1 pc = .ok (.new ik, 3)) (d3 : decode M.2.1 (pc + 3) = .ok (.dup, 1)) (d4 : decode M.2.1 (pc + 4) = .ok (.ldc is, 2)) (d6 : decode M.2.1 (pc + 6) = .ok (.invokespecial ic, 3)) (d9 : decode M.2.1 (pc + 9) = .ok (.athrow, 1))
    (k : ∀ n, mu.2.2.2.2 ≤ n → Z cls (rx_gap mu n)) : rx_W G M (d + 8) pc lv [] mu (mc + 1) (ms + 6) Q Z := by
  intro p e R s m args below meth c H locs cells slots MC MS ls C h1 h2 h3 h4 h5
  have hWs : G.2.1.WarmedH s.vm := C.2.2.2.2.2.2.2.1
  have hB := C.2.2.2.2.2.2.2.2.1
  have hs := C.2.2.2.2.2.2.2.2.2.1
  have hex := C.2.2.2.2.2.2.2.2.2.2
  have hown : s.vm.findClass RX10 = some m.cls := by rw [← hM]; exact C.2.2.2.2.1
  obtain ⟨a9, ha9⟩ := hG.1 _ hstr
  have hown0 : G.2.1.vm.findClass RX10 = some (G.2.2.1.1 10) := (hG.2.1.1 10 _ rfl).2.1
  obtain ⟨k1, cf1, i1, sa, -, -, -, -, -, hev⟩ := Cond.stringRef_spec hown0 ha9
  have hR0 : vk_R RX10 is text sa G.2.1 := vk_R.of (A := a9) ha9 hev
  have hR := vk_R.warm hWs hR0
  have hat : ∀ w ∈ Cond.classLink RX10 ik cls :: Cond.initialized cls :: vx_atS RX10 ic cls ["java/lang/RuntimeException", "java/lang/Exception"], w.before args s = true := fun w hw => rx_wG hG hWs (hT.2 w hw).1 (hT.2 w hw).2.1 args
  have hlocks : meth.locks = false := C.2.2.2.2.2.1
  refine vx_throwS (A := rx_A G) (names := ["java/lang/RuntimeException", "java/lang/Exception"]) C.1 C.2.1 hG.2.2.2.2.2.2.2.1 hown hT.1 (by decide +kernel) (hat _ List.mem_cons_self) (hat _ (List.mem_cons_of_mem _ List.mem_cons_self)) hR (fun w hw => hat w (List.mem_cons_of_mem _ (List.mem_cons_of_mem _ hw))) (fun w hw => (hT.2 w hw).2.2)
    (vx_Zq.kept (vx_Zq.moved hWs.alike hG.2.2.2.2.2.2.2.2.1) (rx_keptB hs)) (vx_Zq.kept (vx_Zq.moved hWs.alike hG.2.2.2.2.2.2.2.2.2) (rx_keptB hs)) (rx_S hB hs h2 h3 h4) (h5.1.trans C.2.2.2.1.symm) d0 d3 d4 d6 d9 (fun x hx => by rw [hex, hM0] at hx; cases hx) (by show 2 + 3 < R.frames; omega) (by show 0 + (13 * (2 + 1) + 43) ≤ R.locals; omega) (by omega) (by omega) hlocks
    (fun t ha hz ho => ?_) h4 (by omega) (by omega)
  obtain ⟨n, hn, hrel⟩ := rx_Rel_gap h2.2.1 hz ho
  exact ⟨_, k n hn, hrel, fun q hq => by rw [ho q (by rw [h2.2.1.1]; omega)]; exact h2.2.2 q hq, Nat.le_trans h3 hz⟩
end RXTH
end
section
section RXMM
variable {G : rx_E} {M : rx_Me} {d pc mc ms : Nat} {lv : List (Nat × Value)} {st : List Value} {mu : rx_M} {Q : Option Value → rx_M → Prop} {Z : String → rx_M → Prop}
theorem rx_mmin {idx : Nat} {x y : Int32} (hG : rx_OK G) (hw : Cond.methodLink M.1.cls idx Lib.Math.min.name ∈ lw_tbl ∧ Cond.static Lib.Math.min.name ∈ lw_tbl ∧ Cond.initialized "java/lang/Math" ∈ lw_tbl ∧ Cond.code Lib.Math.min.name Lib.Math.min.code 2 (some .int) ∈ lw_tbl) (hd : decode M.2.1 pc = .ok (.invokestatic idx, 3)) (h8 : (st.map fun v => v.category).sum ≤ 8)
    (kk : rx_W G M (d + 1) (pc + 3) lv (.int (if y < x then y else x) :: st) mu mc ms Q Z) : rx_W G M (d + 1) pc lv (.int y :: .int x :: st) mu mc ms Q Z := by
  intro p e R s m args below meth c H locs cells slots MC MS ls C h1 h2 h3 h4 h5
  have hWs : G.2.1.WarmedH s.vm := C.2.2.2.2.2.2.2.1
  have h9 := rx_rm8 (G := G) h8
  exact va_mmin C.1 C.2.1 (C.2.2.2.1.trans h5.1.symm) C.2.2.2.2.1 (rx_w hG hWs hw.1 rfl args) (rx_w hG hWs hw.2.1 rfl args) (rx_w hG hWs hw.2.2.1 rfl args) (rx_w hG hWs hw.2.2.2 rfl args) (by omega) (by show ((rx_trs G st).map fun v => v.category).sum + 13 ≤ R.locals; omega) (by omega) (by omega) hd (kk p e R s m args below meth c H locs cells slots MC MS ls C h1 h2 h3 h4 h5)
theorem rx_mminL {idx : Nat} {x y : Int64} (hG : rx_OK G) (hw : Cond.methodLink M.1.cls idx Lib.MathLoose.min_long.x ∈ lw_tbl ∧ Cond.static Lib.MathLoose.min_long.x ∈ lw_tbl ∧ Cond.initialized "java/lang/Math" ∈ lw_tbl ∧ Cond.code Lib.MathLoose.min_long.x Lib.MathLoose.min_long.code 4 (some .long) ∈ lw_tbl) (hd : decode M.2.1 pc = .ok (.invokestatic idx, 3)) (h8 : (st.map fun v => v.category).sum ≤ 8)
    (kk : rx_W G M (d + 1) (pc + 3) lv (.long (if y < x then y else x) :: st) mu mc ms Q Z) : rx_W G M (d + 1) pc lv (.long y :: .long x :: st) mu mc ms Q Z := by
  intro p e R s m args below meth c H locs cells slots MC MS ls C h1 h2 h3 h4 h5
  have hWs : G.2.1.WarmedH s.vm := C.2.2.2.2.2.2.2.1
  have h9 := rx_rm8 (G := G) h8
  exact va_mmin_long C.1 C.2.1 (C.2.2.2.1.trans h5.1.symm) C.2.2.2.2.1 (rx_w hG hWs hw.1 rfl args) (rx_w hG hWs hw.2.1 rfl args) (rx_w hG hWs hw.2.2.1 rfl args) (rx_w hG hWs hw.2.2.2 rfl args) (by omega) (by show ((rx_trs G st).map fun v => v.category).sum + 15 ≤ R.locals; omega) (by omega) (by omega) hd (kk p e R s m args below meth c H locs cells slots MC MS ls C h1 h2 h3 h4 h5)
theorem rx_mmaxL {idx : Nat} {x y : Int64} (hG : rx_OK G) (hw : Cond.methodLink M.1.cls idx Lib.MathLoose.max_long.x ∈ lw_tbl ∧ Cond.static Lib.MathLoose.max_long.x ∈ lw_tbl ∧ Cond.initialized "java/lang/Math" ∈ lw_tbl ∧ Cond.code Lib.MathLoose.max_long.x Lib.MathLoose.max_long.code 4 (some .long) ∈ lw_tbl) (hd : decode M.2.1 pc = .ok (.invokestatic idx, 3)) (h8 : (st.map fun v => v.category).sum ≤ 8)
    (kk : rx_W G M (d + 1) (pc + 3) lv (.long (if y < x then x else y) :: st) mu mc ms Q Z) : rx_W G M (d + 1) pc lv (.long y :: .long x :: st) mu mc ms Q Z := by
  intro p e R s m args below meth c H locs cells slots MC MS ls C h1 h2 h3 h4 h5
  have hWs : G.2.1.WarmedH s.vm := C.2.2.2.2.2.2.2.1
  have h9 := rx_rm8 (G := G) h8
  exact va_mmax_long C.1 C.2.1 (C.2.2.2.1.trans h5.1.symm) C.2.2.2.2.1 (rx_w hG hWs hw.1 rfl args) (rx_w hG hWs hw.2.1 rfl args) (rx_w hG hWs hw.2.2.1 rfl args) (rx_w hG hWs hw.2.2.2 rfl args) (by omega) (by show ((rx_trs G st).map fun v => v.category).sum + 15 ≤ R.locals; omega) (by omega) (by omega) hd (kk p e R s m args below meth c H locs cells slots MC MS ls C h1 h2 h3 h4 h5)
end RXMM
end
section
/-! a callee's throw, caught by a row of the caller's table -/
def ry_Finds (e : Env) (s : State) (f : JFrame) (a : Addr) (h : Handler) (vm' : Vm) : Prop :=
  ∀ (Q : Handler → Pre) (E : CtlPost) (d : Bool) (acts : List Action), wp (findHandler f a) Q E e d acts s ↔ Q h d acts (s.setVm vm')
section RYC
variable {Q : Handler → Pre} {E : CtlPost} {e : Env} {d : Bool} {acts : List Action} {s : State} {f : JFrame} {a : Addr}
theorem ry_link {x : ExceptionTableEntry} {t : List ExceptionTableEntry} {c : ClassId} {cell : Cell} {yes : Bool} (hx : covers x f.pc = true) (h0 : x.catchType ≠ 0)
    (hl : s.vm.ClassLinks e.platform f.method.cls x.catchType c) (hcell : s.heap[a]? = some cell) (hobj : ∀ k, cell.vm ≠ .statics k)
    (hk : ∃ k, s.vm.classes[cell.cls]? = some k) (hc : ∃ k, s.vm.classes[c]? = some k) (hfit : s.vm.assignable cell.cls c = yes) :
    wp (findHandler.go f a (x :: t)) Q E e d acts s ↔ (if yes then Q (.found x.handlerPc) d acts (s.setVm (s.vm.noted f.method.cls x.catchType (.cls c))) else wp (findHandler.go f a t) Q E e d acts (s.setVm (s.vm.noted f.method.cls x.catchType (.cls c)))) := by
  simp only [covers] at hx
  obtain ⟨ha, ht⟩ := (resolveClass_links e.toSetting hl).op (op := VmOp.resolveClass f.method.cls x.catchType) rfl
  have hal : s.vm.Alike (s.vm.noted f.method.cls x.catchType (.cls c)) := (Vm.Alike.refl s.vm).noted _ _ _
  obtain ⟨k1, hk1⟩ := hk
  obtain ⟨k2, hk2⟩ := hc
  obtain ⟨k1', hk1', -⟩ := hal.2.2 _ _ hk1
  obtain ⟨k2', hk2', -⟩ := hal.2.2 _ _ hk2
  have hfit' : (s.vm.noted f.method.cls x.catchType (.cls c)).assignable cell.cls c = yes := by rw [hal.assignable]; exact hfit
  cases yes <;> simp [findHandler.go, hx, h0, ha, ht, hcell, hobj, hk1', hk2', hfit', VmOp.dirties, VmOp.acts]
end RYC
/-- a row ahead of the one that catches: it doesn't cover the place, or names another class -/
def ry_Pass (pl : Platform) (s₀ : State) (d : ClassId) (pc : Nat) (thrown : ClassId) (y : ExceptionTableEntry) : Prop :=
  covers y pc = false ∨ (y.catchType ≠ 0 ∧ ∃ c, s₀.vm.ClassLinks pl d y.catchType c ∧ s₀.vm.assignable thrown c = false)
theorem ry_go {e : Env} {s₀ : State} {f : JFrame} {a : Addr} {cell : Cell} (hobj : ∀ k, cell.vm ≠ .statics k) (hk0 : ∃ k, s₀.vm.classes[cell.cls]? = some k)
    (x : ExceptionTableEntry) (rest : List ExceptionTableEntry) (hx : covers x f.pc = true) (h0 : x.catchType ≠ 0) {cx : ClassId} (hl : s₀.vm.ClassLinks e.platform f.method.cls x.catchType cx) (hfit : s₀.vm.assignable cell.cls cx = true) :
    ∀ (pre : List ExceptionTableEntry) (S : State), s₀.WarmedH S.vm → S.heap[a]? = some cell → (∀ y ∈ pre, ry_Pass e.platform s₀ f.method.cls f.pc cell.cls y) →
      ∃ vm', s₀.WarmedH vm' ∧ ∀ (Q : Handler → Pre) (E : CtlPost) (d : Bool) (acts : List Action), wp (findHandler.go f a (pre ++ x :: rest)) Q E e d acts S ↔ Q (.found x.handlerPc) d acts (S.setVm vm') := by
  obtain ⟨k0, hk0⟩ := hk0
  intro pre
  induction pre with
  | nil =>
    intro S hW hcell _
    obtain ⟨k0', hk0', -⟩ := hW.alike.2.2 _ _ hk0
    obtain ⟨dk, _, _, kt, hd, _, _, _, _, hkt, _, hopen⟩ := hl.here
    obtain ⟨kt', hkt', -⟩ := hW.alike.2.2 _ _ hkt
    exact ⟨_, hW.noted hd hopen (State.rightAt_cls hl), fun Q E d acts => by
      rw [List.nil_append]
      exact ry_link (yes := true) hx h0 (hW.classLinks hl) hcell hobj ⟨k0', hk0'⟩ ⟨kt', hkt'⟩ (by rw [hW.alike.assignable]; exact hfit)⟩
  | cons y ys ih =>
    intro S hW hcell hpass
    obtain ⟨k0', hk0', -⟩ := hW.alike.2.2 _ _ hk0
    have hrest : ∀ z ∈ ys, ry_Pass e.platform s₀ f.method.cls f.pc cell.cls z := fun z hz => hpass z (List.mem_cons_of_mem _ hz)
    by_cases hcov : covers y f.pc = true
    · rcases hpass y (List.mem_cons_self ..) with h | ⟨h0', c, hl', hno⟩
      · rw [h] at hcov; cases hcov
      · obtain ⟨dk, _, _, kt, hd, _, _, _, _, hkt, _, hopen⟩ := hl'.here
        obtain ⟨kt', hkt', -⟩ := hW.alike.2.2 _ _ hkt
        obtain ⟨vm', hW', hq⟩ := ih (S.setVm (S.vm.noted f.method.cls y.catchType (.cls c))) (hW.noted hd hopen (State.rightAt_cls hl')) hcell hrest
        exact ⟨vm', hW', fun Q E d acts => by
          rw [List.cons_append, ry_link (yes := false) hcov h0' (hW.classLinks hl') hcell hobj ⟨k0', hk0'⟩ ⟨kt', hkt'⟩ (by rw [hW.alike.assignable]; exact hno)]
          exact hq Q E d acts⟩
    · obtain ⟨vm', hW', hq⟩ := ih S hW hcell hrest
      exact ⟨vm', hW', fun Q E d acts => by
        rw [List.cons_append, W.findHandler_go_skip (by simpa using hcov)]
        exact hq Q E d acts⟩
theorem ry_step {e : Env} {s : State} {a : Addr} {f : JFrame} {r : List Frame} {pc : Nat} {vm' : Vm} (hfind : ry_Finds e s f a (.found pc) vm') :
    (stepThrowing e s a (.java f :: r)).Is ((s.setVm vm').setFrames (.java { f with pc := pc, stack := [.ref a] } :: r)) [] := by
  simp only [stepThrowing, searchFrame, vmDo]
  generalize hr : Sem.go _ e false [] s = res
  obtain ⟨as, rfl, ha⟩ := Sem.eq_ok_of hr (a := Handler.found pc) (s' := s.setVm vm') (acts' := []) (by simp [hfind _ _ _ _])
  exact ⟨rfl, ha⟩
theorem ry_fvf (u : State) (vm' : Vm) (F G : List Frame) : ((u.setFrames F).setVm vm').setFrames G = (u.setVm vm').setFrames G := by
  have h1 : (u.setFrames F).setVm vm' = (u.setVm vm').setFrames F := rfl
  rw [h1, State.setFrames_setFrames]
theorem ry_caught {tb : Tables} {e : Env} {s target : State} {g : JFrame} {c : Code} {below : List Frame} {a : Addr} (h : At s g.method c below) {pc : Nat} {vm' : Vm}
    (hfind : ry_Finds e ((s.setTop g).pushFrame (.throwing a)) g a (.found pc) vm') (hrest : Steps tb e below ((s.setVm vm').setTop { g with pc := pc, stack := [.ref a] }) target) :
    Steps tb e below ((s.setTop g).pushFrame (.throwing a)) target := by
  obtain ⟨hgo, hw⟩ := h.throwing a
  refine Steps.head hgo hw ?_
  rw [stepThread_throwing (frames_entered h.top _), (ry_step (s := (s.setTop g).pushFrame (.throwing a)) hfind).1]
  obtain ⟨g₀, hg⟩ := Option.isSome_iff_exists.mp h.top
  obtain ⟨r, hr⟩ := State.topJava?_eq_some.mp hg
  have hr' : (s.setVm vm').frames = .java g₀ :: r := hr
  rw [State.setTop_of_frames _ hr'] at hrest
  rw [hr, List.tail_cons, State.pushFrame, ry_fvf, State.setTop_of_frames _ hr, ry_fvf]
  exact hrest
/-- caught by the row x of this method's table; the rows ahead don't take it -/
theorem ry_catch {p : Program} {l : Launch} {e : Env} {R : Room} {s : State} {m : MethodId} {args : Array Value} {below : List Frame} {meth : Method} {c : Code} {H : Heap} {locs : List Loc} {cells slots : Nat} {Q : State → Prop} {pc : Nat} {ls : Array Slot} {rest : List Value} {own name : String} {E : String} {ce : Cell} {q : Addr} (hown : s.vm.findClass own = some m.cls) (pre : List ExceptionTableEntry) (x : ExceptionTableEntry) (suf : List ExceptionTableEntry) (hsplit : c.exceptionTable.toList = pre ++ x :: suf)
    (hpass : ∀ z ∈ pre, covers z pc = false ∨ (z.catchType ≠ 0 ∧ ∃ nm : String, (Cond.classLink own z.catchType nm).before args s = true ∧ va_Nc E nm s)) (hx : covers x pc = true) (h0 : x.catchType ≠ 0)
    (hlink : (Cond.classLink own x.catchType name).before args s = true) (hcast : (Cond.castable E name).before args s = true) (hcell : H[q]? = some ce) (hv : ce.vm = .none) (hcl : s.vm.findClass E = some ce.cls)
    (kk : W p l e R s m args below meth c H locs cells slots Q (F0 m x.handlerPc ls [.ref q])) {T : State} (hT : T.heap = H) (X : Stand p l e R s m args below meth c T locs cells slots) : ∃ t, Steps p.tables e below ((T.setTop (F0 m pc ls rest)).pushFrame (.throwing q)) t ∧ Q t := by
  have hpl : e.platform.magicAccessors = ({} : Platform).magicAccessors := by rw [X.admits.platform]
  obtain ⟨c3, c4, hc3, hc4, hasg⟩ := Cond.castable_spec hcast
  cases Option.some.inj (hc3.symm.trans hcl)
  obtain ⟨c5, hc5, hcl5⟩ := Cond.classLink_spec hown hlink e.platform hpl
  cases Option.some.inj (hc4.symm.trans hc5)
  have hobj : ∀ k, ce.vm ≠ .statics k := fun k h => by rw [hv] at h; cases h
  obtain ⟨vm', hW', hq⟩ := ry_go (e := e) (s₀ := s) (f := F0 m pc ls rest) (a := q) (cell := ce) hobj (by obtain ⟨k9, h9, -⟩ := Vm.findClass_spec hcl; exact ⟨k9, h9⟩) x suf hx h0 hcl5 hasg pre ((T.setTop (F0 m pc ls rest)).pushFrame (.throwing q)) X.warmed (by show T.heap[q]? = _; rw [hT]; exact hcell)
    (fun z hz => by
      rcases hpass z hz with h | ⟨hz0, nm, hl1, hn1⟩
      · exact Or.inl h
      · obtain ⟨c6, hc6, hcl6⟩ := Cond.classLink_spec hown hl1 e.platform hpl
        obtain ⟨a8, b8, h1, h2, h3⟩ := hn1
        cases Option.some.inj (h1.symm.trans hcl)
        cases Option.some.inj (h2.symm.trans hc6)
        exact Or.inr ⟨hz0, _, hcl6, h3⟩)
  have hf : ry_Finds e ((T.setTop (F0 m pc ls rest)).pushFrame (.throwing q)) (F0 m pc ls rest) q (.found x.handlerPc) vm' := fun Q E d acts => by
    rw [W.findHandler_eq (show ((T.setTop (F0 m pc ls rest)).pushFrame (.throwing q)).vm.method? m = some meth from X.method') X.code, hsplit]
    exact hq Q E d acts
  obtain ⟨t, a1, b1⟩ := kk (T.setVm vm') hT (X.noted hW')
  exact ⟨t, ry_caught X.here hf a1, b1⟩
end
section
theorem ht_1 : ∀ w ∈ tables_1_1, w ∈ lw_tbl := fun w h => List.mem_append_right _ (List.mem_append_left _ h)
theorem ht_2 : ∀ w ∈ tables_1_2, w ∈ lw_tbl := fun w h => List.mem_append_right _ (List.mem_append_right _ (List.mem_append_left _ h))
theorem ht_3 : ∀ w ∈ tables_1_3, w ∈ lw_tbl := fun w h => List.mem_append_right _ (List.mem_append_right _ (List.mem_append_right _ (List.mem_append_left _ h)))
theorem ht_4 : ∀ w ∈ tables_1_4, w ∈ lw_tbl := fun w h => List.mem_append_right _ (List.mem_append_right _ (List.mem_append_right _ (List.mem_append_right _ (List.mem_append_left _ h))))
theorem ht_5 : ∀ w ∈ tables_1_5, w ∈ lw_tbl := fun w h => List.mem_append_right _ (List.mem_append_right _ (List.mem_append_right _ (List.mem_append_right _ (List.mem_append_right _ (List.mem_append_left _ h)))))
theorem ht_6 : ∀ w ∈ tables_1_6, w ∈ lw_tbl := fun w h => List.mem_append_right _ (List.mem_append_right _ (List.mem_append_right _ (List.mem_append_right _ (List.mem_append_right _ (List.mem_append_right _ (h))))))
theorem ht_0 : ∀ w ∈ k2_sels lw_privs, w ∈ lw_tbl := fun w h => List.mem_append_left _ h
theorem hw_0 : Jvm.Cond.code ({ cls := "LedgerMachine$Block", name := "<init>", desc := "(II[J[J[JI)V" } : Jvm.MethodName) prog_2_method_1_code (7 : Nat) (Option.none : Option Jvm.ClassFile.FieldType) ∈ lw_tbl := ht_2 _ (List.mem_of_getElem? (i := 9) rfl)
theorem hw_1 : Jvm.Cond.initialized "LedgerMachine$Block" ∈ lw_tbl := ht_1 _ (List.mem_of_getElem? (i := 9) rfl)
theorem hw_2 : Jvm.Cond.code ({ cls := "LedgerMachine$Call", name := "<init>", desc := "()V" } : Jvm.MethodName) prog_3_method_1_code (1 : Nat) (Option.none : Option Jvm.ClassFile.FieldType) ∈ lw_tbl := ht_1 _ (List.mem_of_getElem? (i := 102) rfl)
theorem hw_3 : Jvm.Cond.initialized "LedgerMachine$Call" ∈ lw_tbl := ht_1 _ (List.mem_of_getElem? (i := 7) rfl)
theorem hw_4 : Jvm.Cond.code ({ cls := "LedgerMachine$Call", name := "set", desc := "(IJJJIZ)V" } : Jvm.MethodName) prog_3_method_2_code (10 : Nat) (Option.none : Option Jvm.ClassFile.FieldType) ∈ lw_tbl := ht_3 _ (List.mem_of_getElem? (i := 165) rfl)
theorem hw_5 : Jvm.Cond.code ({ cls := "LedgerMachine$Code", name := "<init>", desc := "([B)V" } : Jvm.MethodName) prog_4_method_1_code (2 : Nat) (Option.none : Option Jvm.ClassFile.FieldType) ∈ lw_tbl := ht_2 _ (List.mem_of_getElem? (i := 238) rfl)
theorem hw_6 : Jvm.Cond.initialized "LedgerMachine$Code" ∈ lw_tbl := ht_1 _ (List.mem_of_getElem? (i := 17) rfl)
theorem hw_7 : Jvm.Cond.code ({ cls := "LedgerMachine$Code", name := "octetAt", desc := "(I)I" } : Jvm.MethodName) prog_4_method_2_code (2 : Nat) (Option.some Jvm.ClassFile.FieldType.int) ∈ lw_tbl := ht_3 _ (List.mem_of_getElem? (i := 218) rfl)
theorem hw_8 : Jvm.Cond.code ({ cls := "LedgerMachine$Code", name := "numberAt", desc := "(I)J" } : Jvm.MethodName) prog_4_method_3_code (5 : Nat) (Option.some Jvm.ClassFile.FieldType.long) ∈ lw_tbl := ht_4 _ (List.mem_of_getElem? (i := 18) rfl)
theorem hw_9 : Jvm.Cond.code ({ cls := "LedgerMachine$Code", name := "octetsBehind", desc := "(I)I" } : Jvm.MethodName) prog_4_method_4_code (1 : Nat) (Option.some Jvm.ClassFile.FieldType.int) ∈ lw_tbl := ht_2 _ (List.mem_of_getElem? (i := 205) rfl)
theorem hw_10 : Jvm.Cond.code ({ cls := "LedgerMachine$CodeBook", name := "<init>", desc := "()V" } : Jvm.MethodName) prog_5_method_1_code (1 : Nat) (Option.none : Option Jvm.ClassFile.FieldType) ∈ lw_tbl := ht_1 _ (List.mem_of_getElem? (i := 58) rfl)
theorem hw_11 : Jvm.Cond.initialized "LedgerMachine$CodeBook" ∈ lw_tbl := ht_1 _ (List.mem_of_getElem? (i := 4) rfl)
theorem hw_12 : Jvm.Cond.code ({ cls := "LedgerMachine$CodeBook", name := "isFull", desc := "()Z" } : Jvm.MethodName) prog_5_method_2_code (1 : Nat) (Option.some Jvm.ClassFile.FieldType.boolean) ∈ lw_tbl := ht_2 _ (List.mem_of_getElem? (i := 174) rfl)
theorem hw_13 : Jvm.Cond.code ({ cls := "LedgerMachine$CodeBook", name := "has", desc := "(J)Z" } : Jvm.MethodName) prog_5_method_3_code (3 : Nat) (Option.some Jvm.ClassFile.FieldType.boolean) ∈ lw_tbl := ht_3 _ (List.mem_of_getElem? (i := 25) rfl)
theorem hw_14 : Jvm.Cond.code ({ cls := "LedgerMachine$CodeBook", name := "add", desc := "(LLedgerMachine$Code;)I" } : Jvm.MethodName) prog_5_method_4_code (2 : Nat) (Option.some Jvm.ClassFile.FieldType.int) ∈ lw_tbl := ht_3 _ (List.mem_of_getElem? (i := 7) rfl)
theorem hw_15 : Jvm.Cond.code ({ cls := "LedgerMachine$Draft", name := "<init>", desc := "()V" } : Jvm.MethodName) prog_6_method_1_code (1 : Nat) (Option.none : Option Jvm.ClassFile.FieldType) ∈ lw_tbl := ht_1 _ (List.mem_of_getElem? (i := 34) rfl)
theorem hw_16 : Jvm.Cond.initialized "LedgerMachine$Draft" ∈ lw_tbl := ht_1 _ (List.mem_of_getElem? (i := 2) rfl)
theorem hw_17 : Jvm.Cond.code ({ cls := "LedgerMachine$Draft", name := "hasRoomFor", desc := "(I)Z" } : Jvm.MethodName) prog_6_method_2_code (2 : Nat) (Option.some Jvm.ClassFile.FieldType.boolean) ∈ lw_tbl := ht_2 _ (List.mem_of_getElem? (i := 91) rfl)
theorem hw_18 : Jvm.Cond.code ({ cls := "LedgerMachine$Draft", name := "append", desc := "(IJ)I" } : Jvm.MethodName) prog_6_method_3_code (5 : Nat) (Option.some Jvm.ClassFile.FieldType.int) ∈ lw_tbl := ht_2 _ (List.mem_of_getElem? (i := 162) rfl)
theorem hw_19 : Jvm.Cond.code ({ cls := "LedgerMachine$Draft", name := "take", desc := "()[B" } : Jvm.MethodName) prog_6_method_4_code (2 : Nat) (Option.some (Jvm.ClassFile.FieldType.array Jvm.ClassFile.FieldType.byte)) ∈ lw_tbl := ht_2 _ (List.mem_of_getElem? (i := 217) rfl)
theorem hw_20 : Jvm.Cond.code ({ cls := "LedgerMachine$Draft", name := "fault", desc := "()I" } : Jvm.MethodName) prog_6_method_5_code (2 : Nat) (Option.some Jvm.ClassFile.FieldType.int) ∈ lw_tbl := ht_2 _ (List.mem_of_getElem? (i := 194) rfl)
theorem hw_21 : Jvm.Cond.code ({ cls := "LedgerMachine$Draft", name := "firstActThatIsNone", desc := "()I" } : Jvm.MethodName) prog_6_method_6_code (2 : Nat) (Option.some Jvm.ClassFile.FieldType.int) ∈ lw_tbl := ht_2 _ (List.mem_of_getElem? (i := 198) rfl)
theorem hw_22 : Jvm.Cond.code ({ cls := "LedgerMachine$Draft", name := "actSize", desc := "(I)I" } : Jvm.MethodName) prog_6_method_7_code (2 : Nat) (Option.some Jvm.ClassFile.FieldType.int) ∈ lw_tbl := ht_2 _ (List.mem_of_getElem? (i := 202) rfl)
theorem hw_23 : Jvm.Cond.code ({ cls := "LedgerMachine$Draft", name := "firstLostJump", desc := "()I" } : Jvm.MethodName) prog_6_method_8_code (3 : Nat) (Option.some Jvm.ClassFile.FieldType.int) ∈ lw_tbl := ht_2 _ (List.mem_of_getElem? (i := 209) rfl)
theorem hw_24 : Jvm.Cond.code ({ cls := "LedgerMachine$Draft", name := "isBegun", desc := "(I)Z" } : Jvm.MethodName) prog_6_method_9_code (2 : Nat) (Option.some Jvm.ClassFile.FieldType.boolean) ∈ lw_tbl := ht_2 _ (List.mem_of_getElem? (i := 213) rfl)
theorem hw_25 : Jvm.Cond.code ({ cls := "LedgerMachine$EventLog", name := "<init>", desc := "()V" } : Jvm.MethodName) prog_7_method_1_code (1 : Nat) (Option.none : Option Jvm.ClassFile.FieldType) ∈ lw_tbl := ht_1 _ (List.mem_of_getElem? (i := 85) rfl)
theorem hw_26 : Jvm.Cond.initialized "LedgerMachine$EventLog" ∈ lw_tbl := ht_1 _ (List.mem_of_getElem? (i := 6) rfl)
theorem hw_27 : Jvm.Cond.code ({ cls := "LedgerMachine$EventLog", name := "clear", desc := "()V" } : Jvm.MethodName) prog_7_method_2_code (1 : Nat) (Option.none : Option Jvm.ClassFile.FieldType) ∈ lw_tbl := ht_3 _ (List.mem_of_getElem? (i := 125) rfl)
theorem hw_28 : Jvm.Cond.code ({ cls := "LedgerMachine$EventLog", name := "beginOrder", desc := "(I)V" } : Jvm.MethodName) prog_7_method_3_code (2 : Nat) (Option.none : Option Jvm.ClassFile.FieldType) ∈ lw_tbl := ht_3 _ (List.mem_of_getElem? (i := 157) rfl)
theorem hw_29 : Jvm.Cond.code ({ cls := "LedgerMachine$EventLog", name := "add", desc := "(IJJ)V" } : Jvm.MethodName) prog_7_method_4_code (6 : Nat) (Option.none : Option Jvm.ClassFile.FieldType) ∈ lw_tbl := ht_4 _ (List.mem_of_getElem? (i := 99) rfl)
theorem hw_30 : Jvm.Cond.code ({ cls := "LedgerMachine$EventLog", name := "backTo", desc := "(I)V" } : Jvm.MethodName) prog_7_method_5_code (2 : Nat) (Option.none : Option Jvm.ClassFile.FieldType) ∈ lw_tbl := ht_4 _ (List.mem_of_getElem? (i := 136) rfl)
theorem hw_31 : Jvm.Cond.code ({ cls := "LedgerMachine$EventLog", name := "copyRows", desc := "()[J" } : Jvm.MethodName) prog_7_method_6_code (1 : Nat) (Option.some (Jvm.ClassFile.FieldType.array Jvm.ClassFile.FieldType.long)) ∈ lw_tbl := ht_4 _ (List.mem_of_getElem? (i := 150) rfl)
theorem hw_32 : Jvm.Cond.code ({ cls := "LedgerMachine$Frame", name := "<init>", desc := "()V" } : Jvm.MethodName) prog_8_method_1_code (1 : Nat) (Option.none : Option Jvm.ClassFile.FieldType) ∈ lw_tbl := ht_1 _ (List.mem_of_getElem? (i := 138) rfl)
theorem hw_33 : Jvm.Cond.initialized "LedgerMachine$Frame" ∈ lw_tbl := ht_1 _ (List.mem_of_getElem? (i := 8) rfl)
theorem hw_34 : Jvm.Cond.code ({ cls := "LedgerMachine$Frame", name := "begin", desc := "(LLedgerMachine$Call;LLedgerMachine$Code;)V" } : Jvm.MethodName) prog_8_method_2_code (3 : Nat) (Option.none : Option Jvm.ClassFile.FieldType) ∈ lw_tbl := ht_3 _ (List.mem_of_getElem? (i := 201) rfl)
theorem hw_35 : Jvm.Cond.code ({ cls := "LedgerMachine$Frame", name := "nextAct", desc := "()I" } : Jvm.MethodName) prog_8_method_3_code (2 : Nat) (Option.some Jvm.ClassFile.FieldType.int) ∈ lw_tbl := ht_3 _ (List.mem_of_getElem? (i := 214) rfl)
theorem hw_36 : Jvm.Cond.code ({ cls := "LedgerMachine$Frame", name := "operand", desc := "()I" } : Jvm.MethodName) prog_8_method_4_code (1 : Nat) (Option.some Jvm.ClassFile.FieldType.int) ∈ lw_tbl := ht_3 _ (List.mem_of_getElem? (i := 233) rfl)
theorem hw_37 : Jvm.Cond.code ({ cls := "LedgerMachine$Frame", name := "pays", desc := "(I)Z" } : Jvm.MethodName) prog_8_method_5_code (2 : Nat) (Option.some Jvm.ClassFile.FieldType.boolean) ∈ lw_tbl := ht_3 _ (List.mem_of_getElem? (i := 225) rfl)
theorem hw_38 : Jvm.Cond.code ({ cls := "LedgerMachine$Frame", name := "giveGas", desc := "(J)I" } : Jvm.MethodName) prog_8_method_6_code (4 : Nat) (Option.some Jvm.ClassFile.FieldType.int) ∈ lw_tbl := ht_4 _ (List.mem_of_getElem? (i := 57) rfl)
theorem hw_39 : Jvm.Cond.code ({ cls := "LedgerMachine$Frame", name := "fits", desc := "(I)Z" } : Jvm.MethodName) prog_8_method_7_code (3 : Nat) (Option.some Jvm.ClassFile.FieldType.boolean) ∈ lw_tbl := ht_3 _ (List.mem_of_getElem? (i := 229) rfl)
theorem hw_40 : Jvm.Cond.code ({ cls := "LedgerMachine$Frame", name := "leavesOneMore", desc := "(I)Z" } : Jvm.MethodName) prog_8_method_8_code (1 : Nat) (Option.some Jvm.ClassFile.FieldType.boolean) ∈ lw_tbl := ht_3 _ (List.mem_of_getElem? (i := 238) rfl)
theorem hw_41 : Jvm.Cond.code ({ cls := "LedgerMachine$Frame", name := "push", desc := "(J)V" } : Jvm.MethodName) prog_8_method_9_code (3 : Nat) (Option.none : Option Jvm.ClassFile.FieldType) ∈ lw_tbl := ht_3 _ (List.mem_of_getElem? (i := 187) rfl)
theorem hw_42 : Jvm.Cond.code ({ cls := "LedgerMachine$Frame", name := "pop", desc := "()J" } : Jvm.MethodName) prog_8_method_10_code (1 : Nat) (Option.some Jvm.ClassFile.FieldType.long) ∈ lw_tbl := ht_4 _ (List.mem_of_getElem? (i := 23) rfl)
theorem hw_43 : Jvm.Cond.code ({ cls := "LedgerMachine$Frame", name := "arrange", desc := "(I)V" } : Jvm.MethodName) prog_8_method_11_code (2 : Nat) (Option.none : Option Jvm.ClassFile.FieldType) ∈ lw_tbl := ht_4 _ (List.mem_of_getElem? (i := 13) rfl)
theorem hw_44 : Jvm.Cond.code ({ cls := "LedgerMachine$Frame", name := "swap", desc := "(II)V" } : Jvm.MethodName) prog_8_method_12_code (5 : Nat) (Option.none : Option Jvm.ClassFile.FieldType) ∈ lw_tbl := ht_4 _ (List.mem_of_getElem? (i := 27) rfl)
theorem hw_45 : Jvm.Cond.code ({ cls := "LedgerMachine$Frame", name := "reckon", desc := "(I)I" } : Jvm.MethodName) prog_8_method_13_code (6 : Nat) (Option.some Jvm.ClassFile.FieldType.int) ∈ lw_tbl := ht_4 _ (List.mem_of_getElem? (i := 113) rfl)
theorem hw_46 : Jvm.Cond.code ({ cls := "LedgerMachine$Frame", name := "joined", desc := "(IJJ)J" } : Jvm.MethodName) prog_8_method_14_code (5 : Nat) (Option.some Jvm.ClassFile.FieldType.long) ∈ lw_tbl := ht_4 _ (List.mem_of_getElem? (i := 116) rfl)
theorem hw_47 : Jvm.Cond.code ({ cls := "LedgerMachine$Frame", name := "jump", desc := "()V" } : Jvm.MethodName) prog_8_method_15_code (1 : Nat) (Option.none : Option Jvm.ClassFile.FieldType) ∈ lw_tbl := ht_4 _ (List.mem_of_getElem? (i := 32) rfl)
theorem hw_48 : Jvm.Cond.code ({ cls := "LedgerMachine$Machine", name := "<init>", desc := "()V" } : Jvm.MethodName) prog_9_method_1_code (2 : Nat) (Option.none : Option Jvm.ClassFile.FieldType) ∈ lw_tbl := ht_1 _ (List.mem_of_getElem? (i := 52) rfl)
theorem hw_49 : Jvm.Cond.initialized "LedgerMachine$Machine" ∈ lw_tbl := ht_1 _ (List.mem_of_getElem? (i := 3) rfl)
theorem hw_50 : Jvm.Cond.code ({ cls := "LedgerMachine$Machine", name := "load", desc := "([JI)V" } : Jvm.MethodName) prog_9_method_2_code (3 : Nat) (Option.none : Option Jvm.ClassFile.FieldType) ∈ lw_tbl := ht_3 _ (List.mem_of_getElem? (i := 116) rfl)
theorem hw_51 : Jvm.Cond.code ({ cls := "LedgerMachine$Machine", name := "run", desc := "(IIJJIZ)V" } : Jvm.MethodName) prog_9_method_3_code (14 : Nat) (Option.none : Option Jvm.ClassFile.FieldType) ∈ lw_tbl := ht_3 _ (List.mem_of_getElem? (i := 161) rfl)
theorem hw_52 : Jvm.Cond.code ({ cls := "LedgerMachine$Machine", name := "changesState", desc := "(I)Z" } : Jvm.MethodName) prog_9_method_4_code (1 : Nat) (Option.some Jvm.ClassFile.FieldType.boolean) ∈ lw_tbl := ht_4 _ (List.mem_of_getElem? (i := 1) rfl)
theorem hw_53 : Jvm.Cond.code ({ cls := "LedgerMachine$Machine", name := "begin", desc := "()V" } : Jvm.MethodName) prog_9_method_5_code (5 : Nat) (Option.none : Option Jvm.ClassFile.FieldType) ∈ lw_tbl := ht_3 _ (List.mem_of_getElem? (i := 169) rfl)
theorem hw_54 : Jvm.Cond.code ({ cls := "LedgerMachine$Machine", name := "fails", desc := "()Z" } : Jvm.MethodName) prog_9_method_6_code (1 : Nat) (Option.some Jvm.ClassFile.FieldType.boolean) ∈ lw_tbl := ht_3 _ (List.mem_of_getElem? (i := 173) rfl)
theorem hw_55 : Jvm.Cond.code ({ cls := "LedgerMachine$Machine", name := "hasLock", desc := "(I)Z" } : Jvm.MethodName) prog_9_method_7_code (3 : Nat) (Option.some Jvm.ClassFile.FieldType.boolean) ∈ lw_tbl := ht_3 _ (List.mem_of_getElem? (i := 179) rfl)
theorem hw_56 : Jvm.Cond.code ({ cls := "LedgerMachine$Machine", name := "hasFrame", desc := "(I)Z" } : Jvm.MethodName) prog_9_method_8_code (3 : Nat) (Option.some Jvm.ClassFile.FieldType.boolean) ∈ lw_tbl := ht_4 _ (List.mem_of_getElem? (i := 79) rfl)
theorem hw_57 : Jvm.Cond.code ({ cls := "LedgerMachine$Machine", name := "remember", desc := "(LLedgerMachine$Frame;)V" } : Jvm.MethodName) prog_9_method_9_code (2 : Nat) (Option.none : Option Jvm.ClassFile.FieldType) ∈ lw_tbl := ht_3 _ (List.mem_of_getElem? (i := 205) rfl)
theorem hw_58 : Jvm.Cond.code ({ cls := "LedgerMachine$Machine", name := "undo", desc := "(LLedgerMachine$Frame;)V" } : Jvm.MethodName) prog_9_method_10_code (2 : Nat) (Option.none : Option Jvm.ClassFile.FieldType) ∈ lw_tbl := ht_4 _ (List.mem_of_getElem? (i := 132) rfl)
theorem hw_59 : Jvm.Cond.code ({ cls := "LedgerMachine$Machine", name := "finish", desc := "(LLedgerMachine$Frame;I)V" } : Jvm.MethodName) prog_9_method_11_code (3 : Nat) (Option.none : Option Jvm.ClassFile.FieldType) ∈ lw_tbl := ht_4 _ (List.mem_of_getElem? (i := 128) rfl)
theorem hw_60 : Jvm.Cond.code ({ cls := "LedgerMachine$Machine", name := "end", desc := "(IJI)V" } : Jvm.MethodName) prog_9_method_12_code (6 : Nat) (Option.none : Option Jvm.ClassFile.FieldType) ∈ lw_tbl := ht_3 _ (List.mem_of_getElem? (i := 183) rfl)
theorem hw_61 : Jvm.Cond.code ({ cls := "LedgerMachine$Machine", name := "perform", desc := "(LLedgerMachine$Frame;I)I" } : Jvm.MethodName) prog_9_method_13_code (3 : Nat) (Option.some Jvm.ClassFile.FieldType.int) ∈ lw_tbl := ht_4 _ (List.mem_of_getElem? (i := 5) rfl)
theorem hw_62 : Jvm.Cond.code ({ cls := "LedgerMachine$Machine", name := "endWith", desc := "(IJ)I" } : Jvm.MethodName) prog_9_method_14_code (4 : Nat) (Option.some Jvm.ClassFile.FieldType.int) ∈ lw_tbl := ht_4 _ (List.mem_of_getElem? (i := 9) rfl)
theorem hw_63 : Jvm.Cond.code ({ cls := "LedgerMachine$Machine", name := "tell", desc := "(LLedgerMachine$Frame;I)I" } : Jvm.MethodName) prog_9_method_15_code (5 : Nat) (Option.some Jvm.ClassFile.FieldType.int) ∈ lw_tbl := ht_4 _ (List.mem_of_getElem? (i := 120) rfl)
theorem hw_64 : Jvm.Cond.code ({ cls := "LedgerMachine$Machine", name := "known", desc := "(LLedgerMachine$Frame;I)J" } : Jvm.MethodName) prog_9_method_16_code (3 : Nat) (Option.some Jvm.ClassFile.FieldType.long) ∈ lw_tbl := ht_4 _ (List.mem_of_getElem? (i := 124) rfl)
theorem hw_65 : Jvm.Cond.code ({ cls := "LedgerMachine$Machine", name := "loadCell", desc := "(LLedgerMachine$Frame;)I" } : Jvm.MethodName) prog_9_method_17_code (4 : Nat) (Option.some Jvm.ClassFile.FieldType.int) ∈ lw_tbl := ht_4 _ (List.mem_of_getElem? (i := 36) rfl)
theorem hw_66 : Jvm.Cond.code ({ cls := "LedgerMachine$Machine", name := "storeCell", desc := "(LLedgerMachine$Frame;JJ)I" } : Jvm.MethodName) prog_9_method_18_code (8 : Nat) (Option.some Jvm.ClassFile.FieldType.int) ∈ lw_tbl := ht_4 _ (List.mem_of_getElem? (i := 45) rfl)
theorem hw_67 : Jvm.Cond.code ({ cls := "LedgerMachine$Machine", name := "prepareCall", desc := "(LLedgerMachine$Frame;)I" } : Jvm.MethodName) prog_9_method_19_code (10 : Nat) (Option.some Jvm.ClassFile.FieldType.int) ∈ lw_tbl := ht_4 _ (List.mem_of_getElem? (i := 53) rfl)
theorem hw_68 : Jvm.Cond.code ({ cls := "LedgerMachine$Machine", name := "prepareLook", desc := "(LLedgerMachine$Frame;)I" } : Jvm.MethodName) prog_9_method_20_code (8 : Nat) (Option.some Jvm.ClassFile.FieldType.int) ∈ lw_tbl := ht_4 _ (List.mem_of_getElem? (i := 67) rfl)
theorem hw_69 : Jvm.Cond.code ({ cls := "LedgerMachine$Machine", name := "make", desc := "(LLedgerMachine$Frame;JJ)I" } : Jvm.MethodName) prog_9_method_21_code (8 : Nat) (Option.some Jvm.ClassFile.FieldType.int) ∈ lw_tbl := ht_4 _ (List.mem_of_getElem? (i := 71) rfl)
theorem hw_70 : Jvm.Cond.code ({ cls := "LedgerMachine$Machine", name := "leastFreeAccount", desc := "()I" } : Jvm.MethodName) prog_9_method_22_code (2 : Nat) (Option.some Jvm.ClassFile.FieldType.int) ∈ lw_tbl := ht_4 _ (List.mem_of_getElem? (i := 75) rfl)
theorem hw_71 : Jvm.Cond.code ({ cls := "LedgerMachine$Machine", name := "become", desc := "(LLedgerMachine$Frame;J)I" } : Jvm.MethodName) prog_9_method_23_code (4 : Nat) (Option.some Jvm.ClassFile.FieldType.int) ∈ lw_tbl := ht_4 _ (List.mem_of_getElem? (i := 91) rfl)
theorem hw_72 : Jvm.Cond.code ({ cls := "LedgerMachine$Machine", name := "emit", desc := "(LLedgerMachine$Frame;JJ)I" } : Jvm.MethodName) prog_9_method_24_code (6 : Nat) (Option.some Jvm.ClassFile.FieldType.int) ∈ lw_tbl := ht_4 _ (List.mem_of_getElem? (i := 95) rfl)
theorem hw_73 : Jvm.Cond.code ({ cls := "LedgerMachine$Machine", name := "close", desc := "(LLedgerMachine$Frame;J)I" } : Jvm.MethodName) prog_9_method_25_code (4 : Nat) (Option.some Jvm.ClassFile.FieldType.int) ∈ lw_tbl := ht_4 _ (List.mem_of_getElem? (i := 103) rfl)
theorem hw_74 : Jvm.Cond.code ({ cls := "LedgerMachine$Order", name := "<init>", desc := "(IIJJIII)V" } : Jvm.MethodName) prog_10_method_1_code (10 : Nat) (Option.none : Option Jvm.ClassFile.FieldType) ∈ lw_tbl := ht_3 _ (List.mem_of_getElem? (i := 70) rfl)
theorem hw_75 : Jvm.Cond.initialized "LedgerMachine$Order" ∈ lw_tbl := ht_1 _ (List.mem_of_getElem? (i := 21) rfl)
theorem hw_76 : Jvm.Cond.code ({ cls := "LedgerMachine$Order", name := "priceOf", desc := "(I)J" } : Jvm.MethodName) prog_10_method_2_code (2 : Nat) (Option.some Jvm.ClassFile.FieldType.long) ∈ lw_tbl := ht_3 _ (List.mem_of_getElem? (i := 141) rfl)
theorem hw_77 : Jvm.Cond.code ({ cls := "LedgerMachine$State", name := "<init>", desc := "()V" } : Jvm.MethodName) prog_11_method_1_code (1 : Nat) (Option.none : Option Jvm.ClassFile.FieldType) ∈ lw_tbl := ht_1 _ (List.mem_of_getElem? (i := 74) rfl)
theorem hw_78 : Jvm.Cond.initialized "LedgerMachine$State" ∈ lw_tbl := ht_1 _ (List.mem_of_getElem? (i := 5) rfl)
theorem hw_79 : Jvm.Cond.code ({ cls := "LedgerMachine$State", name := "loadFrom", desc := "([J)V" } : Jvm.MethodName) prog_11_method_2_code (2 : Nat) (Option.none : Option Jvm.ClassFile.FieldType) ∈ lw_tbl := ht_3 _ (List.mem_of_getElem? (i := 120) rfl)
theorem hw_80 : Jvm.Cond.code ({ cls := "LedgerMachine$State", name := "saveTo", desc := "([J)V" } : Jvm.MethodName) prog_11_method_3_code (2 : Nat) (Option.none : Option Jvm.ClassFile.FieldType) ∈ lw_tbl := ht_3 _ (List.mem_of_getElem? (i := 209) rfl)
theorem hw_81 : Jvm.Cond.code ({ cls := "LedgerMachine$State", name := "copyLeaves", desc := "()[J" } : Jvm.MethodName) prog_11_method_4_code (1 : Nat) (Option.some (Jvm.ClassFile.FieldType.array Jvm.ClassFile.FieldType.long)) ∈ lw_tbl := ht_4 _ (List.mem_of_getElem? (i := 141) rfl)
theorem hw_82 : Jvm.Cond.code ({ cls := "LedgerMachine$State", name := "balanceOf", desc := "(I)J" } : Jvm.MethodName) prog_11_method_5_code (2 : Nat) (Option.some Jvm.ClassFile.FieldType.long) ∈ lw_tbl := ht_3 _ (List.mem_of_getElem? (i := 145) rfl)
theorem hw_83 : Jvm.Cond.code ({ cls := "LedgerMachine$State", name := "addToBalance", desc := "(IJ)V" } : Jvm.MethodName) prog_11_method_6_code (4 : Nat) (Option.none : Option Jvm.ClassFile.FieldType) ∈ lw_tbl := ht_3 _ (List.mem_of_getElem? (i := 153) rfl)
theorem hw_84 : Jvm.Cond.code ({ cls := "LedgerMachine$State", name := "move", desc := "(IIJ)V" } : Jvm.MethodName) prog_11_method_7_code (5 : Nat) (Option.none : Option Jvm.ClassFile.FieldType) ∈ lw_tbl := ht_3 _ (List.mem_of_getElem? (i := 196) rfl)
theorem hw_85 : Jvm.Cond.code ({ cls := "LedgerMachine$State", name := "nonceOf", desc := "(I)J" } : Jvm.MethodName) prog_11_method_8_code (2 : Nat) (Option.some Jvm.ClassFile.FieldType.long) ∈ lw_tbl := ht_3 _ (List.mem_of_getElem? (i := 137) rfl)
theorem hw_86 : Jvm.Cond.code ({ cls := "LedgerMachine$State", name := "raiseNonce", desc := "(I)V" } : Jvm.MethodName) prog_11_method_9_code (2 : Nat) (Option.none : Option Jvm.ClassFile.FieldType) ∈ lw_tbl := ht_3 _ (List.mem_of_getElem? (i := 149) rfl)
theorem hw_87 : Jvm.Cond.code ({ cls := "LedgerMachine$State", name := "codeOf", desc := "(I)J" } : Jvm.MethodName) prog_11_method_10_code (2 : Nat) (Option.some Jvm.ClassFile.FieldType.long) ∈ lw_tbl := ht_3 _ (List.mem_of_getElem? (i := 191) rfl)
theorem hw_88 : Jvm.Cond.code ({ cls := "LedgerMachine$State", name := "setCode", desc := "(IJ)V" } : Jvm.MethodName) prog_11_method_11_code (4 : Nat) (Option.none : Option Jvm.ClassFile.FieldType) ∈ lw_tbl := ht_4 _ (List.mem_of_getElem? (i := 87) rfl)
theorem hw_89 : Jvm.Cond.code ({ cls := "LedgerMachine$State", name := "cellOf", desc := "(II)J" } : Jvm.MethodName) prog_11_method_12_code (3 : Nat) (Option.some Jvm.ClassFile.FieldType.long) ∈ lw_tbl := ht_4 _ (List.mem_of_getElem? (i := 41) rfl)
theorem hw_90 : Jvm.Cond.code ({ cls := "LedgerMachine$State", name := "setCell", desc := "(IIJ)V" } : Jvm.MethodName) prog_11_method_13_code (5 : Nat) (Option.none : Option Jvm.ClassFile.FieldType) ∈ lw_tbl := ht_4 _ (List.mem_of_getElem? (i := 49) rfl)
theorem hw_91 : Jvm.Cond.code ({ cls := "LedgerMachine$State", name := "clearCells", desc := "(I)V" } : Jvm.MethodName) prog_11_method_14_code (3 : Nat) (Option.none : Option Jvm.ClassFile.FieldType) ∈ lw_tbl := ht_4 _ (List.mem_of_getElem? (i := 108) rfl)
theorem hw_92 : Jvm.Cond.code ({ cls := "LedgerMachine$State", name := "isEmpty", desc := "(I)Z" } : Jvm.MethodName) prog_11_method_15_code (3 : Nat) (Option.some Jvm.ClassFile.FieldType.boolean) ∈ lw_tbl := ht_4 _ (List.mem_of_getElem? (i := 83) rfl)
theorem hw_93 : Jvm.Cond.code ({ cls := "LedgerMachine", name := "<init>", desc := "()V" } : Jvm.MethodName) prog_1_method_1_code (1 : Nat) (Option.none : Option Jvm.ClassFile.FieldType) ∈ lw_tbl := ht_1 _ (List.mem_of_getElem? (i := 26) rfl)
theorem hw_94 : Jvm.Cond.initialized "LedgerMachine" ∈ lw_tbl := ht_1 _ (List.mem_of_getElem? (i := 1) rfl)
theorem hw_95 : Jvm.Cond.code ({ cls := "LedgerMachine", name := "draft", desc := "(IJ)I" } : Jvm.MethodName) prog_1_method_2_code (4 : Nat) (Option.some Jvm.ClassFile.FieldType.int) ∈ lw_tbl := ht_2 _ (List.mem_of_getElem? (i := 87) rfl)
theorem hw_96 : Jvm.Cond.code ({ cls := "LedgerMachine", name := "code", desc := "()I" } : Jvm.MethodName) prog_1_method_3_code (3 : Nat) (Option.some Jvm.ClassFile.FieldType.int) ∈ lw_tbl := ht_2 _ (List.mem_of_getElem? (i := 170) rfl)
theorem hw_97 : Jvm.Cond.code ({ cls := "LedgerMachine", name := "endow", desc := "(IJI)V" } : Jvm.MethodName) prog_1_method_4_code (6 : Nat) (Option.none : Option Jvm.ClassFile.FieldType) ∈ lw_tbl := ht_3 _ (List.mem_of_getElem? (i := 15) rfl)
theorem hw_98 : Jvm.Cond.code ({ cls := "LedgerMachine", name := "weight", desc := "(II)V" } : Jvm.MethodName) prog_1_method_5_code (3 : Nat) (Option.none : Option Jvm.ClassFile.FieldType) ∈ lw_tbl := ht_3 _ (List.mem_of_getElem? (i := 52) rfl)
theorem hw_99 : Jvm.Cond.code ({ cls := "LedgerMachine", name := "order", desc := "(IIJJIII)I" } : Jvm.MethodName) prog_1_method_6_code (10 : Nat) (Option.some Jvm.ClassFile.FieldType.int) ∈ lw_tbl := ht_3 _ (List.mem_of_getElem? (i := 61) rfl)
theorem hw_100 : Jvm.Cond.code ({ cls := "LedgerMachine", name := "block", desc := "(II)I" } : Jvm.MethodName) prog_1_method_7_code (7 : Nat) (Option.some Jvm.ClassFile.FieldType.int) ∈ lw_tbl := ht_3 _ (List.mem_of_getElem? (i := 106) rfl)
theorem hw_101 : Jvm.Cond.code ({ cls := "LedgerMachine", name := "told", desc := "(II)I" } : Jvm.MethodName) prog_1_method_8_code (4 : Nat) (Option.some Jvm.ClassFile.FieldType.int) ∈ lw_tbl := ht_4 _ (List.mem_of_getElem? (i := 163) rfl)
theorem hw_102 : Jvm.Cond.code ({ cls := "LedgerMachine", name := "receipt", desc := "(III)J" } : Jvm.MethodName) prog_1_method_9_code (4 : Nat) (Option.some Jvm.ClassFile.FieldType.long) ∈ lw_tbl := ht_4 _ (List.mem_of_getElem? (i := 175) rfl)
theorem hw_103 : Jvm.Cond.code ({ cls := "LedgerMachine", name := "event", desc := "(III)J" } : Jvm.MethodName) prog_1_method_10_code (4 : Nat) (Option.some Jvm.ClassFile.FieldType.long) ∈ lw_tbl := ht_4 _ (List.mem_of_getElem? (i := 183) rfl)
theorem hw_104 : Jvm.Cond.code ({ cls := "LedgerMachine", name := "leaf", desc := "(II)J" } : Jvm.MethodName) prog_1_method_11_code (3 : Nat) (Option.some Jvm.ClassFile.FieldType.long) ∈ lw_tbl := ht_4 _ (List.mem_of_getElem? (i := 191) rfl)
theorem hw_105 : Jvm.Cond.code ({ cls := "LedgerMachine", name := "digest", desc := "(III)J" } : Jvm.MethodName) prog_1_method_12_code (4 : Nat) (Option.some Jvm.ClassFile.FieldType.long) ∈ lw_tbl := ht_4 _ (List.mem_of_getElem? (i := 199) rfl)
theorem hw_106 : Jvm.Cond.code ({ cls := "LedgerMachine", name := "view", desc := "(IIIJI)J" } : Jvm.MethodName) prog_1_method_13_code (7 : Nat) (Option.some Jvm.ClassFile.FieldType.long) ∈ lw_tbl := ht_4 _ (List.mem_of_getElem? (i := 223) rfl)
theorem hw_107 : Jvm.Cond.code ({ cls := "LedgerMachine", name := "seen", desc := "(I)I" } : Jvm.MethodName) prog_1_method_14_code (2 : Nat) (Option.some Jvm.ClassFile.FieldType.int) ∈ lw_tbl := ht_4 _ (List.mem_of_getElem? (i := 232) rfl)
theorem hw_108 : Jvm.Cond.code ({ cls := "LedgerMachine", name := "vote", desc := "(II)I" } : Jvm.MethodName) prog_1_method_15_code (6 : Nat) (Option.some Jvm.ClassFile.FieldType.int) ∈ lw_tbl := ht_5 _ (List.mem_of_getElem? (i := 0) rfl)
theorem hw_109 : Jvm.Cond.code ({ cls := "LedgerMachine", name := "certain", desc := "(I)I" } : Jvm.MethodName) prog_1_method_16_code (3 : Nat) (Option.some Jvm.ClassFile.FieldType.int) ∈ lw_tbl := ht_5 _ (List.mem_of_getElem? (i := 8) rfl)
theorem hw_110 : Jvm.Cond.code ({ cls := "LedgerMachine", name := "beside", desc := "(IJ)V" } : Jvm.MethodName) prog_1_method_17_code (4 : Nat) (Option.none : Option Jvm.ClassFile.FieldType) ∈ lw_tbl := ht_5 _ (List.mem_of_getElem? (i := 16) rfl)
theorem hw_111 : Jvm.Cond.code ({ cls := "LedgerMachine", name := "proves", desc := "(JIJ)Z" } : Jvm.MethodName) prog_1_method_18_code (10 : Nat) (Option.some Jvm.ClassFile.FieldType.boolean) ∈ lw_tbl := ht_5 _ (List.mem_of_getElem? (i := 24) rfl)
theorem hw_112 : Jvm.Cond.code ({ cls := "LedgerMachine", name := "isWithin", desc := "(JI)Z" } : Jvm.MethodName) prog_1_method_19_code (3 : Nat) (Option.some Jvm.ClassFile.FieldType.boolean) ∈ lw_tbl := ht_3 _ (List.mem_of_getElem? (i := 21) rfl)
theorem hw_113 : Jvm.Cond.code ({ cls := "LedgerMachine", name := "isAccount", desc := "(J)Z" } : Jvm.MethodName) prog_1_method_20_code (2 : Nat) (Option.some Jvm.ClassFile.FieldType.boolean) ∈ lw_tbl := ht_3 _ (List.mem_of_getElem? (i := 18) rfl)
theorem hw_114 : Jvm.Cond.code ({ cls := "LedgerMachine", name := "isBlock", desc := "(I)Z" } : Jvm.MethodName) prog_1_method_21_code (2 : Nat) (Option.some Jvm.ClassFile.FieldType.boolean) ∈ lw_tbl := ht_3 _ (List.mem_of_getElem? (i := 110) rfl)
theorem hw_115 : Jvm.Cond.code ({ cls := "LedgerMachine", name := "isCertain", desc := "(I)Z" } : Jvm.MethodName) prog_1_method_22_code (4 : Nat) (Option.some Jvm.ClassFile.FieldType.boolean) ∈ lw_tbl := ht_4 _ (List.mem_of_getElem? (i := 168) rfl)
theorem hw_116 : Jvm.Cond.code ({ cls := "LedgerMachine", name := "doOrder", desc := "(III[J)I" } : Jvm.MethodName) prog_1_method_23_code (8 : Nat) (Option.some Jvm.ClassFile.FieldType.int) ∈ lw_tbl := ht_3 _ (List.mem_of_getElem? (i := 129) rfl)
theorem hw_117 : Jvm.Cond.code ({ cls := "LedgerMachine", name := "isVoid", desc := "(LLedgerMachine$Order;I)Z" } : Jvm.MethodName) prog_1_method_24_code (3 : Nat) (Option.some Jvm.ClassFile.FieldType.boolean) ∈ lw_tbl := ht_3 _ (List.mem_of_getElem? (i := 133) rfl)
theorem hw_118 : Jvm.Cond.code ({ cls := "LedgerMachine", name := "leafDigest", desc := "(IJ)J" } : Jvm.MethodName) prog_1_method_25_code (3 : Nat) (Option.some Jvm.ClassFile.FieldType.long) ∈ lw_tbl := ht_4 _ (List.mem_of_getElem? (i := 206) rfl)
theorem hw_119 : Jvm.Cond.code ({ cls := "LedgerMachine", name := "pairDigest", desc := "(JJ)J" } : Jvm.MethodName) prog_1_method_26_code (4 : Nat) (Option.some Jvm.ClassFile.FieldType.long) ∈ lw_tbl := ht_4 _ (List.mem_of_getElem? (i := 216) rfl)
theorem hw_120 : Jvm.Cond.code ({ cls := "LedgerMachine", name := "nodeDigest", desc := "([JII)J" } : Jvm.MethodName) prog_1_method_27_code (3 : Nat) (Option.some Jvm.ClassFile.FieldType.long) ∈ lw_tbl := ht_4 _ (List.mem_of_getElem? (i := 203) rfl)
theorem hw_121 : Jvm.Cond.code ({ cls := "LedgerMachine", name := "mix", desc := "(JJ)J" } : Jvm.MethodName) prog_1_method_28_code (8 : Nat) (Option.some Jvm.ClassFile.FieldType.long) ∈ lw_tbl := ht_4 _ (List.mem_of_getElem? (i := 209) rfl)
theorem hw_122 : Jvm.Cond.code ({ cls := "LedgerMachine", name := "neverZero", desc := "(J)J" } : Jvm.MethodName) prog_1_method_29_code (2 : Nat) (Option.some Jvm.ClassFile.FieldType.long) ∈ lw_tbl := ht_4 _ (List.mem_of_getElem? (i := 213) rfl)
theorem hw_123 : Jvm.Cond.code ({ cls := "LedgerMachineModel", name := "<init>", desc := "()V" } : Jvm.MethodName) prog_13_method_1_code (2 : Nat) (Option.none : Option Jvm.ClassFile.FieldType) ∈ lw_tbl := ht_5 _ (List.mem_of_getElem? (i := 30) rfl)
theorem hw_124 : Jvm.Cond.initialized "LedgerMachineModel" ∈ lw_tbl := ht_1 _ (List.mem_of_getElem? (i := 11) rfl)
theorem hw_125 : Jvm.Cond.code ({ cls := "LedgerMachineModel", name := "thrown", desc := "()I" } : Jvm.MethodName) prog_13_method_2_code (1 : Nat) (Option.some Jvm.ClassFile.FieldType.int) ∈ lw_tbl := ht_5 _ (List.mem_of_getElem? (i := 231) rfl)
theorem hw_126 : Jvm.Cond.code ({ cls := "LedgerMachineModel", name := "sizeOf", desc := "(I)I" } : Jvm.MethodName) prog_13_method_3_code (1 : Nat) (Option.some Jvm.ClassFile.FieldType.int) ∈ lw_tbl := ht_6 _ (List.mem_of_getElem? (i := 7) rfl)
theorem hw_127 : Jvm.Cond.code ({ cls := "LedgerMachineModel", name := "judged", desc := "()I" } : Jvm.MethodName) prog_13_method_4_code (4 : Nat) (Option.some Jvm.ClassFile.FieldType.int) ∈ lw_tbl := ht_6 _ (List.mem_of_getElem? (i := 4) rfl)
theorem hw_128 : Jvm.Cond.code ({ cls := "LedgerMachineModel", name := "draft", desc := "(IJ)I" } : Jvm.MethodName) prog_13_method_5_code (5 : Nat) (Option.some Jvm.ClassFile.FieldType.int) ∈ lw_tbl := ht_5 _ (List.mem_of_getElem? (i := 235) rfl)
theorem hw_129 : Jvm.Cond.code ({ cls := "LedgerMachineModel", name := "code", desc := "()I" } : Jvm.MethodName) prog_13_method_6_code (4 : Nat) (Option.some Jvm.ClassFile.FieldType.int) ∈ lw_tbl := ht_6 _ (List.mem_of_getElem? (i := 0) rfl)
theorem hw_130 : Jvm.Cond.code ({ cls := "LedgerMachineModel", name := "isAccount", desc := "(J)Z" } : Jvm.MethodName) prog_13_method_7_code (2 : Nat) (Option.some Jvm.ClassFile.FieldType.boolean) ∈ lw_tbl := ht_6 _ (List.mem_of_getElem? (i := 14) rfl)
theorem hw_131 : Jvm.Cond.code ({ cls := "LedgerMachineModel", name := "isEmpty", desc := "(I)Z" } : Jvm.MethodName) prog_13_method_8_code (4 : Nat) (Option.some Jvm.ClassFile.FieldType.boolean) ∈ lw_tbl := ht_6 _ (List.mem_of_getElem? (i := 118) rfl)
theorem hw_132 : Jvm.Cond.code ({ cls := "LedgerMachineModel", name := "endow", desc := "(IJI)V" } : Jvm.MethodName) prog_13_method_9_code (5 : Nat) (Option.none : Option Jvm.ClassFile.FieldType) ∈ lw_tbl := ht_6 _ (List.mem_of_getElem? (i := 11) rfl)
theorem hw_133 : Jvm.Cond.code ({ cls := "LedgerMachineModel", name := "weight", desc := "(II)V" } : Jvm.MethodName) prog_13_method_10_code (3 : Nat) (Option.none : Option Jvm.ClassFile.FieldType) ∈ lw_tbl := ht_6 _ (List.mem_of_getElem? (i := 20) rfl)
theorem hw_134 : Jvm.Cond.code ({ cls := "LedgerMachineModel", name := "order", desc := "(IIJJIII)I" } : Jvm.MethodName) prog_13_method_11_code (11 : Nat) (Option.some Jvm.ClassFile.FieldType.int) ∈ lw_tbl := ht_6 _ (List.mem_of_getElem? (i := 24) rfl)
theorem hw_135 : Jvm.Cond.code ({ cls := "LedgerMachineModel", name := "end", desc := "(IJJ)V" } : Jvm.MethodName) prog_13_method_12_code (6 : Nat) (Option.none : Option Jvm.ClassFile.FieldType) ∈ lw_tbl := ht_6 _ (List.mem_of_getElem? (i := 50) rfl)
theorem hw_136 : Jvm.Cond.code ({ cls := "LedgerMachineModel", name := "isLocked", desc := "(J)Z" } : Jvm.MethodName) prog_13_method_13_code (5 : Nat) (Option.some Jvm.ClassFile.FieldType.boolean) ∈ lw_tbl := ht_6 _ (List.mem_of_getElem? (i := 46) rfl)
theorem hw_137 : Jvm.Cond.code ({ cls := "LedgerMachineModel", name := "begin", desc := "(IJJJJZ)Z" } : Jvm.MethodName) prog_13_method_14_code (13 : Nat) (Option.some Jvm.ClassFile.FieldType.boolean) ∈ lw_tbl := ht_6 _ (List.mem_of_getElem? (i := 42) rfl)
theorem hw_138 : Jvm.Cond.code ({ cls := "LedgerMachineModel", name := "finish", desc := "(IJ)V" } : Jvm.MethodName) prog_13_method_15_code (8 : Nat) (Option.none : Option Jvm.ClassFile.FieldType) ∈ lw_tbl := ht_6 _ (List.mem_of_getElem? (i := 62) rfl)
theorem hw_139 : Jvm.Cond.code ({ cls := "LedgerMachineModel", name := "tell", desc := "()V" } : Jvm.MethodName) prog_13_method_16_code (2 : Nat) (Option.none : Option Jvm.ClassFile.FieldType) ∈ lw_tbl := ht_6 _ (List.mem_of_getElem? (i := 110) rfl)
theorem hw_140 : Jvm.Cond.code ({ cls := "LedgerMachineModel", name := "run", desc := "(I)V" } : Jvm.MethodName) prog_13_method_17_code (2 : Nat) (Option.none : Option Jvm.ClassFile.FieldType) ∈ lw_tbl := ht_6 _ (List.mem_of_getElem? (i := 54) rfl)
theorem hw_141 : Jvm.Cond.code ({ cls := "LedgerMachineModel", name := "push", desc := "(J)V" } : Jvm.MethodName) prog_13_method_18_code (4 : Nat) (Option.none : Option Jvm.ClassFile.FieldType) ∈ lw_tbl := ht_6 _ (List.mem_of_getElem? (i := 79) rfl)
theorem hw_142 : Jvm.Cond.code ({ cls := "LedgerMachineModel", name := "pop", desc := "()J" } : Jvm.MethodName) prog_13_method_19_code (2 : Nat) (Option.some Jvm.ClassFile.FieldType.long) ∈ lw_tbl := ht_6 _ (List.mem_of_getElem? (i := 83) rfl)
theorem hw_143 : Jvm.Cond.code ({ cls := "LedgerMachineModel", name := "costOf", desc := "(I)I" } : Jvm.MethodName) prog_13_method_20_code (1 : Nat) (Option.some Jvm.ClassFile.FieldType.int) ∈ lw_tbl := ht_6 _ (List.mem_of_getElem? (i := 65) rfl)
theorem hw_144 : Jvm.Cond.code ({ cls := "LedgerMachineModel", name := "takes", desc := "(I)I" } : Jvm.MethodName) prog_13_method_21_code (1 : Nat) (Option.some Jvm.ClassFile.FieldType.int) ∈ lw_tbl := ht_6 _ (List.mem_of_getElem? (i := 68) rfl)
theorem hw_145 : Jvm.Cond.code ({ cls := "LedgerMachineModel", name := "gives", desc := "(I)I" } : Jvm.MethodName) prog_13_method_22_code (1 : Nat) (Option.some Jvm.ClassFile.FieldType.int) ∈ lw_tbl := ht_6 _ (List.mem_of_getElem? (i := 71) rfl)
theorem hw_146 : Jvm.Cond.code ({ cls := "LedgerMachineModel", name := "act", desc := "()V" } : Jvm.MethodName) prog_13_method_23_code (8 : Nat) (Option.none : Option Jvm.ClassFile.FieldType) ∈ lw_tbl := ht_6 _ (List.mem_of_getElem? (i := 58) rfl)
theorem hw_147 : Jvm.Cond.code ({ cls := "LedgerMachineModel", name := "simple", desc := "(III)V" } : Jvm.MethodName) prog_13_method_24_code (8 : Nat) (Option.none : Option Jvm.ClassFile.FieldType) ∈ lw_tbl := ht_6 _ (List.mem_of_getElem? (i := 75) rfl)
theorem hw_148 : Jvm.Cond.code ({ cls := "LedgerMachineModel", name := "reckon", desc := "(I)V" } : Jvm.MethodName) prog_13_method_25_code (6 : Nat) (Option.none : Option Jvm.ClassFile.FieldType) ∈ lw_tbl := ht_6 _ (List.mem_of_getElem? (i := 87) rfl)
theorem hw_149 : Jvm.Cond.code ({ cls := "LedgerMachineModel", name := "jumpOrCell", desc := "(II)V" } : Jvm.MethodName) prog_13_method_26_code (10 : Nat) (Option.none : Option Jvm.ClassFile.FieldType) ∈ lw_tbl := ht_6 _ (List.mem_of_getElem? (i := 92) rfl)
theorem hw_150 : Jvm.Cond.code ({ cls := "LedgerMachineModel", name := "tellOf", desc := "(I)V" } : Jvm.MethodName) prog_13_method_27_code (5 : Nat) (Option.none : Option Jvm.ClassFile.FieldType) ∈ lw_tbl := ht_6 _ (List.mem_of_getElem? (i := 98) rfl)
theorem hw_151 : Jvm.Cond.code ({ cls := "LedgerMachineModel", name := "greater", desc := "(I)V" } : Jvm.MethodName) prog_13_method_28_code (6 : Nat) (Option.none : Option Jvm.ClassFile.FieldType) ∈ lw_tbl := ht_6 _ (List.mem_of_getElem? (i := 102) rfl)
theorem hw_152 : Jvm.Cond.code ({ cls := "LedgerMachineModel", name := "calls", desc := "(Z)V" } : Jvm.MethodName) prog_13_method_29_code (13 : Nat) (Option.none : Option Jvm.ClassFile.FieldType) ∈ lw_tbl := ht_6 _ (List.mem_of_getElem? (i := 106) rfl)
theorem hw_153 : Jvm.Cond.code ({ cls := "LedgerMachineModel", name := "hasFrame", desc := "(I)Z" } : Jvm.MethodName) prog_13_method_30_code (4 : Nat) (Option.some Jvm.ClassFile.FieldType.boolean) ∈ lw_tbl := ht_6 _ (List.mem_of_getElem? (i := 122) rfl)
theorem hw_154 : Jvm.Cond.code ({ cls := "LedgerMachineModel", name := "make", desc := "(I)V" } : Jvm.MethodName) prog_13_method_31_code (7 : Nat) (Option.none : Option Jvm.ClassFile.FieldType) ∈ lw_tbl := ht_6 _ (List.mem_of_getElem? (i := 114) rfl)
theorem hw_155 : Jvm.Cond.code ({ cls := "LedgerMachineModel", name := "emit", desc := "(I)V" } : Jvm.MethodName) prog_13_method_32_code (6 : Nat) (Option.none : Option Jvm.ClassFile.FieldType) ∈ lw_tbl := ht_6 _ (List.mem_of_getElem? (i := 127) rfl)
theorem hw_156 : Jvm.Cond.code ({ cls := "LedgerMachineModel", name := "close", desc := "(I)V" } : Jvm.MethodName) prog_13_method_33_code (5 : Nat) (Option.none : Option Jvm.ClassFile.FieldType) ∈ lw_tbl := ht_6 _ (List.mem_of_getElem? (i := 131) rfl)
theorem hw_157 : Jvm.Cond.code ({ cls := "LedgerMachineModel", name := "wholeCall", desc := "(IIJJJZ)V" } : Jvm.MethodName) prog_13_method_34_code (10 : Nat) (Option.none : Option Jvm.ClassFile.FieldType) ∈ lw_tbl := ht_6 _ (List.mem_of_getElem? (i := 38) rfl)
theorem hw_158 : Jvm.Cond.code ({ cls := "LedgerMachineModel", name := "block", desc := "(II)I" } : Jvm.MethodName) prog_13_method_35_code (7 : Nat) (Option.some Jvm.ClassFile.FieldType.int) ∈ lw_tbl := ht_6 _ (List.mem_of_getElem? (i := 30) rfl)
theorem hw_159 : Jvm.Cond.code ({ cls := "LedgerMachineModel", name := "keepEvents", desc := "(II)V" } : Jvm.MethodName) prog_13_method_36_code (5 : Nat) (Option.none : Option Jvm.ClassFile.FieldType) ∈ lw_tbl := ht_6 _ (List.mem_of_getElem? (i := 135) rfl)
theorem hw_160 : Jvm.Cond.code ({ cls := "LedgerMachineModel", name := "doOrder", desc := "(IIII)I" } : Jvm.MethodName) prog_13_method_37_code (10 : Nat) (Option.some Jvm.ClassFile.FieldType.int) ∈ lw_tbl := ht_6 _ (List.mem_of_getElem? (i := 34) rfl)
theorem hw_161 : Jvm.Cond.code ({ cls := "LedgerMachineModel", name := "isBlock", desc := "(I)Z" } : Jvm.MethodName) prog_13_method_38_code (2 : Nat) (Option.some Jvm.ClassFile.FieldType.boolean) ∈ lw_tbl := ht_6 _ (List.mem_of_getElem? (i := 143) rfl)
theorem hw_162 : Jvm.Cond.code ({ cls := "LedgerMachineModel", name := "told", desc := "(II)I" } : Jvm.MethodName) prog_13_method_39_code (3 : Nat) (Option.some Jvm.ClassFile.FieldType.int) ∈ lw_tbl := ht_6 _ (List.mem_of_getElem? (i := 139) rfl)
theorem hw_163 : Jvm.Cond.code ({ cls := "LedgerMachineModel", name := "receipt", desc := "(III)J" } : Jvm.MethodName) prog_13_method_40_code (5 : Nat) (Option.some Jvm.ClassFile.FieldType.long) ∈ lw_tbl := ht_6 _ (List.mem_of_getElem? (i := 147) rfl)
theorem hw_164 : Jvm.Cond.code ({ cls := "LedgerMachineModel", name := "event", desc := "(III)J" } : Jvm.MethodName) prog_13_method_41_code (5 : Nat) (Option.some Jvm.ClassFile.FieldType.long) ∈ lw_tbl := ht_6 _ (List.mem_of_getElem? (i := 151) rfl)
theorem hw_165 : Jvm.Cond.code ({ cls := "LedgerMachineModel", name := "valueOf", desc := "(II)J" } : Jvm.MethodName) prog_13_method_42_code (5 : Nat) (Option.some Jvm.ClassFile.FieldType.long) ∈ lw_tbl := ht_6 _ (List.mem_of_getElem? (i := 159) rfl)
theorem hw_166 : Jvm.Cond.code ({ cls := "LedgerMachineModel", name := "mix", desc := "(JJ)J" } : Jvm.MethodName) prog_13_method_43_code (6 : Nat) (Option.some Jvm.ClassFile.FieldType.long) ∈ lw_tbl := ht_6 _ (List.mem_of_getElem? (i := 169) rfl)
theorem hw_167 : Jvm.Cond.code ({ cls := "LedgerMachineModel", name := "leafDigest", desc := "(IJ)J" } : Jvm.MethodName) prog_13_method_44_code (5 : Nat) (Option.some Jvm.ClassFile.FieldType.long) ∈ lw_tbl := ht_6 _ (List.mem_of_getElem? (i := 166) rfl)
theorem hw_168 : Jvm.Cond.code ({ cls := "LedgerMachineModel", name := "both", desc := "(JJ)J" } : Jvm.MethodName) prog_13_method_45_code (6 : Nat) (Option.some Jvm.ClassFile.FieldType.long) ∈ lw_tbl := ht_6 _ (List.mem_of_getElem? (i := 173) rfl)
theorem hw_169 : Jvm.Cond.code ({ cls := "LedgerMachineModel", name := "leaf", desc := "(II)J" } : Jvm.MethodName) prog_13_method_46_code (3 : Nat) (Option.some Jvm.ClassFile.FieldType.long) ∈ lw_tbl := ht_6 _ (List.mem_of_getElem? (i := 155) rfl)
theorem hw_170 : Jvm.Cond.code ({ cls := "LedgerMachineModel", name := "digest", desc := "(III)J" } : Jvm.MethodName) prog_13_method_47_code (6 : Nat) (Option.some Jvm.ClassFile.FieldType.long) ∈ lw_tbl := ht_6 _ (List.mem_of_getElem? (i := 163) rfl)
theorem hw_171 : Jvm.Cond.code ({ cls := "LedgerMachineModel", name := "view", desc := "(IIIJI)J" } : Jvm.MethodName) prog_13_method_48_code (8 : Nat) (Option.some Jvm.ClassFile.FieldType.long) ∈ lw_tbl := ht_6 _ (List.mem_of_getElem? (i := 177) rfl)
theorem hw_172 : Jvm.Cond.code ({ cls := "LedgerMachineModel", name := "seen", desc := "(I)I" } : Jvm.MethodName) prog_13_method_49_code (2 : Nat) (Option.some Jvm.ClassFile.FieldType.int) ∈ lw_tbl := ht_6 _ (List.mem_of_getElem? (i := 181) rfl)
theorem hw_173 : Jvm.Cond.code ({ cls := "LedgerMachineModel", name := "vote", desc := "(II)I" } : Jvm.MethodName) prog_13_method_50_code (6 : Nat) (Option.some Jvm.ClassFile.FieldType.int) ∈ lw_tbl := ht_6 _ (List.mem_of_getElem? (i := 185) rfl)
theorem hw_174 : Jvm.Cond.code ({ cls := "LedgerMachineModel", name := "certain", desc := "(I)I" } : Jvm.MethodName) prog_13_method_51_code (3 : Nat) (Option.some Jvm.ClassFile.FieldType.int) ∈ lw_tbl := ht_6 _ (List.mem_of_getElem? (i := 189) rfl)
theorem hw_175 : Jvm.Cond.code ({ cls := "LedgerMachineModel", name := "beside", desc := "(IJ)V" } : Jvm.MethodName) prog_13_method_52_code (4 : Nat) (Option.none : Option Jvm.ClassFile.FieldType) ∈ lw_tbl := ht_6 _ (List.mem_of_getElem? (i := 193) rfl)
theorem hw_176 : Jvm.Cond.code ({ cls := "LedgerMachineModel", name := "proves", desc := "(JIJ)Z" } : Jvm.MethodName) prog_13_method_53_code (9 : Nat) (Option.some Jvm.ClassFile.FieldType.boolean) ∈ lw_tbl := ht_6 _ (List.mem_of_getElem? (i := 197) rfl)
theorem hw_177 : Jvm.Cond.code ({ cls := "java/lang/Math", name := "max", desc := "(JJ)J" } : Jvm.MethodName) prog_19_method_66_code (4 : Nat) (Option.some Jvm.ClassFile.FieldType.long) ∈ lw_tbl := ht_4 _ (List.mem_of_getElem? (i := 60) rfl)
theorem hw_178 : Jvm.Cond.initialized "java/lang/Math" ∈ lw_tbl := ht_1 _ (List.mem_of_getElem? (i := 18) rfl)
theorem hw_179 : Jvm.Cond.code ({ cls := "java/lang/Math", name := "min", desc := "(II)I" } : Jvm.MethodName) prog_19_method_69_code (2 : Nat) (Option.some Jvm.ClassFile.FieldType.int) ∈ lw_tbl := ht_2 _ (List.mem_of_getElem? (i := 230) rfl)
theorem hw_180 : Jvm.Cond.code ({ cls := "java/lang/Math", name := "min", desc := "(JJ)J" } : Jvm.MethodName) prog_19_method_70_code (4 : Nat) (Option.some Jvm.ClassFile.FieldType.long) ∈ lw_tbl := ht_4 _ (List.mem_of_getElem? (i := 63) rfl)
theorem hw_181 : Jvm.Cond.code ({ cls := "java/util/Arrays", name := "fill", desc := "([II)V" } : Jvm.MethodName) prog_24_method_103_code (4 : Nat) (Option.none : Option Jvm.ClassFile.FieldType) ∈ lw_tbl := ht_2 _ (List.mem_of_getElem? (i := 41) rfl)
theorem hw_182 : Jvm.Cond.initialized "java/util/Arrays" ∈ lw_tbl := ht_1 _ (List.mem_of_getElem? (i := 10) rfl)
theorem hw_183 : Jvm.Cond.code ({ cls := "java/util/Arrays", name := "copyOf", desc := "([BI)[B" } : Jvm.MethodName) prog_24_method_121_code (3 : Nat) (Option.some (Jvm.ClassFile.FieldType.array Jvm.ClassFile.FieldType.byte)) ∈ lw_tbl := ht_2 _ (List.mem_of_getElem? (i := 220) rfl)
theorem hw_184 : Jvm.Cond.code ({ cls := "java/util/Arrays", name := "copyOf", desc := "([JI)[J" } : Jvm.MethodName) prog_24_method_124_code (3 : Nat) (Option.some (Jvm.ClassFile.FieldType.array Jvm.ClassFile.FieldType.long)) ∈ lw_tbl := ht_4 _ (List.mem_of_getElem? (i := 154) rfl)
theorem hw_185 : Jvm.Cond.fieldLink "LedgerMachine$Block" (13 : Nat) "LedgerMachine$Block" "height" "I" ∈ lw_tbl := ht_2 _ (List.mem_of_getElem? (i := 13) rfl)
theorem hw_186 : Jvm.Cond.fieldLink "LedgerMachine$Block" (16 : Nat) "LedgerMachine$Block" "leaves" "[J" ∈ lw_tbl := ht_2 _ (List.mem_of_getElem? (i := 15) rfl)
theorem hw_187 : Jvm.Cond.fieldLink "LedgerMachine$Block" (20 : Nat) "LedgerMachine$Block" "receipts" "[J" ∈ lw_tbl := ht_2 _ (List.mem_of_getElem? (i := 17) rfl)
theorem hw_188 : Jvm.Cond.fieldLink "LedgerMachine$Block" (23 : Nat) "LedgerMachine$Block" "events" "[J" ∈ lw_tbl := ht_2 _ (List.mem_of_getElem? (i := 19) rfl)
theorem hw_189 : Jvm.Cond.fieldLink "LedgerMachine$Block" (26 : Nat) "LedgerMachine$Block" "gasUsed" "I" ∈ lw_tbl := ht_2 _ (List.mem_of_getElem? (i := 21) rfl)
theorem hw_190 : Jvm.Cond.fieldLink "LedgerMachine$Block" (7 : Nat) "LedgerMachine$Block" "parent" "I" ∈ lw_tbl := ht_2 _ (List.mem_of_getElem? (i := 11) rfl)
theorem hw_191 : Jvm.Cond.fieldLink "LedgerMachine$Call" (13 : Nat) "LedgerMachine$Call" "to" "J" ∈ lw_tbl := ht_1 _ (List.mem_of_getElem? (i := 107) rfl)
theorem hw_192 : Jvm.Cond.fieldLink "LedgerMachine$Call" (17 : Nat) "LedgerMachine$Call" "value" "J" ∈ lw_tbl := ht_1 _ (List.mem_of_getElem? (i := 110) rfl)
theorem hw_193 : Jvm.Cond.fieldLink "LedgerMachine$Call" (20 : Nat) "LedgerMachine$Call" "argument" "J" ∈ lw_tbl := ht_1 _ (List.mem_of_getElem? (i := 113) rfl)
theorem hw_194 : Jvm.Cond.fieldLink "LedgerMachine$Call" (23 : Nat) "LedgerMachine$Call" "gas" "I" ∈ lw_tbl := ht_1 _ (List.mem_of_getElem? (i := 115) rfl)
theorem hw_195 : Jvm.Cond.fieldLink "LedgerMachine$Call" (26 : Nat) "LedgerMachine$Call" "isLook" "Z" ∈ lw_tbl := ht_1 _ (List.mem_of_getElem? (i := 118) rfl)
theorem hw_196 : Jvm.Cond.fieldLink "LedgerMachine$Call" (7 : Nat) "LedgerMachine$Call" "caller" "I" ∈ lw_tbl := ht_1 _ (List.mem_of_getElem? (i := 104) rfl)
theorem hw_197 : Jvm.Cond.fieldLink "LedgerMachine$Code" (9 : Nat) "LedgerMachine$Code" "octets" "[B" ∈ lw_tbl := ht_3 _ (List.mem_of_getElem? (i := 0) rfl)
theorem hw_198 : Jvm.Cond.fieldLink "LedgerMachine$CodeBook" (11 : Nat) "LedgerMachine$CodeBook" "codes" "[LLedgerMachine$Code;" ∈ lw_tbl := ht_1 _ (List.mem_of_getElem? (i := 62) rfl)
theorem hw_199 : Jvm.Cond.fieldLink "LedgerMachine$CodeBook" (17 : Nat) "LedgerMachine$CodeBook" "count" "I" ∈ lw_tbl := ht_1 _ (List.mem_of_getElem? (i := 64) rfl)
theorem hw_200 : Jvm.Cond.fieldLink "LedgerMachine$Draft" (15 : Nat) "LedgerMachine$Draft" "begins" "[Z" ∈ lw_tbl := ht_1 _ (List.mem_of_getElem? (i := 37) rfl)
theorem hw_201 : Jvm.Cond.fieldLink "LedgerMachine$Draft" (19 : Nat) "LedgerMachine$Draft" "size" "I" ∈ lw_tbl := ht_1 _ (List.mem_of_getElem? (i := 38) rfl)
theorem hw_202 : Jvm.Cond.fieldLink "LedgerMachine$Draft" (9 : Nat) "LedgerMachine$Draft" "octets" "[B" ∈ lw_tbl := ht_1 _ (List.mem_of_getElem? (i := 36) rfl)
theorem hw_203 : Jvm.Cond.fieldLink "LedgerMachine$EventLog" (15 : Nat) "LedgerMachine$EventLog" "count" "I" ∈ lw_tbl := ht_1 _ (List.mem_of_getElem? (i := 88) rfl)
theorem hw_204 : Jvm.Cond.fieldLink "LedgerMachine$EventLog" (19 : Nat) "LedgerMachine$EventLog" "order" "I" ∈ lw_tbl := ht_1 _ (List.mem_of_getElem? (i := 90) rfl)
theorem hw_205 : Jvm.Cond.fieldLink "LedgerMachine$EventLog" (9 : Nat) "LedgerMachine$EventLog" "rows" "[J" ∈ lw_tbl := ht_1 _ (List.mem_of_getElem? (i := 87) rfl)
theorem hw_206 : Jvm.Cond.fieldLink "LedgerMachine$Frame" (15 : Nat) "LedgerMachine$Frame" "leavesBefore" "[J" ∈ lw_tbl := ht_1 _ (List.mem_of_getElem? (i := 141) rfl)
theorem hw_207 : Jvm.Cond.fieldLink "LedgerMachine$Frame" (18 : Nat) "LedgerMachine$Frame" "code" "LLedgerMachine$Code;" ∈ lw_tbl := ht_1 _ (List.mem_of_getElem? (i := 146) rfl)
theorem hw_208 : Jvm.Cond.fieldLinkNest "LedgerMachine$Frame" (22 : Nat) "LedgerMachine$Call" "to" "J" "LedgerMachine" ∈ lw_tbl := ht_1 _ (List.mem_of_getElem? (i := 108) rfl)
theorem hw_209 : Jvm.Cond.fieldLink "LedgerMachine$Frame" (28 : Nat) "LedgerMachine$Frame" "account" "I" ∈ lw_tbl := ht_1 _ (List.mem_of_getElem? (i := 151) rfl)
theorem hw_210 : Jvm.Cond.fieldLinkNest "LedgerMachine$Frame" (32 : Nat) "LedgerMachine$Call" "caller" "I" "LedgerMachine" ∈ lw_tbl := ht_1 _ (List.mem_of_getElem? (i := 105) rfl)
theorem hw_211 : Jvm.Cond.fieldLink "LedgerMachine$Frame" (35 : Nat) "LedgerMachine$Frame" "caller" "I" ∈ lw_tbl := ht_1 _ (List.mem_of_getElem? (i := 153) rfl)
theorem hw_212 : Jvm.Cond.fieldLinkNest "LedgerMachine$Frame" (36 : Nat) "LedgerMachine$Call" "value" "J" "LedgerMachine" ∈ lw_tbl := ht_1 _ (List.mem_of_getElem? (i := 111) rfl)
theorem hw_213 : Jvm.Cond.fieldLink "LedgerMachine$Frame" (39 : Nat) "LedgerMachine$Frame" "value" "J" ∈ lw_tbl := ht_1 _ (List.mem_of_getElem? (i := 155) rfl)
theorem hw_214 : Jvm.Cond.fieldLinkNest "LedgerMachine$Frame" (40 : Nat) "LedgerMachine$Call" "argument" "J" "LedgerMachine" ∈ lw_tbl := ht_1 _ (List.mem_of_getElem? (i := 114) rfl)
theorem hw_215 : Jvm.Cond.fieldLink "LedgerMachine$Frame" (43 : Nat) "LedgerMachine$Frame" "argument" "J" ∈ lw_tbl := ht_1 _ (List.mem_of_getElem? (i := 157) rfl)
theorem hw_216 : Jvm.Cond.fieldLinkNest "LedgerMachine$Frame" (44 : Nat) "LedgerMachine$Call" "gas" "I" "LedgerMachine" ∈ lw_tbl := ht_1 _ (List.mem_of_getElem? (i := 116) rfl)
theorem hw_217 : Jvm.Cond.fieldLink "LedgerMachine$Frame" (47 : Nat) "LedgerMachine$Frame" "gas" "I" ∈ lw_tbl := ht_1 _ (List.mem_of_getElem? (i := 149) rfl)
theorem hw_218 : Jvm.Cond.fieldLinkNest "LedgerMachine$Frame" (48 : Nat) "LedgerMachine$Call" "isLook" "Z" "LedgerMachine" ∈ lw_tbl := ht_1 _ (List.mem_of_getElem? (i := 119) rfl)
theorem hw_219 : Jvm.Cond.fieldLink "LedgerMachine$Frame" (52 : Nat) "LedgerMachine$Frame" "isLook" "Z" ∈ lw_tbl := ht_1 _ (List.mem_of_getElem? (i := 159) rfl)
theorem hw_220 : Jvm.Cond.fieldLink "LedgerMachine$Frame" (53 : Nat) "LedgerMachine$Frame" "hasLock" "Z" ∈ lw_tbl := ht_1 _ (List.mem_of_getElem? (i := 161) rfl)
theorem hw_221 : Jvm.Cond.fieldLink "LedgerMachine$Frame" (56 : Nat) "LedgerMachine$Frame" "size" "I" ∈ lw_tbl := ht_1 _ (List.mem_of_getElem? (i := 145) rfl)
theorem hw_222 : Jvm.Cond.fieldLink "LedgerMachine$Frame" (59 : Nat) "LedgerMachine$Frame" "place" "I" ∈ lw_tbl := ht_1 _ (List.mem_of_getElem? (i := 147) rfl)
theorem hw_223 : Jvm.Cond.fieldLink "LedgerMachine$Frame" (68 : Nat) "LedgerMachine$Frame" "operandPlace" "I" ∈ lw_tbl := ht_1 _ (List.mem_of_getElem? (i := 148) rfl)
theorem hw_224 : Jvm.Cond.fieldLink "LedgerMachine$Frame" (9 : Nat) "LedgerMachine$Frame" "stack" "[J" ∈ lw_tbl := ht_1 _ (List.mem_of_getElem? (i := 140) rfl)
theorem hw_225 : Jvm.Cond.fieldLinkNest "LedgerMachine$Machine" (111 : Nat) "LedgerMachine$Call" "gas" "I" "LedgerMachine" ∈ lw_tbl := ht_1 _ (List.mem_of_getElem? (i := 117) rfl)
theorem hw_226 : Jvm.Cond.fieldLinkNest "LedgerMachine$Machine" (118 : Nat) "LedgerMachine$Call" "to" "J" "LedgerMachine" ∈ lw_tbl := ht_1 _ (List.mem_of_getElem? (i := 109) rfl)
theorem hw_227 : Jvm.Cond.fieldLink "LedgerMachine$Machine" (12 : Nat) "LedgerMachine$Machine" "book" "LLedgerMachine$CodeBook;" ∈ lw_tbl := ht_1 _ (List.mem_of_getElem? (i := 194) rfl)
theorem hw_228 : Jvm.Cond.fieldLinkNest "LedgerMachine$Machine" (130 : Nat) "LedgerMachine$Call" "caller" "I" "LedgerMachine" ∈ lw_tbl := ht_1 _ (List.mem_of_getElem? (i := 106) rfl)
theorem hw_229 : Jvm.Cond.fieldLinkNest "LedgerMachine$Machine" (133 : Nat) "LedgerMachine$Call" "value" "J" "LedgerMachine" ∈ lw_tbl := ht_1 _ (List.mem_of_getElem? (i := 112) rfl)
theorem hw_230 : Jvm.Cond.fieldLinkNest "LedgerMachine$Machine" (140 : Nat) "LedgerMachine$CodeBook" "codes" "[LLedgerMachine$Code;" "LedgerMachine" ∈ lw_tbl := ht_1 _ (List.mem_of_getElem? (i := 63) rfl)
theorem hw_231 : Jvm.Cond.fieldLinkNest "LedgerMachine$Machine" (160 : Nat) "LedgerMachine$Frame" "account" "I" "LedgerMachine" ∈ lw_tbl := ht_1 _ (List.mem_of_getElem? (i := 152) rfl)
theorem hw_232 : Jvm.Cond.fieldLinkNest "LedgerMachine$Machine" (163 : Nat) "LedgerMachine$Frame" "hasLock" "Z" "LedgerMachine" ∈ lw_tbl := ht_1 _ (List.mem_of_getElem? (i := 162) rfl)
theorem hw_233 : Jvm.Cond.fieldLinkNest "LedgerMachine$Machine" (165 : Nat) "LedgerMachine$Frame" "leavesBefore" "[J" "LedgerMachine" ∈ lw_tbl := ht_1 _ (List.mem_of_getElem? (i := 142) rfl)
theorem hw_234 : Jvm.Cond.fieldLinkNest "LedgerMachine$Machine" (172 : Nat) "LedgerMachine$EventLog" "count" "I" "LedgerMachine" ∈ lw_tbl := ht_1 _ (List.mem_of_getElem? (i := 89) rfl)
theorem hw_235 : Jvm.Cond.fieldLinkNest "LedgerMachine$Machine" (175 : Nat) "LedgerMachine$Frame" "eventsBefore" "I" "LedgerMachine" ∈ lw_tbl := ht_1 _ (List.mem_of_getElem? (i := 143) rfl)
theorem hw_236 : Jvm.Cond.fieldLinkNest "LedgerMachine$Machine" (178 : Nat) "LedgerMachine$Frame" "giveBackBefore" "I" "LedgerMachine" ∈ lw_tbl := ht_1 _ (List.mem_of_getElem? (i := 144) rfl)
theorem hw_237 : Jvm.Cond.fieldLink "LedgerMachine$Machine" (188 : Nat) "LedgerMachine$Machine" "answer" "J" ∈ lw_tbl := ht_1 _ (List.mem_of_getElem? (i := 211) rfl)
theorem hw_238 : Jvm.Cond.fieldLinkNest "LedgerMachine$Machine" (191 : Nat) "LedgerMachine$Frame" "gas" "I" "LedgerMachine" ∈ lw_tbl := ht_1 _ (List.mem_of_getElem? (i := 150) rfl)
theorem hw_239 : Jvm.Cond.fieldLink "LedgerMachine$Machine" (192 : Nat) "LedgerMachine$Machine" "ending" "I" ∈ lw_tbl := ht_1 _ (List.mem_of_getElem? (i := 209) rfl)
theorem hw_240 : Jvm.Cond.fieldLink "LedgerMachine$Machine" (195 : Nat) "LedgerMachine$Machine" "gasLeft" "I" ∈ lw_tbl := ht_1 _ (List.mem_of_getElem? (i := 213) rfl)
theorem hw_241 : Jvm.Cond.fieldLink "LedgerMachine$Machine" (21 : Nat) "LedgerMachine$Machine" "state" "LLedgerMachine$State;" ∈ lw_tbl := ht_1 _ (List.mem_of_getElem? (i := 196) rfl)
theorem hw_242 : Jvm.Cond.fieldLinkNest "LedgerMachine$Machine" (254 : Nat) "LedgerMachine$Frame" "caller" "I" "LedgerMachine" ∈ lw_tbl := ht_1 _ (List.mem_of_getElem? (i := 154) rfl)
theorem hw_243 : Jvm.Cond.fieldLinkNest "LedgerMachine$Machine" (255 : Nat) "LedgerMachine$Frame" "value" "J" "LedgerMachine" ∈ lw_tbl := ht_1 _ (List.mem_of_getElem? (i := 156) rfl)
theorem hw_244 : Jvm.Cond.fieldLinkNest "LedgerMachine$Machine" (256 : Nat) "LedgerMachine$Frame" "argument" "J" "LedgerMachine" ∈ lw_tbl := ht_1 _ (List.mem_of_getElem? (i := 158) rfl)
theorem hw_245 : Jvm.Cond.fieldLink "LedgerMachine$Machine" (28 : Nat) "LedgerMachine$Machine" "events" "LLedgerMachine$EventLog;" ∈ lw_tbl := ht_1 _ (List.mem_of_getElem? (i := 198) rfl)
theorem hw_246 : Jvm.Cond.fieldLink "LedgerMachine$Machine" (35 : Nat) "LedgerMachine$Machine" "next" "LLedgerMachine$Call;" ∈ lw_tbl := ht_1 _ (List.mem_of_getElem? (i := 200) rfl)
theorem hw_247 : Jvm.Cond.fieldLink "LedgerMachine$Machine" (41 : Nat) "LedgerMachine$Machine" "frames" "[LLedgerMachine$Frame;" ∈ lw_tbl := ht_1 _ (List.mem_of_getElem? (i := 201) rfl)
theorem hw_248 : Jvm.Cond.fieldLink "LedgerMachine$Machine" (53 : Nat) "LedgerMachine$Machine" "height" "I" ∈ lw_tbl := ht_1 _ (List.mem_of_getElem? (i := 203) rfl)
theorem hw_249 : Jvm.Cond.fieldLink "LedgerMachine$Machine" (57 : Nat) "LedgerMachine$Machine" "origin" "I" ∈ lw_tbl := ht_1 _ (List.mem_of_getElem? (i := 204) rfl)
theorem hw_250 : Jvm.Cond.fieldLink "LedgerMachine$Machine" (60 : Nat) "LedgerMachine$Machine" "depth" "I" ∈ lw_tbl := ht_1 _ (List.mem_of_getElem? (i := 202) rfl)
theorem hw_251 : Jvm.Cond.fieldLink "LedgerMachine$Machine" (63 : Nat) "LedgerMachine$Machine" "giveBack" "I" ∈ lw_tbl := ht_1 _ (List.mem_of_getElem? (i := 205) rfl)
theorem hw_252 : Jvm.Cond.fieldLink "LedgerMachine$Machine" (66 : Nat) "LedgerMachine$Machine" "framesRun" "I" ∈ lw_tbl := ht_1 _ (List.mem_of_getElem? (i := 207) rfl)
theorem hw_253 : Jvm.Cond.fieldLinkNest "LedgerMachine$Machine" (92 : Nat) "LedgerMachine$Frame" "isLook" "Z" "LedgerMachine" ∈ lw_tbl := ht_1 _ (List.mem_of_getElem? (i := 160) rfl)
theorem hw_254 : Jvm.Cond.fieldLink "LedgerMachine$Order" (13 : Nat) "LedgerMachine$Order" "to" "I" ∈ lw_tbl := ht_3 _ (List.mem_of_getElem? (i := 74) rfl)
theorem hw_255 : Jvm.Cond.fieldLink "LedgerMachine$Order" (16 : Nat) "LedgerMachine$Order" "value" "J" ∈ lw_tbl := ht_3 _ (List.mem_of_getElem? (i := 76) rfl)
theorem hw_256 : Jvm.Cond.fieldLink "LedgerMachine$Order" (20 : Nat) "LedgerMachine$Order" "argument" "J" ∈ lw_tbl := ht_3 _ (List.mem_of_getElem? (i := 78) rfl)
theorem hw_257 : Jvm.Cond.fieldLink "LedgerMachine$Order" (23 : Nat) "LedgerMachine$Order" "gas" "I" ∈ lw_tbl := ht_3 _ (List.mem_of_getElem? (i := 80) rfl)
theorem hw_258 : Jvm.Cond.fieldLink "LedgerMachine$Order" (26 : Nat) "LedgerMachine$Order" "price" "I" ∈ lw_tbl := ht_3 _ (List.mem_of_getElem? (i := 82) rfl)
theorem hw_259 : Jvm.Cond.fieldLink "LedgerMachine$Order" (29 : Nat) "LedgerMachine$Order" "nonce" "I" ∈ lw_tbl := ht_3 _ (List.mem_of_getElem? (i := 83) rfl)
theorem hw_260 : Jvm.Cond.fieldLink "LedgerMachine$Order" (7 : Nat) "LedgerMachine$Order" "from" "I" ∈ lw_tbl := ht_3 _ (List.mem_of_getElem? (i := 72) rfl)
theorem hw_261 : Jvm.Cond.fieldLink "LedgerMachine$State" (9 : Nat) "LedgerMachine$State" "leaves" "[J" ∈ lw_tbl := ht_1 _ (List.mem_of_getElem? (i := 76) rfl)
theorem hw_262 : Jvm.Cond.fieldLink "LedgerMachine" (10 : Nat) "LedgerMachine" "draft" "LLedgerMachine$Draft;" ∈ lw_tbl := ht_2 _ (List.mem_of_getElem? (i := 42) rfl)
theorem hw_263 : Jvm.Cond.fieldLinkNest "LedgerMachine" (124 : Nat) "LedgerMachine$Block" "leaves" "[J" "LedgerMachine" ∈ lw_tbl := ht_2 _ (List.mem_of_getElem? (i := 16) rfl)
theorem hw_264 : Jvm.Cond.fieldLink "LedgerMachine" (142 : Nat) "LedgerMachine" "orderCount" "I" ∈ lw_tbl := ht_2 _ (List.mem_of_getElem? (i := 45) rfl)
theorem hw_265 : Jvm.Cond.fieldLinkNest "LedgerMachine" (157 : Nat) "LedgerMachine$Block" "height" "I" "LedgerMachine" ∈ lw_tbl := ht_2 _ (List.mem_of_getElem? (i := 14) rfl)
theorem hw_266 : Jvm.Cond.fieldLinkNest "LedgerMachine" (168 : Nat) "LedgerMachine$Machine" "state" "LLedgerMachine$State;" "LedgerMachine" ∈ lw_tbl := ht_1 _ (List.mem_of_getElem? (i := 197) rfl)
theorem hw_267 : Jvm.Cond.fieldLinkNest "LedgerMachine" (178 : Nat) "LedgerMachine$Machine" "events" "LLedgerMachine$EventLog;" "LedgerMachine" ∈ lw_tbl := ht_1 _ (List.mem_of_getElem? (i := 199) rfl)
theorem hw_268 : Jvm.Cond.fieldLinkNest "LedgerMachine" (189 : Nat) "LedgerMachine$Block" "parent" "I" "LedgerMachine" ∈ lw_tbl := ht_2 _ (List.mem_of_getElem? (i := 12) rfl)
theorem hw_269 : Jvm.Cond.fieldLink "LedgerMachine" (19 : Nat) "LedgerMachine" "machine" "LLedgerMachine$Machine;" ∈ lw_tbl := ht_2 _ (List.mem_of_getElem? (i := 43) rfl)
theorem hw_270 : Jvm.Cond.fieldLinkNest "LedgerMachine" (192 : Nat) "LedgerMachine$Block" "receipts" "[J" "LedgerMachine" ∈ lw_tbl := ht_2 _ (List.mem_of_getElem? (i := 18) rfl)
theorem hw_271 : Jvm.Cond.fieldLinkNest "LedgerMachine" (195 : Nat) "LedgerMachine$Block" "events" "[J" "LedgerMachine" ∈ lw_tbl := ht_2 _ (List.mem_of_getElem? (i := 20) rfl)
theorem hw_272 : Jvm.Cond.fieldLinkNest "LedgerMachine" (197 : Nat) "LedgerMachine$Block" "gasUsed" "I" "LedgerMachine" ∈ lw_tbl := ht_2 _ (List.mem_of_getElem? (i := 22) rfl)
theorem hw_273 : Jvm.Cond.fieldLinkNest "LedgerMachine" (200 : Nat) "LedgerMachine$Block" "weightsFor" "I" "LedgerMachine" ∈ lw_tbl := ht_2 _ (List.mem_of_getElem? (i := 23) rfl)
theorem hw_274 : Jvm.Cond.fieldLinkNest "LedgerMachine" (226 : Nat) "LedgerMachine$Machine" "ending" "I" "LedgerMachine" ∈ lw_tbl := ht_1 _ (List.mem_of_getElem? (i := 210) rfl)
theorem hw_275 : Jvm.Cond.fieldLink "LedgerMachine" (229 : Nat) "LedgerMachine" "viewEnding" "I" ∈ lw_tbl := ht_2 _ (List.mem_of_getElem? (i := 51) rfl)
theorem hw_276 : Jvm.Cond.fieldLinkNest "LedgerMachine" (232 : Nat) "LedgerMachine$Machine" "gasLeft" "I" "LedgerMachine" ∈ lw_tbl := ht_1 _ (List.mem_of_getElem? (i := 214) rfl)
theorem hw_277 : Jvm.Cond.fieldLink "LedgerMachine" (235 : Nat) "LedgerMachine" "viewGas" "I" ∈ lw_tbl := ht_2 _ (List.mem_of_getElem? (i := 52) rfl)
theorem hw_278 : Jvm.Cond.fieldLinkNest "LedgerMachine" (238 : Nat) "LedgerMachine$Machine" "framesRun" "I" "LedgerMachine" ∈ lw_tbl := ht_1 _ (List.mem_of_getElem? (i := 208) rfl)
theorem hw_279 : Jvm.Cond.fieldLink "LedgerMachine" (241 : Nat) "LedgerMachine" "viewFrames" "I" ∈ lw_tbl := ht_2 _ (List.mem_of_getElem? (i := 53) rfl)
theorem hw_280 : Jvm.Cond.fieldLinkNest "LedgerMachine" (244 : Nat) "LedgerMachine$Machine" "answer" "J" "LedgerMachine" ∈ lw_tbl := ht_1 _ (List.mem_of_getElem? (i := 212) rfl)
theorem hw_281 : Jvm.Cond.fieldLink "LedgerMachine" (25 : Nat) "LedgerMachine" "orders" "[LLedgerMachine$Order;" ∈ lw_tbl := ht_2 _ (List.mem_of_getElem? (i := 44) rfl)
theorem hw_282 : Jvm.Cond.fieldLinkNest "LedgerMachine" (270 : Nat) "LedgerMachine$Order" "from" "I" "LedgerMachine" ∈ lw_tbl := ht_3 _ (List.mem_of_getElem? (i := 73) rfl)
theorem hw_283 : Jvm.Cond.fieldLinkNest "LedgerMachine" (277 : Nat) "LedgerMachine$Order" "gas" "I" "LedgerMachine" ∈ lw_tbl := ht_3 _ (List.mem_of_getElem? (i := 81) rfl)
theorem hw_284 : Jvm.Cond.fieldLinkNest "LedgerMachine" (291 : Nat) "LedgerMachine$Order" "to" "I" "LedgerMachine" ∈ lw_tbl := ht_3 _ (List.mem_of_getElem? (i := 75) rfl)
theorem hw_285 : Jvm.Cond.fieldLinkNest "LedgerMachine" (294 : Nat) "LedgerMachine$Order" "value" "J" "LedgerMachine" ∈ lw_tbl := ht_3 _ (List.mem_of_getElem? (i := 77) rfl)
theorem hw_286 : Jvm.Cond.fieldLinkNest "LedgerMachine" (297 : Nat) "LedgerMachine$Order" "argument" "J" "LedgerMachine" ∈ lw_tbl := ht_3 _ (List.mem_of_getElem? (i := 79) rfl)
theorem hw_287 : Jvm.Cond.fieldLinkNest "LedgerMachine" (300 : Nat) "LedgerMachine$Machine" "giveBack" "I" "LedgerMachine" ∈ lw_tbl := ht_1 _ (List.mem_of_getElem? (i := 206) rfl)
theorem hw_288 : Jvm.Cond.fieldLinkNest "LedgerMachine" (309 : Nat) "LedgerMachine$Order" "nonce" "I" "LedgerMachine" ∈ lw_tbl := ht_3 _ (List.mem_of_getElem? (i := 84) rfl)
theorem hw_289 : Jvm.Cond.fieldLink "LedgerMachine" (31 : Nat) "LedgerMachine" "blocks" "[LLedgerMachine$Block;" ∈ lw_tbl := ht_2 _ (List.mem_of_getElem? (i := 46) rfl)
theorem hw_290 : Jvm.Cond.fieldLink "LedgerMachine" (38 : Nat) "LedgerMachine" "blockCount" "I" ∈ lw_tbl := ht_2 _ (List.mem_of_getElem? (i := 47) rfl)
theorem hw_291 : Jvm.Cond.fieldLink "LedgerMachine" (42 : Nat) "LedgerMachine" "weights" "[I" ∈ lw_tbl := ht_2 _ (List.mem_of_getElem? (i := 48) rfl)
theorem hw_292 : Jvm.Cond.fieldLink "LedgerMachine" (52 : Nat) "LedgerMachine" "votedHeights" "[J" ∈ lw_tbl := ht_2 _ (List.mem_of_getElem? (i := 49) rfl)
theorem hw_293 : Jvm.Cond.fieldLink "LedgerMachine" (56 : Nat) "LedgerMachine" "besides" "[J" ∈ lw_tbl := ht_2 _ (List.mem_of_getElem? (i := 50) rfl)
theorem hw_294 : Jvm.Cond.fieldLinkNest "LedgerMachine" (74 : Nat) "LedgerMachine$Machine" "book" "LLedgerMachine$CodeBook;" "LedgerMachine" ∈ lw_tbl := ht_1 _ (List.mem_of_getElem? (i := 195) rfl)
theorem hw_295 : Jvm.Cond.fieldLink "LedgerMachineModel" (102 : Nat) "LedgerMachineModel" "kept" "[J" ∈ lw_tbl := ht_5 _ (List.mem_of_getElem? (i := 67) rfl)
theorem hw_296 : Jvm.Cond.fieldLink "LedgerMachineModel" (105 : Nat) "LedgerMachineModel" "keptEvents" "[I" ∈ lw_tbl := ht_5 _ (List.mem_of_getElem? (i := 68) rfl)
theorem hw_297 : Jvm.Cond.fieldLink "LedgerMachineModel" (108 : Nat) "LedgerMachineModel" "keptBack" "[I" ∈ lw_tbl := ht_5 _ (List.mem_of_getElem? (i := 69) rfl)
theorem hw_298 : Jvm.Cond.fieldLink "LedgerMachineModel" (111 : Nat) "LedgerMachineModel" "fCode" "[I" ∈ lw_tbl := ht_5 _ (List.mem_of_getElem? (i := 70) rfl)
theorem hw_299 : Jvm.Cond.fieldLink "LedgerMachineModel" (114 : Nat) "LedgerMachineModel" "fAt" "[I" ∈ lw_tbl := ht_5 _ (List.mem_of_getElem? (i := 71) rfl)
theorem hw_300 : Jvm.Cond.fieldLink "LedgerMachineModel" (117 : Nat) "LedgerMachineModel" "fGas" "[J" ∈ lw_tbl := ht_5 _ (List.mem_of_getElem? (i := 72) rfl)
theorem hw_301 : Jvm.Cond.fieldLink "LedgerMachineModel" (120 : Nat) "LedgerMachineModel" "fSelf" "[I" ∈ lw_tbl := ht_5 _ (List.mem_of_getElem? (i := 73) rfl)
theorem hw_302 : Jvm.Cond.fieldLink "LedgerMachineModel" (123 : Nat) "LedgerMachineModel" "fCaller" "[I" ∈ lw_tbl := ht_5 _ (List.mem_of_getElem? (i := 74) rfl)
theorem hw_303 : Jvm.Cond.fieldLink "LedgerMachineModel" (126 : Nat) "LedgerMachineModel" "fValue" "[J" ∈ lw_tbl := ht_5 _ (List.mem_of_getElem? (i := 75) rfl)
theorem hw_304 : Jvm.Cond.fieldLink "LedgerMachineModel" (129 : Nat) "LedgerMachineModel" "fArgument" "[J" ∈ lw_tbl := ht_5 _ (List.mem_of_getElem? (i := 76) rfl)
theorem hw_305 : Jvm.Cond.fieldLink "LedgerMachineModel" (13 : Nat) "LedgerMachineModel" "codeSize" "[I" ∈ lw_tbl := ht_5 _ (List.mem_of_getElem? (i := 34) rfl)
theorem hw_306 : Jvm.Cond.fieldLink "LedgerMachineModel" (132 : Nat) "LedgerMachineModel" "fLook" "[Z" ∈ lw_tbl := ht_5 _ (List.mem_of_getElem? (i := 77) rfl)
theorem hw_307 : Jvm.Cond.fieldLink "LedgerMachineModel" (135 : Nat) "LedgerMachineModel" "fLock" "[Z" ∈ lw_tbl := ht_5 _ (List.mem_of_getElem? (i := 78) rfl)
theorem hw_308 : Jvm.Cond.fieldLink "LedgerMachineModel" (138 : Nat) "LedgerMachineModel" "stack" "[J" ∈ lw_tbl := ht_5 _ (List.mem_of_getElem? (i := 79) rfl)
theorem hw_309 : Jvm.Cond.fieldLink "LedgerMachineModel" (141 : Nat) "LedgerMachineModel" "top" "[I" ∈ lw_tbl := ht_5 _ (List.mem_of_getElem? (i := 80) rfl)
theorem hw_310 : Jvm.Cond.fieldLink "LedgerMachineModel" (144 : Nat) "LedgerMachineModel" "nAccount" "[I" ∈ lw_tbl := ht_5 _ (List.mem_of_getElem? (i := 85) rfl)
theorem hw_311 : Jvm.Cond.fieldLink "LedgerMachineModel" (147 : Nat) "LedgerMachineModel" "nTopic" "[J" ∈ lw_tbl := ht_5 _ (List.mem_of_getElem? (i := 86) rfl)
theorem hw_312 : Jvm.Cond.fieldLink "LedgerMachineModel" (150 : Nat) "LedgerMachineModel" "nDatum" "[J" ∈ lw_tbl := ht_5 _ (List.mem_of_getElem? (i := 87) rfl)
theorem hw_313 : Jvm.Cond.fieldLink "LedgerMachineModel" (153 : Nat) "LedgerMachineModel" "level" "[J" ∈ lw_tbl := ht_5 _ (List.mem_of_getElem? (i := 96) rfl)
theorem hw_314 : Jvm.Cond.fieldLink "LedgerMachineModel" (156 : Nat) "LedgerMachineModel" "blocks" "I" ∈ lw_tbl := ht_5 _ (List.mem_of_getElem? (i := 47) rfl)
theorem hw_315 : Jvm.Cond.fieldLink "LedgerMachineModel" (16 : Nat) "LedgerMachineModel" "draft" "[I" ∈ lw_tbl := ht_5 _ (List.mem_of_getElem? (i := 36) rfl)
theorem hw_316 : Jvm.Cond.fieldLink "LedgerMachineModel" (160 : Nat) "LedgerMachineModel" "thrown" "I" ∈ lw_tbl := ht_5 _ (List.mem_of_getElem? (i := 32) rfl)
theorem hw_317 : Jvm.Cond.fieldLink "LedgerMachineModel" (163 : Nat) "LedgerMachineModel" "drafted" "I" ∈ lw_tbl := ht_5 _ (List.mem_of_getElem? (i := 37) rfl)
theorem hw_318 : Jvm.Cond.fieldLink "LedgerMachineModel" (172 : Nat) "LedgerMachineModel" "codeMany" "I" ∈ lw_tbl := ht_5 _ (List.mem_of_getElem? (i := 35) rfl)
theorem hw_319 : Jvm.Cond.fieldLink "LedgerMachineModel" (19 : Nat) "LedgerMachineModel" "begins" "[Z" ∈ lw_tbl := ht_5 _ (List.mem_of_getElem? (i := 38) rfl)
theorem hw_320 : Jvm.Cond.fieldLink "LedgerMachineModel" (190 : Nat) "LedgerMachineModel" "orders" "I" ∈ lw_tbl := ht_5 _ (List.mem_of_getElem? (i := 39) rfl)
theorem hw_321 : Jvm.Cond.fieldLink "LedgerMachineModel" (193 : Nat) "LedgerMachineModel" "end" "I" ∈ lw_tbl := ht_5 _ (List.mem_of_getElem? (i := 90) rfl)
theorem hw_322 : Jvm.Cond.fieldLink "LedgerMachineModel" (196 : Nat) "LedgerMachineModel" "ended" "J" ∈ lw_tbl := ht_5 _ (List.mem_of_getElem? (i := 91) rfl)
theorem hw_323 : Jvm.Cond.fieldLink "LedgerMachineModel" (200 : Nat) "LedgerMachineModel" "gasLeft" "J" ∈ lw_tbl := ht_5 _ (List.mem_of_getElem? (i := 92) rfl)
theorem hw_324 : Jvm.Cond.fieldLink "LedgerMachineModel" (203 : Nat) "LedgerMachineModel" "depth" "I" ∈ lw_tbl := ht_5 _ (List.mem_of_getElem? (i := 81) rfl)
theorem hw_325 : Jvm.Cond.fieldLink "LedgerMachineModel" (212 : Nat) "LedgerMachineModel" "events" "I" ∈ lw_tbl := ht_5 _ (List.mem_of_getElem? (i := 84) rfl)
theorem hw_326 : Jvm.Cond.fieldLink "LedgerMachineModel" (215 : Nat) "LedgerMachineModel" "back" "I" ∈ lw_tbl := ht_5 _ (List.mem_of_getElem? (i := 88) rfl)
theorem hw_327 : Jvm.Cond.fieldLink "LedgerMachineModel" (218 : Nat) "LedgerMachineModel" "frames" "I" ∈ lw_tbl := ht_5 _ (List.mem_of_getElem? (i := 89) rfl)
theorem hw_328 : Jvm.Cond.fieldLink "LedgerMachineModel" (23 : Nat) "LedgerMachineModel" "oFrom" "[I" ∈ lw_tbl := ht_5 _ (List.mem_of_getElem? (i := 40) rfl)
theorem hw_329 : Jvm.Cond.fieldLink "LedgerMachineModel" (26 : Nat) "LedgerMachineModel" "oTo" "[I" ∈ lw_tbl := ht_5 _ (List.mem_of_getElem? (i := 41) rfl)
theorem hw_330 : Jvm.Cond.fieldLink "LedgerMachineModel" (272 : Nat) "LedgerMachineModel" "origin" "I" ∈ lw_tbl := ht_5 _ (List.mem_of_getElem? (i := 82) rfl)
theorem hw_331 : Jvm.Cond.fieldLink "LedgerMachineModel" (275 : Nat) "LedgerMachineModel" "height" "I" ∈ lw_tbl := ht_5 _ (List.mem_of_getElem? (i := 83) rfl)
theorem hw_332 : Jvm.Cond.fieldLink "LedgerMachineModel" (29 : Nat) "LedgerMachineModel" "oValue" "[J" ∈ lw_tbl := ht_5 _ (List.mem_of_getElem? (i := 42) rfl)
theorem hw_333 : Jvm.Cond.fieldLink "LedgerMachineModel" (33 : Nat) "LedgerMachineModel" "oArgument" "[J" ∈ lw_tbl := ht_5 _ (List.mem_of_getElem? (i := 43) rfl)
theorem hw_334 : Jvm.Cond.fieldLink "LedgerMachineModel" (338 : Nat) "LedgerMachineModel" "seenEnd" "I" ∈ lw_tbl := ht_5 _ (List.mem_of_getElem? (i := 93) rfl)
theorem hw_335 : Jvm.Cond.fieldLink "LedgerMachineModel" (341 : Nat) "LedgerMachineModel" "seenGas" "I" ∈ lw_tbl := ht_5 _ (List.mem_of_getElem? (i := 94) rfl)
theorem hw_336 : Jvm.Cond.fieldLink "LedgerMachineModel" (344 : Nat) "LedgerMachineModel" "seenFrames" "I" ∈ lw_tbl := ht_5 _ (List.mem_of_getElem? (i := 95) rfl)
theorem hw_337 : Jvm.Cond.fieldLink "LedgerMachineModel" (36 : Nat) "LedgerMachineModel" "oGas" "[I" ∈ lw_tbl := ht_5 _ (List.mem_of_getElem? (i := 44) rfl)
theorem hw_338 : Jvm.Cond.fieldLink "LedgerMachineModel" (39 : Nat) "LedgerMachineModel" "oPrice" "[I" ∈ lw_tbl := ht_5 _ (List.mem_of_getElem? (i := 45) rfl)
theorem hw_339 : Jvm.Cond.fieldLink "LedgerMachineModel" (42 : Nat) "LedgerMachineModel" "oNonce" "[I" ∈ lw_tbl := ht_5 _ (List.mem_of_getElem? (i := 46) rfl)
theorem hw_340 : Jvm.Cond.fieldLink "LedgerMachineModel" (45 : Nat) "LedgerMachineModel" "parent" "[I" ∈ lw_tbl := ht_5 _ (List.mem_of_getElem? (i := 48) rfl)
theorem hw_341 : Jvm.Cond.fieldLink "LedgerMachineModel" (48 : Nat) "LedgerMachineModel" "heightOf" "[I" ∈ lw_tbl := ht_5 _ (List.mem_of_getElem? (i := 49) rfl)
theorem hw_342 : Jvm.Cond.fieldLink "LedgerMachineModel" (51 : Nat) "LedgerMachineModel" "many" "[I" ∈ lw_tbl := ht_5 _ (List.mem_of_getElem? (i := 50) rfl)
theorem hw_343 : Jvm.Cond.fieldLink "LedgerMachineModel" (54 : Nat) "LedgerMachineModel" "eventMany" "[I" ∈ lw_tbl := ht_5 _ (List.mem_of_getElem? (i := 51) rfl)
theorem hw_344 : Jvm.Cond.fieldLink "LedgerMachineModel" (57 : Nat) "LedgerMachineModel" "gasOf" "[I" ∈ lw_tbl := ht_5 _ (List.mem_of_getElem? (i := 52) rfl)
theorem hw_345 : Jvm.Cond.fieldLink "LedgerMachineModel" (60 : Nat) "LedgerMachineModel" "votedFor" "[I" ∈ lw_tbl := ht_5 _ (List.mem_of_getElem? (i := 53) rfl)
theorem hw_346 : Jvm.Cond.fieldLink "LedgerMachineModel" (63 : Nat) "LedgerMachineModel" "isCertain" "[Z" ∈ lw_tbl := ht_5 _ (List.mem_of_getElem? (i := 54) rfl)
theorem hw_347 : Jvm.Cond.fieldLink "LedgerMachineModel" (66 : Nat) "LedgerMachineModel" "states" "[J" ∈ lw_tbl := ht_5 _ (List.mem_of_getElem? (i := 55) rfl)
theorem hw_348 : Jvm.Cond.fieldLink "LedgerMachineModel" (69 : Nat) "LedgerMachineModel" "rEnd" "[I" ∈ lw_tbl := ht_5 _ (List.mem_of_getElem? (i := 56) rfl)
theorem hw_349 : Jvm.Cond.fieldLink "LedgerMachineModel" (7 : Nat) "LedgerMachineModel" "codes" "[I" ∈ lw_tbl := ht_5 _ (List.mem_of_getElem? (i := 33) rfl)
theorem hw_350 : Jvm.Cond.fieldLink "LedgerMachineModel" (72 : Nat) "LedgerMachineModel" "rGas" "[I" ∈ lw_tbl := ht_5 _ (List.mem_of_getElem? (i := 57) rfl)
theorem hw_351 : Jvm.Cond.fieldLink "LedgerMachineModel" (75 : Nat) "LedgerMachineModel" "rValue" "[J" ∈ lw_tbl := ht_5 _ (List.mem_of_getElem? (i := 58) rfl)
theorem hw_352 : Jvm.Cond.fieldLink "LedgerMachineModel" (78 : Nat) "LedgerMachineModel" "eAccount" "[I" ∈ lw_tbl := ht_5 _ (List.mem_of_getElem? (i := 59) rfl)
theorem hw_353 : Jvm.Cond.fieldLink "LedgerMachineModel" (81 : Nat) "LedgerMachineModel" "eTopic" "[J" ∈ lw_tbl := ht_5 _ (List.mem_of_getElem? (i := 60) rfl)
theorem hw_354 : Jvm.Cond.fieldLink "LedgerMachineModel" (84 : Nat) "LedgerMachineModel" "eDatum" "[J" ∈ lw_tbl := ht_5 _ (List.mem_of_getElem? (i := 61) rfl)
theorem hw_355 : Jvm.Cond.fieldLink "LedgerMachineModel" (87 : Nat) "LedgerMachineModel" "eOrder" "[I" ∈ lw_tbl := ht_5 _ (List.mem_of_getElem? (i := 62) rfl)
theorem hw_356 : Jvm.Cond.fieldLink "LedgerMachineModel" (90 : Nat) "LedgerMachineModel" "weights" "[I" ∈ lw_tbl := ht_5 _ (List.mem_of_getElem? (i := 63) rfl)
theorem hw_357 : Jvm.Cond.fieldLink "LedgerMachineModel" (93 : Nat) "LedgerMachineModel" "hasVoted" "[Z" ∈ lw_tbl := ht_5 _ (List.mem_of_getElem? (i := 64) rfl)
theorem hw_358 : Jvm.Cond.fieldLink "LedgerMachineModel" (96 : Nat) "LedgerMachineModel" "besides" "[J" ∈ lw_tbl := ht_5 _ (List.mem_of_getElem? (i := 65) rfl)
theorem hw_359 : Jvm.Cond.fieldLink "LedgerMachineModel" (99 : Nat) "LedgerMachineModel" "now" "[J" ∈ lw_tbl := ht_5 _ (List.mem_of_getElem? (i := 66) rfl)
theorem hw_360 : Jvm.Cond.methodLink "LedgerMachine$Code" (15 : Nat) ({ cls := "LedgerMachine$Code", name := "octetAt", desc := "(I)I" } : Jvm.MethodName) ∈ lw_tbl := ht_4 _ (List.mem_of_getElem? (i := 19) rfl)
theorem hw_361 : Jvm.Cond.instanceMethod ({ cls := "LedgerMachine$Code", name := "octetAt", desc := "(I)I" } : Jvm.MethodName) ∈ lw_tbl := ht_3 _ (List.mem_of_getElem? (i := 216) rfl)
theorem hw_362 : Jvm.Cond.selects "LedgerMachine$Code" ({ cls := "LedgerMachine$Code", name := "octetAt", desc := "(I)I" } : Jvm.MethodName) ({ cls := "LedgerMachine$Code", name := "octetAt", desc := "(I)I" } : Jvm.MethodName) ∈ lw_tbl := ht_3 _ (List.mem_of_getElem? (i := 217) rfl)
theorem hw_363 : Jvm.Cond.methodLinkNest "LedgerMachine$CodeBook" (21 : Nat) ({ cls := "LedgerMachine", name := "isWithin", desc := "(JI)Z" } : Jvm.MethodName) "LedgerMachine" ∈ lw_tbl := ht_3 _ (List.mem_of_getElem? (i := 26) rfl)
theorem hw_364 : Jvm.Cond.static ({ cls := "LedgerMachine", name := "isWithin", desc := "(JI)Z" } : Jvm.MethodName) ∈ lw_tbl := ht_3 _ (List.mem_of_getElem? (i := 20) rfl)
theorem hw_365 : Jvm.Cond.methodLink "LedgerMachine$Draft" (23 : Nat) ({ cls := "java/util/Arrays", name := "copyOf", desc := "([BI)[B" } : Jvm.MethodName) ∈ lw_tbl := ht_2 _ (List.mem_of_getElem? (i := 218) rfl)
theorem hw_366 : Jvm.Cond.static ({ cls := "java/util/Arrays", name := "copyOf", desc := "([BI)[B" } : Jvm.MethodName) ∈ lw_tbl := ht_2 _ (List.mem_of_getElem? (i := 219) rfl)
theorem hw_367 : Jvm.Cond.methodLink "LedgerMachine$Draft" (29 : Nat) ({ cls := "LedgerMachine$Draft", name := "firstActThatIsNone", desc := "()I" } : Jvm.MethodName) ∈ lw_tbl := ht_2 _ (List.mem_of_getElem? (i := 195) rfl)
theorem hw_368 : Jvm.Cond.instanceMethod ({ cls := "LedgerMachine$Draft", name := "firstActThatIsNone", desc := "()I" } : Jvm.MethodName) ∈ lw_tbl := ht_2 _ (List.mem_of_getElem? (i := 197) rfl)
theorem hw_369 : Jvm.Cond.methodLink "LedgerMachine$Draft" (33 : Nat) ({ cls := "LedgerMachine$Draft", name := "firstLostJump", desc := "()I" } : Jvm.MethodName) ∈ lw_tbl := ht_2 _ (List.mem_of_getElem? (i := 206) rfl)
theorem hw_370 : Jvm.Cond.instanceMethod ({ cls := "LedgerMachine$Draft", name := "firstLostJump", desc := "()I" } : Jvm.MethodName) ∈ lw_tbl := ht_2 _ (List.mem_of_getElem? (i := 208) rfl)
theorem hw_371 : Jvm.Cond.methodLink "LedgerMachine$Draft" (36 : Nat) ({ cls := "LedgerMachine$Draft", name := "actSize", desc := "(I)I" } : Jvm.MethodName) ∈ lw_tbl := ht_2 _ (List.mem_of_getElem? (i := 199) rfl)
theorem hw_372 : Jvm.Cond.instanceMethod ({ cls := "LedgerMachine$Draft", name := "actSize", desc := "(I)I" } : Jvm.MethodName) ∈ lw_tbl := ht_2 _ (List.mem_of_getElem? (i := 201) rfl)
theorem hw_373 : Jvm.Cond.methodLink "LedgerMachine$Draft" (40 : Nat) ({ cls := "LedgerMachine$Code", name := "octetsBehind", desc := "(I)I" } : Jvm.MethodName) ∈ lw_tbl := ht_2 _ (List.mem_of_getElem? (i := 203) rfl)
theorem hw_374 : Jvm.Cond.static ({ cls := "LedgerMachine$Code", name := "octetsBehind", desc := "(I)I" } : Jvm.MethodName) ∈ lw_tbl := ht_2 _ (List.mem_of_getElem? (i := 204) rfl)
theorem hw_375 : Jvm.Cond.methodLink "LedgerMachine$Draft" (45 : Nat) ({ cls := "LedgerMachine$Draft", name := "isBegun", desc := "(I)Z" } : Jvm.MethodName) ∈ lw_tbl := ht_2 _ (List.mem_of_getElem? (i := 210) rfl)
theorem hw_376 : Jvm.Cond.instanceMethod ({ cls := "LedgerMachine$Draft", name := "isBegun", desc := "(I)Z" } : Jvm.MethodName) ∈ lw_tbl := ht_2 _ (List.mem_of_getElem? (i := 212) rfl)
theorem hw_377 : Jvm.Cond.methodLink "LedgerMachine$EventLog" (22 : Nat) ({ cls := "java/lang/Math", name := "min", desc := "(II)I" } : Jvm.MethodName) ∈ lw_tbl := ht_4 _ (List.mem_of_getElem? (i := 151) rfl)
theorem hw_378 : Jvm.Cond.static ({ cls := "java/lang/Math", name := "min", desc := "(II)I" } : Jvm.MethodName) ∈ lw_tbl := ht_2 _ (List.mem_of_getElem? (i := 229) rfl)
theorem hw_379 : Jvm.Cond.methodLink "LedgerMachine$EventLog" (28 : Nat) ({ cls := "java/util/Arrays", name := "copyOf", desc := "([JI)[J" } : Jvm.MethodName) ∈ lw_tbl := ht_4 _ (List.mem_of_getElem? (i := 152) rfl)
theorem hw_380 : Jvm.Cond.static ({ cls := "java/util/Arrays", name := "copyOf", desc := "([JI)[J" } : Jvm.MethodName) ∈ lw_tbl := ht_4 _ (List.mem_of_getElem? (i := 153) rfl)
theorem hw_381 : Jvm.Cond.methodLink "LedgerMachine$Frame" (62 : Nat) ({ cls := "LedgerMachine$Code", name := "octetAt", desc := "(I)I" } : Jvm.MethodName) ∈ lw_tbl := ht_3 _ (List.mem_of_getElem? (i := 215) rfl)
theorem hw_382 : Jvm.Cond.methodLink "LedgerMachine$Frame" (71 : Nat) ({ cls := "LedgerMachine$Code", name := "octetsBehind", desc := "(I)I" } : Jvm.MethodName) ∈ lw_tbl := ht_3 _ (List.mem_of_getElem? (i := 219) rfl)
theorem hw_383 : Jvm.Cond.methodLink "LedgerMachine$Frame" (74 : Nat) ({ cls := "java/lang/Math", name := "max", desc := "(JJ)J" } : Jvm.MethodName) ∈ lw_tbl := ht_4 _ (List.mem_of_getElem? (i := 58) rfl)
theorem hw_384 : Jvm.Cond.static ({ cls := "java/lang/Math", name := "max", desc := "(JJ)J" } : Jvm.MethodName) ∈ lw_tbl := ht_4 _ (List.mem_of_getElem? (i := 59) rfl)
theorem hw_385 : Jvm.Cond.methodLink "LedgerMachine$Frame" (80 : Nat) ({ cls := "java/lang/Math", name := "min", desc := "(JJ)J" } : Jvm.MethodName) ∈ lw_tbl := ht_4 _ (List.mem_of_getElem? (i := 61) rfl)
theorem hw_386 : Jvm.Cond.static ({ cls := "java/lang/Math", name := "min", desc := "(JJ)J" } : Jvm.MethodName) ∈ lw_tbl := ht_4 _ (List.mem_of_getElem? (i := 62) rfl)
theorem hw_387 : Jvm.Cond.methodLink "LedgerMachine$Frame" (83 : Nat) ({ cls := "LedgerMachine$Frame", name := "operand", desc := "()I" } : Jvm.MethodName) ∈ lw_tbl := ht_3 _ (List.mem_of_getElem? (i := 230) rfl)
theorem hw_388 : Jvm.Cond.instanceMethod ({ cls := "LedgerMachine$Frame", name := "operand", desc := "()I" } : Jvm.MethodName) ∈ lw_tbl := ht_3 _ (List.mem_of_getElem? (i := 232) rfl)
theorem hw_389 : Jvm.Cond.methodLink "LedgerMachine$Frame" (91 : Nat) ({ cls := "LedgerMachine$Frame", name := "leavesOneMore", desc := "(I)Z" } : Jvm.MethodName) ∈ lw_tbl := ht_3 _ (List.mem_of_getElem? (i := 236) rfl)
theorem hw_390 : Jvm.Cond.static ({ cls := "LedgerMachine$Frame", name := "leavesOneMore", desc := "(I)Z" } : Jvm.MethodName) ∈ lw_tbl := ht_3 _ (List.mem_of_getElem? (i := 237) rfl)
theorem hw_391 : Jvm.Cond.methodLink "LedgerMachine$Frame" (95 : Nat) ({ cls := "LedgerMachine$Frame", name := "push", desc := "(J)V" } : Jvm.MethodName) ∈ lw_tbl := ht_4 _ (List.mem_of_getElem? (i := 14) rfl)
theorem hw_392 : Jvm.Cond.instanceMethod ({ cls := "LedgerMachine$Frame", name := "push", desc := "(J)V" } : Jvm.MethodName) ∈ lw_tbl := ht_3 _ (List.mem_of_getElem? (i := 185) rfl)
theorem hw_393 : Jvm.Cond.selects "LedgerMachine$Frame" ({ cls := "LedgerMachine$Frame", name := "push", desc := "(J)V" } : Jvm.MethodName) ({ cls := "LedgerMachine$Frame", name := "push", desc := "(J)V" } : Jvm.MethodName) ∈ lw_tbl := ht_3 _ (List.mem_of_getElem? (i := 186) rfl)
theorem hw_394 : Jvm.Cond.methodLink "LedgerMachine$Frame" (99 : Nat) ({ cls := "LedgerMachine$Code", name := "numberAt", desc := "(I)J" } : Jvm.MethodName) ∈ lw_tbl := ht_4 _ (List.mem_of_getElem? (i := 15) rfl)
theorem hw_395 : Jvm.Cond.instanceMethod ({ cls := "LedgerMachine$Code", name := "numberAt", desc := "(I)J" } : Jvm.MethodName) ∈ lw_tbl := ht_4 _ (List.mem_of_getElem? (i := 16) rfl)
theorem hw_396 : Jvm.Cond.selects "LedgerMachine$Code" ({ cls := "LedgerMachine$Code", name := "numberAt", desc := "(I)J" } : Jvm.MethodName) ({ cls := "LedgerMachine$Code", name := "numberAt", desc := "(I)J" } : Jvm.MethodName) ∈ lw_tbl := ht_4 _ (List.mem_of_getElem? (i := 17) rfl)
theorem hw_397 : Jvm.Cond.methodLink "LedgerMachine$Frame" (103 : Nat) ({ cls := "LedgerMachine$Frame", name := "pop", desc := "()J" } : Jvm.MethodName) ∈ lw_tbl := ht_4 _ (List.mem_of_getElem? (i := 20) rfl)
theorem hw_398 : Jvm.Cond.instanceMethod ({ cls := "LedgerMachine$Frame", name := "pop", desc := "()J" } : Jvm.MethodName) ∈ lw_tbl := ht_4 _ (List.mem_of_getElem? (i := 21) rfl)
theorem hw_399 : Jvm.Cond.selects "LedgerMachine$Frame" ({ cls := "LedgerMachine$Frame", name := "pop", desc := "()J" } : Jvm.MethodName) ({ cls := "LedgerMachine$Frame", name := "pop", desc := "()J" } : Jvm.MethodName) ∈ lw_tbl := ht_4 _ (List.mem_of_getElem? (i := 22) rfl)
theorem hw_400 : Jvm.Cond.methodLink "LedgerMachine$Frame" (107 : Nat) ({ cls := "LedgerMachine$Frame", name := "swap", desc := "(II)V" } : Jvm.MethodName) ∈ lw_tbl := ht_4 _ (List.mem_of_getElem? (i := 24) rfl)
theorem hw_401 : Jvm.Cond.instanceMethod ({ cls := "LedgerMachine$Frame", name := "swap", desc := "(II)V" } : Jvm.MethodName) ∈ lw_tbl := ht_4 _ (List.mem_of_getElem? (i := 26) rfl)
theorem hw_402 : Jvm.Cond.methodLink "LedgerMachine$Frame" (111 : Nat) ({ cls := "LedgerMachine$Frame", name := "joined", desc := "(IJJ)J" } : Jvm.MethodName) ∈ lw_tbl := ht_4 _ (List.mem_of_getElem? (i := 114) rfl)
theorem hw_403 : Jvm.Cond.static ({ cls := "LedgerMachine$Frame", name := "joined", desc := "(IJJ)J" } : Jvm.MethodName) ∈ lw_tbl := ht_4 _ (List.mem_of_getElem? (i := 115) rfl)
theorem hw_404 : Jvm.Cond.methodLinkNest "LedgerMachine$Machine" (11 : Nat) ({ cls := "LedgerMachine$CodeBook", name := "<init>", desc := "()V" } : Jvm.MethodName) "LedgerMachine" ∈ lw_tbl := ht_1 _ (List.mem_of_getElem? (i := 56) rfl)
theorem hw_405 : Jvm.Cond.instanceMethod ({ cls := "LedgerMachine$CodeBook", name := "<init>", desc := "()V" } : Jvm.MethodName) ∈ lw_tbl := ht_1 _ (List.mem_of_getElem? (i := 57) rfl)
theorem hw_406 : Jvm.Cond.methodLinkNest "LedgerMachine$Machine" (20 : Nat) ({ cls := "LedgerMachine$State", name := "<init>", desc := "()V" } : Jvm.MethodName) "LedgerMachine" ∈ lw_tbl := ht_1 _ (List.mem_of_getElem? (i := 72) rfl)
theorem hw_407 : Jvm.Cond.instanceMethod ({ cls := "LedgerMachine$State", name := "<init>", desc := "()V" } : Jvm.MethodName) ∈ lw_tbl := ht_1 _ (List.mem_of_getElem? (i := 73) rfl)
theorem hw_408 : Jvm.Cond.methodLinkNest "LedgerMachine$Machine" (27 : Nat) ({ cls := "LedgerMachine$EventLog", name := "<init>", desc := "()V" } : Jvm.MethodName) "LedgerMachine" ∈ lw_tbl := ht_1 _ (List.mem_of_getElem? (i := 83) rfl)
theorem hw_409 : Jvm.Cond.instanceMethod ({ cls := "LedgerMachine$EventLog", name := "<init>", desc := "()V" } : Jvm.MethodName) ∈ lw_tbl := ht_1 _ (List.mem_of_getElem? (i := 84) rfl)
theorem hw_410 : Jvm.Cond.methodLinkNest "LedgerMachine$Machine" (34 : Nat) ({ cls := "LedgerMachine$Call", name := "<init>", desc := "()V" } : Jvm.MethodName) "LedgerMachine" ∈ lw_tbl := ht_1 _ (List.mem_of_getElem? (i := 100) rfl)
theorem hw_411 : Jvm.Cond.instanceMethod ({ cls := "LedgerMachine$Call", name := "<init>", desc := "()V" } : Jvm.MethodName) ∈ lw_tbl := ht_1 _ (List.mem_of_getElem? (i := 101) rfl)
theorem hw_412 : Jvm.Cond.methodLinkNest "LedgerMachine$Machine" (45 : Nat) ({ cls := "LedgerMachine$Frame", name := "<init>", desc := "()V" } : Jvm.MethodName) "LedgerMachine" ∈ lw_tbl := ht_1 _ (List.mem_of_getElem? (i := 136) rfl)
theorem hw_413 : Jvm.Cond.instanceMethod ({ cls := "LedgerMachine$Frame", name := "<init>", desc := "()V" } : Jvm.MethodName) ∈ lw_tbl := ht_1 _ (List.mem_of_getElem? (i := 137) rfl)
theorem hw_414 : Jvm.Cond.methodLink "LedgerMachine$Machine" (46 : Nat) ({ cls := "LedgerMachine$State", name := "loadFrom", desc := "([J)V" } : Jvm.MethodName) ∈ lw_tbl := ht_3 _ (List.mem_of_getElem? (i := 117) rfl)
theorem hw_415 : Jvm.Cond.instanceMethod ({ cls := "LedgerMachine$State", name := "loadFrom", desc := "([J)V" } : Jvm.MethodName) ∈ lw_tbl := ht_3 _ (List.mem_of_getElem? (i := 118) rfl)
theorem hw_416 : Jvm.Cond.selects "LedgerMachine$State" ({ cls := "LedgerMachine$State", name := "loadFrom", desc := "([J)V" } : Jvm.MethodName) ({ cls := "LedgerMachine$State", name := "loadFrom", desc := "([J)V" } : Jvm.MethodName) ∈ lw_tbl := ht_3 _ (List.mem_of_getElem? (i := 119) rfl)
theorem hw_417 : Jvm.Cond.methodLink "LedgerMachine$Machine" (50 : Nat) ({ cls := "LedgerMachine$EventLog", name := "clear", desc := "()V" } : Jvm.MethodName) ∈ lw_tbl := ht_3 _ (List.mem_of_getElem? (i := 122) rfl)
theorem hw_418 : Jvm.Cond.instanceMethod ({ cls := "LedgerMachine$EventLog", name := "clear", desc := "()V" } : Jvm.MethodName) ∈ lw_tbl := ht_3 _ (List.mem_of_getElem? (i := 123) rfl)
theorem hw_419 : Jvm.Cond.selects "LedgerMachine$EventLog" ({ cls := "LedgerMachine$EventLog", name := "clear", desc := "()V" } : Jvm.MethodName) ({ cls := "LedgerMachine$EventLog", name := "clear", desc := "()V" } : Jvm.MethodName) ∈ lw_tbl := ht_3 _ (List.mem_of_getElem? (i := 124) rfl)
theorem hw_420 : Jvm.Cond.methodLink "LedgerMachine$Machine" (69 : Nat) ({ cls := "LedgerMachine$Call", name := "set", desc := "(IJJJIZ)V" } : Jvm.MethodName) ∈ lw_tbl := ht_3 _ (List.mem_of_getElem? (i := 162) rfl)
theorem hw_421 : Jvm.Cond.instanceMethod ({ cls := "LedgerMachine$Call", name := "set", desc := "(IJJJIZ)V" } : Jvm.MethodName) ∈ lw_tbl := ht_3 _ (List.mem_of_getElem? (i := 163) rfl)
theorem hw_422 : Jvm.Cond.selects "LedgerMachine$Call" ({ cls := "LedgerMachine$Call", name := "set", desc := "(IJJJIZ)V" } : Jvm.MethodName) ({ cls := "LedgerMachine$Call", name := "set", desc := "(IJJJIZ)V" } : Jvm.MethodName) ∈ lw_tbl := ht_3 _ (List.mem_of_getElem? (i := 164) rfl)
theorem hw_423 : Jvm.Cond.methodLink "LedgerMachine$Machine" (73 : Nat) ({ cls := "LedgerMachine$Machine", name := "begin", desc := "()V" } : Jvm.MethodName) ∈ lw_tbl := ht_3 _ (List.mem_of_getElem? (i := 166) rfl)
theorem hw_424 : Jvm.Cond.instanceMethod ({ cls := "LedgerMachine$Machine", name := "begin", desc := "()V" } : Jvm.MethodName) ∈ lw_tbl := ht_3 _ (List.mem_of_getElem? (i := 168) rfl)
theorem hw_425 : Jvm.Cond.methodLink "LedgerMachine$Machine" (77 : Nat) ({ cls := "LedgerMachine$Frame", name := "nextAct", desc := "()I" } : Jvm.MethodName) ∈ lw_tbl := ht_3 _ (List.mem_of_getElem? (i := 211) rfl)
theorem hw_426 : Jvm.Cond.instanceMethod ({ cls := "LedgerMachine$Frame", name := "nextAct", desc := "()I" } : Jvm.MethodName) ∈ lw_tbl := ht_3 _ (List.mem_of_getElem? (i := 212) rfl)
theorem hw_427 : Jvm.Cond.selects "LedgerMachine$Frame" ({ cls := "LedgerMachine$Frame", name := "nextAct", desc := "()I" } : Jvm.MethodName) ({ cls := "LedgerMachine$Frame", name := "nextAct", desc := "()I" } : Jvm.MethodName) ∈ lw_tbl := ht_3 _ (List.mem_of_getElem? (i := 213) rfl)
theorem hw_428 : Jvm.Cond.methodLink "LedgerMachine$Machine" (85 : Nat) ({ cls := "LedgerMachine$Frame", name := "pays", desc := "(I)Z" } : Jvm.MethodName) ∈ lw_tbl := ht_3 _ (List.mem_of_getElem? (i := 222) rfl)
theorem hw_429 : Jvm.Cond.instanceMethod ({ cls := "LedgerMachine$Frame", name := "pays", desc := "(I)Z" } : Jvm.MethodName) ∈ lw_tbl := ht_3 _ (List.mem_of_getElem? (i := 223) rfl)
theorem hw_430 : Jvm.Cond.selects "LedgerMachine$Frame" ({ cls := "LedgerMachine$Frame", name := "pays", desc := "(I)Z" } : Jvm.MethodName) ({ cls := "LedgerMachine$Frame", name := "pays", desc := "(I)Z" } : Jvm.MethodName) ∈ lw_tbl := ht_3 _ (List.mem_of_getElem? (i := 224) rfl)
theorem hw_431 : Jvm.Cond.methodLink "LedgerMachine$Machine" (89 : Nat) ({ cls := "LedgerMachine$Frame", name := "fits", desc := "(I)Z" } : Jvm.MethodName) ∈ lw_tbl := ht_3 _ (List.mem_of_getElem? (i := 226) rfl)
theorem hw_432 : Jvm.Cond.instanceMethod ({ cls := "LedgerMachine$Frame", name := "fits", desc := "(I)Z" } : Jvm.MethodName) ∈ lw_tbl := ht_3 _ (List.mem_of_getElem? (i := 227) rfl)
theorem hw_433 : Jvm.Cond.selects "LedgerMachine$Frame" ({ cls := "LedgerMachine$Frame", name := "fits", desc := "(I)Z" } : Jvm.MethodName) ({ cls := "LedgerMachine$Frame", name := "fits", desc := "(I)Z" } : Jvm.MethodName) ∈ lw_tbl := ht_3 _ (List.mem_of_getElem? (i := 228) rfl)
theorem hw_434 : Jvm.Cond.methodLink "LedgerMachine$Machine" (96 : Nat) ({ cls := "LedgerMachine$Machine", name := "changesState", desc := "(I)Z" } : Jvm.MethodName) ∈ lw_tbl := ht_3 _ (List.mem_of_getElem? (i := 239) rfl)
theorem hw_435 : Jvm.Cond.static ({ cls := "LedgerMachine$Machine", name := "changesState", desc := "(I)Z" } : Jvm.MethodName) ∈ lw_tbl := ht_4 _ (List.mem_of_getElem? (i := 0) rfl)
theorem hw_436 : Jvm.Cond.methodLink "LedgerMachine$Machine" (99 : Nat) ({ cls := "LedgerMachine$Machine", name := "perform", desc := "(LLedgerMachine$Frame;I)I" } : Jvm.MethodName) ∈ lw_tbl := ht_4 _ (List.mem_of_getElem? (i := 2) rfl)
theorem hw_437 : Jvm.Cond.instanceMethod ({ cls := "LedgerMachine$Machine", name := "perform", desc := "(LLedgerMachine$Frame;I)I" } : Jvm.MethodName) ∈ lw_tbl := ht_4 _ (List.mem_of_getElem? (i := 4) rfl)
theorem hw_438 : Jvm.Cond.methodLink "LedgerMachine$Machine" (103 : Nat) ({ cls := "LedgerMachine$Machine", name := "finish", desc := "(LLedgerMachine$Frame;I)V" } : Jvm.MethodName) ∈ lw_tbl := ht_4 _ (List.mem_of_getElem? (i := 125) rfl)
theorem hw_439 : Jvm.Cond.instanceMethod ({ cls := "LedgerMachine$Machine", name := "finish", desc := "(LLedgerMachine$Frame;I)V" } : Jvm.MethodName) ∈ lw_tbl := ht_4 _ (List.mem_of_getElem? (i := 127) rfl)
theorem hw_440 : Jvm.Cond.methodLink "LedgerMachine$Machine" (107 : Nat) ({ cls := "LedgerMachine$Machine", name := "fails", desc := "()Z" } : Jvm.MethodName) ∈ lw_tbl := ht_3 _ (List.mem_of_getElem? (i := 170) rfl)
theorem hw_441 : Jvm.Cond.instanceMethod ({ cls := "LedgerMachine$Machine", name := "fails", desc := "()Z" } : Jvm.MethodName) ∈ lw_tbl := ht_3 _ (List.mem_of_getElem? (i := 172) rfl)
theorem hw_442 : Jvm.Cond.methodLink "LedgerMachine$Machine" (114 : Nat) ({ cls := "LedgerMachine$Machine", name := "end", desc := "(IJI)V" } : Jvm.MethodName) ∈ lw_tbl := ht_3 _ (List.mem_of_getElem? (i := 180) rfl)
theorem hw_443 : Jvm.Cond.instanceMethod ({ cls := "LedgerMachine$Machine", name := "end", desc := "(IJI)V" } : Jvm.MethodName) ∈ lw_tbl := ht_3 _ (List.mem_of_getElem? (i := 182) rfl)
theorem hw_444 : Jvm.Cond.methodLink "LedgerMachine$Machine" (122 : Nat) ({ cls := "LedgerMachine$State", name := "codeOf", desc := "(I)J" } : Jvm.MethodName) ∈ lw_tbl := ht_3 _ (List.mem_of_getElem? (i := 188) rfl)
theorem hw_445 : Jvm.Cond.instanceMethod ({ cls := "LedgerMachine$State", name := "codeOf", desc := "(I)J" } : Jvm.MethodName) ∈ lw_tbl := ht_3 _ (List.mem_of_getElem? (i := 189) rfl)
theorem hw_446 : Jvm.Cond.selects "LedgerMachine$State" ({ cls := "LedgerMachine$State", name := "codeOf", desc := "(I)J" } : Jvm.MethodName) ({ cls := "LedgerMachine$State", name := "codeOf", desc := "(I)J" } : Jvm.MethodName) ∈ lw_tbl := ht_3 _ (List.mem_of_getElem? (i := 190) rfl)
theorem hw_447 : Jvm.Cond.methodLink "LedgerMachine$Machine" (126 : Nat) ({ cls := "LedgerMachine$CodeBook", name := "has", desc := "(J)Z" } : Jvm.MethodName) ∈ lw_tbl := ht_3 _ (List.mem_of_getElem? (i := 192) rfl)
theorem hw_448 : Jvm.Cond.instanceMethod ({ cls := "LedgerMachine$CodeBook", name := "has", desc := "(J)Z" } : Jvm.MethodName) ∈ lw_tbl := ht_3 _ (List.mem_of_getElem? (i := 23) rfl)
theorem hw_449 : Jvm.Cond.selects "LedgerMachine$CodeBook" ({ cls := "LedgerMachine$CodeBook", name := "has", desc := "(J)Z" } : Jvm.MethodName) ({ cls := "LedgerMachine$CodeBook", name := "has", desc := "(J)Z" } : Jvm.MethodName) ∈ lw_tbl := ht_3 _ (List.mem_of_getElem? (i := 24) rfl)
theorem hw_450 : Jvm.Cond.methodLink "LedgerMachine$Machine" (136 : Nat) ({ cls := "LedgerMachine$State", name := "move", desc := "(IIJ)V" } : Jvm.MethodName) ∈ lw_tbl := ht_3 _ (List.mem_of_getElem? (i := 193) rfl)
theorem hw_451 : Jvm.Cond.instanceMethod ({ cls := "LedgerMachine$State", name := "move", desc := "(IIJ)V" } : Jvm.MethodName) ∈ lw_tbl := ht_3 _ (List.mem_of_getElem? (i := 194) rfl)
theorem hw_452 : Jvm.Cond.selects "LedgerMachine$State" ({ cls := "LedgerMachine$State", name := "move", desc := "(IIJ)V" } : Jvm.MethodName) ({ cls := "LedgerMachine$State", name := "move", desc := "(IIJ)V" } : Jvm.MethodName) ∈ lw_tbl := ht_3 _ (List.mem_of_getElem? (i := 195) rfl)
theorem hw_453 : Jvm.Cond.methodLink "LedgerMachine$Machine" (144 : Nat) ({ cls := "LedgerMachine$Frame", name := "begin", desc := "(LLedgerMachine$Call;LLedgerMachine$Code;)V" } : Jvm.MethodName) ∈ lw_tbl := ht_3 _ (List.mem_of_getElem? (i := 198) rfl)
theorem hw_454 : Jvm.Cond.instanceMethod ({ cls := "LedgerMachine$Frame", name := "begin", desc := "(LLedgerMachine$Call;LLedgerMachine$Code;)V" } : Jvm.MethodName) ∈ lw_tbl := ht_3 _ (List.mem_of_getElem? (i := 199) rfl)
theorem hw_455 : Jvm.Cond.selects "LedgerMachine$Frame" ({ cls := "LedgerMachine$Frame", name := "begin", desc := "(LLedgerMachine$Call;LLedgerMachine$Code;)V" } : Jvm.MethodName) ({ cls := "LedgerMachine$Frame", name := "begin", desc := "(LLedgerMachine$Call;LLedgerMachine$Code;)V" } : Jvm.MethodName) ∈ lw_tbl := ht_3 _ (List.mem_of_getElem? (i := 200) rfl)
theorem hw_456 : Jvm.Cond.methodLink "LedgerMachine$Machine" (147 : Nat) ({ cls := "LedgerMachine$Machine", name := "remember", desc := "(LLedgerMachine$Frame;)V" } : Jvm.MethodName) ∈ lw_tbl := ht_3 _ (List.mem_of_getElem? (i := 202) rfl)
theorem hw_457 : Jvm.Cond.instanceMethod ({ cls := "LedgerMachine$Machine", name := "remember", desc := "(LLedgerMachine$Frame;)V" } : Jvm.MethodName) ∈ lw_tbl := ht_3 _ (List.mem_of_getElem? (i := 204) rfl)
theorem hw_458 : Jvm.Cond.methodLinkNest "LedgerMachine$Machine" (151 : Nat) ({ cls := "LedgerMachine", name := "isAccount", desc := "(J)Z" } : Jvm.MethodName) "LedgerMachine" ∈ lw_tbl := ht_3 _ (List.mem_of_getElem? (i := 174) rfl)
theorem hw_459 : Jvm.Cond.static ({ cls := "LedgerMachine", name := "isAccount", desc := "(J)Z" } : Jvm.MethodName) ∈ lw_tbl := ht_3 _ (List.mem_of_getElem? (i := 17) rfl)
theorem hw_460 : Jvm.Cond.methodLink "LedgerMachine$Machine" (154 : Nat) ({ cls := "LedgerMachine$State", name := "balanceOf", desc := "(I)J" } : Jvm.MethodName) ∈ lw_tbl := ht_3 _ (List.mem_of_getElem? (i := 175) rfl)
theorem hw_461 : Jvm.Cond.instanceMethod ({ cls := "LedgerMachine$State", name := "balanceOf", desc := "(I)J" } : Jvm.MethodName) ∈ lw_tbl := ht_3 _ (List.mem_of_getElem? (i := 143) rfl)
theorem hw_462 : Jvm.Cond.selects "LedgerMachine$State" ({ cls := "LedgerMachine$State", name := "balanceOf", desc := "(I)J" } : Jvm.MethodName) ({ cls := "LedgerMachine$State", name := "balanceOf", desc := "(I)J" } : Jvm.MethodName) ∈ lw_tbl := ht_3 _ (List.mem_of_getElem? (i := 144) rfl)
theorem hw_463 : Jvm.Cond.methodLink "LedgerMachine$Machine" (157 : Nat) ({ cls := "LedgerMachine$Machine", name := "hasLock", desc := "(I)Z" } : Jvm.MethodName) ∈ lw_tbl := ht_3 _ (List.mem_of_getElem? (i := 176) rfl)
theorem hw_464 : Jvm.Cond.instanceMethod ({ cls := "LedgerMachine$Machine", name := "hasLock", desc := "(I)Z" } : Jvm.MethodName) ∈ lw_tbl := ht_3 _ (List.mem_of_getElem? (i := 178) rfl)
theorem hw_465 : Jvm.Cond.methodLink "LedgerMachine$Machine" (169 : Nat) ({ cls := "LedgerMachine$State", name := "saveTo", desc := "([J)V" } : Jvm.MethodName) ∈ lw_tbl := ht_3 _ (List.mem_of_getElem? (i := 206) rfl)
theorem hw_466 : Jvm.Cond.instanceMethod ({ cls := "LedgerMachine$State", name := "saveTo", desc := "([J)V" } : Jvm.MethodName) ∈ lw_tbl := ht_3 _ (List.mem_of_getElem? (i := 207) rfl)
theorem hw_467 : Jvm.Cond.selects "LedgerMachine$State" ({ cls := "LedgerMachine$State", name := "saveTo", desc := "([J)V" } : Jvm.MethodName) ({ cls := "LedgerMachine$State", name := "saveTo", desc := "([J)V" } : Jvm.MethodName) ∈ lw_tbl := ht_3 _ (List.mem_of_getElem? (i := 208) rfl)
theorem hw_468 : Jvm.Cond.methodLink "LedgerMachine$Machine" (181 : Nat) ({ cls := "LedgerMachine$EventLog", name := "backTo", desc := "(I)V" } : Jvm.MethodName) ∈ lw_tbl := ht_4 _ (List.mem_of_getElem? (i := 133) rfl)
theorem hw_469 : Jvm.Cond.instanceMethod ({ cls := "LedgerMachine$EventLog", name := "backTo", desc := "(I)V" } : Jvm.MethodName) ∈ lw_tbl := ht_4 _ (List.mem_of_getElem? (i := 134) rfl)
theorem hw_470 : Jvm.Cond.selects "LedgerMachine$EventLog" ({ cls := "LedgerMachine$EventLog", name := "backTo", desc := "(I)V" } : Jvm.MethodName) ({ cls := "LedgerMachine$EventLog", name := "backTo", desc := "(I)V" } : Jvm.MethodName) ∈ lw_tbl := ht_4 _ (List.mem_of_getElem? (i := 135) rfl)
theorem hw_471 : Jvm.Cond.methodLink "LedgerMachine$Machine" (185 : Nat) ({ cls := "LedgerMachine$Machine", name := "undo", desc := "(LLedgerMachine$Frame;)V" } : Jvm.MethodName) ∈ lw_tbl := ht_4 _ (List.mem_of_getElem? (i := 129) rfl)
theorem hw_472 : Jvm.Cond.instanceMethod ({ cls := "LedgerMachine$Machine", name := "undo", desc := "(LLedgerMachine$Frame;)V" } : Jvm.MethodName) ∈ lw_tbl := ht_4 _ (List.mem_of_getElem? (i := 131) rfl)
theorem hw_473 : Jvm.Cond.methodLink "LedgerMachine$Machine" (198 : Nat) ({ cls := "LedgerMachine$Frame", name := "push", desc := "(J)V" } : Jvm.MethodName) ∈ lw_tbl := ht_3 _ (List.mem_of_getElem? (i := 184) rfl)
theorem hw_474 : Jvm.Cond.methodLink "LedgerMachine$Machine" (202 : Nat) ({ cls := "LedgerMachine$Machine", name := "endWith", desc := "(IJ)I" } : Jvm.MethodName) ∈ lw_tbl := ht_4 _ (List.mem_of_getElem? (i := 6) rfl)
theorem hw_475 : Jvm.Cond.instanceMethod ({ cls := "LedgerMachine$Machine", name := "endWith", desc := "(IJ)I" } : Jvm.MethodName) ∈ lw_tbl := ht_4 _ (List.mem_of_getElem? (i := 8) rfl)
theorem hw_476 : Jvm.Cond.methodLink "LedgerMachine$Machine" (206 : Nat) ({ cls := "LedgerMachine$Frame", name := "arrange", desc := "(I)V" } : Jvm.MethodName) ∈ lw_tbl := ht_4 _ (List.mem_of_getElem? (i := 10) rfl)
theorem hw_477 : Jvm.Cond.instanceMethod ({ cls := "LedgerMachine$Frame", name := "arrange", desc := "(I)V" } : Jvm.MethodName) ∈ lw_tbl := ht_4 _ (List.mem_of_getElem? (i := 11) rfl)
theorem hw_478 : Jvm.Cond.selects "LedgerMachine$Frame" ({ cls := "LedgerMachine$Frame", name := "arrange", desc := "(I)V" } : Jvm.MethodName) ({ cls := "LedgerMachine$Frame", name := "arrange", desc := "(I)V" } : Jvm.MethodName) ∈ lw_tbl := ht_4 _ (List.mem_of_getElem? (i := 12) rfl)
theorem hw_479 : Jvm.Cond.methodLink "LedgerMachine$Machine" (209 : Nat) ({ cls := "LedgerMachine$Frame", name := "pop", desc := "()J" } : Jvm.MethodName) ∈ lw_tbl := ht_4 _ (List.mem_of_getElem? (i := 28) rfl)
theorem hw_480 : Jvm.Cond.methodLink "LedgerMachine$Machine" (213 : Nat) ({ cls := "LedgerMachine$Frame", name := "jump", desc := "()V" } : Jvm.MethodName) ∈ lw_tbl := ht_4 _ (List.mem_of_getElem? (i := 29) rfl)
theorem hw_481 : Jvm.Cond.instanceMethod ({ cls := "LedgerMachine$Frame", name := "jump", desc := "()V" } : Jvm.MethodName) ∈ lw_tbl := ht_4 _ (List.mem_of_getElem? (i := 30) rfl)
theorem hw_482 : Jvm.Cond.selects "LedgerMachine$Frame" ({ cls := "LedgerMachine$Frame", name := "jump", desc := "()V" } : Jvm.MethodName) ({ cls := "LedgerMachine$Frame", name := "jump", desc := "()V" } : Jvm.MethodName) ∈ lw_tbl := ht_4 _ (List.mem_of_getElem? (i := 31) rfl)
theorem hw_483 : Jvm.Cond.methodLink "LedgerMachine$Machine" (216 : Nat) ({ cls := "LedgerMachine$Machine", name := "loadCell", desc := "(LLedgerMachine$Frame;)I" } : Jvm.MethodName) ∈ lw_tbl := ht_4 _ (List.mem_of_getElem? (i := 33) rfl)
theorem hw_484 : Jvm.Cond.instanceMethod ({ cls := "LedgerMachine$Machine", name := "loadCell", desc := "(LLedgerMachine$Frame;)I" } : Jvm.MethodName) ∈ lw_tbl := ht_4 _ (List.mem_of_getElem? (i := 35) rfl)
theorem hw_485 : Jvm.Cond.methodLink "LedgerMachine$Machine" (220 : Nat) ({ cls := "LedgerMachine$Machine", name := "storeCell", desc := "(LLedgerMachine$Frame;JJ)I" } : Jvm.MethodName) ∈ lw_tbl := ht_4 _ (List.mem_of_getElem? (i := 42) rfl)
theorem hw_486 : Jvm.Cond.instanceMethod ({ cls := "LedgerMachine$Machine", name := "storeCell", desc := "(LLedgerMachine$Frame;JJ)I" } : Jvm.MethodName) ∈ lw_tbl := ht_4 _ (List.mem_of_getElem? (i := 44) rfl)
theorem hw_487 : Jvm.Cond.methodLink "LedgerMachine$Machine" (224 : Nat) ({ cls := "LedgerMachine$Machine", name := "prepareCall", desc := "(LLedgerMachine$Frame;)I" } : Jvm.MethodName) ∈ lw_tbl := ht_4 _ (List.mem_of_getElem? (i := 50) rfl)
theorem hw_488 : Jvm.Cond.instanceMethod ({ cls := "LedgerMachine$Machine", name := "prepareCall", desc := "(LLedgerMachine$Frame;)I" } : Jvm.MethodName) ∈ lw_tbl := ht_4 _ (List.mem_of_getElem? (i := 52) rfl)
theorem hw_489 : Jvm.Cond.methodLink "LedgerMachine$Machine" (227 : Nat) ({ cls := "LedgerMachine$Machine", name := "prepareLook", desc := "(LLedgerMachine$Frame;)I" } : Jvm.MethodName) ∈ lw_tbl := ht_4 _ (List.mem_of_getElem? (i := 64) rfl)
theorem hw_490 : Jvm.Cond.instanceMethod ({ cls := "LedgerMachine$Machine", name := "prepareLook", desc := "(LLedgerMachine$Frame;)I" } : Jvm.MethodName) ∈ lw_tbl := ht_4 _ (List.mem_of_getElem? (i := 66) rfl)
theorem hw_491 : Jvm.Cond.methodLink "LedgerMachine$Machine" (230 : Nat) ({ cls := "LedgerMachine$Machine", name := "make", desc := "(LLedgerMachine$Frame;JJ)I" } : Jvm.MethodName) ∈ lw_tbl := ht_4 _ (List.mem_of_getElem? (i := 68) rfl)
theorem hw_492 : Jvm.Cond.instanceMethod ({ cls := "LedgerMachine$Machine", name := "make", desc := "(LLedgerMachine$Frame;JJ)I" } : Jvm.MethodName) ∈ lw_tbl := ht_4 _ (List.mem_of_getElem? (i := 70) rfl)
theorem hw_493 : Jvm.Cond.methodLink "LedgerMachine$Machine" (233 : Nat) ({ cls := "LedgerMachine$Machine", name := "become", desc := "(LLedgerMachine$Frame;J)I" } : Jvm.MethodName) ∈ lw_tbl := ht_4 _ (List.mem_of_getElem? (i := 88) rfl)
theorem hw_494 : Jvm.Cond.instanceMethod ({ cls := "LedgerMachine$Machine", name := "become", desc := "(LLedgerMachine$Frame;J)I" } : Jvm.MethodName) ∈ lw_tbl := ht_4 _ (List.mem_of_getElem? (i := 90) rfl)
theorem hw_495 : Jvm.Cond.methodLink "LedgerMachine$Machine" (237 : Nat) ({ cls := "LedgerMachine$Machine", name := "emit", desc := "(LLedgerMachine$Frame;JJ)I" } : Jvm.MethodName) ∈ lw_tbl := ht_4 _ (List.mem_of_getElem? (i := 92) rfl)
theorem hw_496 : Jvm.Cond.instanceMethod ({ cls := "LedgerMachine$Machine", name := "emit", desc := "(LLedgerMachine$Frame;JJ)I" } : Jvm.MethodName) ∈ lw_tbl := ht_4 _ (List.mem_of_getElem? (i := 94) rfl)
theorem hw_497 : Jvm.Cond.methodLink "LedgerMachine$Machine" (240 : Nat) ({ cls := "LedgerMachine$Machine", name := "close", desc := "(LLedgerMachine$Frame;J)I" } : Jvm.MethodName) ∈ lw_tbl := ht_4 _ (List.mem_of_getElem? (i := 100) rfl)
theorem hw_498 : Jvm.Cond.instanceMethod ({ cls := "LedgerMachine$Machine", name := "close", desc := "(LLedgerMachine$Frame;J)I" } : Jvm.MethodName) ∈ lw_tbl := ht_4 _ (List.mem_of_getElem? (i := 102) rfl)
theorem hw_499 : Jvm.Cond.methodLink "LedgerMachine$Machine" (243 : Nat) ({ cls := "LedgerMachine$Frame", name := "reckon", desc := "(I)I" } : Jvm.MethodName) ∈ lw_tbl := ht_4 _ (List.mem_of_getElem? (i := 110) rfl)
theorem hw_500 : Jvm.Cond.instanceMethod ({ cls := "LedgerMachine$Frame", name := "reckon", desc := "(I)I" } : Jvm.MethodName) ∈ lw_tbl := ht_4 _ (List.mem_of_getElem? (i := 111) rfl)
theorem hw_501 : Jvm.Cond.selects "LedgerMachine$Frame" ({ cls := "LedgerMachine$Frame", name := "reckon", desc := "(I)I" } : Jvm.MethodName) ({ cls := "LedgerMachine$Frame", name := "reckon", desc := "(I)I" } : Jvm.MethodName) ∈ lw_tbl := ht_4 _ (List.mem_of_getElem? (i := 112) rfl)
theorem hw_502 : Jvm.Cond.methodLink "LedgerMachine$Machine" (247 : Nat) ({ cls := "LedgerMachine$Machine", name := "tell", desc := "(LLedgerMachine$Frame;I)I" } : Jvm.MethodName) ∈ lw_tbl := ht_4 _ (List.mem_of_getElem? (i := 117) rfl)
theorem hw_503 : Jvm.Cond.instanceMethod ({ cls := "LedgerMachine$Machine", name := "tell", desc := "(LLedgerMachine$Frame;I)I" } : Jvm.MethodName) ∈ lw_tbl := ht_4 _ (List.mem_of_getElem? (i := 119) rfl)
theorem hw_504 : Jvm.Cond.methodLink "LedgerMachine$Machine" (250 : Nat) ({ cls := "LedgerMachine$Machine", name := "known", desc := "(LLedgerMachine$Frame;I)J" } : Jvm.MethodName) ∈ lw_tbl := ht_4 _ (List.mem_of_getElem? (i := 121) rfl)
theorem hw_505 : Jvm.Cond.instanceMethod ({ cls := "LedgerMachine$Machine", name := "known", desc := "(LLedgerMachine$Frame;I)J" } : Jvm.MethodName) ∈ lw_tbl := ht_4 _ (List.mem_of_getElem? (i := 123) rfl)
theorem hw_506 : Jvm.Cond.methodLinkNest "LedgerMachine$Machine" (259 : Nat) ({ cls := "LedgerMachine", name := "isWithin", desc := "(JI)Z" } : Jvm.MethodName) "LedgerMachine" ∈ lw_tbl := ht_4 _ (List.mem_of_getElem? (i := 37) rfl)
theorem hw_507 : Jvm.Cond.methodLink "LedgerMachine$Machine" (263 : Nat) ({ cls := "LedgerMachine$State", name := "cellOf", desc := "(II)J" } : Jvm.MethodName) ∈ lw_tbl := ht_4 _ (List.mem_of_getElem? (i := 38) rfl)
theorem hw_508 : Jvm.Cond.instanceMethod ({ cls := "LedgerMachine$State", name := "cellOf", desc := "(II)J" } : Jvm.MethodName) ∈ lw_tbl := ht_4 _ (List.mem_of_getElem? (i := 39) rfl)
theorem hw_509 : Jvm.Cond.selects "LedgerMachine$State" ({ cls := "LedgerMachine$State", name := "cellOf", desc := "(II)J" } : Jvm.MethodName) ({ cls := "LedgerMachine$State", name := "cellOf", desc := "(II)J" } : Jvm.MethodName) ∈ lw_tbl := ht_4 _ (List.mem_of_getElem? (i := 40) rfl)
theorem hw_510 : Jvm.Cond.methodLink "LedgerMachine$Machine" (267 : Nat) ({ cls := "LedgerMachine$State", name := "setCell", desc := "(IIJ)V" } : Jvm.MethodName) ∈ lw_tbl := ht_4 _ (List.mem_of_getElem? (i := 46) rfl)
theorem hw_511 : Jvm.Cond.instanceMethod ({ cls := "LedgerMachine$State", name := "setCell", desc := "(IIJ)V" } : Jvm.MethodName) ∈ lw_tbl := ht_4 _ (List.mem_of_getElem? (i := 47) rfl)
theorem hw_512 : Jvm.Cond.selects "LedgerMachine$State" ({ cls := "LedgerMachine$State", name := "setCell", desc := "(IIJ)V" } : Jvm.MethodName) ({ cls := "LedgerMachine$State", name := "setCell", desc := "(IIJ)V" } : Jvm.MethodName) ∈ lw_tbl := ht_4 _ (List.mem_of_getElem? (i := 48) rfl)
theorem hw_513 : Jvm.Cond.methodLink "LedgerMachine$Machine" (270 : Nat) ({ cls := "LedgerMachine$Frame", name := "giveGas", desc := "(J)I" } : Jvm.MethodName) ∈ lw_tbl := ht_4 _ (List.mem_of_getElem? (i := 54) rfl)
theorem hw_514 : Jvm.Cond.instanceMethod ({ cls := "LedgerMachine$Frame", name := "giveGas", desc := "(J)I" } : Jvm.MethodName) ∈ lw_tbl := ht_4 _ (List.mem_of_getElem? (i := 55) rfl)
theorem hw_515 : Jvm.Cond.selects "LedgerMachine$Frame" ({ cls := "LedgerMachine$Frame", name := "giveGas", desc := "(J)I" } : Jvm.MethodName) ({ cls := "LedgerMachine$Frame", name := "giveGas", desc := "(J)I" } : Jvm.MethodName) ∈ lw_tbl := ht_4 _ (List.mem_of_getElem? (i := 56) rfl)
theorem hw_516 : Jvm.Cond.methodLink "LedgerMachine$Machine" (274 : Nat) ({ cls := "LedgerMachine$Machine", name := "leastFreeAccount", desc := "()I" } : Jvm.MethodName) ∈ lw_tbl := ht_4 _ (List.mem_of_getElem? (i := 72) rfl)
theorem hw_517 : Jvm.Cond.instanceMethod ({ cls := "LedgerMachine$Machine", name := "leastFreeAccount", desc := "()I" } : Jvm.MethodName) ∈ lw_tbl := ht_4 _ (List.mem_of_getElem? (i := 74) rfl)
theorem hw_518 : Jvm.Cond.methodLink "LedgerMachine$Machine" (277 : Nat) ({ cls := "LedgerMachine$State", name := "setCode", desc := "(IJ)V" } : Jvm.MethodName) ∈ lw_tbl := ht_4 _ (List.mem_of_getElem? (i := 84) rfl)
theorem hw_519 : Jvm.Cond.instanceMethod ({ cls := "LedgerMachine$State", name := "setCode", desc := "(IJ)V" } : Jvm.MethodName) ∈ lw_tbl := ht_4 _ (List.mem_of_getElem? (i := 85) rfl)
theorem hw_520 : Jvm.Cond.selects "LedgerMachine$State" ({ cls := "LedgerMachine$State", name := "setCode", desc := "(IJ)V" } : Jvm.MethodName) ({ cls := "LedgerMachine$State", name := "setCode", desc := "(IJ)V" } : Jvm.MethodName) ∈ lw_tbl := ht_4 _ (List.mem_of_getElem? (i := 86) rfl)
theorem hw_521 : Jvm.Cond.methodLink "LedgerMachine$Machine" (281 : Nat) ({ cls := "LedgerMachine$Machine", name := "hasFrame", desc := "(I)Z" } : Jvm.MethodName) ∈ lw_tbl := ht_4 _ (List.mem_of_getElem? (i := 76) rfl)
theorem hw_522 : Jvm.Cond.instanceMethod ({ cls := "LedgerMachine$Machine", name := "hasFrame", desc := "(I)Z" } : Jvm.MethodName) ∈ lw_tbl := ht_4 _ (List.mem_of_getElem? (i := 78) rfl)
theorem hw_523 : Jvm.Cond.methodLink "LedgerMachine$Machine" (284 : Nat) ({ cls := "LedgerMachine$State", name := "isEmpty", desc := "(I)Z" } : Jvm.MethodName) ∈ lw_tbl := ht_4 _ (List.mem_of_getElem? (i := 80) rfl)
theorem hw_524 : Jvm.Cond.instanceMethod ({ cls := "LedgerMachine$State", name := "isEmpty", desc := "(I)Z" } : Jvm.MethodName) ∈ lw_tbl := ht_4 _ (List.mem_of_getElem? (i := 81) rfl)
theorem hw_525 : Jvm.Cond.selects "LedgerMachine$State" ({ cls := "LedgerMachine$State", name := "isEmpty", desc := "(I)Z" } : Jvm.MethodName) ({ cls := "LedgerMachine$State", name := "isEmpty", desc := "(I)Z" } : Jvm.MethodName) ∈ lw_tbl := ht_4 _ (List.mem_of_getElem? (i := 82) rfl)
theorem hw_526 : Jvm.Cond.methodLink "LedgerMachine$Machine" (287 : Nat) ({ cls := "LedgerMachine$EventLog", name := "add", desc := "(IJJ)V" } : Jvm.MethodName) ∈ lw_tbl := ht_4 _ (List.mem_of_getElem? (i := 96) rfl)
theorem hw_527 : Jvm.Cond.instanceMethod ({ cls := "LedgerMachine$EventLog", name := "add", desc := "(IJJ)V" } : Jvm.MethodName) ∈ lw_tbl := ht_4 _ (List.mem_of_getElem? (i := 97) rfl)
theorem hw_528 : Jvm.Cond.selects "LedgerMachine$EventLog" ({ cls := "LedgerMachine$EventLog", name := "add", desc := "(IJJ)V" } : Jvm.MethodName) ({ cls := "LedgerMachine$EventLog", name := "add", desc := "(IJJ)V" } : Jvm.MethodName) ∈ lw_tbl := ht_4 _ (List.mem_of_getElem? (i := 98) rfl)
theorem hw_529 : Jvm.Cond.methodLink "LedgerMachine$Machine" (293 : Nat) ({ cls := "LedgerMachine$State", name := "clearCells", desc := "(I)V" } : Jvm.MethodName) ∈ lw_tbl := ht_4 _ (List.mem_of_getElem? (i := 105) rfl)
theorem hw_530 : Jvm.Cond.instanceMethod ({ cls := "LedgerMachine$State", name := "clearCells", desc := "(I)V" } : Jvm.MethodName) ∈ lw_tbl := ht_4 _ (List.mem_of_getElem? (i := 106) rfl)
theorem hw_531 : Jvm.Cond.selects "LedgerMachine$State" ({ cls := "LedgerMachine$State", name := "clearCells", desc := "(I)V" } : Jvm.MethodName) ({ cls := "LedgerMachine$State", name := "clearCells", desc := "(I)V" } : Jvm.MethodName) ∈ lw_tbl := ht_4 _ (List.mem_of_getElem? (i := 107) rfl)
theorem hw_532 : Jvm.Cond.methodLink "LedgerMachine$State" (26 : Nat) ({ cls := "LedgerMachine$State", name := "addToBalance", desc := "(IJ)V" } : Jvm.MethodName) ∈ lw_tbl := ht_3 _ (List.mem_of_getElem? (i := 197) rfl)
theorem hw_533 : Jvm.Cond.instanceMethod ({ cls := "LedgerMachine$State", name := "addToBalance", desc := "(IJ)V" } : Jvm.MethodName) ∈ lw_tbl := ht_3 _ (List.mem_of_getElem? (i := 151) rfl)
theorem hw_534 : Jvm.Cond.selects "LedgerMachine$State" ({ cls := "LedgerMachine$State", name := "addToBalance", desc := "(IJ)V" } : Jvm.MethodName) ({ cls := "LedgerMachine$State", name := "addToBalance", desc := "(IJ)V" } : Jvm.MethodName) ∈ lw_tbl := ht_3 _ (List.mem_of_getElem? (i := 152) rfl)
theorem hw_535 : Jvm.Cond.methodLink "LedgerMachine$State" (30 : Nat) ({ cls := "LedgerMachine$State", name := "setCell", desc := "(IIJ)V" } : Jvm.MethodName) ∈ lw_tbl := ht_4 _ (List.mem_of_getElem? (i := 109) rfl)
theorem hw_536 : Jvm.Cond.methodLinkNest "LedgerMachine" (9 : Nat) ({ cls := "LedgerMachine$Draft", name := "<init>", desc := "()V" } : Jvm.MethodName) "LedgerMachine" ∈ lw_tbl := ht_1 _ (List.mem_of_getElem? (i := 32) rfl)
theorem hw_537 : Jvm.Cond.instanceMethod ({ cls := "LedgerMachine$Draft", name := "<init>", desc := "()V" } : Jvm.MethodName) ∈ lw_tbl := ht_1 _ (List.mem_of_getElem? (i := 33) rfl)
theorem hw_538 : Jvm.Cond.methodLink "LedgerMachine" (18 : Nat) ({ cls := "LedgerMachine$Machine", name := "<init>", desc := "()V" } : Jvm.MethodName) ∈ lw_tbl := ht_1 _ (List.mem_of_getElem? (i := 50) rfl)
theorem hw_539 : Jvm.Cond.instanceMethod ({ cls := "LedgerMachine$Machine", name := "<init>", desc := "()V" } : Jvm.MethodName) ∈ lw_tbl := ht_1 _ (List.mem_of_getElem? (i := 51) rfl)
theorem hw_540 : Jvm.Cond.methodLink "LedgerMachine" (35 : Nat) ({ cls := "LedgerMachine$Block", name := "<init>", desc := "(II[J[J[JI)V" } : Jvm.MethodName) ∈ lw_tbl := ht_2 _ (List.mem_of_getElem? (i := 7) rfl)
theorem hw_541 : Jvm.Cond.instanceMethod ({ cls := "LedgerMachine$Block", name := "<init>", desc := "(II[J[J[JI)V" } : Jvm.MethodName) ∈ lw_tbl := ht_2 _ (List.mem_of_getElem? (i := 8) rfl)
theorem hw_542 : Jvm.Cond.methodLink "LedgerMachine" (46 : Nat) ({ cls := "java/util/Arrays", name := "fill", desc := "([II)V" } : Jvm.MethodName) ∈ lw_tbl := ht_2 _ (List.mem_of_getElem? (i := 39) rfl)
theorem hw_543 : Jvm.Cond.static ({ cls := "java/util/Arrays", name := "fill", desc := "([II)V" } : Jvm.MethodName) ∈ lw_tbl := ht_2 _ (List.mem_of_getElem? (i := 40) rfl)
theorem hw_544 : Jvm.Cond.methodLink "LedgerMachine" (59 : Nat) ({ cls := "LedgerMachine$Draft", name := "hasRoomFor", desc := "(I)Z" } : Jvm.MethodName) ∈ lw_tbl := ht_2 _ (List.mem_of_getElem? (i := 88) rfl)
theorem hw_545 : Jvm.Cond.instanceMethod ({ cls := "LedgerMachine$Draft", name := "hasRoomFor", desc := "(I)Z" } : Jvm.MethodName) ∈ lw_tbl := ht_2 _ (List.mem_of_getElem? (i := 89) rfl)
theorem hw_546 : Jvm.Cond.selects "LedgerMachine$Draft" ({ cls := "LedgerMachine$Draft", name := "hasRoomFor", desc := "(I)Z" } : Jvm.MethodName) ({ cls := "LedgerMachine$Draft", name := "hasRoomFor", desc := "(I)Z" } : Jvm.MethodName) ∈ lw_tbl := ht_2 _ (List.mem_of_getElem? (i := 90) rfl)
theorem hw_547 : Jvm.Cond.methodLink "LedgerMachine" (70 : Nat) ({ cls := "LedgerMachine$Draft", name := "append", desc := "(IJ)I" } : Jvm.MethodName) ∈ lw_tbl := ht_2 _ (List.mem_of_getElem? (i := 159) rfl)
theorem hw_548 : Jvm.Cond.instanceMethod ({ cls := "LedgerMachine$Draft", name := "append", desc := "(IJ)I" } : Jvm.MethodName) ∈ lw_tbl := ht_2 _ (List.mem_of_getElem? (i := 160) rfl)
theorem hw_549 : Jvm.Cond.selects "LedgerMachine$Draft" ({ cls := "LedgerMachine$Draft", name := "append", desc := "(IJ)I" } : Jvm.MethodName) ({ cls := "LedgerMachine$Draft", name := "append", desc := "(IJ)I" } : Jvm.MethodName) ∈ lw_tbl := ht_2 _ (List.mem_of_getElem? (i := 161) rfl)
theorem hw_550 : Jvm.Cond.methodLink "LedgerMachine" (78 : Nat) ({ cls := "LedgerMachine$CodeBook", name := "isFull", desc := "()Z" } : Jvm.MethodName) ∈ lw_tbl := ht_2 _ (List.mem_of_getElem? (i := 171) rfl)
theorem hw_551 : Jvm.Cond.instanceMethod ({ cls := "LedgerMachine$CodeBook", name := "isFull", desc := "()Z" } : Jvm.MethodName) ∈ lw_tbl := ht_2 _ (List.mem_of_getElem? (i := 172) rfl)
theorem hw_552 : Jvm.Cond.selects "LedgerMachine$CodeBook" ({ cls := "LedgerMachine$CodeBook", name := "isFull", desc := "()Z" } : Jvm.MethodName) ({ cls := "LedgerMachine$CodeBook", name := "isFull", desc := "()Z" } : Jvm.MethodName) ∈ lw_tbl := ht_2 _ (List.mem_of_getElem? (i := 173) rfl)
theorem hw_553 : Jvm.Cond.methodLink "LedgerMachine" (89 : Nat) ({ cls := "LedgerMachine$Draft", name := "fault", desc := "()I" } : Jvm.MethodName) ∈ lw_tbl := ht_2 _ (List.mem_of_getElem? (i := 191) rfl)
theorem hw_554 : Jvm.Cond.instanceMethod ({ cls := "LedgerMachine$Draft", name := "fault", desc := "()I" } : Jvm.MethodName) ∈ lw_tbl := ht_2 _ (List.mem_of_getElem? (i := 192) rfl)
theorem hw_555 : Jvm.Cond.selects "LedgerMachine$Draft" ({ cls := "LedgerMachine$Draft", name := "fault", desc := "()I" } : Jvm.MethodName) ({ cls := "LedgerMachine$Draft", name := "fault", desc := "()I" } : Jvm.MethodName) ∈ lw_tbl := ht_2 _ (List.mem_of_getElem? (i := 193) rfl)
theorem hw_556 : Jvm.Cond.methodLink "LedgerMachine" (93 : Nat) ({ cls := "LedgerMachine$Draft", name := "take", desc := "()[B" } : Jvm.MethodName) ∈ lw_tbl := ht_2 _ (List.mem_of_getElem? (i := 214) rfl)
theorem hw_557 : Jvm.Cond.instanceMethod ({ cls := "LedgerMachine$Draft", name := "take", desc := "()[B" } : Jvm.MethodName) ∈ lw_tbl := ht_2 _ (List.mem_of_getElem? (i := 215) rfl)
theorem hw_558 : Jvm.Cond.selects "LedgerMachine$Draft" ({ cls := "LedgerMachine$Draft", name := "take", desc := "()[B" } : Jvm.MethodName) ({ cls := "LedgerMachine$Draft", name := "take", desc := "()[B" } : Jvm.MethodName) ∈ lw_tbl := ht_2 _ (List.mem_of_getElem? (i := 216) rfl)
theorem hw_559 : Jvm.Cond.methodLink "LedgerMachine" (99 : Nat) ({ cls := "LedgerMachine$Code", name := "<init>", desc := "([B)V" } : Jvm.MethodName) ∈ lw_tbl := ht_2 _ (List.mem_of_getElem? (i := 236) rfl)
theorem hw_560 : Jvm.Cond.instanceMethod ({ cls := "LedgerMachine$Code", name := "<init>", desc := "([B)V" } : Jvm.MethodName) ∈ lw_tbl := ht_2 _ (List.mem_of_getElem? (i := 237) rfl)
theorem hw_561 : Jvm.Cond.methodLink "LedgerMachine" (102 : Nat) ({ cls := "LedgerMachine$CodeBook", name := "add", desc := "(LLedgerMachine$Code;)I" } : Jvm.MethodName) ∈ lw_tbl := ht_3 _ (List.mem_of_getElem? (i := 4) rfl)
theorem hw_562 : Jvm.Cond.instanceMethod ({ cls := "LedgerMachine$CodeBook", name := "add", desc := "(LLedgerMachine$Code;)I" } : Jvm.MethodName) ∈ lw_tbl := ht_3 _ (List.mem_of_getElem? (i := 5) rfl)
theorem hw_563 : Jvm.Cond.selects "LedgerMachine$CodeBook" ({ cls := "LedgerMachine$CodeBook", name := "add", desc := "(LLedgerMachine$Code;)I" } : Jvm.MethodName) ({ cls := "LedgerMachine$CodeBook", name := "add", desc := "(LLedgerMachine$Code;)I" } : Jvm.MethodName) ∈ lw_tbl := ht_3 _ (List.mem_of_getElem? (i := 6) rfl)
theorem hw_564 : Jvm.Cond.methodLink "LedgerMachine" (106 : Nat) ({ cls := "LedgerMachine", name := "isAccount", desc := "(J)Z" } : Jvm.MethodName) ∈ lw_tbl := ht_3 _ (List.mem_of_getElem? (i := 16) rfl)
theorem hw_565 : Jvm.Cond.methodLink "LedgerMachine" (110 : Nat) ({ cls := "LedgerMachine$CodeBook", name := "has", desc := "(J)Z" } : Jvm.MethodName) ∈ lw_tbl := ht_3 _ (List.mem_of_getElem? (i := 22) rfl)
theorem hw_566 : Jvm.Cond.methodLink "LedgerMachine" (127 : Nat) ({ cls := "LedgerMachine", name := "isWithin", desc := "(JI)Z" } : Jvm.MethodName) ∈ lw_tbl := ht_3 _ (List.mem_of_getElem? (i := 19) rfl)
theorem hw_567 : Jvm.Cond.methodLink "LedgerMachine" (147 : Nat) ({ cls := "LedgerMachine$Order", name := "<init>", desc := "(IIJJIII)V" } : Jvm.MethodName) ∈ lw_tbl := ht_3 _ (List.mem_of_getElem? (i := 68) rfl)
theorem hw_568 : Jvm.Cond.instanceMethod ({ cls := "LedgerMachine$Order", name := "<init>", desc := "(IIJJIII)V" } : Jvm.MethodName) ∈ lw_tbl := ht_3 _ (List.mem_of_getElem? (i := 69) rfl)
theorem hw_569 : Jvm.Cond.methodLink "LedgerMachine" (150 : Nat) ({ cls := "LedgerMachine", name := "isBlock", desc := "(I)Z" } : Jvm.MethodName) ∈ lw_tbl := ht_3 _ (List.mem_of_getElem? (i := 107) rfl)
theorem hw_570 : Jvm.Cond.instanceMethod ({ cls := "LedgerMachine", name := "isBlock", desc := "(I)Z" } : Jvm.MethodName) ∈ lw_tbl := ht_3 _ (List.mem_of_getElem? (i := 109) rfl)
theorem hw_571 : Jvm.Cond.methodLink "LedgerMachine" (160 : Nat) ({ cls := "LedgerMachine$Machine", name := "load", desc := "([JI)V" } : Jvm.MethodName) ∈ lw_tbl := ht_3 _ (List.mem_of_getElem? (i := 113) rfl)
theorem hw_572 : Jvm.Cond.instanceMethod ({ cls := "LedgerMachine$Machine", name := "load", desc := "([JI)V" } : Jvm.MethodName) ∈ lw_tbl := ht_3 _ (List.mem_of_getElem? (i := 114) rfl)
theorem hw_573 : Jvm.Cond.selects "LedgerMachine$Machine" ({ cls := "LedgerMachine$Machine", name := "load", desc := "([JI)V" } : Jvm.MethodName) ({ cls := "LedgerMachine$Machine", name := "load", desc := "([JI)V" } : Jvm.MethodName) ∈ lw_tbl := ht_3 _ (List.mem_of_getElem? (i := 115) rfl)
theorem hw_574 : Jvm.Cond.methodLink "LedgerMachine" (164 : Nat) ({ cls := "LedgerMachine", name := "doOrder", desc := "(III[J)I" } : Jvm.MethodName) ∈ lw_tbl := ht_3 _ (List.mem_of_getElem? (i := 126) rfl)
theorem hw_575 : Jvm.Cond.instanceMethod ({ cls := "LedgerMachine", name := "doOrder", desc := "(III[J)I" } : Jvm.MethodName) ∈ lw_tbl := ht_3 _ (List.mem_of_getElem? (i := 128) rfl)
theorem hw_576 : Jvm.Cond.methodLink "LedgerMachine" (172 : Nat) ({ cls := "LedgerMachine$State", name := "copyLeaves", desc := "()[J" } : Jvm.MethodName) ∈ lw_tbl := ht_4 _ (List.mem_of_getElem? (i := 138) rfl)
theorem hw_577 : Jvm.Cond.instanceMethod ({ cls := "LedgerMachine$State", name := "copyLeaves", desc := "()[J" } : Jvm.MethodName) ∈ lw_tbl := ht_4 _ (List.mem_of_getElem? (i := 139) rfl)
theorem hw_578 : Jvm.Cond.selects "LedgerMachine$State" ({ cls := "LedgerMachine$State", name := "copyLeaves", desc := "()[J" } : Jvm.MethodName) ({ cls := "LedgerMachine$State", name := "copyLeaves", desc := "()[J" } : Jvm.MethodName) ∈ lw_tbl := ht_4 _ (List.mem_of_getElem? (i := 140) rfl)
theorem hw_579 : Jvm.Cond.methodLink "LedgerMachine" (182 : Nat) ({ cls := "LedgerMachine$EventLog", name := "copyRows", desc := "()[J" } : Jvm.MethodName) ∈ lw_tbl := ht_4 _ (List.mem_of_getElem? (i := 147) rfl)
theorem hw_580 : Jvm.Cond.instanceMethod ({ cls := "LedgerMachine$EventLog", name := "copyRows", desc := "()[J" } : Jvm.MethodName) ∈ lw_tbl := ht_4 _ (List.mem_of_getElem? (i := 148) rfl)
theorem hw_581 : Jvm.Cond.selects "LedgerMachine$EventLog" ({ cls := "LedgerMachine$EventLog", name := "copyRows", desc := "()[J" } : Jvm.MethodName) ({ cls := "LedgerMachine$EventLog", name := "copyRows", desc := "()[J" } : Jvm.MethodName) ∈ lw_tbl := ht_4 _ (List.mem_of_getElem? (i := 149) rfl)
theorem hw_582 : Jvm.Cond.methodLink "LedgerMachine" (203 : Nat) ({ cls := "LedgerMachine", name := "isCertain", desc := "(I)Z" } : Jvm.MethodName) ∈ lw_tbl := ht_4 _ (List.mem_of_getElem? (i := 165) rfl)
theorem hw_583 : Jvm.Cond.instanceMethod ({ cls := "LedgerMachine", name := "isCertain", desc := "(I)Z" } : Jvm.MethodName) ∈ lw_tbl := ht_4 _ (List.mem_of_getElem? (i := 167) rfl)
theorem hw_584 : Jvm.Cond.methodLink "LedgerMachine" (214 : Nat) ({ cls := "LedgerMachine", name := "nodeDigest", desc := "([JII)J" } : Jvm.MethodName) ∈ lw_tbl := ht_4 _ (List.mem_of_getElem? (i := 201) rfl)
theorem hw_585 : Jvm.Cond.static ({ cls := "LedgerMachine", name := "nodeDigest", desc := "([JII)J" } : Jvm.MethodName) ∈ lw_tbl := ht_4 _ (List.mem_of_getElem? (i := 202) rfl)
theorem hw_586 : Jvm.Cond.methodLink "LedgerMachine" (222 : Nat) ({ cls := "LedgerMachine$Machine", name := "run", desc := "(IIJJIZ)V" } : Jvm.MethodName) ∈ lw_tbl := ht_3 _ (List.mem_of_getElem? (i := 158) rfl)
theorem hw_587 : Jvm.Cond.instanceMethod ({ cls := "LedgerMachine$Machine", name := "run", desc := "(IIJJIZ)V" } : Jvm.MethodName) ∈ lw_tbl := ht_3 _ (List.mem_of_getElem? (i := 159) rfl)
theorem hw_588 : Jvm.Cond.selects "LedgerMachine$Machine" ({ cls := "LedgerMachine$Machine", name := "run", desc := "(IIJJIZ)V" } : Jvm.MethodName) ({ cls := "LedgerMachine$Machine", name := "run", desc := "(IIJJIZ)V" } : Jvm.MethodName) ∈ lw_tbl := ht_3 _ (List.mem_of_getElem? (i := 160) rfl)
theorem hw_589 : Jvm.Cond.methodLink "LedgerMachine" (258 : Nat) ({ cls := "LedgerMachine", name := "leafDigest", desc := "(IJ)J" } : Jvm.MethodName) ∈ lw_tbl := ht_4 _ (List.mem_of_getElem? (i := 204) rfl)
theorem hw_590 : Jvm.Cond.static ({ cls := "LedgerMachine", name := "leafDigest", desc := "(IJ)J" } : Jvm.MethodName) ∈ lw_tbl := ht_4 _ (List.mem_of_getElem? (i := 205) rfl)
theorem hw_591 : Jvm.Cond.methodLink "LedgerMachine" (262 : Nat) ({ cls := "LedgerMachine", name := "pairDigest", desc := "(JJ)J" } : Jvm.MethodName) ∈ lw_tbl := ht_4 _ (List.mem_of_getElem? (i := 214) rfl)
theorem hw_592 : Jvm.Cond.static ({ cls := "LedgerMachine", name := "pairDigest", desc := "(JJ)J" } : Jvm.MethodName) ∈ lw_tbl := ht_4 _ (List.mem_of_getElem? (i := 215) rfl)
theorem hw_593 : Jvm.Cond.methodLink "LedgerMachine" (266 : Nat) ({ cls := "LedgerMachine", name := "isVoid", desc := "(LLedgerMachine$Order;I)Z" } : Jvm.MethodName) ∈ lw_tbl := ht_3 _ (List.mem_of_getElem? (i := 130) rfl)
theorem hw_594 : Jvm.Cond.instanceMethod ({ cls := "LedgerMachine", name := "isVoid", desc := "(LLedgerMachine$Order;I)Z" } : Jvm.MethodName) ∈ lw_tbl := ht_3 _ (List.mem_of_getElem? (i := 132) rfl)
theorem hw_595 : Jvm.Cond.methodLink "LedgerMachine" (273 : Nat) ({ cls := "LedgerMachine$State", name := "raiseNonce", desc := "(I)V" } : Jvm.MethodName) ∈ lw_tbl := ht_3 _ (List.mem_of_getElem? (i := 146) rfl)
theorem hw_596 : Jvm.Cond.instanceMethod ({ cls := "LedgerMachine$State", name := "raiseNonce", desc := "(I)V" } : Jvm.MethodName) ∈ lw_tbl := ht_3 _ (List.mem_of_getElem? (i := 147) rfl)
theorem hw_597 : Jvm.Cond.selects "LedgerMachine$State" ({ cls := "LedgerMachine$State", name := "raiseNonce", desc := "(I)V" } : Jvm.MethodName) ({ cls := "LedgerMachine$State", name := "raiseNonce", desc := "(I)V" } : Jvm.MethodName) ∈ lw_tbl := ht_3 _ (List.mem_of_getElem? (i := 148) rfl)
theorem hw_598 : Jvm.Cond.methodLink "LedgerMachine" (280 : Nat) ({ cls := "LedgerMachine$Order", name := "priceOf", desc := "(I)J" } : Jvm.MethodName) ∈ lw_tbl := ht_3 _ (List.mem_of_getElem? (i := 138) rfl)
theorem hw_599 : Jvm.Cond.instanceMethod ({ cls := "LedgerMachine$Order", name := "priceOf", desc := "(I)J" } : Jvm.MethodName) ∈ lw_tbl := ht_3 _ (List.mem_of_getElem? (i := 139) rfl)
theorem hw_600 : Jvm.Cond.selects "LedgerMachine$Order" ({ cls := "LedgerMachine$Order", name := "priceOf", desc := "(I)J" } : Jvm.MethodName) ({ cls := "LedgerMachine$Order", name := "priceOf", desc := "(I)J" } : Jvm.MethodName) ∈ lw_tbl := ht_3 _ (List.mem_of_getElem? (i := 140) rfl)
theorem hw_601 : Jvm.Cond.methodLink "LedgerMachine" (284 : Nat) ({ cls := "LedgerMachine$State", name := "addToBalance", desc := "(IJ)V" } : Jvm.MethodName) ∈ lw_tbl := ht_3 _ (List.mem_of_getElem? (i := 150) rfl)
theorem hw_602 : Jvm.Cond.methodLink "LedgerMachine" (288 : Nat) ({ cls := "LedgerMachine$EventLog", name := "beginOrder", desc := "(I)V" } : Jvm.MethodName) ∈ lw_tbl := ht_3 _ (List.mem_of_getElem? (i := 154) rfl)
theorem hw_603 : Jvm.Cond.instanceMethod ({ cls := "LedgerMachine$EventLog", name := "beginOrder", desc := "(I)V" } : Jvm.MethodName) ∈ lw_tbl := ht_3 _ (List.mem_of_getElem? (i := 155) rfl)
theorem hw_604 : Jvm.Cond.selects "LedgerMachine$EventLog" ({ cls := "LedgerMachine$EventLog", name := "beginOrder", desc := "(I)V" } : Jvm.MethodName) ({ cls := "LedgerMachine$EventLog", name := "beginOrder", desc := "(I)V" } : Jvm.MethodName) ∈ lw_tbl := ht_3 _ (List.mem_of_getElem? (i := 156) rfl)
theorem hw_605 : Jvm.Cond.methodLink "LedgerMachine" (303 : Nat) ({ cls := "java/lang/Math", name := "min", desc := "(II)I" } : Jvm.MethodName) ∈ lw_tbl := ht_4 _ (List.mem_of_getElem? (i := 137) rfl)
theorem hw_606 : Jvm.Cond.methodLink "LedgerMachine" (312 : Nat) ({ cls := "LedgerMachine$State", name := "nonceOf", desc := "(I)J" } : Jvm.MethodName) ∈ lw_tbl := ht_3 _ (List.mem_of_getElem? (i := 134) rfl)
theorem hw_607 : Jvm.Cond.instanceMethod ({ cls := "LedgerMachine$State", name := "nonceOf", desc := "(I)J" } : Jvm.MethodName) ∈ lw_tbl := ht_3 _ (List.mem_of_getElem? (i := 135) rfl)
theorem hw_608 : Jvm.Cond.selects "LedgerMachine$State" ({ cls := "LedgerMachine$State", name := "nonceOf", desc := "(I)J" } : Jvm.MethodName) ({ cls := "LedgerMachine$State", name := "nonceOf", desc := "(I)J" } : Jvm.MethodName) ∈ lw_tbl := ht_3 _ (List.mem_of_getElem? (i := 136) rfl)
theorem hw_609 : Jvm.Cond.methodLink "LedgerMachine" (315 : Nat) ({ cls := "LedgerMachine$State", name := "balanceOf", desc := "(I)J" } : Jvm.MethodName) ∈ lw_tbl := ht_3 _ (List.mem_of_getElem? (i := 142) rfl)
theorem hw_610 : Jvm.Cond.methodLink "LedgerMachine" (318 : Nat) ({ cls := "LedgerMachine", name := "mix", desc := "(JJ)J" } : Jvm.MethodName) ∈ lw_tbl := ht_4 _ (List.mem_of_getElem? (i := 207) rfl)
theorem hw_611 : Jvm.Cond.static ({ cls := "LedgerMachine", name := "mix", desc := "(JJ)J" } : Jvm.MethodName) ∈ lw_tbl := ht_4 _ (List.mem_of_getElem? (i := 208) rfl)
theorem hw_612 : Jvm.Cond.methodLink "LedgerMachine" (321 : Nat) ({ cls := "LedgerMachine", name := "neverZero", desc := "(J)J" } : Jvm.MethodName) ∈ lw_tbl := ht_4 _ (List.mem_of_getElem? (i := 211) rfl)
theorem hw_613 : Jvm.Cond.static ({ cls := "LedgerMachine", name := "neverZero", desc := "(J)J" } : Jvm.MethodName) ∈ lw_tbl := ht_4 _ (List.mem_of_getElem? (i := 212) rfl)
theorem hw_614 : Jvm.Cond.methodLink "LedgerMachineModel" (166 : Nat) ({ cls := "LedgerMachineModel", name := "sizeOf", desc := "(I)I" } : Jvm.MethodName) ∈ lw_tbl := ht_6 _ (List.mem_of_getElem? (i := 5) rfl)
theorem hw_615 : Jvm.Cond.static ({ cls := "LedgerMachineModel", name := "sizeOf", desc := "(I)I" } : Jvm.MethodName) ∈ lw_tbl := ht_6 _ (List.mem_of_getElem? (i := 6) rfl)
theorem hw_616 : Jvm.Cond.methodLink "LedgerMachineModel" (175 : Nat) ({ cls := "LedgerMachineModel", name := "judged", desc := "()I" } : Jvm.MethodName) ∈ lw_tbl := ht_6 _ (List.mem_of_getElem? (i := 1) rfl)
theorem hw_617 : Jvm.Cond.instanceMethod ({ cls := "LedgerMachineModel", name := "judged", desc := "()I" } : Jvm.MethodName) ∈ lw_tbl := ht_6 _ (List.mem_of_getElem? (i := 3) rfl)
theorem hw_618 : Jvm.Cond.methodLink "LedgerMachineModel" (181 : Nat) ({ cls := "LedgerMachineModel", name := "isAccount", desc := "(J)Z" } : Jvm.MethodName) ∈ lw_tbl := ht_6 _ (List.mem_of_getElem? (i := 12) rfl)
theorem hw_619 : Jvm.Cond.static ({ cls := "LedgerMachineModel", name := "isAccount", desc := "(J)Z" } : Jvm.MethodName) ∈ lw_tbl := ht_6 _ (List.mem_of_getElem? (i := 13) rfl)
theorem hw_620 : Jvm.Cond.methodLink "LedgerMachineModel" (206 : Nat) ({ cls := "LedgerMachineModel", name := "isLocked", desc := "(J)Z" } : Jvm.MethodName) ∈ lw_tbl := ht_6 _ (List.mem_of_getElem? (i := 43) rfl)
theorem hw_621 : Jvm.Cond.instanceMethod ({ cls := "LedgerMachineModel", name := "isLocked", desc := "(J)Z" } : Jvm.MethodName) ∈ lw_tbl := ht_6 _ (List.mem_of_getElem? (i := 45) rfl)
theorem hw_622 : Jvm.Cond.methodLink "LedgerMachineModel" (209 : Nat) ({ cls := "LedgerMachineModel", name := "end", desc := "(IJJ)V" } : Jvm.MethodName) ∈ lw_tbl := ht_6 _ (List.mem_of_getElem? (i := 47) rfl)
theorem hw_623 : Jvm.Cond.instanceMethod ({ cls := "LedgerMachineModel", name := "end", desc := "(IJJ)V" } : Jvm.MethodName) ∈ lw_tbl := ht_6 _ (List.mem_of_getElem? (i := 49) rfl)
theorem hw_624 : Jvm.Cond.methodLink "LedgerMachineModel" (221 : Nat) ({ cls := "LedgerMachineModel", name := "push", desc := "(J)V" } : Jvm.MethodName) ∈ lw_tbl := ht_6 _ (List.mem_of_getElem? (i := 76) rfl)
theorem hw_625 : Jvm.Cond.instanceMethod ({ cls := "LedgerMachineModel", name := "push", desc := "(J)V" } : Jvm.MethodName) ∈ lw_tbl := ht_6 _ (List.mem_of_getElem? (i := 78) rfl)
theorem hw_626 : Jvm.Cond.methodLink "LedgerMachineModel" (225 : Nat) ({ cls := "LedgerMachineModel", name := "act", desc := "()V" } : Jvm.MethodName) ∈ lw_tbl := ht_6 _ (List.mem_of_getElem? (i := 55) rfl)
theorem hw_627 : Jvm.Cond.instanceMethod ({ cls := "LedgerMachineModel", name := "act", desc := "()V" } : Jvm.MethodName) ∈ lw_tbl := ht_6 _ (List.mem_of_getElem? (i := 57) rfl)
theorem hw_628 : Jvm.Cond.methodLink "LedgerMachineModel" (228 : Nat) ({ cls := "LedgerMachineModel", name := "tell", desc := "()V" } : Jvm.MethodName) ∈ lw_tbl := ht_6 _ (List.mem_of_getElem? (i := 107) rfl)
theorem hw_629 : Jvm.Cond.instanceMethod ({ cls := "LedgerMachineModel", name := "tell", desc := "()V" } : Jvm.MethodName) ∈ lw_tbl := ht_6 _ (List.mem_of_getElem? (i := 109) rfl)
theorem hw_630 : Jvm.Cond.methodLink "LedgerMachineModel" (231 : Nat) ({ cls := "LedgerMachineModel", name := "finish", desc := "(IJ)V" } : Jvm.MethodName) ∈ lw_tbl := ht_6 _ (List.mem_of_getElem? (i := 59) rfl)
theorem hw_631 : Jvm.Cond.instanceMethod ({ cls := "LedgerMachineModel", name := "finish", desc := "(IJ)V" } : Jvm.MethodName) ∈ lw_tbl := ht_6 _ (List.mem_of_getElem? (i := 61) rfl)
theorem hw_632 : Jvm.Cond.methodLink "LedgerMachineModel" (235 : Nat) ({ cls := "LedgerMachineModel", name := "costOf", desc := "(I)I" } : Jvm.MethodName) ∈ lw_tbl := ht_6 _ (List.mem_of_getElem? (i := 63) rfl)
theorem hw_633 : Jvm.Cond.static ({ cls := "LedgerMachineModel", name := "costOf", desc := "(I)I" } : Jvm.MethodName) ∈ lw_tbl := ht_6 _ (List.mem_of_getElem? (i := 64) rfl)
theorem hw_634 : Jvm.Cond.methodLink "LedgerMachineModel" (238 : Nat) ({ cls := "LedgerMachineModel", name := "takes", desc := "(I)I" } : Jvm.MethodName) ∈ lw_tbl := ht_6 _ (List.mem_of_getElem? (i := 66) rfl)
theorem hw_635 : Jvm.Cond.static ({ cls := "LedgerMachineModel", name := "takes", desc := "(I)I" } : Jvm.MethodName) ∈ lw_tbl := ht_6 _ (List.mem_of_getElem? (i := 67) rfl)
theorem hw_636 : Jvm.Cond.methodLink "LedgerMachineModel" (241 : Nat) ({ cls := "LedgerMachineModel", name := "gives", desc := "(I)I" } : Jvm.MethodName) ∈ lw_tbl := ht_6 _ (List.mem_of_getElem? (i := 69) rfl)
theorem hw_637 : Jvm.Cond.static ({ cls := "LedgerMachineModel", name := "gives", desc := "(I)I" } : Jvm.MethodName) ∈ lw_tbl := ht_6 _ (List.mem_of_getElem? (i := 70) rfl)
theorem hw_638 : Jvm.Cond.methodLink "LedgerMachineModel" (244 : Nat) ({ cls := "LedgerMachineModel", name := "simple", desc := "(III)V" } : Jvm.MethodName) ∈ lw_tbl := ht_6 _ (List.mem_of_getElem? (i := 72) rfl)
theorem hw_639 : Jvm.Cond.instanceMethod ({ cls := "LedgerMachineModel", name := "simple", desc := "(III)V" } : Jvm.MethodName) ∈ lw_tbl := ht_6 _ (List.mem_of_getElem? (i := 74) rfl)
theorem hw_640 : Jvm.Cond.methodLink "LedgerMachineModel" (248 : Nat) ({ cls := "LedgerMachineModel", name := "reckon", desc := "(I)V" } : Jvm.MethodName) ∈ lw_tbl := ht_6 _ (List.mem_of_getElem? (i := 84) rfl)
theorem hw_641 : Jvm.Cond.instanceMethod ({ cls := "LedgerMachineModel", name := "reckon", desc := "(I)V" } : Jvm.MethodName) ∈ lw_tbl := ht_6 _ (List.mem_of_getElem? (i := 86) rfl)
theorem hw_642 : Jvm.Cond.methodLink "LedgerMachineModel" (252 : Nat) ({ cls := "LedgerMachineModel", name := "jumpOrCell", desc := "(II)V" } : Jvm.MethodName) ∈ lw_tbl := ht_6 _ (List.mem_of_getElem? (i := 89) rfl)
theorem hw_643 : Jvm.Cond.instanceMethod ({ cls := "LedgerMachineModel", name := "jumpOrCell", desc := "(II)V" } : Jvm.MethodName) ∈ lw_tbl := ht_6 _ (List.mem_of_getElem? (i := 91) rfl)
theorem hw_644 : Jvm.Cond.methodLink "LedgerMachineModel" (256 : Nat) ({ cls := "LedgerMachineModel", name := "tellOf", desc := "(I)V" } : Jvm.MethodName) ∈ lw_tbl := ht_6 _ (List.mem_of_getElem? (i := 95) rfl)
theorem hw_645 : Jvm.Cond.instanceMethod ({ cls := "LedgerMachineModel", name := "tellOf", desc := "(I)V" } : Jvm.MethodName) ∈ lw_tbl := ht_6 _ (List.mem_of_getElem? (i := 97) rfl)
theorem hw_646 : Jvm.Cond.methodLink "LedgerMachineModel" (259 : Nat) ({ cls := "LedgerMachineModel", name := "greater", desc := "(I)V" } : Jvm.MethodName) ∈ lw_tbl := ht_6 _ (List.mem_of_getElem? (i := 99) rfl)
theorem hw_647 : Jvm.Cond.instanceMethod ({ cls := "LedgerMachineModel", name := "greater", desc := "(I)V" } : Jvm.MethodName) ∈ lw_tbl := ht_6 _ (List.mem_of_getElem? (i := 101) rfl)
theorem hw_648 : Jvm.Cond.methodLink "LedgerMachineModel" (262 : Nat) ({ cls := "LedgerMachineModel", name := "pop", desc := "()J" } : Jvm.MethodName) ∈ lw_tbl := ht_6 _ (List.mem_of_getElem? (i := 80) rfl)
theorem hw_649 : Jvm.Cond.instanceMethod ({ cls := "LedgerMachineModel", name := "pop", desc := "()J" } : Jvm.MethodName) ∈ lw_tbl := ht_6 _ (List.mem_of_getElem? (i := 82) rfl)
theorem hw_650 : Jvm.Cond.methodLink "LedgerMachineModel" (278 : Nat) ({ cls := "LedgerMachineModel", name := "calls", desc := "(Z)V" } : Jvm.MethodName) ∈ lw_tbl := ht_6 _ (List.mem_of_getElem? (i := 103) rfl)
theorem hw_651 : Jvm.Cond.instanceMethod ({ cls := "LedgerMachineModel", name := "calls", desc := "(Z)V" } : Jvm.MethodName) ∈ lw_tbl := ht_6 _ (List.mem_of_getElem? (i := 105) rfl)
theorem hw_652 : Jvm.Cond.methodLink "LedgerMachineModel" (282 : Nat) ({ cls := "LedgerMachineModel", name := "make", desc := "(I)V" } : Jvm.MethodName) ∈ lw_tbl := ht_6 _ (List.mem_of_getElem? (i := 111) rfl)
theorem hw_653 : Jvm.Cond.instanceMethod ({ cls := "LedgerMachineModel", name := "make", desc := "(I)V" } : Jvm.MethodName) ∈ lw_tbl := ht_6 _ (List.mem_of_getElem? (i := 113) rfl)
theorem hw_654 : Jvm.Cond.methodLink "LedgerMachineModel" (285 : Nat) ({ cls := "LedgerMachineModel", name := "emit", desc := "(I)V" } : Jvm.MethodName) ∈ lw_tbl := ht_6 _ (List.mem_of_getElem? (i := 124) rfl)
theorem hw_655 : Jvm.Cond.instanceMethod ({ cls := "LedgerMachineModel", name := "emit", desc := "(I)V" } : Jvm.MethodName) ∈ lw_tbl := ht_6 _ (List.mem_of_getElem? (i := 126) rfl)
theorem hw_656 : Jvm.Cond.methodLink "LedgerMachineModel" (288 : Nat) ({ cls := "LedgerMachineModel", name := "close", desc := "(I)V" } : Jvm.MethodName) ∈ lw_tbl := ht_6 _ (List.mem_of_getElem? (i := 128) rfl)
theorem hw_657 : Jvm.Cond.instanceMethod ({ cls := "LedgerMachineModel", name := "close", desc := "(I)V" } : Jvm.MethodName) ∈ lw_tbl := ht_6 _ (List.mem_of_getElem? (i := 130) rfl)
theorem hw_658 : Jvm.Cond.methodLink "LedgerMachineModel" (291 : Nat) ({ cls := "LedgerMachineModel", name := "begin", desc := "(IJJJJZ)Z" } : Jvm.MethodName) ∈ lw_tbl := ht_6 _ (List.mem_of_getElem? (i := 39) rfl)
theorem hw_659 : Jvm.Cond.instanceMethod ({ cls := "LedgerMachineModel", name := "begin", desc := "(IJJJJZ)Z" } : Jvm.MethodName) ∈ lw_tbl := ht_6 _ (List.mem_of_getElem? (i := 41) rfl)
theorem hw_660 : Jvm.Cond.methodLink "LedgerMachineModel" (295 : Nat) ({ cls := "LedgerMachineModel", name := "isEmpty", desc := "(I)Z" } : Jvm.MethodName) ∈ lw_tbl := ht_6 _ (List.mem_of_getElem? (i := 115) rfl)
theorem hw_661 : Jvm.Cond.instanceMethod ({ cls := "LedgerMachineModel", name := "isEmpty", desc := "(I)Z" } : Jvm.MethodName) ∈ lw_tbl := ht_6 _ (List.mem_of_getElem? (i := 117) rfl)
theorem hw_662 : Jvm.Cond.methodLink "LedgerMachineModel" (299 : Nat) ({ cls := "LedgerMachineModel", name := "hasFrame", desc := "(I)Z" } : Jvm.MethodName) ∈ lw_tbl := ht_6 _ (List.mem_of_getElem? (i := 119) rfl)
theorem hw_663 : Jvm.Cond.instanceMethod ({ cls := "LedgerMachineModel", name := "hasFrame", desc := "(I)Z" } : Jvm.MethodName) ∈ lw_tbl := ht_6 _ (List.mem_of_getElem? (i := 121) rfl)
theorem hw_664 : Jvm.Cond.methodLink "LedgerMachineModel" (304 : Nat) ({ cls := "LedgerMachineModel", name := "run", desc := "(I)V" } : Jvm.MethodName) ∈ lw_tbl := ht_6 _ (List.mem_of_getElem? (i := 51) rfl)
theorem hw_665 : Jvm.Cond.instanceMethod ({ cls := "LedgerMachineModel", name := "run", desc := "(I)V" } : Jvm.MethodName) ∈ lw_tbl := ht_6 _ (List.mem_of_getElem? (i := 53) rfl)
theorem hw_666 : Jvm.Cond.methodLink "LedgerMachineModel" (307 : Nat) ({ cls := "LedgerMachineModel", name := "doOrder", desc := "(IIII)I" } : Jvm.MethodName) ∈ lw_tbl := ht_6 _ (List.mem_of_getElem? (i := 31) rfl)
theorem hw_667 : Jvm.Cond.instanceMethod ({ cls := "LedgerMachineModel", name := "doOrder", desc := "(IIII)I" } : Jvm.MethodName) ∈ lw_tbl := ht_6 _ (List.mem_of_getElem? (i := 33) rfl)
theorem hw_668 : Jvm.Cond.methodLink "LedgerMachineModel" (311 : Nat) ({ cls := "LedgerMachineModel", name := "keepEvents", desc := "(II)V" } : Jvm.MethodName) ∈ lw_tbl := ht_6 _ (List.mem_of_getElem? (i := 132) rfl)
theorem hw_669 : Jvm.Cond.instanceMethod ({ cls := "LedgerMachineModel", name := "keepEvents", desc := "(II)V" } : Jvm.MethodName) ∈ lw_tbl := ht_6 _ (List.mem_of_getElem? (i := 134) rfl)
theorem hw_670 : Jvm.Cond.methodLink "LedgerMachineModel" (314 : Nat) ({ cls := "LedgerMachineModel", name := "wholeCall", desc := "(IIJJJZ)V" } : Jvm.MethodName) ∈ lw_tbl := ht_6 _ (List.mem_of_getElem? (i := 35) rfl)
theorem hw_671 : Jvm.Cond.instanceMethod ({ cls := "LedgerMachineModel", name := "wholeCall", desc := "(IIJJJZ)V" } : Jvm.MethodName) ∈ lw_tbl := ht_6 _ (List.mem_of_getElem? (i := 37) rfl)
theorem hw_672 : Jvm.Cond.methodLink "LedgerMachineModel" (318 : Nat) ({ cls := "LedgerMachineModel", name := "isBlock", desc := "(I)Z" } : Jvm.MethodName) ∈ lw_tbl := ht_6 _ (List.mem_of_getElem? (i := 140) rfl)
theorem hw_673 : Jvm.Cond.instanceMethod ({ cls := "LedgerMachineModel", name := "isBlock", desc := "(I)Z" } : Jvm.MethodName) ∈ lw_tbl := ht_6 _ (List.mem_of_getElem? (i := 142) rfl)
theorem hw_674 : Jvm.Cond.methodLink "LedgerMachineModel" (323 : Nat) ({ cls := "LedgerMachineModel", name := "mix", desc := "(JJ)J" } : Jvm.MethodName) ∈ lw_tbl := ht_6 _ (List.mem_of_getElem? (i := 167) rfl)
theorem hw_675 : Jvm.Cond.static ({ cls := "LedgerMachineModel", name := "mix", desc := "(JJ)J" } : Jvm.MethodName) ∈ lw_tbl := ht_6 _ (List.mem_of_getElem? (i := 168) rfl)
theorem hw_676 : Jvm.Cond.methodLink "LedgerMachineModel" (327 : Nat) ({ cls := "LedgerMachineModel", name := "valueOf", desc := "(II)J" } : Jvm.MethodName) ∈ lw_tbl := ht_6 _ (List.mem_of_getElem? (i := 156) rfl)
theorem hw_677 : Jvm.Cond.instanceMethod ({ cls := "LedgerMachineModel", name := "valueOf", desc := "(II)J" } : Jvm.MethodName) ∈ lw_tbl := ht_6 _ (List.mem_of_getElem? (i := 158) rfl)
theorem hw_678 : Jvm.Cond.methodLink "LedgerMachineModel" (331 : Nat) ({ cls := "LedgerMachineModel", name := "leafDigest", desc := "(IJ)J" } : Jvm.MethodName) ∈ lw_tbl := ht_6 _ (List.mem_of_getElem? (i := 164) rfl)
theorem hw_679 : Jvm.Cond.static ({ cls := "LedgerMachineModel", name := "leafDigest", desc := "(IJ)J" } : Jvm.MethodName) ∈ lw_tbl := ht_6 _ (List.mem_of_getElem? (i := 165) rfl)
theorem hw_680 : Jvm.Cond.methodLink "LedgerMachineModel" (335 : Nat) ({ cls := "LedgerMachineModel", name := "both", desc := "(JJ)J" } : Jvm.MethodName) ∈ lw_tbl := ht_6 _ (List.mem_of_getElem? (i := 171) rfl)
theorem hw_681 : Jvm.Cond.static ({ cls := "LedgerMachineModel", name := "both", desc := "(JJ)J" } : Jvm.MethodName) ∈ lw_tbl := ht_6 _ (List.mem_of_getElem? (i := 172) rfl)
theorem hw_682 : Jvm.Cond.methodLink "java/util/Arrays" (304 : Nat) ({ cls := "java/lang/Math", name := "min", desc := "(II)I" } : Jvm.MethodName) ∈ lw_tbl := ht_2 _ (List.mem_of_getElem? (i := 228) rfl)
theorem hw_683 : Jvm.Cond.methodLink "LedgerMachineLaw" (7 : Nat) ({ cls := "LedgerMachine", name := "draft", desc := "(IJ)I" } : Jvm.MethodName) ∈ lw_tbl := ht_2 _ (List.mem_of_getElem? (i := 84) rfl)
theorem hw_684 : Jvm.Cond.instanceMethod ({ cls := "LedgerMachine", name := "draft", desc := "(IJ)I" } : Jvm.MethodName) ∈ lw_tbl := ht_2 _ (List.mem_of_getElem? (i := 85) rfl)
theorem hw_685 : Jvm.Cond.selects "LedgerMachine" ({ cls := "LedgerMachine", name := "draft", desc := "(IJ)I" } : Jvm.MethodName) ({ cls := "LedgerMachine", name := "draft", desc := "(IJ)I" } : Jvm.MethodName) ∈ lw_tbl := ht_2 _ (List.mem_of_getElem? (i := 86) rfl)
theorem hw_686 : Jvm.Cond.methodLink "LedgerMachineLaw" (15 : Nat) ({ cls := "LedgerMachine", name := "code", desc := "()I" } : Jvm.MethodName) ∈ lw_tbl := ht_2 _ (List.mem_of_getElem? (i := 167) rfl)
theorem hw_687 : Jvm.Cond.instanceMethod ({ cls := "LedgerMachine", name := "code", desc := "()I" } : Jvm.MethodName) ∈ lw_tbl := ht_2 _ (List.mem_of_getElem? (i := 168) rfl)
theorem hw_688 : Jvm.Cond.selects "LedgerMachine" ({ cls := "LedgerMachine", name := "code", desc := "()I" } : Jvm.MethodName) ({ cls := "LedgerMachine", name := "code", desc := "()I" } : Jvm.MethodName) ∈ lw_tbl := ht_2 _ (List.mem_of_getElem? (i := 169) rfl)
theorem hw_689 : Jvm.Cond.methodLink "LedgerMachineLaw" (21 : Nat) ({ cls := "LedgerMachine", name := "endow", desc := "(IJI)V" } : Jvm.MethodName) ∈ lw_tbl := ht_3 _ (List.mem_of_getElem? (i := 12) rfl)
theorem hw_690 : Jvm.Cond.instanceMethod ({ cls := "LedgerMachine", name := "endow", desc := "(IJI)V" } : Jvm.MethodName) ∈ lw_tbl := ht_3 _ (List.mem_of_getElem? (i := 13) rfl)
theorem hw_691 : Jvm.Cond.selects "LedgerMachine" ({ cls := "LedgerMachine", name := "endow", desc := "(IJI)V" } : Jvm.MethodName) ({ cls := "LedgerMachine", name := "endow", desc := "(IJI)V" } : Jvm.MethodName) ∈ lw_tbl := ht_3 _ (List.mem_of_getElem? (i := 14) rfl)
theorem hw_692 : Jvm.Cond.methodLink "LedgerMachineLaw" (27 : Nat) ({ cls := "LedgerMachine", name := "weight", desc := "(II)V" } : Jvm.MethodName) ∈ lw_tbl := ht_3 _ (List.mem_of_getElem? (i := 49) rfl)
theorem hw_693 : Jvm.Cond.instanceMethod ({ cls := "LedgerMachine", name := "weight", desc := "(II)V" } : Jvm.MethodName) ∈ lw_tbl := ht_3 _ (List.mem_of_getElem? (i := 50) rfl)
theorem hw_694 : Jvm.Cond.selects "LedgerMachine" ({ cls := "LedgerMachine", name := "weight", desc := "(II)V" } : Jvm.MethodName) ({ cls := "LedgerMachine", name := "weight", desc := "(II)V" } : Jvm.MethodName) ∈ lw_tbl := ht_3 _ (List.mem_of_getElem? (i := 51) rfl)
theorem hw_695 : Jvm.Cond.methodLink "LedgerMachineLaw" (31 : Nat) ({ cls := "LedgerMachine", name := "order", desc := "(IIJJIII)I" } : Jvm.MethodName) ∈ lw_tbl := ht_3 _ (List.mem_of_getElem? (i := 58) rfl)
theorem hw_696 : Jvm.Cond.instanceMethod ({ cls := "LedgerMachine", name := "order", desc := "(IIJJIII)I" } : Jvm.MethodName) ∈ lw_tbl := ht_3 _ (List.mem_of_getElem? (i := 59) rfl)
theorem hw_697 : Jvm.Cond.selects "LedgerMachine" ({ cls := "LedgerMachine", name := "order", desc := "(IIJJIII)I" } : Jvm.MethodName) ({ cls := "LedgerMachine", name := "order", desc := "(IIJJIII)I" } : Jvm.MethodName) ∈ lw_tbl := ht_3 _ (List.mem_of_getElem? (i := 60) rfl)
theorem hw_698 : Jvm.Cond.methodLink "LedgerMachineLaw" (35 : Nat) ({ cls := "LedgerMachine", name := "block", desc := "(II)I" } : Jvm.MethodName) ∈ lw_tbl := ht_3 _ (List.mem_of_getElem? (i := 103) rfl)
theorem hw_699 : Jvm.Cond.instanceMethod ({ cls := "LedgerMachine", name := "block", desc := "(II)I" } : Jvm.MethodName) ∈ lw_tbl := ht_3 _ (List.mem_of_getElem? (i := 104) rfl)
theorem hw_700 : Jvm.Cond.selects "LedgerMachine" ({ cls := "LedgerMachine", name := "block", desc := "(II)I" } : Jvm.MethodName) ({ cls := "LedgerMachine", name := "block", desc := "(II)I" } : Jvm.MethodName) ∈ lw_tbl := ht_3 _ (List.mem_of_getElem? (i := 105) rfl)
theorem hw_701 : Jvm.Cond.methodLink "LedgerMachineLaw" (39 : Nat) ({ cls := "LedgerMachine", name := "told", desc := "(II)I" } : Jvm.MethodName) ∈ lw_tbl := ht_4 _ (List.mem_of_getElem? (i := 160) rfl)
theorem hw_702 : Jvm.Cond.instanceMethod ({ cls := "LedgerMachine", name := "told", desc := "(II)I" } : Jvm.MethodName) ∈ lw_tbl := ht_4 _ (List.mem_of_getElem? (i := 161) rfl)
theorem hw_703 : Jvm.Cond.selects "LedgerMachine" ({ cls := "LedgerMachine", name := "told", desc := "(II)I" } : Jvm.MethodName) ({ cls := "LedgerMachine", name := "told", desc := "(II)I" } : Jvm.MethodName) ∈ lw_tbl := ht_4 _ (List.mem_of_getElem? (i := 162) rfl)
theorem hw_704 : Jvm.Cond.methodLink "LedgerMachineLaw" (42 : Nat) ({ cls := "LedgerMachine", name := "receipt", desc := "(III)J" } : Jvm.MethodName) ∈ lw_tbl := ht_4 _ (List.mem_of_getElem? (i := 172) rfl)
theorem hw_705 : Jvm.Cond.instanceMethod ({ cls := "LedgerMachine", name := "receipt", desc := "(III)J" } : Jvm.MethodName) ∈ lw_tbl := ht_4 _ (List.mem_of_getElem? (i := 173) rfl)
theorem hw_706 : Jvm.Cond.selects "LedgerMachine" ({ cls := "LedgerMachine", name := "receipt", desc := "(III)J" } : Jvm.MethodName) ({ cls := "LedgerMachine", name := "receipt", desc := "(III)J" } : Jvm.MethodName) ∈ lw_tbl := ht_4 _ (List.mem_of_getElem? (i := 174) rfl)
theorem hw_707 : Jvm.Cond.methodLink "LedgerMachineLaw" (46 : Nat) ({ cls := "LedgerMachine", name := "event", desc := "(III)J" } : Jvm.MethodName) ∈ lw_tbl := ht_4 _ (List.mem_of_getElem? (i := 180) rfl)
theorem hw_708 : Jvm.Cond.instanceMethod ({ cls := "LedgerMachine", name := "event", desc := "(III)J" } : Jvm.MethodName) ∈ lw_tbl := ht_4 _ (List.mem_of_getElem? (i := 181) rfl)
theorem hw_709 : Jvm.Cond.selects "LedgerMachine" ({ cls := "LedgerMachine", name := "event", desc := "(III)J" } : Jvm.MethodName) ({ cls := "LedgerMachine", name := "event", desc := "(III)J" } : Jvm.MethodName) ∈ lw_tbl := ht_4 _ (List.mem_of_getElem? (i := 182) rfl)
theorem hw_710 : Jvm.Cond.methodLink "LedgerMachineLaw" (49 : Nat) ({ cls := "LedgerMachine", name := "leaf", desc := "(II)J" } : Jvm.MethodName) ∈ lw_tbl := ht_4 _ (List.mem_of_getElem? (i := 188) rfl)
theorem hw_711 : Jvm.Cond.instanceMethod ({ cls := "LedgerMachine", name := "leaf", desc := "(II)J" } : Jvm.MethodName) ∈ lw_tbl := ht_4 _ (List.mem_of_getElem? (i := 189) rfl)
theorem hw_712 : Jvm.Cond.selects "LedgerMachine" ({ cls := "LedgerMachine", name := "leaf", desc := "(II)J" } : Jvm.MethodName) ({ cls := "LedgerMachine", name := "leaf", desc := "(II)J" } : Jvm.MethodName) ∈ lw_tbl := ht_4 _ (List.mem_of_getElem? (i := 190) rfl)
theorem hw_713 : Jvm.Cond.methodLink "LedgerMachineLaw" (53 : Nat) ({ cls := "LedgerMachine", name := "digest", desc := "(III)J" } : Jvm.MethodName) ∈ lw_tbl := ht_4 _ (List.mem_of_getElem? (i := 196) rfl)
theorem hw_714 : Jvm.Cond.instanceMethod ({ cls := "LedgerMachine", name := "digest", desc := "(III)J" } : Jvm.MethodName) ∈ lw_tbl := ht_4 _ (List.mem_of_getElem? (i := 197) rfl)
theorem hw_715 : Jvm.Cond.selects "LedgerMachine" ({ cls := "LedgerMachine", name := "digest", desc := "(III)J" } : Jvm.MethodName) ({ cls := "LedgerMachine", name := "digest", desc := "(III)J" } : Jvm.MethodName) ∈ lw_tbl := ht_4 _ (List.mem_of_getElem? (i := 198) rfl)
theorem hw_716 : Jvm.Cond.methodLink "LedgerMachineLaw" (56 : Nat) ({ cls := "LedgerMachine", name := "view", desc := "(IIIJI)J" } : Jvm.MethodName) ∈ lw_tbl := ht_4 _ (List.mem_of_getElem? (i := 220) rfl)
theorem hw_717 : Jvm.Cond.instanceMethod ({ cls := "LedgerMachine", name := "view", desc := "(IIIJI)J" } : Jvm.MethodName) ∈ lw_tbl := ht_4 _ (List.mem_of_getElem? (i := 221) rfl)
theorem hw_718 : Jvm.Cond.selects "LedgerMachine" ({ cls := "LedgerMachine", name := "view", desc := "(IIIJI)J" } : Jvm.MethodName) ({ cls := "LedgerMachine", name := "view", desc := "(IIIJI)J" } : Jvm.MethodName) ∈ lw_tbl := ht_4 _ (List.mem_of_getElem? (i := 222) rfl)
theorem hw_719 : Jvm.Cond.methodLink "LedgerMachineLaw" (60 : Nat) ({ cls := "LedgerMachine", name := "seen", desc := "(I)I" } : Jvm.MethodName) ∈ lw_tbl := ht_4 _ (List.mem_of_getElem? (i := 229) rfl)
theorem hw_720 : Jvm.Cond.instanceMethod ({ cls := "LedgerMachine", name := "seen", desc := "(I)I" } : Jvm.MethodName) ∈ lw_tbl := ht_4 _ (List.mem_of_getElem? (i := 230) rfl)
theorem hw_721 : Jvm.Cond.selects "LedgerMachine" ({ cls := "LedgerMachine", name := "seen", desc := "(I)I" } : Jvm.MethodName) ({ cls := "LedgerMachine", name := "seen", desc := "(I)I" } : Jvm.MethodName) ∈ lw_tbl := ht_4 _ (List.mem_of_getElem? (i := 231) rfl)
theorem hw_722 : Jvm.Cond.methodLink "LedgerMachineLaw" (64 : Nat) ({ cls := "LedgerMachine", name := "vote", desc := "(II)I" } : Jvm.MethodName) ∈ lw_tbl := ht_4 _ (List.mem_of_getElem? (i := 237) rfl)
theorem hw_723 : Jvm.Cond.instanceMethod ({ cls := "LedgerMachine", name := "vote", desc := "(II)I" } : Jvm.MethodName) ∈ lw_tbl := ht_4 _ (List.mem_of_getElem? (i := 238) rfl)
theorem hw_724 : Jvm.Cond.selects "LedgerMachine" ({ cls := "LedgerMachine", name := "vote", desc := "(II)I" } : Jvm.MethodName) ({ cls := "LedgerMachine", name := "vote", desc := "(II)I" } : Jvm.MethodName) ∈ lw_tbl := ht_4 _ (List.mem_of_getElem? (i := 239) rfl)
theorem hw_725 : Jvm.Cond.methodLink "LedgerMachineLaw" (67 : Nat) ({ cls := "LedgerMachine", name := "certain", desc := "(I)I" } : Jvm.MethodName) ∈ lw_tbl := ht_5 _ (List.mem_of_getElem? (i := 5) rfl)
theorem hw_726 : Jvm.Cond.instanceMethod ({ cls := "LedgerMachine", name := "certain", desc := "(I)I" } : Jvm.MethodName) ∈ lw_tbl := ht_5 _ (List.mem_of_getElem? (i := 6) rfl)
theorem hw_727 : Jvm.Cond.selects "LedgerMachine" ({ cls := "LedgerMachine", name := "certain", desc := "(I)I" } : Jvm.MethodName) ({ cls := "LedgerMachine", name := "certain", desc := "(I)I" } : Jvm.MethodName) ∈ lw_tbl := ht_5 _ (List.mem_of_getElem? (i := 7) rfl)
theorem hw_728 : Jvm.Cond.methodLink "LedgerMachineLaw" (70 : Nat) ({ cls := "LedgerMachine", name := "beside", desc := "(IJ)V" } : Jvm.MethodName) ∈ lw_tbl := ht_5 _ (List.mem_of_getElem? (i := 13) rfl)
theorem hw_729 : Jvm.Cond.instanceMethod ({ cls := "LedgerMachine", name := "beside", desc := "(IJ)V" } : Jvm.MethodName) ∈ lw_tbl := ht_5 _ (List.mem_of_getElem? (i := 14) rfl)
theorem hw_730 : Jvm.Cond.selects "LedgerMachine" ({ cls := "LedgerMachine", name := "beside", desc := "(IJ)V" } : Jvm.MethodName) ({ cls := "LedgerMachine", name := "beside", desc := "(IJ)V" } : Jvm.MethodName) ∈ lw_tbl := ht_5 _ (List.mem_of_getElem? (i := 15) rfl)
theorem hw_731 : Jvm.Cond.methodLink "LedgerMachineLaw" (74 : Nat) ({ cls := "LedgerMachine", name := "proves", desc := "(JIJ)Z" } : Jvm.MethodName) ∈ lw_tbl := ht_5 _ (List.mem_of_getElem? (i := 21) rfl)
theorem hw_732 : Jvm.Cond.instanceMethod ({ cls := "LedgerMachine", name := "proves", desc := "(JIJ)Z" } : Jvm.MethodName) ∈ lw_tbl := ht_5 _ (List.mem_of_getElem? (i := 22) rfl)
theorem hw_733 : Jvm.Cond.selects "LedgerMachine" ({ cls := "LedgerMachine", name := "proves", desc := "(JIJ)Z" } : Jvm.MethodName) ({ cls := "LedgerMachine", name := "proves", desc := "(JIJ)Z" } : Jvm.MethodName) ∈ lw_tbl := ht_5 _ (List.mem_of_getElem? (i := 23) rfl)
theorem hw_734 : Jvm.Cond.methodLink "LedgerMachineLaw" (78 : Nat) ({ cls := "LedgerMachine", name := "<init>", desc := "()V" } : Jvm.MethodName) ∈ lw_tbl := ht_1 _ (List.mem_of_getElem? (i := 24) rfl)
theorem hw_735 : Jvm.Cond.instanceMethod ({ cls := "LedgerMachine", name := "<init>", desc := "()V" } : Jvm.MethodName) ∈ lw_tbl := ht_1 _ (List.mem_of_getElem? (i := 25) rfl)
theorem hw_736 : Jvm.Cond.methodLink "LedgerMachineLaw" (81 : Nat) ({ cls := "LedgerMachineModel", name := "<init>", desc := "()V" } : Jvm.MethodName) ∈ lw_tbl := ht_5 _ (List.mem_of_getElem? (i := 28) rfl)
theorem hw_737 : Jvm.Cond.instanceMethod ({ cls := "LedgerMachineModel", name := "<init>", desc := "()V" } : Jvm.MethodName) ∈ lw_tbl := ht_5 _ (List.mem_of_getElem? (i := 29) rfl)
theorem hw_738 : Jvm.Cond.methodLink "LedgerMachineLaw" (89 : Nat) ({ cls := "LedgerMachineModel", name := "draft", desc := "(IJ)I" } : Jvm.MethodName) ∈ lw_tbl := ht_5 _ (List.mem_of_getElem? (i := 232) rfl)
theorem hw_739 : Jvm.Cond.instanceMethod ({ cls := "LedgerMachineModel", name := "draft", desc := "(IJ)I" } : Jvm.MethodName) ∈ lw_tbl := ht_5 _ (List.mem_of_getElem? (i := 233) rfl)
theorem hw_740 : Jvm.Cond.selects "LedgerMachineModel" ({ cls := "LedgerMachineModel", name := "draft", desc := "(IJ)I" } : Jvm.MethodName) ({ cls := "LedgerMachineModel", name := "draft", desc := "(IJ)I" } : Jvm.MethodName) ∈ lw_tbl := ht_5 _ (List.mem_of_getElem? (i := 234) rfl)
theorem hw_741 : Jvm.Cond.methodLink "LedgerMachineLaw" (90 : Nat) ({ cls := "LedgerMachineModel", name := "thrown", desc := "()I" } : Jvm.MethodName) ∈ lw_tbl := ht_5 _ (List.mem_of_getElem? (i := 228) rfl)
theorem hw_742 : Jvm.Cond.instanceMethod ({ cls := "LedgerMachineModel", name := "thrown", desc := "()I" } : Jvm.MethodName) ∈ lw_tbl := ht_5 _ (List.mem_of_getElem? (i := 229) rfl)
theorem hw_743 : Jvm.Cond.selects "LedgerMachineModel" ({ cls := "LedgerMachineModel", name := "thrown", desc := "()I" } : Jvm.MethodName) ({ cls := "LedgerMachineModel", name := "thrown", desc := "()I" } : Jvm.MethodName) ∈ lw_tbl := ht_5 _ (List.mem_of_getElem? (i := 230) rfl)
theorem hw_744 : Jvm.Cond.methodLink "LedgerMachineLaw" (96 : Nat) ({ cls := "LedgerMachineModel", name := "code", desc := "()I" } : Jvm.MethodName) ∈ lw_tbl := ht_5 _ (List.mem_of_getElem? (i := 237) rfl)
theorem hw_745 : Jvm.Cond.instanceMethod ({ cls := "LedgerMachineModel", name := "code", desc := "()I" } : Jvm.MethodName) ∈ lw_tbl := ht_5 _ (List.mem_of_getElem? (i := 238) rfl)
theorem hw_746 : Jvm.Cond.selects "LedgerMachineModel" ({ cls := "LedgerMachineModel", name := "code", desc := "()I" } : Jvm.MethodName) ({ cls := "LedgerMachineModel", name := "code", desc := "()I" } : Jvm.MethodName) ∈ lw_tbl := ht_5 _ (List.mem_of_getElem? (i := 239) rfl)
theorem hw_747 : Jvm.Cond.methodLink "LedgerMachineLaw" (100 : Nat) ({ cls := "LedgerMachineModel", name := "endow", desc := "(IJI)V" } : Jvm.MethodName) ∈ lw_tbl := ht_6 _ (List.mem_of_getElem? (i := 8) rfl)
theorem hw_748 : Jvm.Cond.instanceMethod ({ cls := "LedgerMachineModel", name := "endow", desc := "(IJI)V" } : Jvm.MethodName) ∈ lw_tbl := ht_6 _ (List.mem_of_getElem? (i := 9) rfl)
theorem hw_749 : Jvm.Cond.selects "LedgerMachineModel" ({ cls := "LedgerMachineModel", name := "endow", desc := "(IJI)V" } : Jvm.MethodName) ({ cls := "LedgerMachineModel", name := "endow", desc := "(IJI)V" } : Jvm.MethodName) ∈ lw_tbl := ht_6 _ (List.mem_of_getElem? (i := 10) rfl)
theorem hw_750 : Jvm.Cond.methodLink "LedgerMachineLaw" (104 : Nat) ({ cls := "LedgerMachineModel", name := "weight", desc := "(II)V" } : Jvm.MethodName) ∈ lw_tbl := ht_6 _ (List.mem_of_getElem? (i := 17) rfl)
theorem hw_751 : Jvm.Cond.instanceMethod ({ cls := "LedgerMachineModel", name := "weight", desc := "(II)V" } : Jvm.MethodName) ∈ lw_tbl := ht_6 _ (List.mem_of_getElem? (i := 18) rfl)
theorem hw_752 : Jvm.Cond.selects "LedgerMachineModel" ({ cls := "LedgerMachineModel", name := "weight", desc := "(II)V" } : Jvm.MethodName) ({ cls := "LedgerMachineModel", name := "weight", desc := "(II)V" } : Jvm.MethodName) ∈ lw_tbl := ht_6 _ (List.mem_of_getElem? (i := 19) rfl)
theorem hw_753 : Jvm.Cond.methodLink "LedgerMachineLaw" (108 : Nat) ({ cls := "LedgerMachineModel", name := "order", desc := "(IIJJIII)I" } : Jvm.MethodName) ∈ lw_tbl := ht_6 _ (List.mem_of_getElem? (i := 21) rfl)
theorem hw_754 : Jvm.Cond.instanceMethod ({ cls := "LedgerMachineModel", name := "order", desc := "(IIJJIII)I" } : Jvm.MethodName) ∈ lw_tbl := ht_6 _ (List.mem_of_getElem? (i := 22) rfl)
theorem hw_755 : Jvm.Cond.selects "LedgerMachineModel" ({ cls := "LedgerMachineModel", name := "order", desc := "(IIJJIII)I" } : Jvm.MethodName) ({ cls := "LedgerMachineModel", name := "order", desc := "(IIJJIII)I" } : Jvm.MethodName) ∈ lw_tbl := ht_6 _ (List.mem_of_getElem? (i := 23) rfl)
theorem hw_756 : Jvm.Cond.methodLink "LedgerMachineLaw" (112 : Nat) ({ cls := "LedgerMachineModel", name := "block", desc := "(II)I" } : Jvm.MethodName) ∈ lw_tbl := ht_6 _ (List.mem_of_getElem? (i := 27) rfl)
theorem hw_757 : Jvm.Cond.instanceMethod ({ cls := "LedgerMachineModel", name := "block", desc := "(II)I" } : Jvm.MethodName) ∈ lw_tbl := ht_6 _ (List.mem_of_getElem? (i := 28) rfl)
theorem hw_758 : Jvm.Cond.selects "LedgerMachineModel" ({ cls := "LedgerMachineModel", name := "block", desc := "(II)I" } : Jvm.MethodName) ({ cls := "LedgerMachineModel", name := "block", desc := "(II)I" } : Jvm.MethodName) ∈ lw_tbl := ht_6 _ (List.mem_of_getElem? (i := 29) rfl)
theorem hw_759 : Jvm.Cond.methodLink "LedgerMachineLaw" (115 : Nat) ({ cls := "LedgerMachineModel", name := "told", desc := "(II)I" } : Jvm.MethodName) ∈ lw_tbl := ht_6 _ (List.mem_of_getElem? (i := 136) rfl)
theorem hw_760 : Jvm.Cond.instanceMethod ({ cls := "LedgerMachineModel", name := "told", desc := "(II)I" } : Jvm.MethodName) ∈ lw_tbl := ht_6 _ (List.mem_of_getElem? (i := 137) rfl)
theorem hw_761 : Jvm.Cond.selects "LedgerMachineModel" ({ cls := "LedgerMachineModel", name := "told", desc := "(II)I" } : Jvm.MethodName) ({ cls := "LedgerMachineModel", name := "told", desc := "(II)I" } : Jvm.MethodName) ∈ lw_tbl := ht_6 _ (List.mem_of_getElem? (i := 138) rfl)
theorem hw_762 : Jvm.Cond.methodLink "LedgerMachineLaw" (119 : Nat) ({ cls := "LedgerMachineModel", name := "receipt", desc := "(III)J" } : Jvm.MethodName) ∈ lw_tbl := ht_6 _ (List.mem_of_getElem? (i := 144) rfl)
theorem hw_763 : Jvm.Cond.instanceMethod ({ cls := "LedgerMachineModel", name := "receipt", desc := "(III)J" } : Jvm.MethodName) ∈ lw_tbl := ht_6 _ (List.mem_of_getElem? (i := 145) rfl)
theorem hw_764 : Jvm.Cond.selects "LedgerMachineModel" ({ cls := "LedgerMachineModel", name := "receipt", desc := "(III)J" } : Jvm.MethodName) ({ cls := "LedgerMachineModel", name := "receipt", desc := "(III)J" } : Jvm.MethodName) ∈ lw_tbl := ht_6 _ (List.mem_of_getElem? (i := 146) rfl)
theorem hw_765 : Jvm.Cond.methodLink "LedgerMachineLaw" (122 : Nat) ({ cls := "LedgerMachineModel", name := "event", desc := "(III)J" } : Jvm.MethodName) ∈ lw_tbl := ht_6 _ (List.mem_of_getElem? (i := 148) rfl)
theorem hw_766 : Jvm.Cond.instanceMethod ({ cls := "LedgerMachineModel", name := "event", desc := "(III)J" } : Jvm.MethodName) ∈ lw_tbl := ht_6 _ (List.mem_of_getElem? (i := 149) rfl)
theorem hw_767 : Jvm.Cond.selects "LedgerMachineModel" ({ cls := "LedgerMachineModel", name := "event", desc := "(III)J" } : Jvm.MethodName) ({ cls := "LedgerMachineModel", name := "event", desc := "(III)J" } : Jvm.MethodName) ∈ lw_tbl := ht_6 _ (List.mem_of_getElem? (i := 150) rfl)
theorem hw_768 : Jvm.Cond.methodLink "LedgerMachineLaw" (125 : Nat) ({ cls := "LedgerMachineModel", name := "leaf", desc := "(II)J" } : Jvm.MethodName) ∈ lw_tbl := ht_6 _ (List.mem_of_getElem? (i := 152) rfl)
theorem hw_769 : Jvm.Cond.instanceMethod ({ cls := "LedgerMachineModel", name := "leaf", desc := "(II)J" } : Jvm.MethodName) ∈ lw_tbl := ht_6 _ (List.mem_of_getElem? (i := 153) rfl)
theorem hw_770 : Jvm.Cond.selects "LedgerMachineModel" ({ cls := "LedgerMachineModel", name := "leaf", desc := "(II)J" } : Jvm.MethodName) ({ cls := "LedgerMachineModel", name := "leaf", desc := "(II)J" } : Jvm.MethodName) ∈ lw_tbl := ht_6 _ (List.mem_of_getElem? (i := 154) rfl)
theorem hw_771 : Jvm.Cond.methodLink "LedgerMachineLaw" (128 : Nat) ({ cls := "LedgerMachineModel", name := "digest", desc := "(III)J" } : Jvm.MethodName) ∈ lw_tbl := ht_6 _ (List.mem_of_getElem? (i := 160) rfl)
theorem hw_772 : Jvm.Cond.instanceMethod ({ cls := "LedgerMachineModel", name := "digest", desc := "(III)J" } : Jvm.MethodName) ∈ lw_tbl := ht_6 _ (List.mem_of_getElem? (i := 161) rfl)
theorem hw_773 : Jvm.Cond.selects "LedgerMachineModel" ({ cls := "LedgerMachineModel", name := "digest", desc := "(III)J" } : Jvm.MethodName) ({ cls := "LedgerMachineModel", name := "digest", desc := "(III)J" } : Jvm.MethodName) ∈ lw_tbl := ht_6 _ (List.mem_of_getElem? (i := 162) rfl)
theorem hw_774 : Jvm.Cond.methodLink "LedgerMachineLaw" (132 : Nat) ({ cls := "LedgerMachineModel", name := "view", desc := "(IIIJI)J" } : Jvm.MethodName) ∈ lw_tbl := ht_6 _ (List.mem_of_getElem? (i := 174) rfl)
theorem hw_775 : Jvm.Cond.instanceMethod ({ cls := "LedgerMachineModel", name := "view", desc := "(IIIJI)J" } : Jvm.MethodName) ∈ lw_tbl := ht_6 _ (List.mem_of_getElem? (i := 175) rfl)
theorem hw_776 : Jvm.Cond.selects "LedgerMachineModel" ({ cls := "LedgerMachineModel", name := "view", desc := "(IIIJI)J" } : Jvm.MethodName) ({ cls := "LedgerMachineModel", name := "view", desc := "(IIIJI)J" } : Jvm.MethodName) ∈ lw_tbl := ht_6 _ (List.mem_of_getElem? (i := 176) rfl)
theorem hw_777 : Jvm.Cond.methodLink "LedgerMachineLaw" (136 : Nat) ({ cls := "LedgerMachineModel", name := "seen", desc := "(I)I" } : Jvm.MethodName) ∈ lw_tbl := ht_6 _ (List.mem_of_getElem? (i := 178) rfl)
theorem hw_778 : Jvm.Cond.instanceMethod ({ cls := "LedgerMachineModel", name := "seen", desc := "(I)I" } : Jvm.MethodName) ∈ lw_tbl := ht_6 _ (List.mem_of_getElem? (i := 179) rfl)
theorem hw_779 : Jvm.Cond.selects "LedgerMachineModel" ({ cls := "LedgerMachineModel", name := "seen", desc := "(I)I" } : Jvm.MethodName) ({ cls := "LedgerMachineModel", name := "seen", desc := "(I)I" } : Jvm.MethodName) ∈ lw_tbl := ht_6 _ (List.mem_of_getElem? (i := 180) rfl)
theorem hw_780 : Jvm.Cond.methodLink "LedgerMachineLaw" (139 : Nat) ({ cls := "LedgerMachineModel", name := "vote", desc := "(II)I" } : Jvm.MethodName) ∈ lw_tbl := ht_6 _ (List.mem_of_getElem? (i := 182) rfl)
theorem hw_781 : Jvm.Cond.instanceMethod ({ cls := "LedgerMachineModel", name := "vote", desc := "(II)I" } : Jvm.MethodName) ∈ lw_tbl := ht_6 _ (List.mem_of_getElem? (i := 183) rfl)
theorem hw_782 : Jvm.Cond.selects "LedgerMachineModel" ({ cls := "LedgerMachineModel", name := "vote", desc := "(II)I" } : Jvm.MethodName) ({ cls := "LedgerMachineModel", name := "vote", desc := "(II)I" } : Jvm.MethodName) ∈ lw_tbl := ht_6 _ (List.mem_of_getElem? (i := 184) rfl)
theorem hw_783 : Jvm.Cond.methodLink "LedgerMachineLaw" (142 : Nat) ({ cls := "LedgerMachineModel", name := "certain", desc := "(I)I" } : Jvm.MethodName) ∈ lw_tbl := ht_6 _ (List.mem_of_getElem? (i := 186) rfl)
theorem hw_784 : Jvm.Cond.instanceMethod ({ cls := "LedgerMachineModel", name := "certain", desc := "(I)I" } : Jvm.MethodName) ∈ lw_tbl := ht_6 _ (List.mem_of_getElem? (i := 187) rfl)
theorem hw_785 : Jvm.Cond.selects "LedgerMachineModel" ({ cls := "LedgerMachineModel", name := "certain", desc := "(I)I" } : Jvm.MethodName) ({ cls := "LedgerMachineModel", name := "certain", desc := "(I)I" } : Jvm.MethodName) ∈ lw_tbl := ht_6 _ (List.mem_of_getElem? (i := 188) rfl)
theorem hw_786 : Jvm.Cond.methodLink "LedgerMachineLaw" (146 : Nat) ({ cls := "LedgerMachineModel", name := "beside", desc := "(IJ)V" } : Jvm.MethodName) ∈ lw_tbl := ht_6 _ (List.mem_of_getElem? (i := 190) rfl)
theorem hw_787 : Jvm.Cond.instanceMethod ({ cls := "LedgerMachineModel", name := "beside", desc := "(IJ)V" } : Jvm.MethodName) ∈ lw_tbl := ht_6 _ (List.mem_of_getElem? (i := 191) rfl)
theorem hw_788 : Jvm.Cond.selects "LedgerMachineModel" ({ cls := "LedgerMachineModel", name := "beside", desc := "(IJ)V" } : Jvm.MethodName) ({ cls := "LedgerMachineModel", name := "beside", desc := "(IJ)V" } : Jvm.MethodName) ∈ lw_tbl := ht_6 _ (List.mem_of_getElem? (i := 192) rfl)
theorem hw_789 : Jvm.Cond.methodLink "LedgerMachineLaw" (150 : Nat) ({ cls := "LedgerMachineModel", name := "proves", desc := "(JIJ)Z" } : Jvm.MethodName) ∈ lw_tbl := ht_6 _ (List.mem_of_getElem? (i := 194) rfl)
theorem hw_790 : Jvm.Cond.instanceMethod ({ cls := "LedgerMachineModel", name := "proves", desc := "(JIJ)Z" } : Jvm.MethodName) ∈ lw_tbl := ht_6 _ (List.mem_of_getElem? (i := 195) rfl)
theorem hw_791 : Jvm.Cond.selects "LedgerMachineModel" ({ cls := "LedgerMachineModel", name := "proves", desc := "(JIJ)Z" } : Jvm.MethodName) ({ cls := "LedgerMachineModel", name := "proves", desc := "(JIJ)Z" } : Jvm.MethodName) ∈ lw_tbl := ht_6 _ (List.mem_of_getElem? (i := 196) rfl)
theorem hw_792 : Jvm.Cond.initialized "LedgerMachineLaw" ∈ lw_tbl := ht_1 _ (List.mem_of_getElem? (i := 0) rfl)
theorem hw_793 : Jvm.Cond.initialized "java/lang/Throwable" ∈ lw_tbl := ht_1 _ (List.mem_of_getElem? (i := 12) rfl)
theorem hw_794 : Jvm.Cond.initialized "java/lang/Exception" ∈ lw_tbl := ht_1 _ (List.mem_of_getElem? (i := 13) rfl)
theorem hw_795 : Jvm.Cond.initialized "java/lang/RuntimeException" ∈ lw_tbl := ht_1 _ (List.mem_of_getElem? (i := 14) rfl)
theorem hw_796 : Jvm.Cond.initialized "java/lang/IllegalArgumentException" ∈ lw_tbl := ht_1 _ (List.mem_of_getElem? (i := 15) rfl)
theorem hw_797 : Jvm.Cond.initialized "java/lang/IllegalStateException" ∈ lw_tbl := ht_1 _ (List.mem_of_getElem? (i := 16) rfl)
theorem hw_798 : Jvm.Cond.initialized "java/lang/System" ∈ lw_tbl := ht_1 _ (List.mem_of_getElem? (i := 19) rfl)
theorem hw_799 : Jvm.Cond.initialized "java/lang/IndexOutOfBoundsException" ∈ lw_tbl := ht_1 _ (List.mem_of_getElem? (i := 20) rfl)
theorem hw_800 : Jvm.Cond.classLink "LedgerMachineLaw" (8 : Nat) "LedgerMachine" ∈ lw_tbl := ht_1 _ (List.mem_of_getElem? (i := 22) rfl)
theorem hw_801 : Jvm.Cond.instantiable "LedgerMachine" (12 : Nat) ∈ lw_tbl := ht_1 _ (List.mem_of_getElem? (i := 23) rfl)
theorem hw_802 : Jvm.Cond.classLink "LedgerMachine" (7 : Nat) "LedgerMachine$Draft" ∈ lw_tbl := ht_1 _ (List.mem_of_getElem? (i := 30) rfl)
theorem hw_803 : Jvm.Cond.instantiable "LedgerMachine$Draft" (3 : Nat) ∈ lw_tbl := ht_1 _ (List.mem_of_getElem? (i := 31) rfl)
theorem hw_804 : Jvm.Cond.arrayClass Jvm.ClassFile.FieldType.byte ∈ lw_tbl := ht_1 _ (List.mem_of_getElem? (i := 46) rfl)
theorem hw_805 : Jvm.Cond.arrayClass Jvm.ClassFile.FieldType.boolean ∈ lw_tbl := ht_1 _ (List.mem_of_getElem? (i := 47) rfl)
theorem hw_806 : Jvm.Cond.classLink "LedgerMachine" (16 : Nat) "LedgerMachine$Machine" ∈ lw_tbl := ht_1 _ (List.mem_of_getElem? (i := 48) rfl)
theorem hw_807 : Jvm.Cond.instantiable "LedgerMachine$Machine" (13 : Nat) ∈ lw_tbl := ht_1 _ (List.mem_of_getElem? (i := 49) rfl)
theorem hw_808 : Jvm.Cond.classLink "LedgerMachine$Machine" (9 : Nat) "LedgerMachine$CodeBook" ∈ lw_tbl := ht_1 _ (List.mem_of_getElem? (i := 54) rfl)
theorem hw_809 : Jvm.Cond.instantiable "LedgerMachine$CodeBook" (2 : Nat) ∈ lw_tbl := ht_1 _ (List.mem_of_getElem? (i := 55) rfl)
theorem hw_810 : Jvm.Cond.classLink "LedgerMachine$CodeBook" (9 : Nat) "LedgerMachine$Code" ∈ lw_tbl := ht_1 _ (List.mem_of_getElem? (i := 60) rfl)
theorem hw_811 : Jvm.Cond.arrayOver (Jvm.ClassFile.FieldType.object "LedgerMachine$Code") ∈ lw_tbl := ht_1 _ (List.mem_of_getElem? (i := 61) rfl)
theorem hw_812 : Jvm.Cond.classLink "LedgerMachine$Machine" (18 : Nat) "LedgerMachine$State" ∈ lw_tbl := ht_1 _ (List.mem_of_getElem? (i := 70) rfl)
theorem hw_813 : Jvm.Cond.instantiable "LedgerMachine$State" (1 : Nat) ∈ lw_tbl := ht_1 _ (List.mem_of_getElem? (i := 71) rfl)
theorem hw_814 : Jvm.Cond.arrayClass Jvm.ClassFile.FieldType.long ∈ lw_tbl := ht_1 _ (List.mem_of_getElem? (i := 80) rfl)
theorem hw_815 : Jvm.Cond.classLink "LedgerMachine$Machine" (25 : Nat) "LedgerMachine$EventLog" ∈ lw_tbl := ht_1 _ (List.mem_of_getElem? (i := 81) rfl)
theorem hw_816 : Jvm.Cond.instantiable "LedgerMachine$EventLog" (3 : Nat) ∈ lw_tbl := ht_1 _ (List.mem_of_getElem? (i := 82) rfl)
theorem hw_817 : Jvm.Cond.classLink "LedgerMachine$Machine" (32 : Nat) "LedgerMachine$Call" ∈ lw_tbl := ht_1 _ (List.mem_of_getElem? (i := 98) rfl)
theorem hw_818 : Jvm.Cond.instantiable "LedgerMachine$Call" (6 : Nat) ∈ lw_tbl := ht_1 _ (List.mem_of_getElem? (i := 99) rfl)
theorem hw_819 : Jvm.Cond.classLink "LedgerMachine$Machine" (39 : Nat) "LedgerMachine$Frame" ∈ lw_tbl := ht_1 _ (List.mem_of_getElem? (i := 133) rfl)
theorem hw_820 : Jvm.Cond.arrayOver (Jvm.ClassFile.FieldType.object "LedgerMachine$Frame") ∈ lw_tbl := ht_1 _ (List.mem_of_getElem? (i := 134) rfl)
theorem hw_821 : Jvm.Cond.instantiable "LedgerMachine$Frame" (15 : Nat) ∈ lw_tbl := ht_1 _ (List.mem_of_getElem? (i := 135) rfl)
theorem hw_822 : Jvm.Cond.classLink "LedgerMachine" (23 : Nat) "LedgerMachine$Order" ∈ lw_tbl := ht_2 _ (List.mem_of_getElem? (i := 2) rfl)
theorem hw_823 : Jvm.Cond.arrayOver (Jvm.ClassFile.FieldType.object "LedgerMachine$Order") ∈ lw_tbl := ht_2 _ (List.mem_of_getElem? (i := 3) rfl)
theorem hw_824 : Jvm.Cond.classLink "LedgerMachine" (29 : Nat) "LedgerMachine$Block" ∈ lw_tbl := ht_2 _ (List.mem_of_getElem? (i := 4) rfl)
theorem hw_825 : Jvm.Cond.arrayOver (Jvm.ClassFile.FieldType.object "LedgerMachine$Block") ∈ lw_tbl := ht_2 _ (List.mem_of_getElem? (i := 5) rfl)
theorem hw_826 : Jvm.Cond.instantiable "LedgerMachine$Block" (7 : Nat) ∈ lw_tbl := ht_2 _ (List.mem_of_getElem? (i := 6) rfl)
theorem hw_827 : Jvm.Cond.arrayClass Jvm.ClassFile.FieldType.int ∈ lw_tbl := ht_2 _ (List.mem_of_getElem? (i := 79) rfl)
theorem hw_828 : Jvm.Cond.classLink "LedgerMachineLaw" (13 : Nat) "java/lang/IllegalArgumentException" ∈ lw_tbl := ht_2 _ (List.mem_of_getElem? (i := 83) rfl)
theorem hw_829 : Jvm.Cond.classLink "LedgerMachine" (63 : Nat) "java/lang/IllegalArgumentException" ∈ lw_tbl := ht_2 _ (List.mem_of_getElem? (i := 92) rfl)
theorem hw_830 : Jvm.Cond.instantiable "java/lang/IllegalArgumentException" (6 : Nat) ∈ lw_tbl := ht_2 _ (List.mem_of_getElem? (i := 93) rfl)
theorem hw_831 : Jvm.Cond.castable "java/lang/IllegalArgumentException" "java/lang/IllegalArgumentException" ∈ lw_tbl := ht_2 _ (List.mem_of_getElem? (i := 94) rfl)
theorem hw_832 : Jvm.Cond.laysStatic "java/lang/Throwable" "UNASSIGNED_STACK" "[Ljava/lang/StackTraceElement;" ∈ lw_tbl := ht_2 _ (List.mem_of_getElem? (i := 119) rfl)
theorem hw_833 : Jvm.Cond.laysStatic "java/lang/Throwable" "SUPPRESSED_SENTINEL" "Ljava/util/List;" ∈ lw_tbl := ht_2 _ (List.mem_of_getElem? (i := 121) rfl)
theorem hw_834 : Jvm.Cond.instantiable "java/lang/Throwable" (6 : Nat) ∈ lw_tbl := ht_2 _ (List.mem_of_getElem? (i := 131) rfl)
theorem hw_835 : Jvm.Cond.stringRef "LedgerMachine" (65 : Nat) "1 to 8 octets, and at most 200 in all" ∈ lw_tbl := ht_2 _ (List.mem_of_getElem? (i := 133) rfl)
theorem hw_836 : Jvm.Cond.classLink "LedgerMachineLaw" (19 : Nat) "java/lang/IllegalStateException" ∈ lw_tbl := ht_2 _ (List.mem_of_getElem? (i := 166) rfl)
theorem hw_837 : Jvm.Cond.classLink "LedgerMachine" (84 : Nat) "java/lang/IllegalStateException" ∈ lw_tbl := ht_2 _ (List.mem_of_getElem? (i := 175) rfl)
theorem hw_838 : Jvm.Cond.instantiable "java/lang/IllegalStateException" (6 : Nat) ∈ lw_tbl := ht_2 _ (List.mem_of_getElem? (i := 176) rfl)
theorem hw_839 : Jvm.Cond.castable "java/lang/IllegalStateException" "java/lang/IllegalStateException" ∈ lw_tbl := ht_2 _ (List.mem_of_getElem? (i := 177) rfl)
theorem hw_840 : Jvm.Cond.stringRef "LedgerMachine" (86 : Nat) "there are 16 codes" ∈ lw_tbl := ht_2 _ (List.mem_of_getElem? (i := 184) rfl)
theorem hw_841 : Jvm.Cond.castable "[B" "java/lang/Cloneable" ∈ lw_tbl := ht_2 _ (List.mem_of_getElem? (i := 226) rfl)
theorem hw_842 : Jvm.Cond.classLink "java/util/Arrays" (311 : Nat) "[B" ∈ lw_tbl := ht_2 _ (List.mem_of_getElem? (i := 227) rfl)
theorem hw_843 : Jvm.Cond.classLink "LedgerMachine" (97 : Nat) "LedgerMachine$Code" ∈ lw_tbl := ht_2 _ (List.mem_of_getElem? (i := 234) rfl)
theorem hw_844 : Jvm.Cond.instantiable "LedgerMachine$Code" (1 : Nat) ∈ lw_tbl := ht_2 _ (List.mem_of_getElem? (i := 235) rfl)
theorem hw_845 : Jvm.Cond.classLink "LedgerMachineLaw" (25 : Nat) "java/lang/IndexOutOfBoundsException" ∈ lw_tbl := ht_3 _ (List.mem_of_getElem? (i := 11) rfl)
theorem hw_846 : Jvm.Cond.classLink "LedgerMachine" (113 : Nat) "java/lang/IndexOutOfBoundsException" ∈ lw_tbl := ht_3 _ (List.mem_of_getElem? (i := 27) rfl)
theorem hw_847 : Jvm.Cond.instantiable "java/lang/IndexOutOfBoundsException" (6 : Nat) ∈ lw_tbl := ht_3 _ (List.mem_of_getElem? (i := 28) rfl)
theorem hw_848 : Jvm.Cond.castable "java/lang/IndexOutOfBoundsException" "java/lang/IndexOutOfBoundsException" ∈ lw_tbl := ht_3 _ (List.mem_of_getElem? (i := 29) rfl)
theorem hw_849 : Jvm.Cond.stringRef "LedgerMachine" (115 : Nat) "no such account or code" ∈ lw_tbl := ht_3 _ (List.mem_of_getElem? (i := 36) rfl)
theorem hw_850 : Jvm.Cond.constantLong "LedgerMachine" (118 : Nat) (17592186044416 : Int64) ∈ lw_tbl := ht_3 _ (List.mem_of_getElem? (i := 43) rfl)
theorem hw_851 : Jvm.Cond.stringRef "LedgerMachine" (120 : Nat) "the balance is not 0 to 2^44" ∈ lw_tbl := ht_3 _ (List.mem_of_getElem? (i := 44) rfl)
theorem hw_852 : Jvm.Cond.stringRef "LedgerMachine" (122 : Nat) "there is another block" ∈ lw_tbl := ht_3 _ (List.mem_of_getElem? (i := 45) rfl)
theorem hw_853 : Jvm.Cond.stringRef "LedgerMachine" (131 : Nat) "no such voter" ∈ lw_tbl := ht_3 _ (List.mem_of_getElem? (i := 53) rfl)
theorem hw_854 : Jvm.Cond.stringRef "LedgerMachine" (133 : Nat) "the weight is not 0 to 1000" ∈ lw_tbl := ht_3 _ (List.mem_of_getElem? (i := 54) rfl)
theorem hw_855 : Jvm.Cond.stringRef "LedgerMachine" (135 : Nat) "no such account" ∈ lw_tbl := ht_3 _ (List.mem_of_getElem? (i := 62) rfl)
theorem hw_856 : Jvm.Cond.constantLong "LedgerMachine" (137 : Nat) (1125899906842624 : Int64) ∈ lw_tbl := ht_3 _ (List.mem_of_getElem? (i := 63) rfl)
theorem hw_857 : Jvm.Cond.constant "LedgerMachine" (139 : Nat) (1000000 : Int32) ∈ lw_tbl := ht_3 _ (List.mem_of_getElem? (i := 64) rfl)
theorem hw_858 : Jvm.Cond.stringRef "LedgerMachine" (140 : Nat) "value, gas or price is out of its bounds" ∈ lw_tbl := ht_3 _ (List.mem_of_getElem? (i := 65) rfl)
theorem hw_859 : Jvm.Cond.stringRef "LedgerMachine" (145 : Nat) "there are 10 orders" ∈ lw_tbl := ht_3 _ (List.mem_of_getElem? (i := 66) rfl)
theorem hw_860 : Jvm.Cond.instantiable "LedgerMachine$Order" (7 : Nat) ∈ lw_tbl := ht_3 _ (List.mem_of_getElem? (i := 67) rfl)
theorem hw_861 : Jvm.Cond.stringRef "LedgerMachine" (153 : Nat) "no such parent or maker" ∈ lw_tbl := ht_3 _ (List.mem_of_getElem? (i := 111) rfl)
theorem hw_862 : Jvm.Cond.stringRef "LedgerMachine" (155 : Nat) "there are 40 blocks" ∈ lw_tbl := ht_3 _ (List.mem_of_getElem? (i := 112) rfl)
theorem hw_863 : Jvm.Cond.constant "LedgerMachine$Machine" (76 : Nat) (1000000 : Int32) ∈ lw_tbl := ht_3 _ (List.mem_of_getElem? (i := 210) rfl)
theorem hw_864 : Jvm.Cond.laysStatic "LedgerMachine$Machine" "COSTS" "[I" ∈ lw_tbl := ht_3 _ (List.mem_of_getElem? (i := 221) rfl)
theorem hw_865 : Jvm.Cond.laysStatic "LedgerMachine$Frame" "TAKES" "[I" ∈ lw_tbl := ht_3 _ (List.mem_of_getElem? (i := 235) rfl)
theorem hw_866 : Jvm.Cond.constantLong "LedgerMachine$Machine" (291 : Nat) (-1 : Int64) ∈ lw_tbl := ht_4 _ (List.mem_of_getElem? (i := 104) rfl)
theorem hw_867 : Jvm.Cond.castable "[J" "java/lang/Cloneable" ∈ lw_tbl := ht_4 _ (List.mem_of_getElem? (i := 145) rfl)
theorem hw_868 : Jvm.Cond.classLink "LedgerMachine$State" (22 : Nat) "[J" ∈ lw_tbl := ht_4 _ (List.mem_of_getElem? (i := 146) rfl)
theorem hw_869 : Jvm.Cond.classLink "java/util/Arrays" (320 : Nat) "[J" ∈ lw_tbl := ht_4 _ (List.mem_of_getElem? (i := 156) rfl)
theorem hw_870 : Jvm.Cond.stringRef "LedgerMachine" (187 : Nat) "no such block, or nothing such to tell" ∈ lw_tbl := ht_4 _ (List.mem_of_getElem? (i := 164) rfl)
theorem hw_871 : Jvm.Cond.stringRef "LedgerMachine" (206 : Nat) "no such block or order, or nothing such to tell" ∈ lw_tbl := ht_4 _ (List.mem_of_getElem? (i := 176) rfl)
theorem hw_872 : Jvm.Cond.stringRef "LedgerMachine" (208 : Nat) "no such block or event, or nothing such to tell" ∈ lw_tbl := ht_4 _ (List.mem_of_getElem? (i := 184) rfl)
theorem hw_873 : Jvm.Cond.stringRef "LedgerMachine" (210 : Nat) "no such block or leaf" ∈ lw_tbl := ht_4 _ (List.mem_of_getElem? (i := 192) rfl)
theorem hw_874 : Jvm.Cond.stringRef "LedgerMachine" (212 : Nat) "no such block, level or node" ∈ lw_tbl := ht_4 _ (List.mem_of_getElem? (i := 200) rfl)
theorem hw_875 : Jvm.Cond.constantLong "LedgerMachine" (325 : Nat) (-7046029254386353131 : Int64) ∈ lw_tbl := ht_4 _ (List.mem_of_getElem? (i := 210) rfl)
theorem hw_876 : Jvm.Cond.stringRef "LedgerMachine" (218 : Nat) "no such block or account" ∈ lw_tbl := ht_4 _ (List.mem_of_getElem? (i := 224) rfl)
theorem hw_877 : Jvm.Cond.stringRef "LedgerMachine" (220 : Nat) "gas is not 0 to 30000" ∈ lw_tbl := ht_4 _ (List.mem_of_getElem? (i := 225) rfl)
theorem hw_878 : Jvm.Cond.stringRef "LedgerMachine" (248 : Nat) "nothing such to tell" ∈ lw_tbl := ht_4 _ (List.mem_of_getElem? (i := 233) rfl)
theorem hw_879 : Jvm.Cond.stringRef "LedgerMachine" (250 : Nat) "no such voter or block" ∈ lw_tbl := ht_5 _ (List.mem_of_getElem? (i := 1) rfl)
theorem hw_880 : Jvm.Cond.stringRef "LedgerMachine" (252 : Nat) "the height is not 0 to 39" ∈ lw_tbl := ht_5 _ (List.mem_of_getElem? (i := 9) rfl)
theorem hw_881 : Jvm.Cond.stringRef "LedgerMachine" (254 : Nat) "n is not 0 to 9" ∈ lw_tbl := ht_5 _ (List.mem_of_getElem? (i := 17) rfl)
theorem hw_882 : Jvm.Cond.stringRef "LedgerMachine" (256 : Nat) "no such leaf" ∈ lw_tbl := ht_5 _ (List.mem_of_getElem? (i := 25) rfl)
theorem hw_883 : Jvm.Cond.classLink "LedgerMachineLaw" (79 : Nat) "LedgerMachineModel" ∈ lw_tbl := ht_5 _ (List.mem_of_getElem? (i := 26) rfl)
theorem hw_884 : Jvm.Cond.instantiable "LedgerMachineModel" (65 : Nat) ∈ lw_tbl := ht_5 _ (List.mem_of_getElem? (i := 27) rfl)
theorem hw_885 : Jvm.Cond.constantLong "LedgerMachineModel" (170 : Nat) (255 : Int64) ∈ lw_tbl := ht_5 _ (List.mem_of_getElem? (i := 236) rfl)
theorem hw_886 : Jvm.Cond.constantLong "LedgerMachineModel" (179 : Nat) (32 : Int64) ∈ lw_tbl := ht_6 _ (List.mem_of_getElem? (i := 15) rfl)
theorem hw_887 : Jvm.Cond.constantLong "LedgerMachineModel" (185 : Nat) (17592186044416 : Int64) ∈ lw_tbl := ht_6 _ (List.mem_of_getElem? (i := 16) rfl)
theorem hw_888 : Jvm.Cond.constantLong "LedgerMachineModel" (187 : Nat) (1125899906842624 : Int64) ∈ lw_tbl := ht_6 _ (List.mem_of_getElem? (i := 25) rfl)
theorem hw_889 : Jvm.Cond.constant "LedgerMachineModel" (189 : Nat) (1000000 : Int32) ∈ lw_tbl := ht_6 _ (List.mem_of_getElem? (i := 26) rfl)
theorem hw_890 : Jvm.Cond.constantLong "LedgerMachineModel" (266 : Nat) (63 : Int64) ∈ lw_tbl := ht_6 _ (List.mem_of_getElem? (i := 88) rfl)
theorem hw_891 : Jvm.Cond.constantLong "LedgerMachineModel" (268 : Nat) (15 : Int64) ∈ lw_tbl := ht_6 _ (List.mem_of_getElem? (i := 93) rfl)
theorem hw_892 : Jvm.Cond.constantLong "LedgerMachineModel" (270 : Nat) (40 : Int64) ∈ lw_tbl := ht_6 _ (List.mem_of_getElem? (i := 94) rfl)
theorem hw_893 : Jvm.Cond.constantLong "LedgerMachineModel" (302 : Nat) (-1 : Int64) ∈ lw_tbl := ht_6 _ (List.mem_of_getElem? (i := 123) rfl)
theorem hw_894 : Jvm.Cond.constantLong "LedgerMachineModel" (321 : Nat) (-7046029254386353131 : Int64) ∈ lw_tbl := ht_6 _ (List.mem_of_getElem? (i := 170) rfl)
theorem hw_895 : Jvm.Cond.constantLong "LedgerMachineLaw" (82 : Nat) (4294967295 : Int64) ∈ lw_tbl := ht_6 _ (List.mem_of_getElem? (i := 198) rfl)
theorem hw_896 : Jvm.Cond.methodLink "LedgerMachine$Block" (1 : Nat) ({ cls := "java/lang/Object", name := "<init>", desc := "()V" } : Jvm.MethodName) ∈ lw_tbl := ht_2 _ (List.mem_of_getElem? (i := 10) rfl)
theorem hw_897 : Jvm.Cond.methodLink "LedgerMachine$Call" (1 : Nat) ({ cls := "java/lang/Object", name := "<init>", desc := "()V" } : Jvm.MethodName) ∈ lw_tbl := ht_1 _ (List.mem_of_getElem? (i := 103) rfl)
theorem hw_898 : Jvm.Cond.methodLink "LedgerMachine$Code" (3 : Nat) ({ cls := "java/lang/Object", name := "<init>", desc := "()V" } : Jvm.MethodName) ∈ lw_tbl := ht_2 _ (List.mem_of_getElem? (i := 239) rfl)
theorem hw_899 : Jvm.Cond.methodLink "LedgerMachine$CodeBook" (3 : Nat) ({ cls := "java/lang/Object", name := "<init>", desc := "()V" } : Jvm.MethodName) ∈ lw_tbl := ht_1 _ (List.mem_of_getElem? (i := 59) rfl)
theorem hw_900 : Jvm.Cond.methodLink "LedgerMachine$Draft" (3 : Nat) ({ cls := "java/lang/Object", name := "<init>", desc := "()V" } : Jvm.MethodName) ∈ lw_tbl := ht_1 _ (List.mem_of_getElem? (i := 35) rfl)
theorem hw_901 : Jvm.Cond.methodLink "LedgerMachine$EventLog" (3 : Nat) ({ cls := "java/lang/Object", name := "<init>", desc := "()V" } : Jvm.MethodName) ∈ lw_tbl := ht_1 _ (List.mem_of_getElem? (i := 86) rfl)
theorem hw_902 : Jvm.Cond.methodLink "LedgerMachine$Frame" (3 : Nat) ({ cls := "java/lang/Object", name := "<init>", desc := "()V" } : Jvm.MethodName) ∈ lw_tbl := ht_1 _ (List.mem_of_getElem? (i := 139) rfl)
theorem hw_903 : Jvm.Cond.methodLink "LedgerMachine$Machine" (3 : Nat) ({ cls := "java/lang/Object", name := "<init>", desc := "()V" } : Jvm.MethodName) ∈ lw_tbl := ht_1 _ (List.mem_of_getElem? (i := 53) rfl)
theorem hw_904 : Jvm.Cond.methodLink "LedgerMachine$Order" (1 : Nat) ({ cls := "java/lang/Object", name := "<init>", desc := "()V" } : Jvm.MethodName) ∈ lw_tbl := ht_3 _ (List.mem_of_getElem? (i := 71) rfl)
theorem hw_905 : Jvm.Cond.methodLink "LedgerMachine$State" (3 : Nat) ({ cls := "java/lang/Object", name := "<init>", desc := "()V" } : Jvm.MethodName) ∈ lw_tbl := ht_1 _ (List.mem_of_getElem? (i := 75) rfl)
theorem hw_906 : Jvm.Cond.methodLink "LedgerMachine" (1 : Nat) ({ cls := "java/lang/Object", name := "<init>", desc := "()V" } : Jvm.MethodName) ∈ lw_tbl := ht_1 _ (List.mem_of_getElem? (i := 27) rfl)
theorem hw_907 : Jvm.Cond.methodLink "LedgerMachineModel" (1 : Nat) ({ cls := "java/lang/Object", name := "<init>", desc := "()V" } : Jvm.MethodName) ∈ lw_tbl := ht_5 _ (List.mem_of_getElem? (i := 31) rfl)
theorem hw_908 : Jvm.Cond.instanceMethod ({ cls := "java/lang/Object", name := "<init>", desc := "()V" } : Jvm.MethodName) ∈ lw_tbl := ht_1 _ (List.mem_of_getElem? (i := 28) rfl)
theorem hw_909 : Jvm.Cond.code ({ cls := "java/lang/Object", name := "<init>", desc := "()V" } : Jvm.MethodName) object_method_1_code (1 : Nat) (Option.none : Option Jvm.ClassFile.FieldType) ∈ lw_tbl := ht_1 _ (List.mem_of_getElem? (i := 29) rfl)
theorem hw_910 : Jvm.Cond.methodLink "java/util/Arrays" (310 : Nat) ({ cls := "[B", name := "clone", desc := "()Ljava/lang/Object;" } : Jvm.MethodName) ∈ lw_tbl := ht_2 _ (List.mem_of_getElem? (i := 221) rfl)
theorem hw_911 : Jvm.Cond.sameMethod "[B" "java/lang/Object" "clone" "()Ljava/lang/Object;" ∈ lw_tbl := ht_2 _ (List.mem_of_getElem? (i := 222) rfl)
theorem hw_912 : Jvm.Cond.native ({ cls := "java/lang/Object", name := "clone", desc := "()Ljava/lang/Object;" } : Jvm.MethodName) ∈ lw_tbl := ht_2 _ (List.mem_of_getElem? (i := 223) rfl)
theorem hw_913 : Jvm.Cond.instanceMethod ({ cls := "java/lang/Object", name := "clone", desc := "()Ljava/lang/Object;" } : Jvm.MethodName) ∈ lw_tbl := ht_2 _ (List.mem_of_getElem? (i := 224) rfl)
theorem hw_914 : Jvm.Cond.selects "[B" ({ cls := "[B", name := "clone", desc := "()Ljava/lang/Object;" } : Jvm.MethodName) ({ cls := "java/lang/Object", name := "clone", desc := "()Ljava/lang/Object;" } : Jvm.MethodName) ∈ lw_tbl := ht_2 _ (List.mem_of_getElem? (i := 225) rfl)
theorem hw_915 : Jvm.Cond.methodLink "java/util/Arrays" (150 : Nat) ({ cls := "java/lang/System", name := "arraycopy", desc := "(Ljava/lang/Object;ILjava/lang/Object;II)V" } : Jvm.MethodName) ∈ lw_tbl := ht_2 _ (List.mem_of_getElem? (i := 231) rfl)
theorem hw_916 : Jvm.Cond.static ({ cls := "java/lang/System", name := "arraycopy", desc := "(Ljava/lang/Object;ILjava/lang/Object;II)V" } : Jvm.MethodName) ∈ lw_tbl := ht_2 _ (List.mem_of_getElem? (i := 232) rfl)
theorem hw_917 : Jvm.Cond.native ({ cls := "java/lang/System", name := "arraycopy", desc := "(Ljava/lang/Object;ILjava/lang/Object;II)V" } : Jvm.MethodName) ∈ lw_tbl := ht_2 _ (List.mem_of_getElem? (i := 233) rfl)
theorem hw_918 : Jvm.Cond.methodLink "LedgerMachine$State" (15 : Nat) ({ cls := "java/lang/System", name := "arraycopy", desc := "(Ljava/lang/Object;ILjava/lang/Object;II)V" } : Jvm.MethodName) ∈ lw_tbl := ht_3 _ (List.mem_of_getElem? (i := 121) rfl)
theorem hw_919 : Jvm.Cond.fieldLink "LedgerMachine$Machine" (81 : Nat) "LedgerMachine$Machine" "COSTS" "[I" ∈ lw_tbl := ht_3 _ (List.mem_of_getElem? (i := 220) rfl)
theorem hw_920 : Jvm.Cond.fieldLink "LedgerMachine$Frame" (87 : Nat) "LedgerMachine$Frame" "TAKES" "[I" ∈ lw_tbl := ht_3 _ (List.mem_of_getElem? (i := 234) rfl)
theorem hw_921 : Jvm.Cond.methodLink "LedgerMachine$State" (21 : Nat) ({ cls := "[J", name := "clone", desc := "()Ljava/lang/Object;" } : Jvm.MethodName) ∈ lw_tbl := ht_4 _ (List.mem_of_getElem? (i := 142) rfl)
theorem hw_922 : Jvm.Cond.sameMethod "[J" "java/lang/Object" "clone" "()Ljava/lang/Object;" ∈ lw_tbl := ht_4 _ (List.mem_of_getElem? (i := 143) rfl)
theorem hw_923 : Jvm.Cond.selects "[J" ({ cls := "[J", name := "clone", desc := "()Ljava/lang/Object;" } : Jvm.MethodName) ({ cls := "java/lang/Object", name := "clone", desc := "()Ljava/lang/Object;" } : Jvm.MethodName) ∈ lw_tbl := ht_4 _ (List.mem_of_getElem? (i := 144) rfl)
theorem hw_924 : Jvm.Cond.methodLink "java/util/Arrays" (319 : Nat) ({ cls := "[J", name := "clone", desc := "()Ljava/lang/Object;" } : Jvm.MethodName) ∈ lw_tbl := ht_4 _ (List.mem_of_getElem? (i := 155) rfl)
theorem hs_1 : Cond.selects "LedgerMachine$Draft" ⟨"LedgerMachine$Draft", "firstActThatIsNone", "()I"⟩ ⟨"LedgerMachine$Draft", "firstActThatIsNone", "()I"⟩ ∈ lw_tbl := ht_0 _ (List.mem_of_getElem? (i := 1) rfl)
theorem hs_3 : Cond.selects "LedgerMachine$Draft" ⟨"LedgerMachine$Draft", "firstLostJump", "()I"⟩ ⟨"LedgerMachine$Draft", "firstLostJump", "()I"⟩ ∈ lw_tbl := ht_0 _ (List.mem_of_getElem? (i := 3) rfl)
theorem hs_2 : Cond.selects "LedgerMachine$Draft" ⟨"LedgerMachine$Draft", "actSize", "(I)I"⟩ ⟨"LedgerMachine$Draft", "actSize", "(I)I"⟩ ∈ lw_tbl := ht_0 _ (List.mem_of_getElem? (i := 2) rfl)
theorem hs_4 : Cond.selects "LedgerMachine$Draft" ⟨"LedgerMachine$Draft", "isBegun", "(I)Z"⟩ ⟨"LedgerMachine$Draft", "isBegun", "(I)Z"⟩ ∈ lw_tbl := ht_0 _ (List.mem_of_getElem? (i := 4) rfl)
theorem hs_13 : Cond.selects "LedgerMachine$Frame" ⟨"LedgerMachine$Frame", "operand", "()I"⟩ ⟨"LedgerMachine$Frame", "operand", "()I"⟩ ∈ lw_tbl := ht_0 _ (List.mem_of_getElem? (i := 13) rfl)
theorem hs_16 : Cond.selects "LedgerMachine$Frame" ⟨"LedgerMachine$Frame", "swap", "(II)V"⟩ ⟨"LedgerMachine$Frame", "swap", "(II)V"⟩ ∈ lw_tbl := ht_0 _ (List.mem_of_getElem? (i := 16) rfl)
theorem hs_8 : Cond.selects "LedgerMachine$Machine" ⟨"LedgerMachine$Machine", "begin", "()V"⟩ ⟨"LedgerMachine$Machine", "begin", "()V"⟩ ∈ lw_tbl := ht_0 _ (List.mem_of_getElem? (i := 8) rfl)
theorem hs_14 : Cond.selects "LedgerMachine$Machine" ⟨"LedgerMachine$Machine", "perform", "(LLedgerMachine$Frame;I)I"⟩ ⟨"LedgerMachine$Machine", "perform", "(LLedgerMachine$Frame;I)I"⟩ ∈ lw_tbl := ht_0 _ (List.mem_of_getElem? (i := 14) rfl)
theorem hs_29 : Cond.selects "LedgerMachine$Machine" ⟨"LedgerMachine$Machine", "finish", "(LLedgerMachine$Frame;I)V"⟩ ⟨"LedgerMachine$Machine", "finish", "(LLedgerMachine$Frame;I)V"⟩ ∈ lw_tbl := ht_0 _ (List.mem_of_getElem? (i := 29) rfl)
theorem hs_9 : Cond.selects "LedgerMachine$Machine" ⟨"LedgerMachine$Machine", "fails", "()Z"⟩ ⟨"LedgerMachine$Machine", "fails", "()Z"⟩ ∈ lw_tbl := ht_0 _ (List.mem_of_getElem? (i := 9) rfl)
theorem hs_11 : Cond.selects "LedgerMachine$Machine" ⟨"LedgerMachine$Machine", "end", "(IJI)V"⟩ ⟨"LedgerMachine$Machine", "end", "(IJI)V"⟩ ∈ lw_tbl := ht_0 _ (List.mem_of_getElem? (i := 11) rfl)
theorem hs_12 : Cond.selects "LedgerMachine$Machine" ⟨"LedgerMachine$Machine", "remember", "(LLedgerMachine$Frame;)V"⟩ ⟨"LedgerMachine$Machine", "remember", "(LLedgerMachine$Frame;)V"⟩ ∈ lw_tbl := ht_0 _ (List.mem_of_getElem? (i := 12) rfl)
theorem hs_10 : Cond.selects "LedgerMachine$Machine" ⟨"LedgerMachine$Machine", "hasLock", "(I)Z"⟩ ⟨"LedgerMachine$Machine", "hasLock", "(I)Z"⟩ ∈ lw_tbl := ht_0 _ (List.mem_of_getElem? (i := 10) rfl)
theorem hs_30 : Cond.selects "LedgerMachine$Machine" ⟨"LedgerMachine$Machine", "undo", "(LLedgerMachine$Frame;)V"⟩ ⟨"LedgerMachine$Machine", "undo", "(LLedgerMachine$Frame;)V"⟩ ∈ lw_tbl := ht_0 _ (List.mem_of_getElem? (i := 30) rfl)
theorem hs_15 : Cond.selects "LedgerMachine$Machine" ⟨"LedgerMachine$Machine", "endWith", "(IJ)I"⟩ ⟨"LedgerMachine$Machine", "endWith", "(IJ)I"⟩ ∈ lw_tbl := ht_0 _ (List.mem_of_getElem? (i := 15) rfl)
theorem hs_17 : Cond.selects "LedgerMachine$Machine" ⟨"LedgerMachine$Machine", "loadCell", "(LLedgerMachine$Frame;)I"⟩ ⟨"LedgerMachine$Machine", "loadCell", "(LLedgerMachine$Frame;)I"⟩ ∈ lw_tbl := ht_0 _ (List.mem_of_getElem? (i := 17) rfl)
theorem hs_18 : Cond.selects "LedgerMachine$Machine" ⟨"LedgerMachine$Machine", "storeCell", "(LLedgerMachine$Frame;JJ)I"⟩ ⟨"LedgerMachine$Machine", "storeCell", "(LLedgerMachine$Frame;JJ)I"⟩ ∈ lw_tbl := ht_0 _ (List.mem_of_getElem? (i := 18) rfl)
theorem hs_19 : Cond.selects "LedgerMachine$Machine" ⟨"LedgerMachine$Machine", "prepareCall", "(LLedgerMachine$Frame;)I"⟩ ⟨"LedgerMachine$Machine", "prepareCall", "(LLedgerMachine$Frame;)I"⟩ ∈ lw_tbl := ht_0 _ (List.mem_of_getElem? (i := 19) rfl)
theorem hs_20 : Cond.selects "LedgerMachine$Machine" ⟨"LedgerMachine$Machine", "prepareLook", "(LLedgerMachine$Frame;)I"⟩ ⟨"LedgerMachine$Machine", "prepareLook", "(LLedgerMachine$Frame;)I"⟩ ∈ lw_tbl := ht_0 _ (List.mem_of_getElem? (i := 20) rfl)
theorem hs_21 : Cond.selects "LedgerMachine$Machine" ⟨"LedgerMachine$Machine", "make", "(LLedgerMachine$Frame;JJ)I"⟩ ⟨"LedgerMachine$Machine", "make", "(LLedgerMachine$Frame;JJ)I"⟩ ∈ lw_tbl := ht_0 _ (List.mem_of_getElem? (i := 21) rfl)
theorem hs_24 : Cond.selects "LedgerMachine$Machine" ⟨"LedgerMachine$Machine", "become", "(LLedgerMachine$Frame;J)I"⟩ ⟨"LedgerMachine$Machine", "become", "(LLedgerMachine$Frame;J)I"⟩ ∈ lw_tbl := ht_0 _ (List.mem_of_getElem? (i := 24) rfl)
theorem hs_25 : Cond.selects "LedgerMachine$Machine" ⟨"LedgerMachine$Machine", "emit", "(LLedgerMachine$Frame;JJ)I"⟩ ⟨"LedgerMachine$Machine", "emit", "(LLedgerMachine$Frame;JJ)I"⟩ ∈ lw_tbl := ht_0 _ (List.mem_of_getElem? (i := 25) rfl)
theorem hs_26 : Cond.selects "LedgerMachine$Machine" ⟨"LedgerMachine$Machine", "close", "(LLedgerMachine$Frame;J)I"⟩ ⟨"LedgerMachine$Machine", "close", "(LLedgerMachine$Frame;J)I"⟩ ∈ lw_tbl := ht_0 _ (List.mem_of_getElem? (i := 26) rfl)
theorem hs_27 : Cond.selects "LedgerMachine$Machine" ⟨"LedgerMachine$Machine", "tell", "(LLedgerMachine$Frame;I)I"⟩ ⟨"LedgerMachine$Machine", "tell", "(LLedgerMachine$Frame;I)I"⟩ ∈ lw_tbl := ht_0 _ (List.mem_of_getElem? (i := 27) rfl)
theorem hs_28 : Cond.selects "LedgerMachine$Machine" ⟨"LedgerMachine$Machine", "known", "(LLedgerMachine$Frame;I)J"⟩ ⟨"LedgerMachine$Machine", "known", "(LLedgerMachine$Frame;I)J"⟩ ∈ lw_tbl := ht_0 _ (List.mem_of_getElem? (i := 28) rfl)
theorem hs_22 : Cond.selects "LedgerMachine$Machine" ⟨"LedgerMachine$Machine", "leastFreeAccount", "()I"⟩ ⟨"LedgerMachine$Machine", "leastFreeAccount", "()I"⟩ ∈ lw_tbl := ht_0 _ (List.mem_of_getElem? (i := 22) rfl)
theorem hs_23 : Cond.selects "LedgerMachine$Machine" ⟨"LedgerMachine$Machine", "hasFrame", "(I)Z"⟩ ⟨"LedgerMachine$Machine", "hasFrame", "(I)Z"⟩ ∈ lw_tbl := ht_0 _ (List.mem_of_getElem? (i := 23) rfl)
theorem hs_5 : Cond.selects "LedgerMachine" ⟨"LedgerMachine", "isBlock", "(I)Z"⟩ ⟨"LedgerMachine", "isBlock", "(I)Z"⟩ ∈ lw_tbl := ht_0 _ (List.mem_of_getElem? (i := 5) rfl)
theorem hs_6 : Cond.selects "LedgerMachine" ⟨"LedgerMachine", "doOrder", "(III[J)I"⟩ ⟨"LedgerMachine", "doOrder", "(III[J)I"⟩ ∈ lw_tbl := ht_0 _ (List.mem_of_getElem? (i := 6) rfl)
theorem hs_31 : Cond.selects "LedgerMachine" ⟨"LedgerMachine", "isCertain", "(I)Z"⟩ ⟨"LedgerMachine", "isCertain", "(I)Z"⟩ ∈ lw_tbl := ht_0 _ (List.mem_of_getElem? (i := 31) rfl)
theorem hs_7 : Cond.selects "LedgerMachine" ⟨"LedgerMachine", "isVoid", "(LLedgerMachine$Order;I)Z"⟩ ⟨"LedgerMachine", "isVoid", "(LLedgerMachine$Order;I)Z"⟩ ∈ lw_tbl := ht_0 _ (List.mem_of_getElem? (i := 7) rfl)
theorem hs_32 : Cond.selects "LedgerMachineModel" ⟨"LedgerMachineModel", "judged", "()I"⟩ ⟨"LedgerMachineModel", "judged", "()I"⟩ ∈ lw_tbl := ht_0 _ (List.mem_of_getElem? (i := 32) rfl)
theorem hs_36 : Cond.selects "LedgerMachineModel" ⟨"LedgerMachineModel", "isLocked", "(J)Z"⟩ ⟨"LedgerMachineModel", "isLocked", "(J)Z"⟩ ∈ lw_tbl := ht_0 _ (List.mem_of_getElem? (i := 36) rfl)
theorem hs_37 : Cond.selects "LedgerMachineModel" ⟨"LedgerMachineModel", "end", "(IJJ)V"⟩ ⟨"LedgerMachineModel", "end", "(IJJ)V"⟩ ∈ lw_tbl := ht_0 _ (List.mem_of_getElem? (i := 37) rfl)
theorem hs_42 : Cond.selects "LedgerMachineModel" ⟨"LedgerMachineModel", "push", "(J)V"⟩ ⟨"LedgerMachineModel", "push", "(J)V"⟩ ∈ lw_tbl := ht_0 _ (List.mem_of_getElem? (i := 42) rfl)
theorem hs_39 : Cond.selects "LedgerMachineModel" ⟨"LedgerMachineModel", "act", "()V"⟩ ⟨"LedgerMachineModel", "act", "()V"⟩ ∈ lw_tbl := ht_0 _ (List.mem_of_getElem? (i := 39) rfl)
theorem hs_49 : Cond.selects "LedgerMachineModel" ⟨"LedgerMachineModel", "tell", "()V"⟩ ⟨"LedgerMachineModel", "tell", "()V"⟩ ∈ lw_tbl := ht_0 _ (List.mem_of_getElem? (i := 49) rfl)
theorem hs_40 : Cond.selects "LedgerMachineModel" ⟨"LedgerMachineModel", "finish", "(IJ)V"⟩ ⟨"LedgerMachineModel", "finish", "(IJ)V"⟩ ∈ lw_tbl := ht_0 _ (List.mem_of_getElem? (i := 40) rfl)
theorem hs_41 : Cond.selects "LedgerMachineModel" ⟨"LedgerMachineModel", "simple", "(III)V"⟩ ⟨"LedgerMachineModel", "simple", "(III)V"⟩ ∈ lw_tbl := ht_0 _ (List.mem_of_getElem? (i := 41) rfl)
theorem hs_44 : Cond.selects "LedgerMachineModel" ⟨"LedgerMachineModel", "reckon", "(I)V"⟩ ⟨"LedgerMachineModel", "reckon", "(I)V"⟩ ∈ lw_tbl := ht_0 _ (List.mem_of_getElem? (i := 44) rfl)
theorem hs_45 : Cond.selects "LedgerMachineModel" ⟨"LedgerMachineModel", "jumpOrCell", "(II)V"⟩ ⟨"LedgerMachineModel", "jumpOrCell", "(II)V"⟩ ∈ lw_tbl := ht_0 _ (List.mem_of_getElem? (i := 45) rfl)
theorem hs_46 : Cond.selects "LedgerMachineModel" ⟨"LedgerMachineModel", "tellOf", "(I)V"⟩ ⟨"LedgerMachineModel", "tellOf", "(I)V"⟩ ∈ lw_tbl := ht_0 _ (List.mem_of_getElem? (i := 46) rfl)
theorem hs_47 : Cond.selects "LedgerMachineModel" ⟨"LedgerMachineModel", "greater", "(I)V"⟩ ⟨"LedgerMachineModel", "greater", "(I)V"⟩ ∈ lw_tbl := ht_0 _ (List.mem_of_getElem? (i := 47) rfl)
theorem hs_43 : Cond.selects "LedgerMachineModel" ⟨"LedgerMachineModel", "pop", "()J"⟩ ⟨"LedgerMachineModel", "pop", "()J"⟩ ∈ lw_tbl := ht_0 _ (List.mem_of_getElem? (i := 43) rfl)
theorem hs_48 : Cond.selects "LedgerMachineModel" ⟨"LedgerMachineModel", "calls", "(Z)V"⟩ ⟨"LedgerMachineModel", "calls", "(Z)V"⟩ ∈ lw_tbl := ht_0 _ (List.mem_of_getElem? (i := 48) rfl)
theorem hs_50 : Cond.selects "LedgerMachineModel" ⟨"LedgerMachineModel", "make", "(I)V"⟩ ⟨"LedgerMachineModel", "make", "(I)V"⟩ ∈ lw_tbl := ht_0 _ (List.mem_of_getElem? (i := 50) rfl)
theorem hs_53 : Cond.selects "LedgerMachineModel" ⟨"LedgerMachineModel", "emit", "(I)V"⟩ ⟨"LedgerMachineModel", "emit", "(I)V"⟩ ∈ lw_tbl := ht_0 _ (List.mem_of_getElem? (i := 53) rfl)
theorem hs_54 : Cond.selects "LedgerMachineModel" ⟨"LedgerMachineModel", "close", "(I)V"⟩ ⟨"LedgerMachineModel", "close", "(I)V"⟩ ∈ lw_tbl := ht_0 _ (List.mem_of_getElem? (i := 54) rfl)
theorem hs_35 : Cond.selects "LedgerMachineModel" ⟨"LedgerMachineModel", "begin", "(IJJJJZ)Z"⟩ ⟨"LedgerMachineModel", "begin", "(IJJJJZ)Z"⟩ ∈ lw_tbl := ht_0 _ (List.mem_of_getElem? (i := 35) rfl)
theorem hs_51 : Cond.selects "LedgerMachineModel" ⟨"LedgerMachineModel", "isEmpty", "(I)Z"⟩ ⟨"LedgerMachineModel", "isEmpty", "(I)Z"⟩ ∈ lw_tbl := ht_0 _ (List.mem_of_getElem? (i := 51) rfl)
theorem hs_52 : Cond.selects "LedgerMachineModel" ⟨"LedgerMachineModel", "hasFrame", "(I)Z"⟩ ⟨"LedgerMachineModel", "hasFrame", "(I)Z"⟩ ∈ lw_tbl := ht_0 _ (List.mem_of_getElem? (i := 52) rfl)
theorem hs_38 : Cond.selects "LedgerMachineModel" ⟨"LedgerMachineModel", "run", "(I)V"⟩ ⟨"LedgerMachineModel", "run", "(I)V"⟩ ∈ lw_tbl := ht_0 _ (List.mem_of_getElem? (i := 38) rfl)
theorem hs_33 : Cond.selects "LedgerMachineModel" ⟨"LedgerMachineModel", "doOrder", "(IIII)I"⟩ ⟨"LedgerMachineModel", "doOrder", "(IIII)I"⟩ ∈ lw_tbl := ht_0 _ (List.mem_of_getElem? (i := 33) rfl)
theorem hs_55 : Cond.selects "LedgerMachineModel" ⟨"LedgerMachineModel", "keepEvents", "(II)V"⟩ ⟨"LedgerMachineModel", "keepEvents", "(II)V"⟩ ∈ lw_tbl := ht_0 _ (List.mem_of_getElem? (i := 55) rfl)
theorem hs_34 : Cond.selects "LedgerMachineModel" ⟨"LedgerMachineModel", "wholeCall", "(IIJJJZ)V"⟩ ⟨"LedgerMachineModel", "wholeCall", "(IIJJJZ)V"⟩ ∈ lw_tbl := ht_0 _ (List.mem_of_getElem? (i := 34) rfl)
theorem hs_56 : Cond.selects "LedgerMachineModel" ⟨"LedgerMachineModel", "isBlock", "(I)Z"⟩ ⟨"LedgerMachineModel", "isBlock", "(I)Z"⟩ ∈ lw_tbl := ht_0 _ (List.mem_of_getElem? (i := 56) rfl)
theorem hs_57 : Cond.selects "LedgerMachineModel" ⟨"LedgerMachineModel", "valueOf", "(II)J"⟩ ⟨"LedgerMachineModel", "valueOf", "(II)J"⟩ ∈ lw_tbl := ht_0 _ (List.mem_of_getElem? (i := 57) rfl)
end
section
abbrev MX0_init : rx_Me := (yX0_init, cX0_init, 7, none, [])
abbrev MX1_init : rx_Me := (yX1_init, cX1_init, 1, none, [])
abbrev MX1_set : rx_Me := (yX1_set, cX1_set, 10, none, [])
abbrev MX2_init : rx_Me := (yX2_init, cX2_init, 2, none, [])
abbrev MX2_octetAt : rx_Me := (yX2_octetAt, cX2_octetAt, 2, (some .int), [])
abbrev MX2_numberAt : rx_Me := (yX2_numberAt, cX2_numberAt, 5, (some .long), [])
abbrev MX2_octetsBehind : rx_Me := (yX2_octetsBehind, cX2_octetsBehind, 1, (some .int), [])
abbrev MX3_init : rx_Me := (yX3_init, cX3_init, 1, none, [])
abbrev MX3_isFull : rx_Me := (yX3_isFull, cX3_isFull, 1, (some .boolean), [])
abbrev MX3_has : rx_Me := (yX3_has, cX3_has, 3, (some .boolean), [])
abbrev MX3_add : rx_Me := (yX3_add, cX3_add, 2, (some .int), [])
abbrev MX4_init : rx_Me := (yX4_init, cX4_init, 1, none, [])
abbrev MX4_hasRoomFor : rx_Me := (yX4_hasRoomFor, cX4_hasRoomFor, 2, (some .boolean), [])
abbrev MX4_append : rx_Me := (yX4_append, cX4_append, 5, (some .int), [])
abbrev MX4_take : rx_Me := (yX4_take, cX4_take, 2, (some (.array .byte)), [])
abbrev MX4_fault : rx_Me := (yX4_fault, cX4_fault, 2, (some .int), [])
abbrev MX4_firstActThatIsNone : rx_Me := (yX4_firstActThatIsNone, cX4_firstActThatIsNone, 2, (some .int), [])
abbrev MX4_actSize : rx_Me := (yX4_actSize, cX4_actSize, 2, (some .int), [])
abbrev MX4_firstLostJump : rx_Me := (yX4_firstLostJump, cX4_firstLostJump, 3, (some .int), [])
abbrev MX4_isBegun : rx_Me := (yX4_isBegun, cX4_isBegun, 2, (some .boolean), [])
abbrev MX5_init : rx_Me := (yX5_init, cX5_init, 1, none, [])
abbrev MX5_clear : rx_Me := (yX5_clear, cX5_clear, 1, none, [])
abbrev MX5_beginOrder : rx_Me := (yX5_beginOrder, cX5_beginOrder, 2, none, [])
abbrev MX5_add : rx_Me := (yX5_add, cX5_add, 6, none, [])
abbrev MX5_backTo : rx_Me := (yX5_backTo, cX5_backTo, 2, none, [])
abbrev MX5_copyRows : rx_Me := (yX5_copyRows, cX5_copyRows, 1, (some (.array .long)), [])
abbrev MX6_init : rx_Me := (yX6_init, cX6_init, 1, none, [])
abbrev MX6_begin : rx_Me := (yX6_begin, cX6_begin, 3, none, [])
abbrev MX6_nextAct : rx_Me := (yX6_nextAct, cX6_nextAct, 2, (some .int), [])
abbrev MX6_operand : rx_Me := (yX6_operand, cX6_operand, 1, (some .int), [])
abbrev MX6_pays : rx_Me := (yX6_pays, cX6_pays, 2, (some .boolean), [])
abbrev MX6_giveGas : rx_Me := (yX6_giveGas, cX6_giveGas, 4, (some .int), [])
abbrev MX6_fits : rx_Me := (yX6_fits, cX6_fits, 3, (some .boolean), [])
abbrev MX6_leavesOneMore : rx_Me := (yX6_leavesOneMore, cX6_leavesOneMore, 1, (some .boolean), [])
abbrev MX6_push : rx_Me := (yX6_push, cX6_push, 3, none, [])
abbrev MX6_pop : rx_Me := (yX6_pop, cX6_pop, 1, (some .long), [])
abbrev MX6_arrange : rx_Me := (yX6_arrange, cX6_arrange, 2, none, [])
abbrev MX6_swap : rx_Me := (yX6_swap, cX6_swap, 5, none, [])
abbrev MX6_reckon : rx_Me := (yX6_reckon, cX6_reckon, 6, (some .int), [])
abbrev MX6_joined : rx_Me := (yX6_joined, cX6_joined, 5, (some .long), [])
abbrev MX6_jump : rx_Me := (yX6_jump, cX6_jump, 1, none, [])
abbrev MX7_init : rx_Me := (yX7_init, cX7_init, 2, none, [])
abbrev MX7_load : rx_Me := (yX7_load, cX7_load, 3, none, [])
abbrev MX7_run : rx_Me := (yX7_run, cX7_run, 14, none, [])
abbrev MX7_changesState : rx_Me := (yX7_changesState, cX7_changesState, 1, (some .boolean), [])
abbrev MX7_begin : rx_Me := (yX7_begin, cX7_begin, 5, none, [])
abbrev MX7_fails : rx_Me := (yX7_fails, cX7_fails, 1, (some .boolean), [])
abbrev MX7_hasLock : rx_Me := (yX7_hasLock, cX7_hasLock, 3, (some .boolean), [])
abbrev MX7_hasFrame : rx_Me := (yX7_hasFrame, cX7_hasFrame, 3, (some .boolean), [])
abbrev MX7_remember : rx_Me := (yX7_remember, cX7_remember, 2, none, [])
abbrev MX7_undo : rx_Me := (yX7_undo, cX7_undo, 2, none, [])
abbrev MX7_finish : rx_Me := (yX7_finish, cX7_finish, 3, none, [])
abbrev MX7_end : rx_Me := (yX7_end, cX7_end, 6, none, [])
abbrev MX7_perform : rx_Me := (yX7_perform, cX7_perform, 3, (some .int), [])
abbrev MX7_endWith : rx_Me := (yX7_endWith, cX7_endWith, 4, (some .int), [])
abbrev MX7_tell : rx_Me := (yX7_tell, cX7_tell, 5, (some .int), [])
abbrev MX7_known : rx_Me := (yX7_known, cX7_known, 3, (some .long), [])
abbrev MX7_loadCell : rx_Me := (yX7_loadCell, cX7_loadCell, 4, (some .int), [])
abbrev MX7_storeCell : rx_Me := (yX7_storeCell, cX7_storeCell, 8, (some .int), [])
abbrev MX7_prepareCall : rx_Me := (yX7_prepareCall, cX7_prepareCall, 10, (some .int), [])
abbrev MX7_prepareLook : rx_Me := (yX7_prepareLook, cX7_prepareLook, 8, (some .int), [])
abbrev MX7_make : rx_Me := (yX7_make, cX7_make, 8, (some .int), [])
abbrev MX7_leastFreeAccount : rx_Me := (yX7_leastFreeAccount, cX7_leastFreeAccount, 2, (some .int), [])
abbrev MX7_become : rx_Me := (yX7_become, cX7_become, 4, (some .int), [])
abbrev MX7_emit : rx_Me := (yX7_emit, cX7_emit, 6, (some .int), [])
abbrev MX7_close : rx_Me := (yX7_close, cX7_close, 4, (some .int), [])
abbrev MX8_init : rx_Me := (yX8_init, cX8_init, 10, none, [])
abbrev MX8_priceOf : rx_Me := (yX8_priceOf, cX8_priceOf, 2, (some .long), [])
abbrev MX9_init : rx_Me := (yX9_init, cX9_init, 1, none, [])
abbrev MX9_loadFrom : rx_Me := (yX9_loadFrom, cX9_loadFrom, 2, none, [])
abbrev MX9_saveTo : rx_Me := (yX9_saveTo, cX9_saveTo, 2, none, [])
abbrev MX9_copyLeaves : rx_Me := (yX9_copyLeaves, cX9_copyLeaves, 1, (some (.array .long)), [])
abbrev MX9_balanceOf : rx_Me := (yX9_balanceOf, cX9_balanceOf, 2, (some .long), [])
abbrev MX9_addToBalance : rx_Me := (yX9_addToBalance, cX9_addToBalance, 4, none, [])
abbrev MX9_move : rx_Me := (yX9_move, cX9_move, 5, none, [])
abbrev MX9_nonceOf : rx_Me := (yX9_nonceOf, cX9_nonceOf, 2, (some .long), [])
abbrev MX9_raiseNonce : rx_Me := (yX9_raiseNonce, cX9_raiseNonce, 2, none, [])
abbrev MX9_codeOf : rx_Me := (yX9_codeOf, cX9_codeOf, 2, (some .long), [])
abbrev MX9_setCode : rx_Me := (yX9_setCode, cX9_setCode, 4, none, [])
abbrev MX9_cellOf : rx_Me := (yX9_cellOf, cX9_cellOf, 3, (some .long), [])
abbrev MX9_setCell : rx_Me := (yX9_setCell, cX9_setCell, 5, none, [])
abbrev MX9_clearCells : rx_Me := (yX9_clearCells, cX9_clearCells, 3, none, [])
abbrev MX9_isEmpty : rx_Me := (yX9_isEmpty, cX9_isEmpty, 3, (some .boolean), [])
abbrev MX10_init : rx_Me := (yX10_init, cX10_init, 1, none, [])
abbrev MX10_draft : rx_Me := (yX10_draft, cX10_draft, 4, (some .int), [])
abbrev MX10_code : rx_Me := (yX10_code, cX10_code, 3, (some .int), [])
abbrev MX10_endow : rx_Me := (yX10_endow, cX10_endow, 6, none, [])
abbrev MX10_weight : rx_Me := (yX10_weight, cX10_weight, 3, none, [])
abbrev MX10_order : rx_Me := (yX10_order, cX10_order, 10, (some .int), [])
abbrev MX10_block : rx_Me := (yX10_block, cX10_block, 7, (some .int), [])
abbrev MX10_told : rx_Me := (yX10_told, cX10_told, 4, (some .int), [])
abbrev MX10_receipt : rx_Me := (yX10_receipt, cX10_receipt, 4, (some .long), [])
abbrev MX10_event : rx_Me := (yX10_event, cX10_event, 4, (some .long), [])
abbrev MX10_leaf : rx_Me := (yX10_leaf, cX10_leaf, 3, (some .long), [])
abbrev MX10_digest : rx_Me := (yX10_digest, cX10_digest, 4, (some .long), [])
abbrev MX10_view : rx_Me := (yX10_view, cX10_view, 7, (some .long), [])
abbrev MX10_seen : rx_Me := (yX10_seen, cX10_seen, 2, (some .int), [])
abbrev MX10_vote : rx_Me := (yX10_vote, cX10_vote, 6, (some .int), [])
abbrev MX10_certain : rx_Me := (yX10_certain, cX10_certain, 3, (some .int), [])
abbrev MX10_beside : rx_Me := (yX10_beside, cX10_beside, 4, none, [])
abbrev MX10_proves : rx_Me := (yX10_proves, cX10_proves, 10, (some .boolean), [])
abbrev MX10_isWithin : rx_Me := (yX10_isWithin, cX10_isWithin, 3, (some .boolean), [])
abbrev MX10_isAccount : rx_Me := (yX10_isAccount, cX10_isAccount, 2, (some .boolean), [])
abbrev MX10_isBlock : rx_Me := (yX10_isBlock, cX10_isBlock, 2, (some .boolean), [])
abbrev MX10_isCertain : rx_Me := (yX10_isCertain, cX10_isCertain, 4, (some .boolean), [])
abbrev MX10_doOrder : rx_Me := (yX10_doOrder, cX10_doOrder, 8, (some .int), [])
abbrev MX10_isVoid : rx_Me := (yX10_isVoid, cX10_isVoid, 3, (some .boolean), [])
abbrev MX10_leafDigest : rx_Me := (yX10_leafDigest, cX10_leafDigest, 3, (some .long), [])
abbrev MX10_pairDigest : rx_Me := (yX10_pairDigest, cX10_pairDigest, 4, (some .long), [])
abbrev MX10_nodeDigest : rx_Me := (yX10_nodeDigest, cX10_nodeDigest, 3, (some .long), [])
abbrev MX10_mix : rx_Me := (yX10_mix, cX10_mix, 8, (some .long), [])
abbrev MX10_neverZero : rx_Me := (yX10_neverZero, cX10_neverZero, 2, (some .long), [])
abbrev MX11_init : rx_Me := (yX11_init, cX11_init, 2, none, [])
abbrev MX11_thrown : rx_Me := (yX11_thrown, cX11_thrown, 1, (some .int), [])
abbrev MX11_sizeOf : rx_Me := (yX11_sizeOf, cX11_sizeOf, 1, (some .int), [])
abbrev MX11_judged : rx_Me := (yX11_judged, cX11_judged, 4, (some .int), [])
abbrev MX11_draft : rx_Me := (yX11_draft, cX11_draft, 5, (some .int), [])
abbrev MX11_code : rx_Me := (yX11_code, cX11_code, 4, (some .int), [])
abbrev MX11_isAccount : rx_Me := (yX11_isAccount, cX11_isAccount, 2, (some .boolean), [])
abbrev MX11_isEmpty : rx_Me := (yX11_isEmpty, cX11_isEmpty, 4, (some .boolean), [])
abbrev MX11_endow : rx_Me := (yX11_endow, cX11_endow, 5, none, [])
abbrev MX11_weight : rx_Me := (yX11_weight, cX11_weight, 3, none, [])
abbrev MX11_order : rx_Me := (yX11_order, cX11_order, 11, (some .int), [])
abbrev MX11_end : rx_Me := (yX11_end, cX11_end, 6, none, [])
abbrev MX11_isLocked : rx_Me := (yX11_isLocked, cX11_isLocked, 5, (some .boolean), [])
abbrev MX11_begin : rx_Me := (yX11_begin, cX11_begin, 13, (some .boolean), [])
abbrev MX11_finish : rx_Me := (yX11_finish, cX11_finish, 8, none, [])
abbrev MX11_tell : rx_Me := (yX11_tell, cX11_tell, 2, none, [])
abbrev MX11_run : rx_Me := (yX11_run, cX11_run, 2, none, [])
abbrev MX11_push : rx_Me := (yX11_push, cX11_push, 4, none, [])
abbrev MX11_pop : rx_Me := (yX11_pop, cX11_pop, 2, (some .long), [])
abbrev MX11_costOf : rx_Me := (yX11_costOf, cX11_costOf, 1, (some .int), [])
abbrev MX11_takes : rx_Me := (yX11_takes, cX11_takes, 1, (some .int), [])
abbrev MX11_gives : rx_Me := (yX11_gives, cX11_gives, 1, (some .int), [])
abbrev MX11_act : rx_Me := (yX11_act, cX11_act, 8, none, [])
abbrev MX11_simple : rx_Me := (yX11_simple, cX11_simple, 8, none, [])
abbrev MX11_reckon : rx_Me := (yX11_reckon, cX11_reckon, 6, none, [])
abbrev MX11_jumpOrCell : rx_Me := (yX11_jumpOrCell, cX11_jumpOrCell, 10, none, [])
abbrev MX11_tellOf : rx_Me := (yX11_tellOf, cX11_tellOf, 5, none, [])
abbrev MX11_greater : rx_Me := (yX11_greater, cX11_greater, 6, none, [])
abbrev MX11_calls : rx_Me := (yX11_calls, cX11_calls, 13, none, [])
abbrev MX11_hasFrame : rx_Me := (yX11_hasFrame, cX11_hasFrame, 4, (some .boolean), [])
abbrev MX11_make : rx_Me := (yX11_make, cX11_make, 7, none, [])
abbrev MX11_emit : rx_Me := (yX11_emit, cX11_emit, 6, none, [])
abbrev MX11_close : rx_Me := (yX11_close, cX11_close, 5, none, [])
abbrev MX11_wholeCall : rx_Me := (yX11_wholeCall, cX11_wholeCall, 10, none, [])
abbrev MX11_block : rx_Me := (yX11_block, cX11_block, 7, (some .int), [])
abbrev MX11_keepEvents : rx_Me := (yX11_keepEvents, cX11_keepEvents, 5, none, [])
abbrev MX11_doOrder : rx_Me := (yX11_doOrder, cX11_doOrder, 10, (some .int), [])
abbrev MX11_isBlock : rx_Me := (yX11_isBlock, cX11_isBlock, 2, (some .boolean), [])
abbrev MX11_told : rx_Me := (yX11_told, cX11_told, 3, (some .int), [])
abbrev MX11_receipt : rx_Me := (yX11_receipt, cX11_receipt, 5, (some .long), [])
abbrev MX11_event : rx_Me := (yX11_event, cX11_event, 5, (some .long), [])
abbrev MX11_valueOf : rx_Me := (yX11_valueOf, cX11_valueOf, 5, (some .long), [])
abbrev MX11_mix : rx_Me := (yX11_mix, cX11_mix, 6, (some .long), [])
abbrev MX11_leafDigest : rx_Me := (yX11_leafDigest, cX11_leafDigest, 5, (some .long), [])
abbrev MX11_both : rx_Me := (yX11_both, cX11_both, 6, (some .long), [])
abbrev MX11_leaf : rx_Me := (yX11_leaf, cX11_leaf, 3, (some .long), [])
abbrev MX11_digest : rx_Me := (yX11_digest, cX11_digest, 6, (some .long), [])
abbrev MX11_view : rx_Me := (yX11_view, cX11_view, 8, (some .long), [])
abbrev MX11_seen : rx_Me := (yX11_seen, cX11_seen, 2, (some .int), [])
abbrev MX11_vote : rx_Me := (yX11_vote, cX11_vote, 6, (some .int), [])
abbrev MX11_certain : rx_Me := (yX11_certain, cX11_certain, 3, (some .int), [])
abbrev MX11_beside : rx_Me := (yX11_beside, cX11_beside, 4, none, [])
abbrev MX11_proves : rx_Me := (yX11_proves, cX11_proves, 9, (some .boolean), [])
abbrev MJ9_max_f86c9 : rx_Me := (yJ9_max_f86c9, cJ9_max_f86c9, 4, (some .long), [])
abbrev MJ9_min_7cf53 : rx_Me := (yJ9_min_7cf53, cJ9_min_7cf53, 2, (some .int), [])
abbrev MJ9_min_f86c9 : rx_Me := (yJ9_min_f86c9, cJ9_min_f86c9, 4, (some .long), [])
abbrev MJ7_fill_53178 : rx_Me := (yJ7_fill_53178, cJ7_fill_53178, 4, none, [])
abbrev MJ7_copyOf_9075b : rx_Me := (yJ7_copyOf_9075b, cJ7_copyOf_9075b, 3, (some (.array .byte)), [])
abbrev MJ7_copyOf_c38d5 : rx_Me := (yJ7_copyOf_c38d5, cJ7_copyOf_c38d5, 3, (some (.array .long)), [])
set_option maxRecDepth 100000 in
theorem hcw_0 : (u_ws RX0 TX0 7).all (fun w => decide (w ∈ lw_tbl) && goodWord w) = true := by decide +kernel
theorem hc_0 : rx_Cl 0 RX0 TX0 7 := ⟨by decide, rfl, fun w h => by have := List.all_eq_true.mp hcw_0 w h; rw [Bool.and_eq_true] at this; exact ⟨of_decide_eq_true this.1, this.2⟩, rfl, tyX0_ok, nmX0⟩
set_option maxRecDepth 100000 in
theorem hcw_1 : (u_ws RX1 TX1 6).all (fun w => decide (w ∈ lw_tbl) && goodWord w) = true := by decide +kernel
theorem hc_1 : rx_Cl 1 RX1 TX1 6 := ⟨by decide, rfl, fun w h => by have := List.all_eq_true.mp hcw_1 w h; rw [Bool.and_eq_true] at this; exact ⟨of_decide_eq_true this.1, this.2⟩, rfl, tyX1_ok, nmX1⟩
set_option maxRecDepth 100000 in
theorem hcw_2 : (u_ws RX2 TX2 1).all (fun w => decide (w ∈ lw_tbl) && goodWord w) = true := by decide +kernel
theorem hc_2 : rx_Cl 2 RX2 TX2 1 := ⟨by decide, rfl, fun w h => by have := List.all_eq_true.mp hcw_2 w h; rw [Bool.and_eq_true] at this; exact ⟨of_decide_eq_true this.1, this.2⟩, rfl, tyX2_ok, nmX2⟩
set_option maxRecDepth 100000 in
theorem hcw_3 : (u_ws RX3 TX3 2).all (fun w => decide (w ∈ lw_tbl) && goodWord w) = true := by decide +kernel
theorem hc_3 : rx_Cl 3 RX3 TX3 2 := ⟨by decide, rfl, fun w h => by have := List.all_eq_true.mp hcw_3 w h; rw [Bool.and_eq_true] at this; exact ⟨of_decide_eq_true this.1, this.2⟩, rfl, tyX3_ok, nmX3⟩
set_option maxRecDepth 100000 in
theorem hcw_4 : (u_ws RX4 TX4 3).all (fun w => decide (w ∈ lw_tbl) && goodWord w) = true := by decide +kernel
theorem hc_4 : rx_Cl 4 RX4 TX4 3 := ⟨by decide, rfl, fun w h => by have := List.all_eq_true.mp hcw_4 w h; rw [Bool.and_eq_true] at this; exact ⟨of_decide_eq_true this.1, this.2⟩, rfl, tyX4_ok, nmX4⟩
set_option maxRecDepth 100000 in
theorem hcw_5 : (u_ws RX5 TX5 3).all (fun w => decide (w ∈ lw_tbl) && goodWord w) = true := by decide +kernel
theorem hc_5 : rx_Cl 5 RX5 TX5 3 := ⟨by decide, rfl, fun w h => by have := List.all_eq_true.mp hcw_5 w h; rw [Bool.and_eq_true] at this; exact ⟨of_decide_eq_true this.1, this.2⟩, rfl, tyX5_ok, nmX5⟩
set_option maxRecDepth 100000 in
theorem hcw_6 : (u_ws RX6 TX6 15).all (fun w => decide (w ∈ lw_tbl) && goodWord w) = true := by decide +kernel
theorem hc_6 : rx_Cl 6 RX6 TX6 15 := ⟨by decide, rfl, fun w h => by have := List.all_eq_true.mp hcw_6 w h; rw [Bool.and_eq_true] at this; exact ⟨of_decide_eq_true this.1, this.2⟩, rfl, tyX6_ok, nmX6⟩
set_option maxRecDepth 100000 in
theorem hcw_7 : (u_ws RX7 TX7 13).all (fun w => decide (w ∈ lw_tbl) && goodWord w) = true := by decide +kernel
theorem hc_7 : rx_Cl 7 RX7 TX7 13 := ⟨by decide, rfl, fun w h => by have := List.all_eq_true.mp hcw_7 w h; rw [Bool.and_eq_true] at this; exact ⟨of_decide_eq_true this.1, this.2⟩, rfl, tyX7_ok, nmX7⟩
set_option maxRecDepth 100000 in
theorem hcw_8 : (u_ws RX8 TX8 7).all (fun w => decide (w ∈ lw_tbl) && goodWord w) = true := by decide +kernel
theorem hc_8 : rx_Cl 8 RX8 TX8 7 := ⟨by decide, rfl, fun w h => by have := List.all_eq_true.mp hcw_8 w h; rw [Bool.and_eq_true] at this; exact ⟨of_decide_eq_true this.1, this.2⟩, rfl, tyX8_ok, nmX8⟩
set_option maxRecDepth 100000 in
theorem hcw_9 : (u_ws RX9 TX9 1).all (fun w => decide (w ∈ lw_tbl) && goodWord w) = true := by decide +kernel
theorem hc_9 : rx_Cl 9 RX9 TX9 1 := ⟨by decide, rfl, fun w h => by have := List.all_eq_true.mp hcw_9 w h; rw [Bool.and_eq_true] at this; exact ⟨of_decide_eq_true this.1, this.2⟩, rfl, tyX9_ok, nmX9⟩
set_option maxRecDepth 100000 in
theorem hcw_10 : (u_ws RX10 TX10 12).all (fun w => decide (w ∈ lw_tbl) && goodWord w) = true := by decide +kernel
theorem hc_10 : rx_Cl 10 RX10 TX10 12 := ⟨by decide, rfl, fun w h => by have := List.all_eq_true.mp hcw_10 w h; rw [Bool.and_eq_true] at this; exact ⟨of_decide_eq_true this.1, this.2⟩, rfl, tyX10_ok, nmX10⟩
set_option maxRecDepth 100000 in
theorem hcw_11 : (u_ws RX11 TX11 65).all (fun w => decide (w ∈ lw_tbl) && goodWord w) = true := by decide +kernel
theorem hc_11 : rx_Cl 11 RX11 TX11 65 := ⟨by decide, rfl, fun w h => by have := List.all_eq_true.mp hcw_11 w h; rw [Bool.and_eq_true] at this; exact ⟨of_decide_eq_true this.1, this.2⟩, rfl, tyX11_ok, nmX11⟩
theorem okX0_init : rx_Me_ok MX0_init 6 := ⟨hw_0, hw_1, by decide, ⟨by decide +kernel, by decide +kernel⟩, by decide +kernel⟩
theorem okX1_init : rx_Me_ok MX1_init 0 := ⟨hw_2, hw_3, by decide, ⟨by decide +kernel, by decide +kernel⟩, by decide +kernel⟩
theorem okX1_set : rx_Me_ok MX1_set 6 := ⟨hw_4, hw_3, by decide, ⟨by decide +kernel, by decide +kernel⟩, by decide +kernel⟩
theorem okX2_init : rx_Me_ok MX2_init 1 := ⟨hw_5, hw_6, by decide, ⟨by decide +kernel, by decide +kernel⟩, by decide +kernel⟩
theorem okX2_octetAt : rx_Me_ok MX2_octetAt 1 := ⟨hw_7, hw_6, by decide, ⟨by decide +kernel, by decide +kernel⟩, by decide +kernel⟩
theorem okX2_numberAt : rx_Me_ok MX2_numberAt 1 := ⟨hw_8, hw_6, by decide, ⟨by decide +kernel, by decide +kernel⟩, by decide +kernel⟩
theorem okX2_octetsBehind : rx_Me_ok MX2_octetsBehind 1 := ⟨hw_9, hw_6, by decide, ⟨by decide +kernel, by decide +kernel⟩, by decide +kernel⟩
theorem okX3_init : rx_Me_ok MX3_init 0 := ⟨hw_10, hw_11, by decide, ⟨by decide +kernel, by decide +kernel⟩, by decide +kernel⟩
theorem okX3_isFull : rx_Me_ok MX3_isFull 0 := ⟨hw_12, hw_11, by decide, ⟨by decide +kernel, by decide +kernel⟩, by decide +kernel⟩
theorem okX3_has : rx_Me_ok MX3_has 1 := ⟨hw_13, hw_11, by decide, ⟨by decide +kernel, by decide +kernel⟩, by decide +kernel⟩
theorem okX3_add : rx_Me_ok MX3_add 1 := ⟨hw_14, hw_11, by decide, ⟨by decide +kernel, by decide +kernel⟩, by decide +kernel⟩
theorem okX4_init : rx_Me_ok MX4_init 0 := ⟨hw_15, hw_16, by decide, ⟨by decide +kernel, by decide +kernel⟩, by decide +kernel⟩
theorem okX4_hasRoomFor : rx_Me_ok MX4_hasRoomFor 1 := ⟨hw_17, hw_16, by decide, ⟨by decide +kernel, by decide +kernel⟩, by decide +kernel⟩
theorem okX4_append : rx_Me_ok MX4_append 2 := ⟨hw_18, hw_16, by decide, ⟨by decide +kernel, by decide +kernel⟩, by decide +kernel⟩
theorem okX4_take : rx_Me_ok MX4_take 0 := ⟨hw_19, hw_16, by decide, ⟨by decide +kernel, by decide +kernel⟩, by decide +kernel⟩
theorem okX4_fault : rx_Me_ok MX4_fault 0 := ⟨hw_20, hw_16, by decide, ⟨by decide +kernel, by decide +kernel⟩, by decide +kernel⟩
theorem okX4_firstActThatIsNone : rx_Me_ok MX4_firstActThatIsNone 0 := ⟨hw_21, hw_16, by decide, ⟨by decide +kernel, by decide +kernel⟩, by decide +kernel⟩
theorem okX4_actSize : rx_Me_ok MX4_actSize 1 := ⟨hw_22, hw_16, by decide, ⟨by decide +kernel, by decide +kernel⟩, by decide +kernel⟩
theorem okX4_firstLostJump : rx_Me_ok MX4_firstLostJump 0 := ⟨hw_23, hw_16, by decide, ⟨by decide +kernel, by decide +kernel⟩, by decide +kernel⟩
theorem okX4_isBegun : rx_Me_ok MX4_isBegun 1 := ⟨hw_24, hw_16, by decide, ⟨by decide +kernel, by decide +kernel⟩, by decide +kernel⟩
theorem okX5_init : rx_Me_ok MX5_init 0 := ⟨hw_25, hw_26, by decide, ⟨by decide +kernel, by decide +kernel⟩, by decide +kernel⟩
theorem okX5_clear : rx_Me_ok MX5_clear 0 := ⟨hw_27, hw_26, by decide, ⟨by decide +kernel, by decide +kernel⟩, by decide +kernel⟩
theorem okX5_beginOrder : rx_Me_ok MX5_beginOrder 1 := ⟨hw_28, hw_26, by decide, ⟨by decide +kernel, by decide +kernel⟩, by decide +kernel⟩
theorem okX5_add : rx_Me_ok MX5_add 3 := ⟨hw_29, hw_26, by decide, ⟨by decide +kernel, by decide +kernel⟩, by decide +kernel⟩
theorem okX5_backTo : rx_Me_ok MX5_backTo 1 := ⟨hw_30, hw_26, by decide, ⟨by decide +kernel, by decide +kernel⟩, by decide +kernel⟩
theorem okX5_copyRows : rx_Me_ok MX5_copyRows 0 := ⟨hw_31, hw_26, by decide, ⟨by decide +kernel, by decide +kernel⟩, by decide +kernel⟩
theorem okX6_init : rx_Me_ok MX6_init 0 := ⟨hw_32, hw_33, by decide, ⟨by decide +kernel, by decide +kernel⟩, by decide +kernel⟩
theorem okX6_begin : rx_Me_ok MX6_begin 2 := ⟨hw_34, hw_33, by decide, ⟨by decide +kernel, by decide +kernel⟩, by decide +kernel⟩
theorem okX6_nextAct : rx_Me_ok MX6_nextAct 0 := ⟨hw_35, hw_33, by decide, ⟨by decide +kernel, by decide +kernel⟩, by decide +kernel⟩
theorem okX6_operand : rx_Me_ok MX6_operand 0 := ⟨hw_36, hw_33, by decide, ⟨by decide +kernel, by decide +kernel⟩, by decide +kernel⟩
theorem okX6_pays : rx_Me_ok MX6_pays 1 := ⟨hw_37, hw_33, by decide, ⟨by decide +kernel, by decide +kernel⟩, by decide +kernel⟩
theorem okX6_giveGas : rx_Me_ok MX6_giveGas 1 := ⟨hw_38, hw_33, by decide, ⟨by decide +kernel, by decide +kernel⟩, by decide +kernel⟩
theorem okX6_fits : rx_Me_ok MX6_fits 1 := ⟨hw_39, hw_33, by decide, ⟨by decide +kernel, by decide +kernel⟩, by decide +kernel⟩
theorem okX6_leavesOneMore : rx_Me_ok MX6_leavesOneMore 1 := ⟨hw_40, hw_33, by decide, ⟨by decide +kernel, by decide +kernel⟩, by decide +kernel⟩
theorem okX6_push : rx_Me_ok MX6_push 1 := ⟨hw_41, hw_33, by decide, ⟨by decide +kernel, by decide +kernel⟩, by decide +kernel⟩
theorem okX6_pop : rx_Me_ok MX6_pop 0 := ⟨hw_42, hw_33, by decide, ⟨by decide +kernel, by decide +kernel⟩, by decide +kernel⟩
theorem okX6_arrange : rx_Me_ok MX6_arrange 1 := ⟨hw_43, hw_33, by decide, ⟨by decide +kernel, by decide +kernel⟩, by decide +kernel⟩
theorem okX6_swap : rx_Me_ok MX6_swap 2 := ⟨hw_44, hw_33, by decide, ⟨by decide +kernel, by decide +kernel⟩, by decide +kernel⟩
theorem okX6_reckon : rx_Me_ok MX6_reckon 1 := ⟨hw_45, hw_33, by decide, ⟨by decide +kernel, by decide +kernel⟩, by decide +kernel⟩
theorem okX6_joined : rx_Me_ok MX6_joined 3 := ⟨hw_46, hw_33, by decide, ⟨by decide +kernel, by decide +kernel⟩, by decide +kernel⟩
theorem okX6_jump : rx_Me_ok MX6_jump 0 := ⟨hw_47, hw_33, by decide, ⟨by decide +kernel, by decide +kernel⟩, by decide +kernel⟩
theorem okX7_init : rx_Me_ok MX7_init 0 := ⟨hw_48, hw_49, by decide, ⟨by decide +kernel, by decide +kernel⟩, by decide +kernel⟩
theorem okX7_load : rx_Me_ok MX7_load 2 := ⟨hw_50, hw_49, by decide, ⟨by decide +kernel, by decide +kernel⟩, by decide +kernel⟩
theorem okX7_run : rx_Me_ok MX7_run 6 := ⟨hw_51, hw_49, by decide, ⟨by decide +kernel, by decide +kernel⟩, by decide +kernel⟩
theorem okX7_changesState : rx_Me_ok MX7_changesState 1 := ⟨hw_52, hw_49, by decide, ⟨by decide +kernel, by decide +kernel⟩, by decide +kernel⟩
theorem okX7_begin : rx_Me_ok MX7_begin 0 := ⟨hw_53, hw_49, by decide, ⟨by decide +kernel, by decide +kernel⟩, by decide +kernel⟩
theorem okX7_fails : rx_Me_ok MX7_fails 0 := ⟨hw_54, hw_49, by decide, ⟨by decide +kernel, by decide +kernel⟩, by decide +kernel⟩
theorem okX7_hasLock : rx_Me_ok MX7_hasLock 1 := ⟨hw_55, hw_49, by decide, ⟨by decide +kernel, by decide +kernel⟩, by decide +kernel⟩
theorem okX7_hasFrame : rx_Me_ok MX7_hasFrame 1 := ⟨hw_56, hw_49, by decide, ⟨by decide +kernel, by decide +kernel⟩, by decide +kernel⟩
theorem okX7_remember : rx_Me_ok MX7_remember 1 := ⟨hw_57, hw_49, by decide, ⟨by decide +kernel, by decide +kernel⟩, by decide +kernel⟩
theorem okX7_undo : rx_Me_ok MX7_undo 1 := ⟨hw_58, hw_49, by decide, ⟨by decide +kernel, by decide +kernel⟩, by decide +kernel⟩
theorem okX7_finish : rx_Me_ok MX7_finish 2 := ⟨hw_59, hw_49, by decide, ⟨by decide +kernel, by decide +kernel⟩, by decide +kernel⟩
theorem okX7_end : rx_Me_ok MX7_end 3 := ⟨hw_60, hw_49, by decide, ⟨by decide +kernel, by decide +kernel⟩, by decide +kernel⟩
theorem okX7_perform : rx_Me_ok MX7_perform 2 := ⟨hw_61, hw_49, by decide, ⟨by decide +kernel, by decide +kernel⟩, by decide +kernel⟩
theorem okX7_endWith : rx_Me_ok MX7_endWith 2 := ⟨hw_62, hw_49, by decide, ⟨by decide +kernel, by decide +kernel⟩, by decide +kernel⟩
theorem okX7_tell : rx_Me_ok MX7_tell 2 := ⟨hw_63, hw_49, by decide, ⟨by decide +kernel, by decide +kernel⟩, by decide +kernel⟩
theorem okX7_known : rx_Me_ok MX7_known 2 := ⟨hw_64, hw_49, by decide, ⟨by decide +kernel, by decide +kernel⟩, by decide +kernel⟩
theorem okX7_loadCell : rx_Me_ok MX7_loadCell 1 := ⟨hw_65, hw_49, by decide, ⟨by decide +kernel, by decide +kernel⟩, by decide +kernel⟩
theorem okX7_storeCell : rx_Me_ok MX7_storeCell 3 := ⟨hw_66, hw_49, by decide, ⟨by decide +kernel, by decide +kernel⟩, by decide +kernel⟩
theorem okX7_prepareCall : rx_Me_ok MX7_prepareCall 1 := ⟨hw_67, hw_49, by decide, ⟨by decide +kernel, by decide +kernel⟩, by decide +kernel⟩
theorem okX7_prepareLook : rx_Me_ok MX7_prepareLook 1 := ⟨hw_68, hw_49, by decide, ⟨by decide +kernel, by decide +kernel⟩, by decide +kernel⟩
theorem okX7_make : rx_Me_ok MX7_make 3 := ⟨hw_69, hw_49, by decide, ⟨by decide +kernel, by decide +kernel⟩, by decide +kernel⟩
theorem okX7_leastFreeAccount : rx_Me_ok MX7_leastFreeAccount 0 := ⟨hw_70, hw_49, by decide, ⟨by decide +kernel, by decide +kernel⟩, by decide +kernel⟩
theorem okX7_become : rx_Me_ok MX7_become 2 := ⟨hw_71, hw_49, by decide, ⟨by decide +kernel, by decide +kernel⟩, by decide +kernel⟩
theorem okX7_emit : rx_Me_ok MX7_emit 3 := ⟨hw_72, hw_49, by decide, ⟨by decide +kernel, by decide +kernel⟩, by decide +kernel⟩
theorem okX7_close : rx_Me_ok MX7_close 2 := ⟨hw_73, hw_49, by decide, ⟨by decide +kernel, by decide +kernel⟩, by decide +kernel⟩
theorem okX8_init : rx_Me_ok MX8_init 7 := ⟨hw_74, hw_75, by decide, ⟨by decide +kernel, by decide +kernel⟩, by decide +kernel⟩
theorem okX8_priceOf : rx_Me_ok MX8_priceOf 1 := ⟨hw_76, hw_75, by decide, ⟨by decide +kernel, by decide +kernel⟩, by decide +kernel⟩
theorem okX9_init : rx_Me_ok MX9_init 0 := ⟨hw_77, hw_78, by decide, ⟨by decide +kernel, by decide +kernel⟩, by decide +kernel⟩
theorem okX9_loadFrom : rx_Me_ok MX9_loadFrom 1 := ⟨hw_79, hw_78, by decide, ⟨by decide +kernel, by decide +kernel⟩, by decide +kernel⟩
theorem okX9_saveTo : rx_Me_ok MX9_saveTo 1 := ⟨hw_80, hw_78, by decide, ⟨by decide +kernel, by decide +kernel⟩, by decide +kernel⟩
theorem okX9_copyLeaves : rx_Me_ok MX9_copyLeaves 0 := ⟨hw_81, hw_78, by decide, ⟨by decide +kernel, by decide +kernel⟩, by decide +kernel⟩
theorem okX9_balanceOf : rx_Me_ok MX9_balanceOf 1 := ⟨hw_82, hw_78, by decide, ⟨by decide +kernel, by decide +kernel⟩, by decide +kernel⟩
theorem okX9_addToBalance : rx_Me_ok MX9_addToBalance 2 := ⟨hw_83, hw_78, by decide, ⟨by decide +kernel, by decide +kernel⟩, by decide +kernel⟩
theorem okX9_move : rx_Me_ok MX9_move 3 := ⟨hw_84, hw_78, by decide, ⟨by decide +kernel, by decide +kernel⟩, by decide +kernel⟩
theorem okX9_nonceOf : rx_Me_ok MX9_nonceOf 1 := ⟨hw_85, hw_78, by decide, ⟨by decide +kernel, by decide +kernel⟩, by decide +kernel⟩
theorem okX9_raiseNonce : rx_Me_ok MX9_raiseNonce 1 := ⟨hw_86, hw_78, by decide, ⟨by decide +kernel, by decide +kernel⟩, by decide +kernel⟩
theorem okX9_codeOf : rx_Me_ok MX9_codeOf 1 := ⟨hw_87, hw_78, by decide, ⟨by decide +kernel, by decide +kernel⟩, by decide +kernel⟩
theorem okX9_setCode : rx_Me_ok MX9_setCode 2 := ⟨hw_88, hw_78, by decide, ⟨by decide +kernel, by decide +kernel⟩, by decide +kernel⟩
theorem okX9_cellOf : rx_Me_ok MX9_cellOf 2 := ⟨hw_89, hw_78, by decide, ⟨by decide +kernel, by decide +kernel⟩, by decide +kernel⟩
theorem okX9_setCell : rx_Me_ok MX9_setCell 3 := ⟨hw_90, hw_78, by decide, ⟨by decide +kernel, by decide +kernel⟩, by decide +kernel⟩
theorem okX9_clearCells : rx_Me_ok MX9_clearCells 1 := ⟨hw_91, hw_78, by decide, ⟨by decide +kernel, by decide +kernel⟩, by decide +kernel⟩
theorem okX9_isEmpty : rx_Me_ok MX9_isEmpty 1 := ⟨hw_92, hw_78, by decide, ⟨by decide +kernel, by decide +kernel⟩, by decide +kernel⟩
theorem okX10_init : rx_Me_ok MX10_init 0 := ⟨hw_93, hw_94, by decide, ⟨by decide +kernel, by decide +kernel⟩, by decide +kernel⟩
theorem okX10_draft : rx_Me_ok MX10_draft 2 := ⟨hw_95, hw_94, by decide, ⟨by decide +kernel, by decide +kernel⟩, by decide +kernel⟩
theorem okX10_code : rx_Me_ok MX10_code 0 := ⟨hw_96, hw_94, by decide, ⟨by decide +kernel, by decide +kernel⟩, by decide +kernel⟩
theorem okX10_endow : rx_Me_ok MX10_endow 3 := ⟨hw_97, hw_94, by decide, ⟨by decide +kernel, by decide +kernel⟩, by decide +kernel⟩
theorem okX10_weight : rx_Me_ok MX10_weight 2 := ⟨hw_98, hw_94, by decide, ⟨by decide +kernel, by decide +kernel⟩, by decide +kernel⟩
theorem okX10_order : rx_Me_ok MX10_order 7 := ⟨hw_99, hw_94, by decide, ⟨by decide +kernel, by decide +kernel⟩, by decide +kernel⟩
theorem okX10_block : rx_Me_ok MX10_block 2 := ⟨hw_100, hw_94, by decide, ⟨by decide +kernel, by decide +kernel⟩, by decide +kernel⟩
theorem okX10_told : rx_Me_ok MX10_told 2 := ⟨hw_101, hw_94, by decide, ⟨by decide +kernel, by decide +kernel⟩, by decide +kernel⟩
theorem okX10_receipt : rx_Me_ok MX10_receipt 3 := ⟨hw_102, hw_94, by decide, ⟨by decide +kernel, by decide +kernel⟩, by decide +kernel⟩
theorem okX10_event : rx_Me_ok MX10_event 3 := ⟨hw_103, hw_94, by decide, ⟨by decide +kernel, by decide +kernel⟩, by decide +kernel⟩
theorem okX10_leaf : rx_Me_ok MX10_leaf 2 := ⟨hw_104, hw_94, by decide, ⟨by decide +kernel, by decide +kernel⟩, by decide +kernel⟩
theorem okX10_digest : rx_Me_ok MX10_digest 3 := ⟨hw_105, hw_94, by decide, ⟨by decide +kernel, by decide +kernel⟩, by decide +kernel⟩
theorem okX10_view : rx_Me_ok MX10_view 5 := ⟨hw_106, hw_94, by decide, ⟨by decide +kernel, by decide +kernel⟩, by decide +kernel⟩
theorem okX10_seen : rx_Me_ok MX10_seen 1 := ⟨hw_107, hw_94, by decide, ⟨by decide +kernel, by decide +kernel⟩, by decide +kernel⟩
theorem okX10_vote : rx_Me_ok MX10_vote 2 := ⟨hw_108, hw_94, by decide, ⟨by decide +kernel, by decide +kernel⟩, by decide +kernel⟩
theorem okX10_certain : rx_Me_ok MX10_certain 1 := ⟨hw_109, hw_94, by decide, ⟨by decide +kernel, by decide +kernel⟩, by decide +kernel⟩
theorem okX10_beside : rx_Me_ok MX10_beside 2 := ⟨hw_110, hw_94, by decide, ⟨by decide +kernel, by decide +kernel⟩, by decide +kernel⟩
theorem okX10_proves : rx_Me_ok MX10_proves 3 := ⟨hw_111, hw_94, by decide, ⟨by decide +kernel, by decide +kernel⟩, by decide +kernel⟩
theorem okX10_isWithin : rx_Me_ok MX10_isWithin 2 := ⟨hw_112, hw_94, by decide, ⟨by decide +kernel, by decide +kernel⟩, by decide +kernel⟩
theorem okX10_isAccount : rx_Me_ok MX10_isAccount 1 := ⟨hw_113, hw_94, by decide, ⟨by decide +kernel, by decide +kernel⟩, by decide +kernel⟩
theorem okX10_isBlock : rx_Me_ok MX10_isBlock 1 := ⟨hw_114, hw_94, by decide, ⟨by decide +kernel, by decide +kernel⟩, by decide +kernel⟩
theorem okX10_isCertain : rx_Me_ok MX10_isCertain 1 := ⟨hw_115, hw_94, by decide, ⟨by decide +kernel, by decide +kernel⟩, by decide +kernel⟩
theorem okX10_doOrder : rx_Me_ok MX10_doOrder 4 := ⟨hw_116, hw_94, by decide, ⟨by decide +kernel, by decide +kernel⟩, by decide +kernel⟩
theorem okX10_isVoid : rx_Me_ok MX10_isVoid 2 := ⟨hw_117, hw_94, by decide, ⟨by decide +kernel, by decide +kernel⟩, by decide +kernel⟩
theorem okX10_leafDigest : rx_Me_ok MX10_leafDigest 2 := ⟨hw_118, hw_94, by decide, ⟨by decide +kernel, by decide +kernel⟩, by decide +kernel⟩
theorem okX10_pairDigest : rx_Me_ok MX10_pairDigest 2 := ⟨hw_119, hw_94, by decide, ⟨by decide +kernel, by decide +kernel⟩, by decide +kernel⟩
theorem okX10_nodeDigest : rx_Me_ok MX10_nodeDigest 3 := ⟨hw_120, hw_94, by decide, ⟨by decide +kernel, by decide +kernel⟩, by decide +kernel⟩
theorem okX10_mix : rx_Me_ok MX10_mix 2 := ⟨hw_121, hw_94, by decide, ⟨by decide +kernel, by decide +kernel⟩, by decide +kernel⟩
theorem okX10_neverZero : rx_Me_ok MX10_neverZero 1 := ⟨hw_122, hw_94, by decide, ⟨by decide +kernel, by decide +kernel⟩, by decide +kernel⟩
theorem okX11_init : rx_Me_ok MX11_init 0 := ⟨hw_123, hw_124, by decide, ⟨by decide +kernel, by decide +kernel⟩, by decide +kernel⟩
theorem okX11_thrown : rx_Me_ok MX11_thrown 0 := ⟨hw_125, hw_124, by decide, ⟨by decide +kernel, by decide +kernel⟩, by decide +kernel⟩
theorem okX11_sizeOf : rx_Me_ok MX11_sizeOf 1 := ⟨hw_126, hw_124, by decide, ⟨by decide +kernel, by decide +kernel⟩, by decide +kernel⟩
theorem okX11_judged : rx_Me_ok MX11_judged 0 := ⟨hw_127, hw_124, by decide, ⟨by decide +kernel, by decide +kernel⟩, by decide +kernel⟩
theorem okX11_draft : rx_Me_ok MX11_draft 2 := ⟨hw_128, hw_124, by decide, ⟨by decide +kernel, by decide +kernel⟩, by decide +kernel⟩
theorem okX11_code : rx_Me_ok MX11_code 0 := ⟨hw_129, hw_124, by decide, ⟨by decide +kernel, by decide +kernel⟩, by decide +kernel⟩
theorem okX11_isAccount : rx_Me_ok MX11_isAccount 1 := ⟨hw_130, hw_124, by decide, ⟨by decide +kernel, by decide +kernel⟩, by decide +kernel⟩
theorem okX11_isEmpty : rx_Me_ok MX11_isEmpty 1 := ⟨hw_131, hw_124, by decide, ⟨by decide +kernel, by decide +kernel⟩, by decide +kernel⟩
theorem okX11_endow : rx_Me_ok MX11_endow 3 := ⟨hw_132, hw_124, by decide, ⟨by decide +kernel, by decide +kernel⟩, by decide +kernel⟩
theorem okX11_weight : rx_Me_ok MX11_weight 2 := ⟨hw_133, hw_124, by decide, ⟨by decide +kernel, by decide +kernel⟩, by decide +kernel⟩
theorem okX11_order : rx_Me_ok MX11_order 7 := ⟨hw_134, hw_124, by decide, ⟨by decide +kernel, by decide +kernel⟩, by decide +kernel⟩
theorem okX11_end : rx_Me_ok MX11_end 3 := ⟨hw_135, hw_124, by decide, ⟨by decide +kernel, by decide +kernel⟩, by decide +kernel⟩
theorem okX11_isLocked : rx_Me_ok MX11_isLocked 1 := ⟨hw_136, hw_124, by decide, ⟨by decide +kernel, by decide +kernel⟩, by decide +kernel⟩
theorem okX11_begin : rx_Me_ok MX11_begin 6 := ⟨hw_137, hw_124, by decide, ⟨by decide +kernel, by decide +kernel⟩, by decide +kernel⟩
theorem okX11_finish : rx_Me_ok MX11_finish 2 := ⟨hw_138, hw_124, by decide, ⟨by decide +kernel, by decide +kernel⟩, by decide +kernel⟩
theorem okX11_tell : rx_Me_ok MX11_tell 0 := ⟨hw_139, hw_124, by decide, ⟨by decide +kernel, by decide +kernel⟩, by decide +kernel⟩
theorem okX11_run : rx_Me_ok MX11_run 1 := ⟨hw_140, hw_124, by decide, ⟨by decide +kernel, by decide +kernel⟩, by decide +kernel⟩
theorem okX11_push : rx_Me_ok MX11_push 1 := ⟨hw_141, hw_124, by decide, ⟨by decide +kernel, by decide +kernel⟩, by decide +kernel⟩
theorem okX11_pop : rx_Me_ok MX11_pop 0 := ⟨hw_142, hw_124, by decide, ⟨by decide +kernel, by decide +kernel⟩, by decide +kernel⟩
theorem okX11_costOf : rx_Me_ok MX11_costOf 1 := ⟨hw_143, hw_124, by decide, ⟨by decide +kernel, by decide +kernel⟩, by decide +kernel⟩
theorem okX11_takes : rx_Me_ok MX11_takes 1 := ⟨hw_144, hw_124, by decide, ⟨by decide +kernel, by decide +kernel⟩, by decide +kernel⟩
theorem okX11_gives : rx_Me_ok MX11_gives 1 := ⟨hw_145, hw_124, by decide, ⟨by decide +kernel, by decide +kernel⟩, by decide +kernel⟩
theorem okX11_act : rx_Me_ok MX11_act 0 := ⟨hw_146, hw_124, by decide, ⟨by decide +kernel, by decide +kernel⟩, by decide +kernel⟩
theorem okX11_simple : rx_Me_ok MX11_simple 3 := ⟨hw_147, hw_124, by decide, ⟨by decide +kernel, by decide +kernel⟩, by decide +kernel⟩
theorem okX11_reckon : rx_Me_ok MX11_reckon 1 := ⟨hw_148, hw_124, by decide, ⟨by decide +kernel, by decide +kernel⟩, by decide +kernel⟩
theorem okX11_jumpOrCell : rx_Me_ok MX11_jumpOrCell 2 := ⟨hw_149, hw_124, by decide, ⟨by decide +kernel, by decide +kernel⟩, by decide +kernel⟩
theorem okX11_tellOf : rx_Me_ok MX11_tellOf 1 := ⟨hw_150, hw_124, by decide, ⟨by decide +kernel, by decide +kernel⟩, by decide +kernel⟩
theorem okX11_greater : rx_Me_ok MX11_greater 1 := ⟨hw_151, hw_124, by decide, ⟨by decide +kernel, by decide +kernel⟩, by decide +kernel⟩
theorem okX11_calls : rx_Me_ok MX11_calls 1 := ⟨hw_152, hw_124, by decide, ⟨by decide +kernel, by decide +kernel⟩, by decide +kernel⟩
theorem okX11_hasFrame : rx_Me_ok MX11_hasFrame 1 := ⟨hw_153, hw_124, by decide, ⟨by decide +kernel, by decide +kernel⟩, by decide +kernel⟩
theorem okX11_make : rx_Me_ok MX11_make 1 := ⟨hw_154, hw_124, by decide, ⟨by decide +kernel, by decide +kernel⟩, by decide +kernel⟩
theorem okX11_emit : rx_Me_ok MX11_emit 1 := ⟨hw_155, hw_124, by decide, ⟨by decide +kernel, by decide +kernel⟩, by decide +kernel⟩
theorem okX11_close : rx_Me_ok MX11_close 1 := ⟨hw_156, hw_124, by decide, ⟨by decide +kernel, by decide +kernel⟩, by decide +kernel⟩
theorem okX11_wholeCall : rx_Me_ok MX11_wholeCall 6 := ⟨hw_157, hw_124, by decide, ⟨by decide +kernel, by decide +kernel⟩, by decide +kernel⟩
theorem okX11_block : rx_Me_ok MX11_block 2 := ⟨hw_158, hw_124, by decide, ⟨by decide +kernel, by decide +kernel⟩, by decide +kernel⟩
theorem okX11_keepEvents : rx_Me_ok MX11_keepEvents 2 := ⟨hw_159, hw_124, by decide, ⟨by decide +kernel, by decide +kernel⟩, by decide +kernel⟩
theorem okX11_doOrder : rx_Me_ok MX11_doOrder 4 := ⟨hw_160, hw_124, by decide, ⟨by decide +kernel, by decide +kernel⟩, by decide +kernel⟩
theorem okX11_isBlock : rx_Me_ok MX11_isBlock 1 := ⟨hw_161, hw_124, by decide, ⟨by decide +kernel, by decide +kernel⟩, by decide +kernel⟩
theorem okX11_told : rx_Me_ok MX11_told 2 := ⟨hw_162, hw_124, by decide, ⟨by decide +kernel, by decide +kernel⟩, by decide +kernel⟩
theorem okX11_receipt : rx_Me_ok MX11_receipt 3 := ⟨hw_163, hw_124, by decide, ⟨by decide +kernel, by decide +kernel⟩, by decide +kernel⟩
theorem okX11_event : rx_Me_ok MX11_event 3 := ⟨hw_164, hw_124, by decide, ⟨by decide +kernel, by decide +kernel⟩, by decide +kernel⟩
theorem okX11_valueOf : rx_Me_ok MX11_valueOf 2 := ⟨hw_165, hw_124, by decide, ⟨by decide +kernel, by decide +kernel⟩, by decide +kernel⟩
theorem okX11_mix : rx_Me_ok MX11_mix 2 := ⟨hw_166, hw_124, by decide, ⟨by decide +kernel, by decide +kernel⟩, by decide +kernel⟩
theorem okX11_leafDigest : rx_Me_ok MX11_leafDigest 2 := ⟨hw_167, hw_124, by decide, ⟨by decide +kernel, by decide +kernel⟩, by decide +kernel⟩
theorem okX11_both : rx_Me_ok MX11_both 2 := ⟨hw_168, hw_124, by decide, ⟨by decide +kernel, by decide +kernel⟩, by decide +kernel⟩
theorem okX11_leaf : rx_Me_ok MX11_leaf 2 := ⟨hw_169, hw_124, by decide, ⟨by decide +kernel, by decide +kernel⟩, by decide +kernel⟩
theorem okX11_digest : rx_Me_ok MX11_digest 3 := ⟨hw_170, hw_124, by decide, ⟨by decide +kernel, by decide +kernel⟩, by decide +kernel⟩
theorem okX11_view : rx_Me_ok MX11_view 5 := ⟨hw_171, hw_124, by decide, ⟨by decide +kernel, by decide +kernel⟩, by decide +kernel⟩
theorem okX11_seen : rx_Me_ok MX11_seen 1 := ⟨hw_172, hw_124, by decide, ⟨by decide +kernel, by decide +kernel⟩, by decide +kernel⟩
theorem okX11_vote : rx_Me_ok MX11_vote 2 := ⟨hw_173, hw_124, by decide, ⟨by decide +kernel, by decide +kernel⟩, by decide +kernel⟩
theorem okX11_certain : rx_Me_ok MX11_certain 1 := ⟨hw_174, hw_124, by decide, ⟨by decide +kernel, by decide +kernel⟩, by decide +kernel⟩
theorem okX11_beside : rx_Me_ok MX11_beside 2 := ⟨hw_175, hw_124, by decide, ⟨by decide +kernel, by decide +kernel⟩, by decide +kernel⟩
theorem okX11_proves : rx_Me_ok MX11_proves 3 := ⟨hw_176, hw_124, by decide, ⟨by decide +kernel, by decide +kernel⟩, by decide +kernel⟩
theorem okJ9_max_f86c9 : rx_Me_ok MJ9_max_f86c9 2 := ⟨hw_177, hw_178, by decide, ⟨by decide +kernel, by decide +kernel⟩, by decide +kernel⟩
theorem okJ9_min_7cf53 : rx_Me_ok MJ9_min_7cf53 2 := ⟨hw_179, hw_178, by decide, ⟨by decide +kernel, by decide +kernel⟩, by decide +kernel⟩
theorem okJ9_min_f86c9 : rx_Me_ok MJ9_min_f86c9 2 := ⟨hw_180, hw_178, by decide, ⟨by decide +kernel, by decide +kernel⟩, by decide +kernel⟩
theorem okJ7_fill_53178 : rx_Me_ok MJ7_fill_53178 2 := ⟨hw_181, hw_182, by decide, ⟨by decide +kernel, by decide +kernel⟩, by decide +kernel⟩
theorem okJ7_copyOf_9075b : rx_Me_ok MJ7_copyOf_9075b 2 := ⟨hw_183, hw_182, by decide, ⟨by decide +kernel, by decide +kernel⟩, by decide +kernel⟩
theorem okJ7_copyOf_c38d5 : rx_Me_ok MJ7_copyOf_c38d5 2 := ⟨hw_184, hw_182, by decide, ⟨by decide +kernel, by decide +kernel⟩, by decide +kernel⟩
theorem hf_RX0_13 : rx_Fd RX0 13 0 1 (.int) := ⟨_, _, _, hc_0, by decide, rfl, Or.inl hw_185⟩
theorem hf_RX0_16 : rx_Fd RX0 16 0 2 (.array .long) := ⟨_, _, _, hc_0, by decide, rfl, Or.inl hw_186⟩
theorem hf_RX0_20 : rx_Fd RX0 20 0 3 (.array .long) := ⟨_, _, _, hc_0, by decide, rfl, Or.inl hw_187⟩
theorem hf_RX0_23 : rx_Fd RX0 23 0 4 (.array .long) := ⟨_, _, _, hc_0, by decide, rfl, Or.inl hw_188⟩
theorem hf_RX0_26 : rx_Fd RX0 26 0 5 (.int) := ⟨_, _, _, hc_0, by decide, rfl, Or.inl hw_189⟩
theorem hf_RX0_7 : rx_Fd RX0 7 0 0 (.int) := ⟨_, _, _, hc_0, by decide, rfl, Or.inl hw_190⟩
theorem hf_RX1_13 : rx_Fd RX1 13 1 1 (.long) := ⟨_, _, _, hc_1, by decide, rfl, Or.inl hw_191⟩
theorem hf_RX1_17 : rx_Fd RX1 17 1 2 (.long) := ⟨_, _, _, hc_1, by decide, rfl, Or.inl hw_192⟩
theorem hf_RX1_20 : rx_Fd RX1 20 1 3 (.long) := ⟨_, _, _, hc_1, by decide, rfl, Or.inl hw_193⟩
theorem hf_RX1_23 : rx_Fd RX1 23 1 4 (.int) := ⟨_, _, _, hc_1, by decide, rfl, Or.inl hw_194⟩
theorem hf_RX1_26 : rx_Fd RX1 26 1 5 (.boolean) := ⟨_, _, _, hc_1, by decide, rfl, Or.inl hw_195⟩
theorem hf_RX1_7 : rx_Fd RX1 7 1 0 (.int) := ⟨_, _, _, hc_1, by decide, rfl, Or.inl hw_196⟩
theorem hf_RX2_9 : rx_Fd RX2 9 2 0 (.array .byte) := ⟨_, _, _, hc_2, by decide, rfl, Or.inl hw_197⟩
theorem hf_RX3_11 : rx_Fd RX3 11 3 0 (.array (.object "LedgerMachine$Code")) := ⟨_, _, _, hc_3, by decide, rfl, Or.inl hw_198⟩
theorem hf_RX3_17 : rx_Fd RX3 17 3 1 (.int) := ⟨_, _, _, hc_3, by decide, rfl, Or.inl hw_199⟩
theorem hf_RX4_15 : rx_Fd RX4 15 4 1 (.array .boolean) := ⟨_, _, _, hc_4, by decide, rfl, Or.inl hw_200⟩
theorem hf_RX4_19 : rx_Fd RX4 19 4 2 (.int) := ⟨_, _, _, hc_4, by decide, rfl, Or.inl hw_201⟩
theorem hf_RX4_9 : rx_Fd RX4 9 4 0 (.array .byte) := ⟨_, _, _, hc_4, by decide, rfl, Or.inl hw_202⟩
theorem hf_RX5_15 : rx_Fd RX5 15 5 1 (.int) := ⟨_, _, _, hc_5, by decide, rfl, Or.inl hw_203⟩
theorem hf_RX5_19 : rx_Fd RX5 19 5 2 (.int) := ⟨_, _, _, hc_5, by decide, rfl, Or.inl hw_204⟩
theorem hf_RX5_9 : rx_Fd RX5 9 5 0 (.array .long) := ⟨_, _, _, hc_5, by decide, rfl, Or.inl hw_205⟩
theorem hf_RX6_15 : rx_Fd RX6 15 6 1 (.array .long) := ⟨_, _, _, hc_6, by decide, rfl, Or.inl hw_206⟩
theorem hf_RX6_18 : rx_Fd RX6 18 6 5 (.object "LedgerMachine$Code") := ⟨_, _, _, hc_6, by decide, rfl, Or.inl hw_207⟩
theorem hf_RX6_22 : rx_Fd RX6 22 1 1 (.long) := ⟨_, _, _, hc_1, by decide, rfl, Or.inr ⟨"LedgerMachine", hw_208⟩⟩
theorem hf_RX6_28 : rx_Fd RX6 28 6 9 (.int) := ⟨_, _, _, hc_6, by decide, rfl, Or.inl hw_209⟩
theorem hf_RX6_32 : rx_Fd RX6 32 1 0 (.int) := ⟨_, _, _, hc_1, by decide, rfl, Or.inr ⟨"LedgerMachine", hw_210⟩⟩
theorem hf_RX6_35 : rx_Fd RX6 35 6 10 (.int) := ⟨_, _, _, hc_6, by decide, rfl, Or.inl hw_211⟩
theorem hf_RX6_36 : rx_Fd RX6 36 1 2 (.long) := ⟨_, _, _, hc_1, by decide, rfl, Or.inr ⟨"LedgerMachine", hw_212⟩⟩
theorem hf_RX6_39 : rx_Fd RX6 39 6 11 (.long) := ⟨_, _, _, hc_6, by decide, rfl, Or.inl hw_213⟩
theorem hf_RX6_40 : rx_Fd RX6 40 1 3 (.long) := ⟨_, _, _, hc_1, by decide, rfl, Or.inr ⟨"LedgerMachine", hw_214⟩⟩
theorem hf_RX6_43 : rx_Fd RX6 43 6 12 (.long) := ⟨_, _, _, hc_6, by decide, rfl, Or.inl hw_215⟩
theorem hf_RX6_44 : rx_Fd RX6 44 1 4 (.int) := ⟨_, _, _, hc_1, by decide, rfl, Or.inr ⟨"LedgerMachine", hw_216⟩⟩
theorem hf_RX6_47 : rx_Fd RX6 47 6 8 (.int) := ⟨_, _, _, hc_6, by decide, rfl, Or.inl hw_217⟩
theorem hf_RX6_48 : rx_Fd RX6 48 1 5 (.boolean) := ⟨_, _, _, hc_1, by decide, rfl, Or.inr ⟨"LedgerMachine", hw_218⟩⟩
theorem hf_RX6_52 : rx_Fd RX6 52 6 13 (.boolean) := ⟨_, _, _, hc_6, by decide, rfl, Or.inl hw_219⟩
theorem hf_RX6_53 : rx_Fd RX6 53 6 14 (.boolean) := ⟨_, _, _, hc_6, by decide, rfl, Or.inl hw_220⟩
theorem hf_RX6_56 : rx_Fd RX6 56 6 4 (.int) := ⟨_, _, _, hc_6, by decide, rfl, Or.inl hw_221⟩
theorem hf_RX6_59 : rx_Fd RX6 59 6 6 (.int) := ⟨_, _, _, hc_6, by decide, rfl, Or.inl hw_222⟩
theorem hf_RX6_68 : rx_Fd RX6 68 6 7 (.int) := ⟨_, _, _, hc_6, by decide, rfl, Or.inl hw_223⟩
theorem hf_RX6_9 : rx_Fd RX6 9 6 0 (.array .long) := ⟨_, _, _, hc_6, by decide, rfl, Or.inl hw_224⟩
theorem hf_RX7_111 : rx_Fd RX7 111 1 4 (.int) := ⟨_, _, _, hc_1, by decide, rfl, Or.inr ⟨"LedgerMachine", hw_225⟩⟩
theorem hf_RX7_118 : rx_Fd RX7 118 1 1 (.long) := ⟨_, _, _, hc_1, by decide, rfl, Or.inr ⟨"LedgerMachine", hw_226⟩⟩
theorem hf_RX7_12 : rx_Fd RX7 12 7 0 (.object "LedgerMachine$CodeBook") := ⟨_, _, _, hc_7, by decide, rfl, Or.inl hw_227⟩
theorem hf_RX7_130 : rx_Fd RX7 130 1 0 (.int) := ⟨_, _, _, hc_1, by decide, rfl, Or.inr ⟨"LedgerMachine", hw_228⟩⟩
theorem hf_RX7_133 : rx_Fd RX7 133 1 2 (.long) := ⟨_, _, _, hc_1, by decide, rfl, Or.inr ⟨"LedgerMachine", hw_229⟩⟩
theorem hf_RX7_140 : rx_Fd RX7 140 3 0 (.array (.object "LedgerMachine$Code")) := ⟨_, _, _, hc_3, by decide, rfl, Or.inr ⟨"LedgerMachine", hw_230⟩⟩
theorem hf_RX7_160 : rx_Fd RX7 160 6 9 (.int) := ⟨_, _, _, hc_6, by decide, rfl, Or.inr ⟨"LedgerMachine", hw_231⟩⟩
theorem hf_RX7_163 : rx_Fd RX7 163 6 14 (.boolean) := ⟨_, _, _, hc_6, by decide, rfl, Or.inr ⟨"LedgerMachine", hw_232⟩⟩
theorem hf_RX7_165 : rx_Fd RX7 165 6 1 (.array .long) := ⟨_, _, _, hc_6, by decide, rfl, Or.inr ⟨"LedgerMachine", hw_233⟩⟩
theorem hf_RX7_172 : rx_Fd RX7 172 5 1 (.int) := ⟨_, _, _, hc_5, by decide, rfl, Or.inr ⟨"LedgerMachine", hw_234⟩⟩
theorem hf_RX7_175 : rx_Fd RX7 175 6 2 (.int) := ⟨_, _, _, hc_6, by decide, rfl, Or.inr ⟨"LedgerMachine", hw_235⟩⟩
theorem hf_RX7_178 : rx_Fd RX7 178 6 3 (.int) := ⟨_, _, _, hc_6, by decide, rfl, Or.inr ⟨"LedgerMachine", hw_236⟩⟩
theorem hf_RX7_188 : rx_Fd RX7 188 7 11 (.long) := ⟨_, _, _, hc_7, by decide, rfl, Or.inl hw_237⟩
theorem hf_RX7_191 : rx_Fd RX7 191 6 8 (.int) := ⟨_, _, _, hc_6, by decide, rfl, Or.inr ⟨"LedgerMachine", hw_238⟩⟩
theorem hf_RX7_192 : rx_Fd RX7 192 7 10 (.int) := ⟨_, _, _, hc_7, by decide, rfl, Or.inl hw_239⟩
theorem hf_RX7_195 : rx_Fd RX7 195 7 12 (.int) := ⟨_, _, _, hc_7, by decide, rfl, Or.inl hw_240⟩
theorem hf_RX7_21 : rx_Fd RX7 21 7 1 (.object "LedgerMachine$State") := ⟨_, _, _, hc_7, by decide, rfl, Or.inl hw_241⟩
theorem hf_RX7_254 : rx_Fd RX7 254 6 10 (.int) := ⟨_, _, _, hc_6, by decide, rfl, Or.inr ⟨"LedgerMachine", hw_242⟩⟩
theorem hf_RX7_255 : rx_Fd RX7 255 6 11 (.long) := ⟨_, _, _, hc_6, by decide, rfl, Or.inr ⟨"LedgerMachine", hw_243⟩⟩
theorem hf_RX7_256 : rx_Fd RX7 256 6 12 (.long) := ⟨_, _, _, hc_6, by decide, rfl, Or.inr ⟨"LedgerMachine", hw_244⟩⟩
theorem hf_RX7_28 : rx_Fd RX7 28 7 2 (.object "LedgerMachine$EventLog") := ⟨_, _, _, hc_7, by decide, rfl, Or.inl hw_245⟩
theorem hf_RX7_35 : rx_Fd RX7 35 7 3 (.object "LedgerMachine$Call") := ⟨_, _, _, hc_7, by decide, rfl, Or.inl hw_246⟩
theorem hf_RX7_41 : rx_Fd RX7 41 7 4 (.array (.object "LedgerMachine$Frame")) := ⟨_, _, _, hc_7, by decide, rfl, Or.inl hw_247⟩
theorem hf_RX7_53 : rx_Fd RX7 53 7 6 (.int) := ⟨_, _, _, hc_7, by decide, rfl, Or.inl hw_248⟩
theorem hf_RX7_57 : rx_Fd RX7 57 7 7 (.int) := ⟨_, _, _, hc_7, by decide, rfl, Or.inl hw_249⟩
theorem hf_RX7_60 : rx_Fd RX7 60 7 5 (.int) := ⟨_, _, _, hc_7, by decide, rfl, Or.inl hw_250⟩
theorem hf_RX7_63 : rx_Fd RX7 63 7 8 (.int) := ⟨_, _, _, hc_7, by decide, rfl, Or.inl hw_251⟩
theorem hf_RX7_66 : rx_Fd RX7 66 7 9 (.int) := ⟨_, _, _, hc_7, by decide, rfl, Or.inl hw_252⟩
theorem hf_RX7_92 : rx_Fd RX7 92 6 13 (.boolean) := ⟨_, _, _, hc_6, by decide, rfl, Or.inr ⟨"LedgerMachine", hw_253⟩⟩
theorem hf_RX8_13 : rx_Fd RX8 13 8 1 (.int) := ⟨_, _, _, hc_8, by decide, rfl, Or.inl hw_254⟩
theorem hf_RX8_16 : rx_Fd RX8 16 8 2 (.long) := ⟨_, _, _, hc_8, by decide, rfl, Or.inl hw_255⟩
theorem hf_RX8_20 : rx_Fd RX8 20 8 3 (.long) := ⟨_, _, _, hc_8, by decide, rfl, Or.inl hw_256⟩
theorem hf_RX8_23 : rx_Fd RX8 23 8 4 (.int) := ⟨_, _, _, hc_8, by decide, rfl, Or.inl hw_257⟩
theorem hf_RX8_26 : rx_Fd RX8 26 8 5 (.int) := ⟨_, _, _, hc_8, by decide, rfl, Or.inl hw_258⟩
theorem hf_RX8_29 : rx_Fd RX8 29 8 6 (.int) := ⟨_, _, _, hc_8, by decide, rfl, Or.inl hw_259⟩
theorem hf_RX8_7 : rx_Fd RX8 7 8 0 (.int) := ⟨_, _, _, hc_8, by decide, rfl, Or.inl hw_260⟩
theorem hf_RX9_9 : rx_Fd RX9 9 9 0 (.array .long) := ⟨_, _, _, hc_9, by decide, rfl, Or.inl hw_261⟩
theorem hf_RX10_10 : rx_Fd RX10 10 10 0 (.object "LedgerMachine$Draft") := ⟨_, _, _, hc_10, by decide, rfl, Or.inl hw_262⟩
theorem hf_RX10_124 : rx_Fd RX10 124 0 2 (.array .long) := ⟨_, _, _, hc_0, by decide, rfl, Or.inr ⟨"LedgerMachine", hw_263⟩⟩
theorem hf_RX10_142 : rx_Fd RX10 142 10 3 (.int) := ⟨_, _, _, hc_10, by decide, rfl, Or.inl hw_264⟩
theorem hf_RX10_157 : rx_Fd RX10 157 0 1 (.int) := ⟨_, _, _, hc_0, by decide, rfl, Or.inr ⟨"LedgerMachine", hw_265⟩⟩
theorem hf_RX10_168 : rx_Fd RX10 168 7 1 (.object "LedgerMachine$State") := ⟨_, _, _, hc_7, by decide, rfl, Or.inr ⟨"LedgerMachine", hw_266⟩⟩
theorem hf_RX10_178 : rx_Fd RX10 178 7 2 (.object "LedgerMachine$EventLog") := ⟨_, _, _, hc_7, by decide, rfl, Or.inr ⟨"LedgerMachine", hw_267⟩⟩
theorem hf_RX10_189 : rx_Fd RX10 189 0 0 (.int) := ⟨_, _, _, hc_0, by decide, rfl, Or.inr ⟨"LedgerMachine", hw_268⟩⟩
theorem hf_RX10_19 : rx_Fd RX10 19 10 1 (.object "LedgerMachine$Machine") := ⟨_, _, _, hc_10, by decide, rfl, Or.inl hw_269⟩
theorem hf_RX10_192 : rx_Fd RX10 192 0 3 (.array .long) := ⟨_, _, _, hc_0, by decide, rfl, Or.inr ⟨"LedgerMachine", hw_270⟩⟩
theorem hf_RX10_195 : rx_Fd RX10 195 0 4 (.array .long) := ⟨_, _, _, hc_0, by decide, rfl, Or.inr ⟨"LedgerMachine", hw_271⟩⟩
theorem hf_RX10_197 : rx_Fd RX10 197 0 5 (.int) := ⟨_, _, _, hc_0, by decide, rfl, Or.inr ⟨"LedgerMachine", hw_272⟩⟩
theorem hf_RX10_200 : rx_Fd RX10 200 0 6 (.int) := ⟨_, _, _, hc_0, by decide, rfl, Or.inr ⟨"LedgerMachine", hw_273⟩⟩
theorem hf_RX10_226 : rx_Fd RX10 226 7 10 (.int) := ⟨_, _, _, hc_7, by decide, rfl, Or.inr ⟨"LedgerMachine", hw_274⟩⟩
theorem hf_RX10_229 : rx_Fd RX10 229 10 9 (.int) := ⟨_, _, _, hc_10, by decide, rfl, Or.inl hw_275⟩
theorem hf_RX10_232 : rx_Fd RX10 232 7 12 (.int) := ⟨_, _, _, hc_7, by decide, rfl, Or.inr ⟨"LedgerMachine", hw_276⟩⟩
theorem hf_RX10_235 : rx_Fd RX10 235 10 10 (.int) := ⟨_, _, _, hc_10, by decide, rfl, Or.inl hw_277⟩
theorem hf_RX10_238 : rx_Fd RX10 238 7 9 (.int) := ⟨_, _, _, hc_7, by decide, rfl, Or.inr ⟨"LedgerMachine", hw_278⟩⟩
theorem hf_RX10_241 : rx_Fd RX10 241 10 11 (.int) := ⟨_, _, _, hc_10, by decide, rfl, Or.inl hw_279⟩
theorem hf_RX10_244 : rx_Fd RX10 244 7 11 (.long) := ⟨_, _, _, hc_7, by decide, rfl, Or.inr ⟨"LedgerMachine", hw_280⟩⟩
theorem hf_RX10_25 : rx_Fd RX10 25 10 2 (.array (.object "LedgerMachine$Order")) := ⟨_, _, _, hc_10, by decide, rfl, Or.inl hw_281⟩
theorem hf_RX10_270 : rx_Fd RX10 270 8 0 (.int) := ⟨_, _, _, hc_8, by decide, rfl, Or.inr ⟨"LedgerMachine", hw_282⟩⟩
theorem hf_RX10_277 : rx_Fd RX10 277 8 4 (.int) := ⟨_, _, _, hc_8, by decide, rfl, Or.inr ⟨"LedgerMachine", hw_283⟩⟩
theorem hf_RX10_291 : rx_Fd RX10 291 8 1 (.int) := ⟨_, _, _, hc_8, by decide, rfl, Or.inr ⟨"LedgerMachine", hw_284⟩⟩
theorem hf_RX10_294 : rx_Fd RX10 294 8 2 (.long) := ⟨_, _, _, hc_8, by decide, rfl, Or.inr ⟨"LedgerMachine", hw_285⟩⟩
theorem hf_RX10_297 : rx_Fd RX10 297 8 3 (.long) := ⟨_, _, _, hc_8, by decide, rfl, Or.inr ⟨"LedgerMachine", hw_286⟩⟩
theorem hf_RX10_300 : rx_Fd RX10 300 7 8 (.int) := ⟨_, _, _, hc_7, by decide, rfl, Or.inr ⟨"LedgerMachine", hw_287⟩⟩
theorem hf_RX10_309 : rx_Fd RX10 309 8 6 (.int) := ⟨_, _, _, hc_8, by decide, rfl, Or.inr ⟨"LedgerMachine", hw_288⟩⟩
theorem hf_RX10_31 : rx_Fd RX10 31 10 4 (.array (.object "LedgerMachine$Block")) := ⟨_, _, _, hc_10, by decide, rfl, Or.inl hw_289⟩
theorem hf_RX10_38 : rx_Fd RX10 38 10 5 (.int) := ⟨_, _, _, hc_10, by decide, rfl, Or.inl hw_290⟩
theorem hf_RX10_42 : rx_Fd RX10 42 10 6 (.array .int) := ⟨_, _, _, hc_10, by decide, rfl, Or.inl hw_291⟩
theorem hf_RX10_52 : rx_Fd RX10 52 10 7 (.array .long) := ⟨_, _, _, hc_10, by decide, rfl, Or.inl hw_292⟩
theorem hf_RX10_56 : rx_Fd RX10 56 10 8 (.array .long) := ⟨_, _, _, hc_10, by decide, rfl, Or.inl hw_293⟩
theorem hf_RX10_74 : rx_Fd RX10 74 7 0 (.object "LedgerMachine$CodeBook") := ⟨_, _, _, hc_7, by decide, rfl, Or.inr ⟨"LedgerMachine", hw_294⟩⟩
theorem hf_RX11_102 : rx_Fd RX11 102 11 35 (.array .long) := ⟨_, _, _, hc_11, by decide, rfl, Or.inl hw_295⟩
theorem hf_RX11_105 : rx_Fd RX11 105 11 36 (.array .int) := ⟨_, _, _, hc_11, by decide, rfl, Or.inl hw_296⟩
theorem hf_RX11_108 : rx_Fd RX11 108 11 37 (.array .int) := ⟨_, _, _, hc_11, by decide, rfl, Or.inl hw_297⟩
theorem hf_RX11_111 : rx_Fd RX11 111 11 38 (.array .int) := ⟨_, _, _, hc_11, by decide, rfl, Or.inl hw_298⟩
theorem hf_RX11_114 : rx_Fd RX11 114 11 39 (.array .int) := ⟨_, _, _, hc_11, by decide, rfl, Or.inl hw_299⟩
theorem hf_RX11_117 : rx_Fd RX11 117 11 40 (.array .long) := ⟨_, _, _, hc_11, by decide, rfl, Or.inl hw_300⟩
theorem hf_RX11_120 : rx_Fd RX11 120 11 41 (.array .int) := ⟨_, _, _, hc_11, by decide, rfl, Or.inl hw_301⟩
theorem hf_RX11_123 : rx_Fd RX11 123 11 42 (.array .int) := ⟨_, _, _, hc_11, by decide, rfl, Or.inl hw_302⟩
theorem hf_RX11_126 : rx_Fd RX11 126 11 43 (.array .long) := ⟨_, _, _, hc_11, by decide, rfl, Or.inl hw_303⟩
theorem hf_RX11_129 : rx_Fd RX11 129 11 44 (.array .long) := ⟨_, _, _, hc_11, by decide, rfl, Or.inl hw_304⟩
theorem hf_RX11_13 : rx_Fd RX11 13 11 2 (.array .int) := ⟨_, _, _, hc_11, by decide, rfl, Or.inl hw_305⟩
theorem hf_RX11_132 : rx_Fd RX11 132 11 45 (.array .boolean) := ⟨_, _, _, hc_11, by decide, rfl, Or.inl hw_306⟩
theorem hf_RX11_135 : rx_Fd RX11 135 11 46 (.array .boolean) := ⟨_, _, _, hc_11, by decide, rfl, Or.inl hw_307⟩
theorem hf_RX11_138 : rx_Fd RX11 138 11 47 (.array .long) := ⟨_, _, _, hc_11, by decide, rfl, Or.inl hw_308⟩
theorem hf_RX11_141 : rx_Fd RX11 141 11 48 (.array .int) := ⟨_, _, _, hc_11, by decide, rfl, Or.inl hw_309⟩
theorem hf_RX11_144 : rx_Fd RX11 144 11 53 (.array .int) := ⟨_, _, _, hc_11, by decide, rfl, Or.inl hw_310⟩
theorem hf_RX11_147 : rx_Fd RX11 147 11 54 (.array .long) := ⟨_, _, _, hc_11, by decide, rfl, Or.inl hw_311⟩
theorem hf_RX11_150 : rx_Fd RX11 150 11 55 (.array .long) := ⟨_, _, _, hc_11, by decide, rfl, Or.inl hw_312⟩
theorem hf_RX11_153 : rx_Fd RX11 153 11 64 (.array .long) := ⟨_, _, _, hc_11, by decide, rfl, Or.inl hw_313⟩
theorem hf_RX11_156 : rx_Fd RX11 156 11 15 (.int) := ⟨_, _, _, hc_11, by decide, rfl, Or.inl hw_314⟩
theorem hf_RX11_16 : rx_Fd RX11 16 11 4 (.array .int) := ⟨_, _, _, hc_11, by decide, rfl, Or.inl hw_315⟩
theorem hf_RX11_160 : rx_Fd RX11 160 11 0 (.int) := ⟨_, _, _, hc_11, by decide, rfl, Or.inl hw_316⟩
theorem hf_RX11_163 : rx_Fd RX11 163 11 5 (.int) := ⟨_, _, _, hc_11, by decide, rfl, Or.inl hw_317⟩
theorem hf_RX11_172 : rx_Fd RX11 172 11 3 (.int) := ⟨_, _, _, hc_11, by decide, rfl, Or.inl hw_318⟩
theorem hf_RX11_19 : rx_Fd RX11 19 11 6 (.array .boolean) := ⟨_, _, _, hc_11, by decide, rfl, Or.inl hw_319⟩
theorem hf_RX11_190 : rx_Fd RX11 190 11 7 (.int) := ⟨_, _, _, hc_11, by decide, rfl, Or.inl hw_320⟩
theorem hf_RX11_193 : rx_Fd RX11 193 11 58 (.int) := ⟨_, _, _, hc_11, by decide, rfl, Or.inl hw_321⟩
theorem hf_RX11_196 : rx_Fd RX11 196 11 59 (.long) := ⟨_, _, _, hc_11, by decide, rfl, Or.inl hw_322⟩
theorem hf_RX11_200 : rx_Fd RX11 200 11 60 (.long) := ⟨_, _, _, hc_11, by decide, rfl, Or.inl hw_323⟩
theorem hf_RX11_203 : rx_Fd RX11 203 11 49 (.int) := ⟨_, _, _, hc_11, by decide, rfl, Or.inl hw_324⟩
theorem hf_RX11_212 : rx_Fd RX11 212 11 52 (.int) := ⟨_, _, _, hc_11, by decide, rfl, Or.inl hw_325⟩
theorem hf_RX11_215 : rx_Fd RX11 215 11 56 (.int) := ⟨_, _, _, hc_11, by decide, rfl, Or.inl hw_326⟩
theorem hf_RX11_218 : rx_Fd RX11 218 11 57 (.int) := ⟨_, _, _, hc_11, by decide, rfl, Or.inl hw_327⟩
theorem hf_RX11_23 : rx_Fd RX11 23 11 8 (.array .int) := ⟨_, _, _, hc_11, by decide, rfl, Or.inl hw_328⟩
theorem hf_RX11_26 : rx_Fd RX11 26 11 9 (.array .int) := ⟨_, _, _, hc_11, by decide, rfl, Or.inl hw_329⟩
theorem hf_RX11_272 : rx_Fd RX11 272 11 50 (.int) := ⟨_, _, _, hc_11, by decide, rfl, Or.inl hw_330⟩
theorem hf_RX11_275 : rx_Fd RX11 275 11 51 (.int) := ⟨_, _, _, hc_11, by decide, rfl, Or.inl hw_331⟩
theorem hf_RX11_29 : rx_Fd RX11 29 11 10 (.array .long) := ⟨_, _, _, hc_11, by decide, rfl, Or.inl hw_332⟩
theorem hf_RX11_33 : rx_Fd RX11 33 11 11 (.array .long) := ⟨_, _, _, hc_11, by decide, rfl, Or.inl hw_333⟩
theorem hf_RX11_338 : rx_Fd RX11 338 11 61 (.int) := ⟨_, _, _, hc_11, by decide, rfl, Or.inl hw_334⟩
theorem hf_RX11_341 : rx_Fd RX11 341 11 62 (.int) := ⟨_, _, _, hc_11, by decide, rfl, Or.inl hw_335⟩
theorem hf_RX11_344 : rx_Fd RX11 344 11 63 (.int) := ⟨_, _, _, hc_11, by decide, rfl, Or.inl hw_336⟩
theorem hf_RX11_36 : rx_Fd RX11 36 11 12 (.array .int) := ⟨_, _, _, hc_11, by decide, rfl, Or.inl hw_337⟩
theorem hf_RX11_39 : rx_Fd RX11 39 11 13 (.array .int) := ⟨_, _, _, hc_11, by decide, rfl, Or.inl hw_338⟩
theorem hf_RX11_42 : rx_Fd RX11 42 11 14 (.array .int) := ⟨_, _, _, hc_11, by decide, rfl, Or.inl hw_339⟩
theorem hf_RX11_45 : rx_Fd RX11 45 11 16 (.array .int) := ⟨_, _, _, hc_11, by decide, rfl, Or.inl hw_340⟩
theorem hf_RX11_48 : rx_Fd RX11 48 11 17 (.array .int) := ⟨_, _, _, hc_11, by decide, rfl, Or.inl hw_341⟩
theorem hf_RX11_51 : rx_Fd RX11 51 11 18 (.array .int) := ⟨_, _, _, hc_11, by decide, rfl, Or.inl hw_342⟩
theorem hf_RX11_54 : rx_Fd RX11 54 11 19 (.array .int) := ⟨_, _, _, hc_11, by decide, rfl, Or.inl hw_343⟩
theorem hf_RX11_57 : rx_Fd RX11 57 11 20 (.array .int) := ⟨_, _, _, hc_11, by decide, rfl, Or.inl hw_344⟩
theorem hf_RX11_60 : rx_Fd RX11 60 11 21 (.array .int) := ⟨_, _, _, hc_11, by decide, rfl, Or.inl hw_345⟩
theorem hf_RX11_63 : rx_Fd RX11 63 11 22 (.array .boolean) := ⟨_, _, _, hc_11, by decide, rfl, Or.inl hw_346⟩
theorem hf_RX11_66 : rx_Fd RX11 66 11 23 (.array .long) := ⟨_, _, _, hc_11, by decide, rfl, Or.inl hw_347⟩
theorem hf_RX11_69 : rx_Fd RX11 69 11 24 (.array .int) := ⟨_, _, _, hc_11, by decide, rfl, Or.inl hw_348⟩
theorem hf_RX11_7 : rx_Fd RX11 7 11 1 (.array .int) := ⟨_, _, _, hc_11, by decide, rfl, Or.inl hw_349⟩
theorem hf_RX11_72 : rx_Fd RX11 72 11 25 (.array .int) := ⟨_, _, _, hc_11, by decide, rfl, Or.inl hw_350⟩
theorem hf_RX11_75 : rx_Fd RX11 75 11 26 (.array .long) := ⟨_, _, _, hc_11, by decide, rfl, Or.inl hw_351⟩
theorem hf_RX11_78 : rx_Fd RX11 78 11 27 (.array .int) := ⟨_, _, _, hc_11, by decide, rfl, Or.inl hw_352⟩
theorem hf_RX11_81 : rx_Fd RX11 81 11 28 (.array .long) := ⟨_, _, _, hc_11, by decide, rfl, Or.inl hw_353⟩
theorem hf_RX11_84 : rx_Fd RX11 84 11 29 (.array .long) := ⟨_, _, _, hc_11, by decide, rfl, Or.inl hw_354⟩
theorem hf_RX11_87 : rx_Fd RX11 87 11 30 (.array .int) := ⟨_, _, _, hc_11, by decide, rfl, Or.inl hw_355⟩
theorem hf_RX11_90 : rx_Fd RX11 90 11 31 (.array .int) := ⟨_, _, _, hc_11, by decide, rfl, Or.inl hw_356⟩
theorem hf_RX11_93 : rx_Fd RX11 93 11 32 (.array .boolean) := ⟨_, _, _, hc_11, by decide, rfl, Or.inl hw_357⟩
theorem hf_RX11_96 : rx_Fd RX11 96 11 33 (.array .long) := ⟨_, _, _, hc_11, by decide, rfl, Or.inl hw_358⟩
theorem hf_RX11_99 : rx_Fd RX11 99 11 34 (.array .long) := ⟨_, _, _, hc_11, by decide, rfl, Or.inl hw_359⟩
theorem lk_RX2_15 : rx_LkV RX2 15 MX2_octetAt 2 := ⟨⟨_, _, hc_2⟩, hw_361, hw_362, Or.inl hw_360⟩
theorem lk_RX3_21 : rx_LkS RX3 21 MX10_isWithin := ⟨hw_364, Or.inr ⟨"LedgerMachine", hw_363⟩⟩
theorem lk_RX4_23 : rx_LkS RX4 23 MJ7_copyOf_9075b := ⟨hw_366, Or.inl hw_365⟩
theorem lk_RX4_29 : rx_LkV RX4 29 MX4_firstActThatIsNone 4 := ⟨⟨_, _, hc_4⟩, hw_368, hs_1, Or.inl hw_367⟩
theorem lk_RX4_33 : rx_LkV RX4 33 MX4_firstLostJump 4 := ⟨⟨_, _, hc_4⟩, hw_370, hs_3, Or.inl hw_369⟩
theorem lk_RX4_36 : rx_LkV RX4 36 MX4_actSize 4 := ⟨⟨_, _, hc_4⟩, hw_372, hs_2, Or.inl hw_371⟩
theorem lk_RX4_40 : rx_LkS RX4 40 MX2_octetsBehind := ⟨hw_374, Or.inl hw_373⟩
theorem lk_RX4_45 : rx_LkV RX4 45 MX4_isBegun 4 := ⟨⟨_, _, hc_4⟩, hw_376, hs_4, Or.inl hw_375⟩
theorem lk_RX5_22 : rx_LkS RX5 22 MJ9_min_7cf53 := ⟨hw_378, Or.inl hw_377⟩
theorem lk_RX5_28 : rx_LkS RX5 28 MJ7_copyOf_c38d5 := ⟨hw_380, Or.inl hw_379⟩
theorem lk_RX6_62 : rx_LkV RX6 62 MX2_octetAt 2 := ⟨⟨_, _, hc_2⟩, hw_361, hw_362, Or.inl hw_381⟩
theorem lk_RX6_71 : rx_LkS RX6 71 MX2_octetsBehind := ⟨hw_374, Or.inl hw_382⟩
theorem lk_RX6_74 : rx_LkS RX6 74 MJ9_max_f86c9 := ⟨hw_384, Or.inl hw_383⟩
theorem lk_RX6_80 : rx_LkS RX6 80 MJ9_min_f86c9 := ⟨hw_386, Or.inl hw_385⟩
theorem lk_RX6_83 : rx_LkV RX6 83 MX6_operand 6 := ⟨⟨_, _, hc_6⟩, hw_388, hs_13, Or.inl hw_387⟩
theorem lk_RX6_91 : rx_LkS RX6 91 MX6_leavesOneMore := ⟨hw_390, Or.inl hw_389⟩
theorem lk_RX6_95 : rx_LkV RX6 95 MX6_push 6 := ⟨⟨_, _, hc_6⟩, hw_392, hw_393, Or.inl hw_391⟩
theorem lk_RX6_99 : rx_LkV RX6 99 MX2_numberAt 2 := ⟨⟨_, _, hc_2⟩, hw_395, hw_396, Or.inl hw_394⟩
theorem lk_RX6_103 : rx_LkV RX6 103 MX6_pop 6 := ⟨⟨_, _, hc_6⟩, hw_398, hw_399, Or.inl hw_397⟩
theorem lk_RX6_107 : rx_LkV RX6 107 MX6_swap 6 := ⟨⟨_, _, hc_6⟩, hw_401, hs_16, Or.inl hw_400⟩
theorem lk_RX6_111 : rx_LkS RX6 111 MX6_joined := ⟨hw_403, Or.inl hw_402⟩
theorem lk_RX7_11 : rx_LkI RX7 11 MX3_init 3 := ⟨⟨_, _, hc_3⟩, rfl, rfl, hw_405, Or.inr ⟨"LedgerMachine", hw_404⟩⟩
theorem lk_RX7_20 : rx_LkI RX7 20 MX9_init 9 := ⟨⟨_, _, hc_9⟩, rfl, rfl, hw_407, Or.inr ⟨"LedgerMachine", hw_406⟩⟩
theorem lk_RX7_27 : rx_LkI RX7 27 MX5_init 5 := ⟨⟨_, _, hc_5⟩, rfl, rfl, hw_409, Or.inr ⟨"LedgerMachine", hw_408⟩⟩
theorem lk_RX7_34 : rx_LkI RX7 34 MX1_init 1 := ⟨⟨_, _, hc_1⟩, rfl, rfl, hw_411, Or.inr ⟨"LedgerMachine", hw_410⟩⟩
theorem lk_RX7_45 : rx_LkI RX7 45 MX6_init 6 := ⟨⟨_, _, hc_6⟩, rfl, rfl, hw_413, Or.inr ⟨"LedgerMachine", hw_412⟩⟩
theorem lk_RX7_46 : rx_LkV RX7 46 MX9_loadFrom 9 := ⟨⟨_, _, hc_9⟩, hw_415, hw_416, Or.inl hw_414⟩
theorem lk_RX7_50 : rx_LkV RX7 50 MX5_clear 5 := ⟨⟨_, _, hc_5⟩, hw_418, hw_419, Or.inl hw_417⟩
theorem lk_RX7_69 : rx_LkV RX7 69 MX1_set 1 := ⟨⟨_, _, hc_1⟩, hw_421, hw_422, Or.inl hw_420⟩
theorem lk_RX7_73 : rx_LkV RX7 73 MX7_begin 7 := ⟨⟨_, _, hc_7⟩, hw_424, hs_8, Or.inl hw_423⟩
theorem lk_RX7_77 : rx_LkV RX7 77 MX6_nextAct 6 := ⟨⟨_, _, hc_6⟩, hw_426, hw_427, Or.inl hw_425⟩
theorem lk_RX7_85 : rx_LkV RX7 85 MX6_pays 6 := ⟨⟨_, _, hc_6⟩, hw_429, hw_430, Or.inl hw_428⟩
theorem lk_RX7_89 : rx_LkV RX7 89 MX6_fits 6 := ⟨⟨_, _, hc_6⟩, hw_432, hw_433, Or.inl hw_431⟩
theorem lk_RX7_96 : rx_LkS RX7 96 MX7_changesState := ⟨hw_435, Or.inl hw_434⟩
theorem lk_RX7_99 : rx_LkV RX7 99 MX7_perform 7 := ⟨⟨_, _, hc_7⟩, hw_437, hs_14, Or.inl hw_436⟩
theorem lk_RX7_103 : rx_LkV RX7 103 MX7_finish 7 := ⟨⟨_, _, hc_7⟩, hw_439, hs_29, Or.inl hw_438⟩
theorem lk_RX7_107 : rx_LkV RX7 107 MX7_fails 7 := ⟨⟨_, _, hc_7⟩, hw_441, hs_9, Or.inl hw_440⟩
theorem lk_RX7_114 : rx_LkV RX7 114 MX7_end 7 := ⟨⟨_, _, hc_7⟩, hw_443, hs_11, Or.inl hw_442⟩
theorem lk_RX7_122 : rx_LkV RX7 122 MX9_codeOf 9 := ⟨⟨_, _, hc_9⟩, hw_445, hw_446, Or.inl hw_444⟩
theorem lk_RX7_126 : rx_LkV RX7 126 MX3_has 3 := ⟨⟨_, _, hc_3⟩, hw_448, hw_449, Or.inl hw_447⟩
theorem lk_RX7_136 : rx_LkV RX7 136 MX9_move 9 := ⟨⟨_, _, hc_9⟩, hw_451, hw_452, Or.inl hw_450⟩
theorem lk_RX7_144 : rx_LkV RX7 144 MX6_begin 6 := ⟨⟨_, _, hc_6⟩, hw_454, hw_455, Or.inl hw_453⟩
theorem lk_RX7_147 : rx_LkV RX7 147 MX7_remember 7 := ⟨⟨_, _, hc_7⟩, hw_457, hs_12, Or.inl hw_456⟩
theorem lk_RX7_151 : rx_LkS RX7 151 MX10_isAccount := ⟨hw_459, Or.inr ⟨"LedgerMachine", hw_458⟩⟩
theorem lk_RX7_154 : rx_LkV RX7 154 MX9_balanceOf 9 := ⟨⟨_, _, hc_9⟩, hw_461, hw_462, Or.inl hw_460⟩
theorem lk_RX7_157 : rx_LkV RX7 157 MX7_hasLock 7 := ⟨⟨_, _, hc_7⟩, hw_464, hs_10, Or.inl hw_463⟩
theorem lk_RX7_169 : rx_LkV RX7 169 MX9_saveTo 9 := ⟨⟨_, _, hc_9⟩, hw_466, hw_467, Or.inl hw_465⟩
theorem lk_RX7_181 : rx_LkV RX7 181 MX5_backTo 5 := ⟨⟨_, _, hc_5⟩, hw_469, hw_470, Or.inl hw_468⟩
theorem lk_RX7_185 : rx_LkV RX7 185 MX7_undo 7 := ⟨⟨_, _, hc_7⟩, hw_472, hs_30, Or.inl hw_471⟩
theorem lk_RX7_198 : rx_LkV RX7 198 MX6_push 6 := ⟨⟨_, _, hc_6⟩, hw_392, hw_393, Or.inl hw_473⟩
theorem lk_RX7_202 : rx_LkV RX7 202 MX7_endWith 7 := ⟨⟨_, _, hc_7⟩, hw_475, hs_15, Or.inl hw_474⟩
theorem lk_RX7_206 : rx_LkV RX7 206 MX6_arrange 6 := ⟨⟨_, _, hc_6⟩, hw_477, hw_478, Or.inl hw_476⟩
theorem lk_RX7_209 : rx_LkV RX7 209 MX6_pop 6 := ⟨⟨_, _, hc_6⟩, hw_398, hw_399, Or.inl hw_479⟩
theorem lk_RX7_213 : rx_LkV RX7 213 MX6_jump 6 := ⟨⟨_, _, hc_6⟩, hw_481, hw_482, Or.inl hw_480⟩
theorem lk_RX7_216 : rx_LkV RX7 216 MX7_loadCell 7 := ⟨⟨_, _, hc_7⟩, hw_484, hs_17, Or.inl hw_483⟩
theorem lk_RX7_220 : rx_LkV RX7 220 MX7_storeCell 7 := ⟨⟨_, _, hc_7⟩, hw_486, hs_18, Or.inl hw_485⟩
theorem lk_RX7_224 : rx_LkV RX7 224 MX7_prepareCall 7 := ⟨⟨_, _, hc_7⟩, hw_488, hs_19, Or.inl hw_487⟩
theorem lk_RX7_227 : rx_LkV RX7 227 MX7_prepareLook 7 := ⟨⟨_, _, hc_7⟩, hw_490, hs_20, Or.inl hw_489⟩
theorem lk_RX7_230 : rx_LkV RX7 230 MX7_make 7 := ⟨⟨_, _, hc_7⟩, hw_492, hs_21, Or.inl hw_491⟩
theorem lk_RX7_233 : rx_LkV RX7 233 MX7_become 7 := ⟨⟨_, _, hc_7⟩, hw_494, hs_24, Or.inl hw_493⟩
theorem lk_RX7_237 : rx_LkV RX7 237 MX7_emit 7 := ⟨⟨_, _, hc_7⟩, hw_496, hs_25, Or.inl hw_495⟩
theorem lk_RX7_240 : rx_LkV RX7 240 MX7_close 7 := ⟨⟨_, _, hc_7⟩, hw_498, hs_26, Or.inl hw_497⟩
theorem lk_RX7_243 : rx_LkV RX7 243 MX6_reckon 6 := ⟨⟨_, _, hc_6⟩, hw_500, hw_501, Or.inl hw_499⟩
theorem lk_RX7_247 : rx_LkV RX7 247 MX7_tell 7 := ⟨⟨_, _, hc_7⟩, hw_503, hs_27, Or.inl hw_502⟩
theorem lk_RX7_250 : rx_LkV RX7 250 MX7_known 7 := ⟨⟨_, _, hc_7⟩, hw_505, hs_28, Or.inl hw_504⟩
theorem lk_RX7_259 : rx_LkS RX7 259 MX10_isWithin := ⟨hw_364, Or.inr ⟨"LedgerMachine", hw_506⟩⟩
theorem lk_RX7_263 : rx_LkV RX7 263 MX9_cellOf 9 := ⟨⟨_, _, hc_9⟩, hw_508, hw_509, Or.inl hw_507⟩
theorem lk_RX7_267 : rx_LkV RX7 267 MX9_setCell 9 := ⟨⟨_, _, hc_9⟩, hw_511, hw_512, Or.inl hw_510⟩
theorem lk_RX7_270 : rx_LkV RX7 270 MX6_giveGas 6 := ⟨⟨_, _, hc_6⟩, hw_514, hw_515, Or.inl hw_513⟩
theorem lk_RX7_274 : rx_LkV RX7 274 MX7_leastFreeAccount 7 := ⟨⟨_, _, hc_7⟩, hw_517, hs_22, Or.inl hw_516⟩
theorem lk_RX7_277 : rx_LkV RX7 277 MX9_setCode 9 := ⟨⟨_, _, hc_9⟩, hw_519, hw_520, Or.inl hw_518⟩
theorem lk_RX7_281 : rx_LkV RX7 281 MX7_hasFrame 7 := ⟨⟨_, _, hc_7⟩, hw_522, hs_23, Or.inl hw_521⟩
theorem lk_RX7_284 : rx_LkV RX7 284 MX9_isEmpty 9 := ⟨⟨_, _, hc_9⟩, hw_524, hw_525, Or.inl hw_523⟩
theorem lk_RX7_287 : rx_LkV RX7 287 MX5_add 5 := ⟨⟨_, _, hc_5⟩, hw_527, hw_528, Or.inl hw_526⟩
theorem lk_RX7_293 : rx_LkV RX7 293 MX9_clearCells 9 := ⟨⟨_, _, hc_9⟩, hw_530, hw_531, Or.inl hw_529⟩
theorem lk_RX9_26 : rx_LkV RX9 26 MX9_addToBalance 9 := ⟨⟨_, _, hc_9⟩, hw_533, hw_534, Or.inl hw_532⟩
theorem lk_RX9_30 : rx_LkV RX9 30 MX9_setCell 9 := ⟨⟨_, _, hc_9⟩, hw_511, hw_512, Or.inl hw_535⟩
theorem lk_RX10_9 : rx_LkI RX10 9 MX4_init 4 := ⟨⟨_, _, hc_4⟩, rfl, rfl, hw_537, Or.inr ⟨"LedgerMachine", hw_536⟩⟩
theorem lk_RX10_18 : rx_LkI RX10 18 MX7_init 7 := ⟨⟨_, _, hc_7⟩, rfl, rfl, hw_539, Or.inl hw_538⟩
theorem lk_RX10_35 : rx_LkI RX10 35 MX0_init 0 := ⟨⟨_, _, hc_0⟩, rfl, rfl, hw_541, Or.inl hw_540⟩
theorem lk_RX10_46 : rx_LkS RX10 46 MJ7_fill_53178 := ⟨hw_543, Or.inl hw_542⟩
theorem lk_RX10_59 : rx_LkV RX10 59 MX4_hasRoomFor 4 := ⟨⟨_, _, hc_4⟩, hw_545, hw_546, Or.inl hw_544⟩
theorem lk_RX10_70 : rx_LkV RX10 70 MX4_append 4 := ⟨⟨_, _, hc_4⟩, hw_548, hw_549, Or.inl hw_547⟩
theorem lk_RX10_78 : rx_LkV RX10 78 MX3_isFull 3 := ⟨⟨_, _, hc_3⟩, hw_551, hw_552, Or.inl hw_550⟩
theorem lk_RX10_89 : rx_LkV RX10 89 MX4_fault 4 := ⟨⟨_, _, hc_4⟩, hw_554, hw_555, Or.inl hw_553⟩
theorem lk_RX10_93 : rx_LkV RX10 93 MX4_take 4 := ⟨⟨_, _, hc_4⟩, hw_557, hw_558, Or.inl hw_556⟩
theorem lk_RX10_99 : rx_LkI RX10 99 MX2_init 2 := ⟨⟨_, _, hc_2⟩, rfl, rfl, hw_560, Or.inl hw_559⟩
theorem lk_RX10_102 : rx_LkV RX10 102 MX3_add 3 := ⟨⟨_, _, hc_3⟩, hw_562, hw_563, Or.inl hw_561⟩
theorem lk_RX10_106 : rx_LkS RX10 106 MX10_isAccount := ⟨hw_459, Or.inl hw_564⟩
theorem lk_RX10_110 : rx_LkV RX10 110 MX3_has 3 := ⟨⟨_, _, hc_3⟩, hw_448, hw_449, Or.inl hw_565⟩
theorem lk_RX10_127 : rx_LkS RX10 127 MX10_isWithin := ⟨hw_364, Or.inl hw_566⟩
theorem lk_RX10_147 : rx_LkI RX10 147 MX8_init 8 := ⟨⟨_, _, hc_8⟩, rfl, rfl, hw_568, Or.inl hw_567⟩
theorem lk_RX10_150 : rx_LkV RX10 150 MX10_isBlock 10 := ⟨⟨_, _, hc_10⟩, hw_570, hs_5, Or.inl hw_569⟩
theorem lk_RX10_160 : rx_LkV RX10 160 MX7_load 7 := ⟨⟨_, _, hc_7⟩, hw_572, hw_573, Or.inl hw_571⟩
theorem lk_RX10_164 : rx_LkV RX10 164 MX10_doOrder 10 := ⟨⟨_, _, hc_10⟩, hw_575, hs_6, Or.inl hw_574⟩
theorem lk_RX10_172 : rx_LkV RX10 172 MX9_copyLeaves 9 := ⟨⟨_, _, hc_9⟩, hw_577, hw_578, Or.inl hw_576⟩
theorem lk_RX10_182 : rx_LkV RX10 182 MX5_copyRows 5 := ⟨⟨_, _, hc_5⟩, hw_580, hw_581, Or.inl hw_579⟩
theorem lk_RX10_203 : rx_LkV RX10 203 MX10_isCertain 10 := ⟨⟨_, _, hc_10⟩, hw_583, hs_31, Or.inl hw_582⟩
theorem lk_RX10_214 : rx_LkS RX10 214 MX10_nodeDigest := ⟨hw_585, Or.inl hw_584⟩
theorem lk_RX10_222 : rx_LkV RX10 222 MX7_run 7 := ⟨⟨_, _, hc_7⟩, hw_587, hw_588, Or.inl hw_586⟩
theorem lk_RX10_258 : rx_LkS RX10 258 MX10_leafDigest := ⟨hw_590, Or.inl hw_589⟩
theorem lk_RX10_262 : rx_LkS RX10 262 MX10_pairDigest := ⟨hw_592, Or.inl hw_591⟩
theorem lk_RX10_266 : rx_LkV RX10 266 MX10_isVoid 10 := ⟨⟨_, _, hc_10⟩, hw_594, hs_7, Or.inl hw_593⟩
theorem lk_RX10_273 : rx_LkV RX10 273 MX9_raiseNonce 9 := ⟨⟨_, _, hc_9⟩, hw_596, hw_597, Or.inl hw_595⟩
theorem lk_RX10_280 : rx_LkV RX10 280 MX8_priceOf 8 := ⟨⟨_, _, hc_8⟩, hw_599, hw_600, Or.inl hw_598⟩
theorem lk_RX10_284 : rx_LkV RX10 284 MX9_addToBalance 9 := ⟨⟨_, _, hc_9⟩, hw_533, hw_534, Or.inl hw_601⟩
theorem lk_RX10_288 : rx_LkV RX10 288 MX5_beginOrder 5 := ⟨⟨_, _, hc_5⟩, hw_603, hw_604, Or.inl hw_602⟩
theorem lk_RX10_303 : rx_LkS RX10 303 MJ9_min_7cf53 := ⟨hw_378, Or.inl hw_605⟩
theorem lk_RX10_312 : rx_LkV RX10 312 MX9_nonceOf 9 := ⟨⟨_, _, hc_9⟩, hw_607, hw_608, Or.inl hw_606⟩
theorem lk_RX10_315 : rx_LkV RX10 315 MX9_balanceOf 9 := ⟨⟨_, _, hc_9⟩, hw_461, hw_462, Or.inl hw_609⟩
theorem lk_RX10_318 : rx_LkS RX10 318 MX10_mix := ⟨hw_611, Or.inl hw_610⟩
theorem lk_RX10_321 : rx_LkS RX10 321 MX10_neverZero := ⟨hw_613, Or.inl hw_612⟩
theorem lk_RX11_166 : rx_LkS RX11 166 MX11_sizeOf := ⟨hw_615, Or.inl hw_614⟩
theorem lk_RX11_175 : rx_LkV RX11 175 MX11_judged 11 := ⟨⟨_, _, hc_11⟩, hw_617, hs_32, Or.inl hw_616⟩
theorem lk_RX11_181 : rx_LkS RX11 181 MX11_isAccount := ⟨hw_619, Or.inl hw_618⟩
theorem lk_RX11_206 : rx_LkV RX11 206 MX11_isLocked 11 := ⟨⟨_, _, hc_11⟩, hw_621, hs_36, Or.inl hw_620⟩
theorem lk_RX11_209 : rx_LkV RX11 209 MX11_end 11 := ⟨⟨_, _, hc_11⟩, hw_623, hs_37, Or.inl hw_622⟩
theorem lk_RX11_221 : rx_LkV RX11 221 MX11_push 11 := ⟨⟨_, _, hc_11⟩, hw_625, hs_42, Or.inl hw_624⟩
theorem lk_RX11_225 : rx_LkV RX11 225 MX11_act 11 := ⟨⟨_, _, hc_11⟩, hw_627, hs_39, Or.inl hw_626⟩
theorem lk_RX11_228 : rx_LkV RX11 228 MX11_tell 11 := ⟨⟨_, _, hc_11⟩, hw_629, hs_49, Or.inl hw_628⟩
theorem lk_RX11_231 : rx_LkV RX11 231 MX11_finish 11 := ⟨⟨_, _, hc_11⟩, hw_631, hs_40, Or.inl hw_630⟩
theorem lk_RX11_235 : rx_LkS RX11 235 MX11_costOf := ⟨hw_633, Or.inl hw_632⟩
theorem lk_RX11_238 : rx_LkS RX11 238 MX11_takes := ⟨hw_635, Or.inl hw_634⟩
theorem lk_RX11_241 : rx_LkS RX11 241 MX11_gives := ⟨hw_637, Or.inl hw_636⟩
theorem lk_RX11_244 : rx_LkV RX11 244 MX11_simple 11 := ⟨⟨_, _, hc_11⟩, hw_639, hs_41, Or.inl hw_638⟩
theorem lk_RX11_248 : rx_LkV RX11 248 MX11_reckon 11 := ⟨⟨_, _, hc_11⟩, hw_641, hs_44, Or.inl hw_640⟩
theorem lk_RX11_252 : rx_LkV RX11 252 MX11_jumpOrCell 11 := ⟨⟨_, _, hc_11⟩, hw_643, hs_45, Or.inl hw_642⟩
theorem lk_RX11_256 : rx_LkV RX11 256 MX11_tellOf 11 := ⟨⟨_, _, hc_11⟩, hw_645, hs_46, Or.inl hw_644⟩
theorem lk_RX11_259 : rx_LkV RX11 259 MX11_greater 11 := ⟨⟨_, _, hc_11⟩, hw_647, hs_47, Or.inl hw_646⟩
theorem lk_RX11_262 : rx_LkV RX11 262 MX11_pop 11 := ⟨⟨_, _, hc_11⟩, hw_649, hs_43, Or.inl hw_648⟩
theorem lk_RX11_278 : rx_LkV RX11 278 MX11_calls 11 := ⟨⟨_, _, hc_11⟩, hw_651, hs_48, Or.inl hw_650⟩
theorem lk_RX11_282 : rx_LkV RX11 282 MX11_make 11 := ⟨⟨_, _, hc_11⟩, hw_653, hs_50, Or.inl hw_652⟩
theorem lk_RX11_285 : rx_LkV RX11 285 MX11_emit 11 := ⟨⟨_, _, hc_11⟩, hw_655, hs_53, Or.inl hw_654⟩
theorem lk_RX11_288 : rx_LkV RX11 288 MX11_close 11 := ⟨⟨_, _, hc_11⟩, hw_657, hs_54, Or.inl hw_656⟩
theorem lk_RX11_291 : rx_LkV RX11 291 MX11_begin 11 := ⟨⟨_, _, hc_11⟩, hw_659, hs_35, Or.inl hw_658⟩
theorem lk_RX11_295 : rx_LkV RX11 295 MX11_isEmpty 11 := ⟨⟨_, _, hc_11⟩, hw_661, hs_51, Or.inl hw_660⟩
theorem lk_RX11_299 : rx_LkV RX11 299 MX11_hasFrame 11 := ⟨⟨_, _, hc_11⟩, hw_663, hs_52, Or.inl hw_662⟩
theorem lk_RX11_304 : rx_LkV RX11 304 MX11_run 11 := ⟨⟨_, _, hc_11⟩, hw_665, hs_38, Or.inl hw_664⟩
theorem lk_RX11_307 : rx_LkV RX11 307 MX11_doOrder 11 := ⟨⟨_, _, hc_11⟩, hw_667, hs_33, Or.inl hw_666⟩
theorem lk_RX11_311 : rx_LkV RX11 311 MX11_keepEvents 11 := ⟨⟨_, _, hc_11⟩, hw_669, hs_55, Or.inl hw_668⟩
theorem lk_RX11_314 : rx_LkV RX11 314 MX11_wholeCall 11 := ⟨⟨_, _, hc_11⟩, hw_671, hs_34, Or.inl hw_670⟩
theorem lk_RX11_318 : rx_LkV RX11 318 MX11_isBlock 11 := ⟨⟨_, _, hc_11⟩, hw_673, hs_56, Or.inl hw_672⟩
theorem lk_RX11_323 : rx_LkS RX11 323 MX11_mix := ⟨hw_675, Or.inl hw_674⟩
theorem lk_RX11_327 : rx_LkV RX11 327 MX11_valueOf 11 := ⟨⟨_, _, hc_11⟩, hw_677, hs_57, Or.inl hw_676⟩
theorem lk_RX11_331 : rx_LkS RX11 331 MX11_leafDigest := ⟨hw_679, Or.inl hw_678⟩
theorem lk_RX11_335 : rx_LkS RX11 335 MX11_both := ⟨hw_681, Or.inl hw_680⟩
theorem lk_RJ7_304 : rx_LkS RJ7 304 MJ9_min_7cf53 := ⟨hw_378, Or.inl hw_682⟩
theorem lk_RL_7 : rx_LkV RL 7 MX10_draft 10 := ⟨⟨_, _, hc_10⟩, hw_684, hw_685, Or.inl hw_683⟩
theorem lk_RL_15 : rx_LkV RL 15 MX10_code 10 := ⟨⟨_, _, hc_10⟩, hw_687, hw_688, Or.inl hw_686⟩
theorem lk_RL_21 : rx_LkV RL 21 MX10_endow 10 := ⟨⟨_, _, hc_10⟩, hw_690, hw_691, Or.inl hw_689⟩
theorem lk_RL_27 : rx_LkV RL 27 MX10_weight 10 := ⟨⟨_, _, hc_10⟩, hw_693, hw_694, Or.inl hw_692⟩
theorem lk_RL_31 : rx_LkV RL 31 MX10_order 10 := ⟨⟨_, _, hc_10⟩, hw_696, hw_697, Or.inl hw_695⟩
theorem lk_RL_35 : rx_LkV RL 35 MX10_block 10 := ⟨⟨_, _, hc_10⟩, hw_699, hw_700, Or.inl hw_698⟩
theorem lk_RL_39 : rx_LkV RL 39 MX10_told 10 := ⟨⟨_, _, hc_10⟩, hw_702, hw_703, Or.inl hw_701⟩
theorem lk_RL_42 : rx_LkV RL 42 MX10_receipt 10 := ⟨⟨_, _, hc_10⟩, hw_705, hw_706, Or.inl hw_704⟩
theorem lk_RL_46 : rx_LkV RL 46 MX10_event 10 := ⟨⟨_, _, hc_10⟩, hw_708, hw_709, Or.inl hw_707⟩
theorem lk_RL_49 : rx_LkV RL 49 MX10_leaf 10 := ⟨⟨_, _, hc_10⟩, hw_711, hw_712, Or.inl hw_710⟩
theorem lk_RL_53 : rx_LkV RL 53 MX10_digest 10 := ⟨⟨_, _, hc_10⟩, hw_714, hw_715, Or.inl hw_713⟩
theorem lk_RL_56 : rx_LkV RL 56 MX10_view 10 := ⟨⟨_, _, hc_10⟩, hw_717, hw_718, Or.inl hw_716⟩
theorem lk_RL_60 : rx_LkV RL 60 MX10_seen 10 := ⟨⟨_, _, hc_10⟩, hw_720, hw_721, Or.inl hw_719⟩
theorem lk_RL_64 : rx_LkV RL 64 MX10_vote 10 := ⟨⟨_, _, hc_10⟩, hw_723, hw_724, Or.inl hw_722⟩
theorem lk_RL_67 : rx_LkV RL 67 MX10_certain 10 := ⟨⟨_, _, hc_10⟩, hw_726, hw_727, Or.inl hw_725⟩
theorem lk_RL_70 : rx_LkV RL 70 MX10_beside 10 := ⟨⟨_, _, hc_10⟩, hw_729, hw_730, Or.inl hw_728⟩
theorem lk_RL_74 : rx_LkV RL 74 MX10_proves 10 := ⟨⟨_, _, hc_10⟩, hw_732, hw_733, Or.inl hw_731⟩
theorem lk_RL_78 : rx_LkI RL 78 MX10_init 10 := ⟨⟨_, _, hc_10⟩, rfl, rfl, hw_735, Or.inl hw_734⟩
theorem lk_RL_81 : rx_LkI RL 81 MX11_init 11 := ⟨⟨_, _, hc_11⟩, rfl, rfl, hw_737, Or.inl hw_736⟩
theorem lk_RL_89 : rx_LkV RL 89 MX11_draft 11 := ⟨⟨_, _, hc_11⟩, hw_739, hw_740, Or.inl hw_738⟩
theorem lk_RL_90 : rx_LkV RL 90 MX11_thrown 11 := ⟨⟨_, _, hc_11⟩, hw_742, hw_743, Or.inl hw_741⟩
theorem lk_RL_96 : rx_LkV RL 96 MX11_code 11 := ⟨⟨_, _, hc_11⟩, hw_745, hw_746, Or.inl hw_744⟩
theorem lk_RL_100 : rx_LkV RL 100 MX11_endow 11 := ⟨⟨_, _, hc_11⟩, hw_748, hw_749, Or.inl hw_747⟩
theorem lk_RL_104 : rx_LkV RL 104 MX11_weight 11 := ⟨⟨_, _, hc_11⟩, hw_751, hw_752, Or.inl hw_750⟩
theorem lk_RL_108 : rx_LkV RL 108 MX11_order 11 := ⟨⟨_, _, hc_11⟩, hw_754, hw_755, Or.inl hw_753⟩
theorem lk_RL_112 : rx_LkV RL 112 MX11_block 11 := ⟨⟨_, _, hc_11⟩, hw_757, hw_758, Or.inl hw_756⟩
theorem lk_RL_115 : rx_LkV RL 115 MX11_told 11 := ⟨⟨_, _, hc_11⟩, hw_760, hw_761, Or.inl hw_759⟩
theorem lk_RL_119 : rx_LkV RL 119 MX11_receipt 11 := ⟨⟨_, _, hc_11⟩, hw_763, hw_764, Or.inl hw_762⟩
theorem lk_RL_122 : rx_LkV RL 122 MX11_event 11 := ⟨⟨_, _, hc_11⟩, hw_766, hw_767, Or.inl hw_765⟩
theorem lk_RL_125 : rx_LkV RL 125 MX11_leaf 11 := ⟨⟨_, _, hc_11⟩, hw_769, hw_770, Or.inl hw_768⟩
theorem lk_RL_128 : rx_LkV RL 128 MX11_digest 11 := ⟨⟨_, _, hc_11⟩, hw_772, hw_773, Or.inl hw_771⟩
theorem lk_RL_132 : rx_LkV RL 132 MX11_view 11 := ⟨⟨_, _, hc_11⟩, hw_775, hw_776, Or.inl hw_774⟩
theorem lk_RL_136 : rx_LkV RL 136 MX11_seen 11 := ⟨⟨_, _, hc_11⟩, hw_778, hw_779, Or.inl hw_777⟩
theorem lk_RL_139 : rx_LkV RL 139 MX11_vote 11 := ⟨⟨_, _, hc_11⟩, hw_781, hw_782, Or.inl hw_780⟩
theorem lk_RL_142 : rx_LkV RL 142 MX11_certain 11 := ⟨⟨_, _, hc_11⟩, hw_784, hw_785, Or.inl hw_783⟩
theorem lk_RL_146 : rx_LkV RL 146 MX11_beside 11 := ⟨⟨_, _, hc_11⟩, hw_787, hw_788, Or.inl hw_786⟩
theorem lk_RL_150 : rx_LkV RL 150 MX11_proves 11 := ⟨⟨_, _, hc_11⟩, hw_790, hw_791, Or.inl hw_789⟩
end
section
theorem dX9_init_0 : decode cX9_init 0 = .ok (.aload_n 0, 1) := by decide +kernel
theorem dX9_init_1 : decode cX9_init 1 = .ok (.invokespecial 3, 3) := by decide +kernel
theorem dX9_init_4 : decode cX9_init 4 = .ok (.aload_n 0, 1) := by decide +kernel
theorem dX9_init_5 : decode cX9_init 5 = .ok (.sipush 1024, 3) := by decide +kernel
theorem dX9_init_8 : decode cX9_init 8 = .ok (.newarray .long, 2) := by decide +kernel
theorem dX9_init_10 : decode cX9_init 10 = .ok (.putfield 9, 3) := by decide +kernel
theorem dX9_init_13 : decode cX9_init 13 = .ok (.return_, 1) := by decide +kernel
theorem dX9_loadFrom_0 : decode cX9_loadFrom 0 = .ok (.aload_n 1, 1) := by decide +kernel
theorem dX9_loadFrom_1 : decode cX9_loadFrom 1 = .ok (.iconst 0, 1) := by decide +kernel
theorem dX9_loadFrom_2 : decode cX9_loadFrom 2 = .ok (.aload_n 0, 1) := by decide +kernel
theorem dX9_loadFrom_3 : decode cX9_loadFrom 3 = .ok (.getfield 9, 3) := by decide +kernel
theorem dX9_loadFrom_6 : decode cX9_loadFrom 6 = .ok (.iconst 0, 1) := by decide +kernel
theorem dX9_loadFrom_7 : decode cX9_loadFrom 7 = .ok (.sipush 1024, 3) := by decide +kernel
theorem dX9_loadFrom_10 : decode cX9_loadFrom 10 = .ok (.invokestatic 15, 3) := by decide +kernel
theorem dX9_loadFrom_13 : decode cX9_loadFrom 13 = .ok (.return_, 1) := by decide +kernel
theorem dX9_saveTo_0 : decode cX9_saveTo 0 = .ok (.aload_n 0, 1) := by decide +kernel
theorem dX9_saveTo_1 : decode cX9_saveTo 1 = .ok (.getfield 9, 3) := by decide +kernel
theorem dX9_saveTo_4 : decode cX9_saveTo 4 = .ok (.iconst 0, 1) := by decide +kernel
theorem dX9_saveTo_5 : decode cX9_saveTo 5 = .ok (.aload_n 1, 1) := by decide +kernel
theorem dX9_saveTo_6 : decode cX9_saveTo 6 = .ok (.iconst 0, 1) := by decide +kernel
theorem dX9_saveTo_7 : decode cX9_saveTo 7 = .ok (.sipush 1024, 3) := by decide +kernel
theorem dX9_saveTo_10 : decode cX9_saveTo 10 = .ok (.invokestatic 15, 3) := by decide +kernel
theorem dX9_saveTo_13 : decode cX9_saveTo 13 = .ok (.return_, 1) := by decide +kernel
theorem dX9_copyLeaves_0 : decode cX9_copyLeaves 0 = .ok (.aload_n 0, 1) := by decide +kernel
theorem dX9_copyLeaves_1 : decode cX9_copyLeaves 1 = .ok (.getfield 9, 3) := by decide +kernel
theorem dX9_copyLeaves_4 : decode cX9_copyLeaves 4 = .ok (.invokevirtual 21, 3) := by decide +kernel
theorem dX9_copyLeaves_7 : decode cX9_copyLeaves 7 = .ok (.checkcast 22, 3) := by decide +kernel
theorem dX9_copyLeaves_10 : decode cX9_copyLeaves 10 = .ok (.areturn, 1) := by decide +kernel
theorem dX9_balanceOf_0 : decode cX9_balanceOf 0 = .ok (.aload_n 0, 1) := by decide +kernel
theorem dX9_balanceOf_1 : decode cX9_balanceOf 1 = .ok (.getfield 9, 3) := by decide +kernel
theorem dX9_balanceOf_4 : decode cX9_balanceOf 4 = .ok (.bipush 32, 2) := by decide +kernel
theorem dX9_balanceOf_6 : decode cX9_balanceOf 6 = .ok (.iload_n 1, 1) := by decide +kernel
theorem dX9_balanceOf_7 : decode cX9_balanceOf 7 = .ok (.imul, 1) := by decide +kernel
theorem dX9_balanceOf_8 : decode cX9_balanceOf 8 = .ok (.laload, 1) := by decide +kernel
theorem dX9_balanceOf_9 : decode cX9_balanceOf 9 = .ok (.lreturn, 1) := by decide +kernel
theorem dX9_addToBalance_0 : decode cX9_addToBalance 0 = .ok (.aload_n 0, 1) := by decide +kernel
theorem dX9_addToBalance_1 : decode cX9_addToBalance 1 = .ok (.getfield 9, 3) := by decide +kernel
theorem dX9_addToBalance_4 : decode cX9_addToBalance 4 = .ok (.bipush 32, 2) := by decide +kernel
theorem dX9_addToBalance_6 : decode cX9_addToBalance 6 = .ok (.iload_n 1, 1) := by decide +kernel
theorem dX9_addToBalance_7 : decode cX9_addToBalance 7 = .ok (.imul, 1) := by decide +kernel
theorem dX9_addToBalance_8 : decode cX9_addToBalance 8 = .ok (.dup2, 1) := by decide +kernel
theorem dX9_addToBalance_9 : decode cX9_addToBalance 9 = .ok (.laload, 1) := by decide +kernel
theorem dX9_addToBalance_10 : decode cX9_addToBalance 10 = .ok (.lload_n 2, 1) := by decide +kernel
theorem dX9_addToBalance_11 : decode cX9_addToBalance 11 = .ok (.ladd, 1) := by decide +kernel
theorem dX9_addToBalance_12 : decode cX9_addToBalance 12 = .ok (.lastore, 1) := by decide +kernel
theorem dX9_addToBalance_13 : decode cX9_addToBalance 13 = .ok (.return_, 1) := by decide +kernel
theorem dX9_move_0 : decode cX9_move 0 = .ok (.aload_n 0, 1) := by decide +kernel
theorem dX9_move_1 : decode cX9_move 1 = .ok (.iload_n 1, 1) := by decide +kernel
theorem dX9_move_2 : decode cX9_move 2 = .ok (.lload_n 3, 1) := by decide +kernel
theorem dX9_move_3 : decode cX9_move 3 = .ok (.lneg, 1) := by decide +kernel
theorem dX9_move_4 : decode cX9_move 4 = .ok (.invokevirtual 26, 3) := by decide +kernel
theorem dX9_move_7 : decode cX9_move 7 = .ok (.aload_n 0, 1) := by decide +kernel
theorem dX9_move_8 : decode cX9_move 8 = .ok (.iload_n 2, 1) := by decide +kernel
theorem dX9_move_9 : decode cX9_move 9 = .ok (.lload_n 3, 1) := by decide +kernel
theorem dX9_move_10 : decode cX9_move 10 = .ok (.invokevirtual 26, 3) := by decide +kernel
theorem dX9_move_13 : decode cX9_move 13 = .ok (.return_, 1) := by decide +kernel
theorem dX9_nonceOf_0 : decode cX9_nonceOf 0 = .ok (.aload_n 0, 1) := by decide +kernel
theorem dX9_nonceOf_1 : decode cX9_nonceOf 1 = .ok (.getfield 9, 3) := by decide +kernel
theorem dX9_nonceOf_4 : decode cX9_nonceOf 4 = .ok (.bipush 32, 2) := by decide +kernel
theorem dX9_nonceOf_6 : decode cX9_nonceOf 6 = .ok (.iload_n 1, 1) := by decide +kernel
theorem dX9_nonceOf_7 : decode cX9_nonceOf 7 = .ok (.imul, 1) := by decide +kernel
theorem dX9_nonceOf_8 : decode cX9_nonceOf 8 = .ok (.iconst 1, 1) := by decide +kernel
theorem dX9_nonceOf_9 : decode cX9_nonceOf 9 = .ok (.iadd, 1) := by decide +kernel
theorem dX9_nonceOf_10 : decode cX9_nonceOf 10 = .ok (.laload, 1) := by decide +kernel
theorem dX9_nonceOf_11 : decode cX9_nonceOf 11 = .ok (.lreturn, 1) := by decide +kernel
theorem dX9_raiseNonce_0 : decode cX9_raiseNonce 0 = .ok (.aload_n 0, 1) := by decide +kernel
theorem dX9_raiseNonce_1 : decode cX9_raiseNonce 1 = .ok (.getfield 9, 3) := by decide +kernel
theorem dX9_raiseNonce_4 : decode cX9_raiseNonce 4 = .ok (.bipush 32, 2) := by decide +kernel
theorem dX9_raiseNonce_6 : decode cX9_raiseNonce 6 = .ok (.iload_n 1, 1) := by decide +kernel
theorem dX9_raiseNonce_7 : decode cX9_raiseNonce 7 = .ok (.imul, 1) := by decide +kernel
theorem dX9_raiseNonce_8 : decode cX9_raiseNonce 8 = .ok (.iconst 1, 1) := by decide +kernel
theorem dX9_raiseNonce_9 : decode cX9_raiseNonce 9 = .ok (.iadd, 1) := by decide +kernel
theorem dX9_raiseNonce_10 : decode cX9_raiseNonce 10 = .ok (.dup2, 1) := by decide +kernel
theorem dX9_raiseNonce_11 : decode cX9_raiseNonce 11 = .ok (.laload, 1) := by decide +kernel
theorem dX9_raiseNonce_12 : decode cX9_raiseNonce 12 = .ok (.lconst 1, 1) := by decide +kernel
theorem dX9_raiseNonce_13 : decode cX9_raiseNonce 13 = .ok (.ladd, 1) := by decide +kernel
theorem dX9_raiseNonce_14 : decode cX9_raiseNonce 14 = .ok (.lastore, 1) := by decide +kernel
theorem dX9_raiseNonce_15 : decode cX9_raiseNonce 15 = .ok (.return_, 1) := by decide +kernel
theorem dX9_codeOf_0 : decode cX9_codeOf 0 = .ok (.aload_n 0, 1) := by decide +kernel
theorem dX9_codeOf_1 : decode cX9_codeOf 1 = .ok (.getfield 9, 3) := by decide +kernel
theorem dX9_codeOf_4 : decode cX9_codeOf 4 = .ok (.bipush 32, 2) := by decide +kernel
theorem dX9_codeOf_6 : decode cX9_codeOf 6 = .ok (.iload_n 1, 1) := by decide +kernel
theorem dX9_codeOf_7 : decode cX9_codeOf 7 = .ok (.imul, 1) := by decide +kernel
theorem dX9_codeOf_8 : decode cX9_codeOf 8 = .ok (.iconst 2, 1) := by decide +kernel
theorem dX9_codeOf_9 : decode cX9_codeOf 9 = .ok (.iadd, 1) := by decide +kernel
theorem dX9_codeOf_10 : decode cX9_codeOf 10 = .ok (.laload, 1) := by decide +kernel
theorem dX9_codeOf_11 : decode cX9_codeOf 11 = .ok (.lconst 1, 1) := by decide +kernel
theorem dX9_codeOf_12 : decode cX9_codeOf 12 = .ok (.lsub, 1) := by decide +kernel
theorem dX9_codeOf_13 : decode cX9_codeOf 13 = .ok (.lreturn, 1) := by decide +kernel
theorem dX9_setCode_0 : decode cX9_setCode 0 = .ok (.aload_n 0, 1) := by decide +kernel
theorem dX9_setCode_1 : decode cX9_setCode 1 = .ok (.getfield 9, 3) := by decide +kernel
theorem dX9_setCode_4 : decode cX9_setCode 4 = .ok (.bipush 32, 2) := by decide +kernel
theorem dX9_setCode_6 : decode cX9_setCode 6 = .ok (.iload_n 1, 1) := by decide +kernel
theorem dX9_setCode_7 : decode cX9_setCode 7 = .ok (.imul, 1) := by decide +kernel
theorem dX9_setCode_8 : decode cX9_setCode 8 = .ok (.iconst 2, 1) := by decide +kernel
theorem dX9_setCode_9 : decode cX9_setCode 9 = .ok (.iadd, 1) := by decide +kernel
theorem dX9_setCode_10 : decode cX9_setCode 10 = .ok (.lload_n 2, 1) := by decide +kernel
theorem dX9_setCode_11 : decode cX9_setCode 11 = .ok (.lconst 1, 1) := by decide +kernel
theorem dX9_setCode_12 : decode cX9_setCode 12 = .ok (.ladd, 1) := by decide +kernel
theorem dX9_setCode_13 : decode cX9_setCode 13 = .ok (.lastore, 1) := by decide +kernel
theorem dX9_setCode_14 : decode cX9_setCode 14 = .ok (.return_, 1) := by decide +kernel
theorem dX9_cellOf_0 : decode cX9_cellOf 0 = .ok (.aload_n 0, 1) := by decide +kernel
theorem dX9_cellOf_1 : decode cX9_cellOf 1 = .ok (.getfield 9, 3) := by decide +kernel
theorem dX9_cellOf_4 : decode cX9_cellOf 4 = .ok (.bipush 32, 2) := by decide +kernel
theorem dX9_cellOf_6 : decode cX9_cellOf 6 = .ok (.iload_n 1, 1) := by decide +kernel
theorem dX9_cellOf_7 : decode cX9_cellOf 7 = .ok (.imul, 1) := by decide +kernel
theorem dX9_cellOf_8 : decode cX9_cellOf 8 = .ok (.bipush 16, 2) := by decide +kernel
theorem dX9_cellOf_10 : decode cX9_cellOf 10 = .ok (.iadd, 1) := by decide +kernel
theorem dX9_cellOf_11 : decode cX9_cellOf 11 = .ok (.iload_n 2, 1) := by decide +kernel
theorem dX9_cellOf_12 : decode cX9_cellOf 12 = .ok (.iadd, 1) := by decide +kernel
theorem dX9_cellOf_13 : decode cX9_cellOf 13 = .ok (.laload, 1) := by decide +kernel
theorem dX9_cellOf_14 : decode cX9_cellOf 14 = .ok (.lreturn, 1) := by decide +kernel
theorem dX9_setCell_0 : decode cX9_setCell 0 = .ok (.aload_n 0, 1) := by decide +kernel
theorem dX9_setCell_1 : decode cX9_setCell 1 = .ok (.getfield 9, 3) := by decide +kernel
theorem dX9_setCell_4 : decode cX9_setCell 4 = .ok (.bipush 32, 2) := by decide +kernel
theorem dX9_setCell_6 : decode cX9_setCell 6 = .ok (.iload_n 1, 1) := by decide +kernel
theorem dX9_setCell_7 : decode cX9_setCell 7 = .ok (.imul, 1) := by decide +kernel
theorem dX9_setCell_8 : decode cX9_setCell 8 = .ok (.bipush 16, 2) := by decide +kernel
theorem dX9_setCell_10 : decode cX9_setCell 10 = .ok (.iadd, 1) := by decide +kernel
theorem dX9_setCell_11 : decode cX9_setCell 11 = .ok (.iload_n 2, 1) := by decide +kernel
theorem dX9_setCell_12 : decode cX9_setCell 12 = .ok (.iadd, 1) := by decide +kernel
theorem dX9_setCell_13 : decode cX9_setCell 13 = .ok (.lload_n 3, 1) := by decide +kernel
theorem dX9_setCell_14 : decode cX9_setCell 14 = .ok (.lastore, 1) := by decide +kernel
theorem dX9_setCell_15 : decode cX9_setCell 15 = .ok (.return_, 1) := by decide +kernel
theorem dX9_clearCells_0 : decode cX9_clearCells 0 = .ok (.iconst 0, 1) := by decide +kernel
theorem dX9_clearCells_1 : decode cX9_clearCells 1 = .ok (.istore_n 2, 1) := by decide +kernel
theorem dX9_clearCells_2 : decode cX9_clearCells 2 = .ok (.iload_n 2, 1) := by decide +kernel
theorem dX9_clearCells_3 : decode cX9_clearCells 3 = .ok (.bipush 16, 2) := by decide +kernel
theorem dX9_clearCells_5 : decode cX9_clearCells 5 = .ok (.if_icmp .ge 16, 3) := by decide +kernel
theorem dX9_clearCells_8 : decode cX9_clearCells 8 = .ok (.aload_n 0, 1) := by decide +kernel
theorem dX9_clearCells_9 : decode cX9_clearCells 9 = .ok (.iload_n 1, 1) := by decide +kernel
theorem dX9_clearCells_10 : decode cX9_clearCells 10 = .ok (.iload_n 2, 1) := by decide +kernel
theorem dX9_clearCells_11 : decode cX9_clearCells 11 = .ok (.lconst 0, 1) := by decide +kernel
theorem dX9_clearCells_12 : decode cX9_clearCells 12 = .ok (.invokevirtual 30, 3) := by decide +kernel
theorem dX9_clearCells_15 : decode cX9_clearCells 15 = .ok (.iinc 2 1, 3) := by decide +kernel
theorem dX9_clearCells_18 : decode cX9_clearCells 18 = .ok (.goto (-16), 3) := by decide +kernel
theorem dX9_clearCells_21 : decode cX9_clearCells 21 = .ok (.return_, 1) := by decide +kernel
theorem dX9_isEmpty_0 : decode cX9_isEmpty 0 = .ok (.iconst 0, 1) := by decide +kernel
theorem dX9_isEmpty_1 : decode cX9_isEmpty 1 = .ok (.istore_n 2, 1) := by decide +kernel
theorem dX9_isEmpty_2 : decode cX9_isEmpty 2 = .ok (.iload_n 2, 1) := by decide +kernel
theorem dX9_isEmpty_3 : decode cX9_isEmpty 3 = .ok (.bipush 32, 2) := by decide +kernel
theorem dX9_isEmpty_5 : decode cX9_isEmpty 5 = .ok (.if_icmp .ge 27, 3) := by decide +kernel
theorem dX9_isEmpty_8 : decode cX9_isEmpty 8 = .ok (.aload_n 0, 1) := by decide +kernel
theorem dX9_isEmpty_9 : decode cX9_isEmpty 9 = .ok (.getfield 9, 3) := by decide +kernel
theorem dX9_isEmpty_12 : decode cX9_isEmpty 12 = .ok (.bipush 32, 2) := by decide +kernel
theorem dX9_isEmpty_14 : decode cX9_isEmpty 14 = .ok (.iload_n 1, 1) := by decide +kernel
theorem dX9_isEmpty_15 : decode cX9_isEmpty 15 = .ok (.imul, 1) := by decide +kernel
theorem dX9_isEmpty_16 : decode cX9_isEmpty 16 = .ok (.iload_n 2, 1) := by decide +kernel
theorem dX9_isEmpty_17 : decode cX9_isEmpty 17 = .ok (.iadd, 1) := by decide +kernel
theorem dX9_isEmpty_18 : decode cX9_isEmpty 18 = .ok (.laload, 1) := by decide +kernel
theorem dX9_isEmpty_19 : decode cX9_isEmpty 19 = .ok (.lconst 0, 1) := by decide +kernel
theorem dX9_isEmpty_20 : decode cX9_isEmpty 20 = .ok (.lcmp, 1) := by decide +kernel
theorem dX9_isEmpty_21 : decode cX9_isEmpty 21 = .ok (.ifCond .eq 5, 3) := by decide +kernel
theorem dX9_isEmpty_24 : decode cX9_isEmpty 24 = .ok (.iconst 0, 1) := by decide +kernel
theorem dX9_isEmpty_25 : decode cX9_isEmpty 25 = .ok (.ireturn, 1) := by decide +kernel
theorem dX9_isEmpty_26 : decode cX9_isEmpty 26 = .ok (.iinc 2 1, 3) := by decide +kernel
theorem dX9_isEmpty_29 : decode cX9_isEmpty 29 = .ok (.goto (-27), 3) := by decide +kernel
theorem dX9_isEmpty_32 : decode cX9_isEmpty 32 = .ok (.iconst 1, 1) := by decide +kernel
theorem dX9_isEmpty_33 : decode cX9_isEmpty 33 = .ok (.ireturn, 1) := by decide +kernel
end
section
/-- a class E thrown at pc is caught in this method, and goes on at hpc, behind the store of what was thrown -/
def rx_Ca (G : rx_E) (M : rx_Me) (pc : Nat) (E : String) (hpc : Nat) : Prop := ∃ (pre : List ExceptionTableEntry) (x : ExceptionTableEntry) (suf : List ExceptionTableEntry) (name : String), M.2.2.2.2 = pre ++ x :: suf ∧
  (∀ z ∈ pre, covers z pc = false ∨ (z.catchType ≠ 0 ∧ ∃ nm : String, Cond.classLink M.1.cls z.catchType nm ∈ lw_tbl ∧ va_Nc E nm G.2.1)) ∧ covers x pc = true ∧ x.catchType ≠ 0 ∧ Cond.classLink M.1.cls x.catchType name ∈ lw_tbl ∧ Cond.castable E name ∈ lw_tbl ∧
  ((∃ k : Fin 4, decode M.2.1 x.handlerPc = .ok (.astore_n k, 1) ∧ (k : Nat) < M.2.2.1 ∧ hpc = x.handlerPc + 1) ∨ (∃ i : Nat, decode M.2.1 x.handlerPc = .ok (.astore i, 2) ∧ i < M.2.2.1 ∧ hpc = x.handlerPc + 2))
section RXVX
variable {G : rx_E} {M : rx_Me} {d pc mc ms : Nat} {lv : List (Nat × Value)} {st : List Value} {mu : rx_M} {Q : Option Value → rx_M → Prop} {Z : String → rx_M → Prop}
theorem rx_has_nil {ls : Array Slot} {n : Nat} {l : List (Nat × Value)} (h : lv_has ls n l) : rx_has G ls n [] := ⟨h.1, h.2.1, fun i v hv => by cases hv⟩
theorem rx_invVX {N : rx_Me} {idx n mc' ms' a ci : Nat} {as : List Value} {Q' : Option Value → rx_M → Prop} {Z' : String → rx_M → Prop} (hG : rx_OK G) (hN : rx_Me_ok N n) (hL : (∃ T n, rx_Cl ci N.1.cls T n) ∧ Cond.instanceMethod N.1 ∈ lw_tbl ∧ Cond.selects N.1.cls N.1 N.1 ∈ lw_tbl ∧ Cond.methodLink M.1.cls idx N.1 ∈ lw_tbl) (hb : a < mu.2.2.2.2) (hk : (mu.2.2.2.1 a).1 = ci) (hd : decode M.2.1 pc = .ok (.invokevirtual idx, 3)) (hn : as.length = n) (h8 : (st.map fun v => v.category).sum ≤ 8)
    (hc : rx_X G N d (.ref a :: as) mu mc' ms' Q' Z') (kk : ∀ v mu', Q' v mu' → rx_W G M (d + 1) (pc + 3) lv (v.toList ++ st) mu' mc ms Q Z) (kx : ∀ E mu', Z' E mu' → ∃ hpc, rx_Ca G M pc E hpc ∧ rx_W G M (d + 1) hpc [] [] mu' mc ms Q Z) : rx_W G M (d + 1) pc lv (as.reverse ++ .ref a :: st) mu (mc' + mc) (ms' + ms) Q Z := by
  intro p e R s m args below meth c H locs cells slots MC MS ls C h1 h2 h3 h4 h5
  have hWs : G.2.1.WarmedH s.vm := C.2.2.2.2.2.2.2.1
  have hts := rx_goodc hG hWs hN args
  obtain ⟨⟨T, nf, hci, hcl, -⟩, hin, hsel, hl⟩ := hL
  have hcell := va_recv (rx_K hG hWs) (rx_P1 (rx_obj h2 hb hk hci)) hcl (q0 := 0) rfl
  obtain ⟨hcode, hini, hmx, hmh, hpar⟩ := hN
  have hlen : (rx_trs G as).length = n := by simp [rx_trs, hn]
  have hp : PreV s H N.1.cls (rx_B G + a) (fun v U => v = (rx_trs G (.ref a :: as)).toArray ∧ rx_In G mu U.vm U.heap) (rx_trs G as) := ⟨rx_In_blind, hcell, fun U hU hW => ⟨rfl, State.WarmedH.trans hWs hW, by rw [hU]; exact h2.2.1, by rw [hU]; exact h2.2.2⟩⟩
  have hS : CallFix p m c M.2.1 M.2.2.1 s args [Cond.code N.1 N.2.1 N.2.2.1 N.2.2.2.1] M.1.cls := ⟨C.1, C.2.1, C.2.2.2.1, C.2.2.2.2.1, hts⟩
  have hfr : (rx_room d mc' ms').frames + 1 ≤ R.frames ∧ 8 + (N.2.2.1 + 11) + (rx_room d mc' ms').locals ≤ R.locals := ⟨h1.1, by show 8 + (N.2.2.1 + 11) + 40 * d ≤ R.locals; omega⟩
  have hstk : (F0 m pc ls (rx_trs G (as.reverse ++ .ref a :: st))).stack = (rx_trs G as).reverse ++ .ref (rx_B G + a) :: rx_trs G st := by rw [rx_rev]; show rx_trs G (as.reverse ++ .ref a :: st) = _; rw [rx_trs_app]; rfl
  have hrun := vx_runV (e := e) (below := below) (meth := meth) (locs := locs) (C := N.1.cls) (g := F0 m pc ls (rx_trs G (as.reverse ++ .ref a :: st))) hS hc ⟨callB_of n hts rx_goodi rfl rfl rfl (rx_w hG hWs hini rfl args) (rx_w hG hWs hl rfl args) ⟨hmh.1, hmh.2, hpar⟩ hfr, rx_w hG hWs hin rfl args, rx_w hG hWs hsel rfl args⟩ hp rfl hlen (h5.1) hstk (lv_room (rx_rm8 h8)) hd ⟨(by omega : cells + mc' ≤ R.cells), (by omega : slots + ms' ≤ R.slots)⟩
  intro T0 hT X
  rcases hrun T0 hT X with ⟨v, st₀, t, T', L, e0, X', hL9, e1, e2, ⟨v', mu', hv, hq, hin9, hgr⟩, stp⟩ | ⟨q, st₀, t, T', L, E, ce, e0, X', hL9, e1, e2, ⟨mu', hz, hrel, hbl, hgr⟩, hce, hcv, hcE, stp⟩
  · have hvv : v = v'.map (rx_tr G) := Outcome.returned.inj hv
    subst hvv
    have hIn : rx_In G mu' s.vm T'.heap := ⟨hWs, by rw [e1]; exact hin9.2.1, by rw [e1]; exact hin9.2.2⟩
    have hk := kk v' mu' hq p e R s m args below meth c T'.heap (locs ++ L) (cells + mc') (slots + ms') MC MS ls C ⟨h1.1, h1.2.1, by omega, by omega, h1.2.2.2.2.1, h1.2.2.2.2.2⟩ hIn (by rw [e1]; rw [e0] at hgr; exact Nat.le_trans h3 hgr) (fun q hq => by
      rcases List.mem_append.mp hq with h | h
      · exact h4 q h
      · exact hL9 q h) h5
    obtain ⟨t2, a1, b1⟩ := hk T' rfl X'
    refine ⟨t2, stp t2 ?_, b1⟩
    have : (rx_trs G (v'.toList ++ st)) = (v'.map (rx_tr G)).toList ++ rx_trs G st := by
      cases v' <;> simp [rx_trs]
    rw [this] at a1
    exact a1
  · obtain ⟨hpc, ⟨pre, x, suf, name, hsp, hpass, hx, h0, hlk, hcst, hst⟩, kw⟩ := kx E mu' hz
    have hIn : rx_In G mu' s.vm T'.heap := ⟨hWs, by rw [e1]; exact hrel, by rw [e1]; exact hbl⟩
    have hsz : s.heap.size ≤ T'.heap.size := by rw [e1]; rw [e0] at hgr; exact Nat.le_trans h3 hgr
    have hlo : ∀ q ∈ locs ++ L, rx_B G ≤ q.base := fun q hq => by
      rcases List.mem_append.mp hq with h | h
      · exact h4 q h
      · exact hL9 q h
    have hkw : ∀ ls' : Array Slot, rx_has G ls' M.2.2.1 [] → W p G.1 e R s m args below meth c T'.heap (locs ++ L) (cells + mc') (slots + ms') (vx_MQ below (rx_Qc G Q) (rx_XC G Z) args s MC MS (fun q => rx_B G ≤ q)) (F0 m hpc ls' []) := fun ls' h' => kw p e R s m args below meth c T'.heap (locs ++ L) (cells + mc') (slots + ms') MC MS ls' C ⟨h1.1, h1.2.1, by omega, by omega, h1.2.2.2.2.1, h1.2.2.2.2.2⟩ hIn hsz hlo h'
    have hwh : W p G.1 e R s m args below meth c T'.heap (locs ++ L) (cells + mc') (slots + ms') (vx_MQ below (rx_Qc G Q) (rx_XC G Z) args s MC MS (fun q => rx_B G ≤ q)) (F0 m x.handlerPc ls [.ref q]) := by
      rcases hst with ⟨kf, hdk, hkl, rfl⟩ | ⟨i, hdk, hkl, rfl⟩
      · exact lv_astore_n C.1 C.2.1 hdk rfl (rx_has_en h5) hkl rfl (fun ls' h' => hkw ls' (rx_has_nil h'))
      · exact lv_astore C.1 C.2.1 hdk (rx_has_en h5) hkl rfl (fun ls' h' => hkw ls' (rx_has_nil h'))
    obtain ⟨a9, ha9⟩ := hG.1 _ hcst
    have hcst' : (Cond.castable E name).before args s = true := va_Nw.use rfl (va_Nw.warmC hWs (va_Nw.of rfl ha9))
    obtain ⟨t2, a1, b1⟩ := ry_catch (pc := pc) (rest := rx_trs G st) (E := E) (q := q) (ce := ce) C.2.2.2.2.1 pre x suf (C.2.2.2.2.2.2.2.2.2.2.trans hsp) (fun z hz => by
      rcases hpass z hz with h | ⟨hz0, nm, hl1, hn1⟩
      · exact Or.inl h
      · exact Or.inr ⟨hz0, nm, rx_w hG hWs hl1 rfl args, va_Nc.moved hWs.alike hn1⟩) hx h0 (rx_w hG hWs hlk rfl args) hcst' (by rw [e1]; exact hce) hcv hcE hwh rfl X'
    exact ⟨t2, stp.trans a1, b1⟩
/-- a method with a table: its contract, its entry, its call -/
def rx_H (G : rx_E) (M : rx_Me) (hh : List (Nat × Nat × Nat × Nat)) (d : Nat) (as : List Value) (mu : rx_M) (mc ms : Nat) (Q : Option Value → rx_M → Prop) : Prop :=
  Met G.1 M.1 [Cond.codeWith M.1 M.2.1 M.2.2.1 M.2.2.2.1 hh] (rx_room d mc ms) (fun a U => a = (rx_trs G as).toArray ∧ rx_In G mu U.vm U.heap) (rx_Qc G Q) mc ms (fun q => rx_B G ≤ q)
theorem rx_methH {hh : List (Nat × Nat × Nat × Nat)} {as : List Value} (hy : plainName M.1.cls = true) (ht : M.2.2.2.2 = tableOf hh) (hn : (lg_sl as).length ≤ M.2.2.1)
    (k : rx_W G M d 0 (lv_args 0 as) [] mu mc ms Q (fun _ _ => False)) : rx_H G M hh d as mu mc ms Q := by
  have hX : vx_Met G.1 M.1 [Cond.codeWith M.1 M.2.1 M.2.2.1 M.2.2.2.1 hh] (rx_room d mc ms) (fun a U => a = (rx_trs G as).toArray ∧ rx_In G mu U.vm U.heap) (rx_Qc G Q) (rx_XC G (fun _ _ => False)) mc ms (fun q => rx_B G ≤ q) := by
    refine vx_ofWH (cc := M.2.1) (maxL := M.2.2.1) (ret := M.2.2.2.1) (hh := hh) hy rfl ?_
    intro p e s m args below meth c s₁ B hml hv
    obtain ⟨rfl, hin⟩ := hv
    have hl := lv_entry (rx_trs G as) (n := M.2.2.1) (by rw [rx_sl]; exact hn)
    rw [lg_entry_eq]
    generalize (lg_sl (rx_trs G as) ++ List.replicate (M.2.2.1 - (lg_sl (rx_trs G as)).length) Slot.unset).toArray = ls at hl ⊢
    have hl := rx_has_entry hl
    have hB : rx_B G ≤ s.heap.size := by rw [hin.2.1.1]; exact Nat.le_add_right _ _
    have htab : c.exceptionTable.toList = tableOf hh := vx_table (x := M.1) B (atoms_spec (ws := [Cond.codeWith M.1 M.2.1 M.2.2.1 M.2.2.2.1 hh]) B.pre _ List.mem_cons_self)
    exact k p e (rx_room d mc ms) s m (rx_trs G as).toArray below meth c s.heap [] 0 0 mc ms ls ⟨B.exec, B.bytes, B.returns, hml, findClass_of_methodNamed B.named, B.notSynchronized, (name_of_methodNamed B.named B.method).1, hin.1, hB, hin.2.2, htab.trans ht.symm⟩ ⟨Nat.le_refl _, Nat.le_refl _, by omega, by omega, Nat.le_refl _, Nat.le_refl _⟩ hin (Nat.le_refl _) (fun _ h => by cases h) hl
  intro p e h1 h2 h3 s m args below h4 h5 h6 h7
  obtain ⟨k', o, a1, a2, a3, a4⟩ := hX p e h1 h2 h3 s m args below h4 h5 h6 h7
  refine ⟨k', o, a1, a2, a3, ?_⟩
  rcases a4 with h | ⟨q, -, E, ce, L, ⟨mu', hF, -⟩, -⟩
  · exact h
  · exact hF.elim
theorem rx_invH {N : rx_Me} {hh : List (Nat × Nat × Nat × Nat)} {idx n mc' ms' : Nat} {as : List Value} {Q' : Option Value → rx_M → Prop} (hG : rx_OK G) (hN : Cond.codeWith N.1 N.2.1 N.2.2.1 N.2.2.2.1 hh ∈ lw_tbl ∧ Cond.initialized N.1.cls ∈ lw_tbl ∧ N.2.2.1 ≤ 21 ∧ (N.1.cls ≠ "java/lang/invoke/MethodHandle" ∧ N.1.cls ≠ "java/lang/invoke/VarHandle") ∧ (parseMethodDescriptor N.1.desc).map (fun q => q.parameters.length) = some n)
    (hL : Cond.static N.1 ∈ lw_tbl ∧ Cond.methodLink M.1.cls idx N.1 ∈ lw_tbl) (hd : decode M.2.1 pc = .ok (.invokestatic idx, 3)) (hn : as.length = n) (h8 : (st.map fun v => v.category).sum ≤ 8)
    (hc : rx_H G N hh d as mu mc' ms' Q') (kk : ∀ v mu', Q' v mu' → rx_W G M (d + 1) (pc + 3) lv (v.toList ++ st) mu' mc ms Q Z) : rx_W G M (d + 1) pc lv (as.reverse ++ st) mu (mc' + mc) (ms' + ms) Q Z := by
  intro p e R s m args below meth c H locs cells slots MC MS ls C h1 h2 h3 h4 h5
  have hWs : G.2.1.WarmedH s.vm := C.2.2.2.2.2.2.2.1
  obtain ⟨hst, hl⟩ := hL
  obtain ⟨hcode, hini, hmx, hmh, hpar⟩ := hN
  have hgi : GoodIn ([.methodLink M.1.cls idx N.1, .static N.1, .initialized N.1.cls, Cond.codeWith N.1 N.2.1 N.2.2.1 N.2.2.2.1 hh]) (va_wsS M.1.cls idx N.1 [Cond.codeWith N.1 N.2.1 N.2.2.1 N.2.2.2.1 hh]) := fun w hw => ⟨hw, by
    simp only [va_wsS, List.mem_append, List.mem_cons, List.not_mem_nil, or_false] at hw
    rcases hw with (rfl | rfl | rfl) | rfl <;> exact Or.inl rfl⟩
  have hts : ∀ w ∈ ([.methodLink M.1.cls idx N.1, .static N.1, .initialized N.1.cls, Cond.codeWith N.1 N.2.1 N.2.2.1 N.2.2.2.1 hh] : List Cond), w.before args s = true := fun w hw => by
    simp only [List.mem_cons, List.not_mem_nil, or_false] at hw
    rcases hw with rfl | rfl | rfl | rfl
    · exact rx_w hG hWs hl rfl args
    · exact rx_w hG hWs hst rfl args
    · exact rx_w hG hWs hini rfl args
    · exact rx_w hG hWs hcode rfl args
  have hlen : (rx_trs G as).length = n := by simp [rx_trs, hn]
  have hp : PreS s H (fun a U => a = (rx_trs G as).toArray ∧ rx_In G mu U.vm U.heap) (rx_trs G as) := ⟨rx_In_blind, fun U hU hW => ⟨rfl, State.WarmedH.trans hWs hW, by rw [hU]; exact h2.2.1, by rw [hU]; exact h2.2.2⟩⟩
  have hS : CallFix p m c M.2.1 M.2.2.1 s args _ M.1.cls := ⟨C.1, C.2.1, C.2.2.2.1, C.2.2.2.2.1, hts⟩
  have hfr : (rx_room d mc' ms').frames + 1 ≤ R.frames ∧ 8 + (N.2.2.1 + 11) + (rx_room d mc' ms').locals ≤ R.locals := ⟨h1.1, by show 8 + (N.2.2.1 + 11) + 40 * d ≤ R.locals; omega⟩
  have hstk : (F0 m pc ls (rx_trs G (as.reverse ++ st))).stack = (rx_trs G as).reverse ++ rx_trs G st := by rw [rx_rev, ← rx_trs_app]
  exact rx_back C h1 h3 h4 h5 (vx_runSW (g := F0 m pc ls (rx_trs G (as.reverse ++ st))) hS hc (vx_cwSW n hts hgi rfl rfl rfl ⟨hmh.1, hmh.2, hpar⟩ hfr) hp rfl hlen (h5.1) hstk (lv_room (rx_rm8 h8)) hd ⟨by omega, by omega⟩) kk
end RXVX
end
section
/-- which throws are no other's -/
def rx_NC (G : rx_E) : Prop := va_Nc "java/lang/IllegalArgumentException" "java/lang/IndexOutOfBoundsException" G.2.1 ∧ va_Nc "java/lang/IllegalStateException" "java/lang/IndexOutOfBoundsException" G.2.1 ∧ va_Nc "java/lang/IllegalStateException" "java/lang/IllegalArgumentException" G.2.1
def rx_nw : List Cond := [.not (.castable "java/lang/IllegalArgumentException" "java/lang/IndexOutOfBoundsException"), .not (.castable "java/lang/IllegalStateException" "java/lang/IndexOutOfBoundsException"), .not (.castable "java/lang/IllegalStateException" "java/lang/IllegalArgumentException"), .arrayOf (.static RX7 "COSTS" "[I") .int, .arrayOf (.static RX6 "TAKES" "[I") .int, .eq (.length (.static RX7 "COSTS" "[I")) (.int 40), .eq (.length (.static RX6 "TAKES" "[I")) (.int 40), .isRef (.static Bundle.tN "UNASSIGNED_STACK" Bundle.steD), .isRef (.static Bundle.tN "SUPPRESSED_SENTINEL" Bundle.listD)] ++ (List.range 40).map (fun j => .eq (.elem (.static RX7 "COSTS" "[I") (.int (Int32.ofNat j))) (.int (rx_costs.getD j 0))) ++ (List.range 40).map (fun j => .eq (.elem (.static RX6 "TAKES" "[I") (.int (Int32.ofNat j))) (.int (rx_takes.getD j 0)))
set_option maxRecDepth 100000 in
theorem rx_nw_in : rx_nw.all (fun w => decide (w ∈ flatC (Jvm.Cond.and given_1 narrow_1))) = true := by decide +kernel
theorem rx_arrP {s : State} {ty : FieldType} (h : ∃ a, (Cond.arrayClass ty).before a s = true) (hty : ∀ C, ty ≠ .object C) : ∃ cA, ArrOfT s cA ty ∧ va_RA s cA ty := by
  obtain ⟨a, h⟩ := h
  obtain ⟨c, k, comp, h1, h2, h3⟩ := Cond.arrayClass_spec h
  refine ⟨c, fun n z => ⟨fun k h => (by cases h), k, h2, comp, h3⟩, ?_⟩
  cases ty with
  | object C => exact absurd rfl (hty C)
  | _ => exact h1
theorem rx_arrO {s : State} {C : String} (h : ∃ a, (Cond.arrayOver (.object C)).before a s = true) : ∃ cA, ArrOfT s cA (.object C) ∧ va_RA s cA (.object C) := by
  obtain ⟨a, h⟩ := h
  obtain ⟨comp, c, k, h1, h2, h3, h4, h5⟩ := Cond.arrayOver_spec h
  exact ⟨c, fun n z => ⟨fun k h => (by cases h), k, h3, comp, h4⟩, k, comp, h3, h4, h1, h5⟩
set_option maxRecDepth 100000 in
set_option maxHeartbeats 4000000 in
theorem rx_begin {l : Launch} {s : State} {b L : Nat} {xs : Nat → Int32} (hfl : l.stackTraces = false) (hL : L ≤ 5120) (hts : ∀ w ∈ lw_tbl, w.before #[Value.ref b] s = true) (hX : va_X b L xs s s.heap) (hb : b < s.heap.size) (hgv : (Jvm.Cond.and given_1 narrow_1).before #[Value.ref b] s = true) :
    ∃ (D : va_G) (dA : Nat → ClassId) (Y : Nat → Nat), Y 0 = b ∧ rx_OK (l, s, D, dA, Y, L, xs) ∧ rx_NC (l, s, D, dA, Y, L, xs) := by
  have hq : ∀ w ∈ rx_nw, w.before #[Value.ref b] s = true := fun w hw => flat_of_before _ hgv w (of_decide_eq_true (List.all_eq_true.mp rx_nw_in w hw))
  have hA : ∀ a : Nat, a < s.heap.size → ¬ (fun q : Nat => s.heap.size ≤ q) a := fun a h => Nat.not_le.mpr h
  have hqC : ∀ j : Nat, j < 40 → (Cond.eq (.elem (.static RX7 "COSTS" "[I") (.int (Int32.ofNat j))) (.int (rx_costs.getD j 0))).before #[Value.ref b] s = true := fun j hj => hq _ (List.mem_append_left _ (List.mem_append_right _ (List.mem_map.mpr ⟨j, List.mem_range.mpr hj, rfl⟩)))
  have hqT : ∀ j : Nat, j < 40 → (Cond.eq (.elem (.static RX6 "TAKES" "[I") (.int (Int32.ofNat j))) (.int (rx_takes.getD j 0))).before #[Value.ref b] s = true := fun j hj => hq _ (List.mem_append_right _ (List.mem_map.mpr ⟨j, List.mem_range.mpr hj, rfl⟩))
  have hq0 : ∀ w ∈ rx_nw.take 9, w.before #[Value.ref b] s = true := fun w hw => hq w (List.mem_of_mem_take hw)
  obtain ⟨tC, hvC, hTC⟩ := va_Tof (A := fun q : Nat => s.heap.size ≤ q) (N := 40) (f := fun j => .int (rx_costs.getD j 0)) (by decide) (hq0 (.arrayOf (.static RX7 "COSTS" "[I") .int) (by simp [rx_nw])) (va_eqt (z := Int32.ofNat 40) (hq0 (.eq (.length (.static RX7 "COSTS" "[I")) (.int 40)) (by simp [rx_nw]))) (fun j hj => va_eqt (hqC j hj)) hA
  obtain ⟨tT, hvT, hTT⟩ := va_Tof (A := fun q : Nat => s.heap.size ≤ q) (N := 40) (f := fun j => .int (rx_takes.getD j 0)) (by decide) (hq0 (.arrayOf (.static RX6 "TAKES" "[I") .int) (by simp [rx_nw])) (va_eqt (z := Int32.ofNat 40) (hq0 (.eq (.length (.static RX6 "TAKES" "[I")) (.int 40)) (by simp [rx_nw]))) (fun j hj => va_eqt (hqT j hj)) hA
  obtain ⟨c0, i0, K0⟩ := u_known (C := RX0) (T := TX0) (N := 7) (n := 7) hts (fun w h => (hc_0.2.2.1 w h).1) (hts _ hw_826)
  obtain ⟨c1, i1, K1⟩ := u_known (C := RX1) (T := TX1) (N := 6) (n := 6) hts (fun w h => (hc_1.2.2.1 w h).1) (hts _ hw_818)
  obtain ⟨c2, i2, K2⟩ := u_known (C := RX2) (T := TX2) (N := 1) (n := 1) hts (fun w h => (hc_2.2.2.1 w h).1) (hts _ hw_844)
  obtain ⟨c3, i3, K3⟩ := u_known (C := RX3) (T := TX3) (N := 2) (n := 2) hts (fun w h => (hc_3.2.2.1 w h).1) (hts _ hw_809)
  obtain ⟨c4, i4, K4⟩ := u_known (C := RX4) (T := TX4) (N := 3) (n := 3) hts (fun w h => (hc_4.2.2.1 w h).1) (hts _ hw_803)
  obtain ⟨c5, i5, K5⟩ := u_known (C := RX5) (T := TX5) (N := 3) (n := 3) hts (fun w h => (hc_5.2.2.1 w h).1) (hts _ hw_816)
  obtain ⟨c6, i6, K6⟩ := u_known (C := RX6) (T := TX6) (N := 15) (n := 15) hts (fun w h => (hc_6.2.2.1 w h).1) (hts _ hw_821)
  obtain ⟨c7, i7, K7⟩ := u_known (C := RX7) (T := TX7) (N := 13) (n := 13) hts (fun w h => (hc_7.2.2.1 w h).1) (hts _ hw_807)
  obtain ⟨c8, i8, K8⟩ := u_known (C := RX8) (T := TX8) (N := 7) (n := 7) hts (fun w h => (hc_8.2.2.1 w h).1) (hts _ hw_860)
  obtain ⟨c9, i9, K9⟩ := u_known (C := RX9) (T := TX9) (N := 1) (n := 1) hts (fun w h => (hc_9.2.2.1 w h).1) (hts _ hw_813)
  obtain ⟨c10, i10, K10⟩ := u_known (C := RX10) (T := TX10) (N := 12) (n := 12) hts (fun w h => (hc_10.2.2.1 w h).1) (hts _ hw_801)
  obtain ⟨c11, i11, K11⟩ := u_known (C := RX11) (T := TX11) (N := 65) (n := 65) hts (fun w h => (hc_11.2.2.1 w h).1) (hts _ hw_884)
  obtain ⟨a12, A12⟩ := rx_arrP ⟨_, hts _ hw_804⟩ (fun C h => by cases h)
  obtain ⟨a13, A13⟩ := rx_arrP ⟨_, hts _ hw_827⟩ (fun C h => by cases h)
  obtain ⟨a14, A14⟩ := rx_arrP ⟨_, hts _ hw_814⟩ (fun C h => by cases h)
  obtain ⟨a15, A15⟩ := rx_arrP ⟨_, hts _ hw_805⟩ (fun C h => by cases h)
  obtain ⟨a16, A16⟩ := rx_arrO ⟨_, hts _ hw_825⟩
  obtain ⟨a17, A17⟩ := rx_arrO ⟨_, hts _ hw_811⟩
  obtain ⟨a18, A18⟩ := rx_arrO ⟨_, hts _ hw_820⟩
  obtain ⟨a19, A19⟩ := rx_arrO ⟨_, hts _ hw_823⟩
  refine ⟨((fun k => if k = 0 then c0 else if k = 1 then c1 else if k = 2 then c2 else if k = 3 then c3 else if k = 4 then c4 else if k = 5 then c5 else if k = 6 then c6 else if k = 7 then c7 else if k = 8 then c8 else if k = 9 then c9 else if k = 10 then c10 else c11), (fun k => if k = 0 then i0 else if k = 1 then i1 else if k = 2 then i2 else if k = 3 then i3 else if k = 4 then i4 else if k = 5 then i5 else if k = 6 then i6 else if k = 7 then i7 else if k = 8 then i8 else if k = 9 then i9 else if k = 10 then i10 else i11)), (fun k => if k = 12 then a12 else if k = 13 then a13 else if k = 14 then a14 else if k = 15 then a15 else if k = 16 then a16 else if k = 17 then a17 else if k = 18 then a18 else a19), (fun k => if k = 0 then b else if k = 1 then tC else tT), rfl, ⟨fun w hw => ⟨_, hts w hw⟩, ⟨?_, ?_⟩, ⟨?_, hTC⟩, ⟨?_, hTT⟩, hX, hb, hL, hfl, ?_, ?_⟩, va_Nc.of (hq0 _ (by simp [rx_nw])), va_Nc.of (hq0 _ (by simp [rx_nw])), va_Nc.of (hq0 _ (by simp [rx_nw]))⟩
  · intro k q hq
    match k, hq with
    | 0, hq => cases hq; exact K0
    | 1, hq => cases hq; exact K1
    | 2, hq => cases hq; exact K2
    | 3, hq => cases hq; exact K3
    | 4, hq => cases hq; exact K4
    | 5, hq => cases hq; exact K5
    | 6, hq => cases hq; exact K6
    | 7, hq => cases hq; exact K7
    | 8, hq => cases hq; exact K8
    | 9, hq => cases hq; exact K9
    | 10, hq => cases hq; exact K10
    | 11, hq => cases hq; exact K11
    | k + 12, hq => simp [vwCl] at hq
  · intro k q hq
    match k, hq with
    | 0, hq => cases hq; exact A12
    | 1, hq => cases hq; exact A13
    | 2, hq => cases hq; exact A14
    | 3, hq => cases hq; exact A15
    | 4, hq => cases hq; exact A16
    | 5, hq => cases hq; exact A17
    | 6, hq => cases hq; exact A18
    | 7, hq => cases hq; exact A19
    | k + 8, hq => simp [rx_tys] at hq
  · exact va_Zref (hts _ hw_864) (hts _ hw_49) hvC hA
  · exact va_Zref (hts _ hw_865) (hts _ hw_33) hvT hA
  · exact vx_Zqof (hts _ hw_832) (hts _ hw_793) (hq0 _ (by simp [rx_nw])) hA
  · exact vx_Zqof (hts _ hw_833) (hts _ hw_793) (hq0 _ (by simp [rx_nw])) hA
end
section
/-! THE CLAIM OUT OF ONE WALK OF THE LAW'S BODY. Your part is whole_start (and what it stands on); all else here is the same for every law, but numbers. -/
def R_law : String := "LedgerMachineLaw"
def lw_P (b : Addr) (xs : List Int32) (args : Array Value) (s : State) : Prop := args = #[.ref b] ∧ s.IntsAt b xs ∧ xs.length ≤ 5120 ∧ (Jvm.Cond.and given_1 narrow_1).before args s = true
def lw_Q (_ : Array Value) (s : State) (o : Outcome) (t : State) : Prop := o = .returned (some (.int 1)) ∧ Framed s o t [] 601024 7293034
def lw_Z (below : List Frame) (a : Array Value) (s : State) : State → Prop := fun t => ∃ o, t.status = .running ∧ Ended t below o ∧ lw_Q a s o t
/-- the law's own end, with 1 on the stack, nothing written that was there before, its room as the claim has it -/
theorem lw_ret {p : Program} {l : Launch} {e : Env} {s : State} {m : MethodId} {below : List Frame} {meth : Method} {c : Code} {b : Nat} (hx : p.tables.exec = Jvm.exec) (hb : c.code = code) (hr : meth.sig.returnType = ret) (hlocks : meth.locks = false) {pc : Nat} {H : Heap} {ls : Array Slot} (hdg : decode code pc = .ok (.ireturn, 1)) : W p l e room_1 s m #[Value.ref b] below meth c H [] 601024 7293034 (lw_Z below #[Value.ref b] s) (F0 m pc ls [.int 1]) := by
  intro T hT X
  obtain ⟨fs, hret, hrun, hended, hW, hframe⟩ := X.leave (v := some (.int 1)) (hlocks := hlocks) (fun h => by rw [hr] at h; cases h)
  have hmeth' : T.vm.method? m = some meth := X.method'
  refine ⟨T.setFrames fs, ?_, .returned (some (.int 1)), hrun, hended, rfl, ⟨_, rfl⟩, hW, hframe⟩
  jvm_step X.here [X.here.top, hx, hb, hdg, hmeth', hr, ret, narrow_b1]
  (try refine ⟨rfl, ?_⟩); (try refine ⟨rfl, ?_⟩)
  first | (intro acts; rw [hret _ acts rfl rfl rfl]) | rw [hret _ _ rfl rfl rfl]
  exact Steps.refl _
/-- what holds at the law's entry: the machine, the code, the tables' words (any of lw_tbl by 'hts w (by decide +kernel)'), the script of L ints xs at the cell b, what the Statement gives of the start (any of its parts by flat_of_before) -/
def lw_At (p : Program) (s : State) (m : MethodId) (meth : Method) (c : Code) (b L : Nat) (xs : Nat → Int32) : Prop :=
  p.tables.exec = Jvm.exec ∧ c.code = code ∧ meth.sig.returnType = ret ∧ c.maxLocals = 8 ∧ s.vm.findClass R_law = some m.cls ∧ (∀ w ∈ lw_tbl, w.before #[Value.ref b] s = true) ∧ va_X b L xs s s.heap ∧ b < s.heap.size ∧ meth.locks = false ∧ (Jvm.Cond.and given_1 narrow_1).before #[Value.ref b] s = true
theorem rx_same {s t : State} {L : List Loc} {k n : Nat} (h : s.sameButNew t L k n) (hL : ∀ z ∈ L, s.heap.size ≤ z.base) : s.sameButNew t [] k n := by
  obtain ⟨h1, h2, h3, h4, h5, h6⟩ := h
  refine ⟨h1, h2, h3, h4, h5, fun a c hc => ?_⟩
  obtain ⟨c', g1, g2, g3, g4⟩ := h6 a c hc
  refine ⟨c', g1, g2, g3, fun i _ => g4 i (fun hm => ?_)⟩
  have h7 : s.heap.size ≤ a := hL _ hm
  have h8 : a < s.heap.size := (Array.getElem?_eq_some_iff.mp hc).1
  exact absurd h8 (Nat.not_lt.mpr h7)
/-- the memory at the start: nothing -/
def rx_mu0 : rx_M := (fun _ _ => 0, fun _ _ => 0, fun _ _ => none, fun _ => (20, 0), 0)
/-- what is owed of the law's body -/
def rx_Law : Prop := ∀ (G : rx_E) (tab : List ExceptionTableEntry), rx_OK G → rx_NC G → rx_W G (yL_law, cL_law, 8, some .boolean, tab) 2000 0 [(0, .float 0)] [] rx_mu0 601024 7293034 (fun v _ => v = some (.int 1)) (fun _ _ => False)
theorem rx_whole (hlaw : rx_Law) {p : Program} {e : Env} {s : State} {m : MethodId} {below : List Frame} {meth : Method} {c : Code} (l : Launch) (hfl : l.stackTraces = false) {b L : Nat} {xs : Nat → Int32} (hL : L ≤ 5120) (hnm : meth.name = "law") (C0 : lw_At p s m meth c b L xs) : W p l e room_1 s m #[Value.ref b] below meth c s.heap [] 0 0 (lw_Z below #[Value.ref b] s) (entryFrame m ([Value.ref b] : List Value).toArray 8) := by
  obtain ⟨hx, hb, hr, hml, hown, hts, hX, hbl, hlocks, hgv⟩ := C0
  obtain ⟨D, dA, Y, hY, hOK, hNC⟩ := rx_begin hfl hL hts hX hbl hgv
  have hl := lv_entry ([.ref b]) (n := 8) (Nat.le_of_ble_eq_true rfl)
  rw [lg_entry_eq]
  generalize (lg_sl ([.ref b]) ++ List.replicate (8 - (lg_sl ([.ref b])).length) Slot.unset).toArray = ls at hl ⊢
  have hl1 : rx_has (l, s, D, dA, Y, L, xs) ls 8 [(0, .float 0)] := by
    refine ⟨hl.1, hl.2.1, fun i v hv => ?_⟩
    have h1 := rx_lf_mem _ _ hv
    obtain ⟨rfl, rfl⟩ : i = 0 ∧ v = .float 0 := by
      have := List.mem_singleton.mp h1
      exact ⟨congrArg Prod.fst this, congrArg Prod.snd this⟩
    have h2 := hl.2.2 (0, .ref b) (by simp [lv_args])
    rw [h2]
    show some (Slot.val (.ref b)) = some (Slot.val (.ref (Y 0)))
    rw [hY]
  have hIn : rx_In (l, s, D, dA, Y, L, xs) rx_mu0 s.vm s.heap := ⟨State.WarmedH.refl s, ⟨rfl, fun a ha => absurd ha (Nat.not_lt_zero a)⟩, fun _ _ => rfl⟩
  have h := hlaw (l, s, D, dA, Y, L, xs) c.exceptionTable.toList hOK hNC p e room_1 s m #[Value.ref b] below meth c s.heap [] 0 0 601024 7293034 ls ⟨hx, hb, hr, hml, hown, hlocks, hnm, State.WarmedH.refl s, Nat.le_refl _, fun _ _ => rfl, rfl⟩ (by decide) hIn (Nat.le_refl _) (fun _ h => by cases h) hl1
  intro T hT X
  obtain ⟨t, a1, o, b1, b2, b3⟩ := h T hT X
  refine ⟨t, a1, o, b1, b2, ?_⟩
  rcases b3 with ⟨⟨v, mu, ho, hv, -, -⟩, L9, ⟨hF1, hF2, hF3⟩, hLL⟩ | ⟨q, -, E, ce, L9, ⟨mu, hF, -⟩, -⟩
  · subst hv
    exact ⟨ho, hF1, hF2, rx_same hF3 hLL⟩
  · exact hF.elim
-- ===== YOUR PART ENDS =====
set_option maxHeartbeats 4000000 in
theorem lw_walk (hlaw : rx_Law) (l : Launch) (hfl : l.stackTraces = false) (b : Addr) (xs : List Int32) : MetFree l x (headSpec (Jvm.Cond.code x code maxLocals ret :: tables_1) room_1) (lw_P b xs) (fun _ _ _ _ _ => True) lw_Q := by
  refine MetFree.of_bodyS (code := code) (maxLocals := maxLocals) (ret := ret) (by decide) ?_ ?_
  · intro args s m h hn
    obtain ⟨meth, c, h1, h2, h3, h4, h5, h6, -, -⟩ := Cond.code_spec hn (atoms_spec (ws := Jvm.Cond.code x code maxLocals ret :: tables_1) h _ List.mem_cons_self)
    exact ⟨meth, c, h1, h2, h3, h4, h5, h6⟩
  · intro p e s m args below meth c s₁ B hml0 hP _
    obtain ⟨rfl, hx, hbd, hgv⟩ := hP
    obtain ⟨scr, harrAt, hlist, hof, hsmall⟩ := hx
    obtain ⟨hcb, hkn, -, -⟩ := State.arrayAt?_spec harrAt
    have hown : s.vm.findClass R_law = some m.cls := findClass_of_methodNamed B.named
    have hts0 : ∀ c ∈ (Jvm.Cond.code x code maxLocals ret :: tables_1), c.before #[Value.ref b] s = true := atoms_spec (ws := Jvm.Cond.code x code maxLocals ret :: tables_1) B.pre
    have hts : ∀ w ∈ lw_tbl, w.before #[Value.ref b] s = true := k2_hts_sels lw_privs (fun w hw => hts0 w (List.mem_cons_of_mem _ hw)) lw_privs_ok
    have hml : c.maxLocals = 8 := B.maxLocals_eq (hts0 _ List.mem_cons_self)
    have X₀ : Stand p l e room_1 s m #[Value.ref b] below meth c s₁ [] 0 0 := Stand.of_body B
    have hh0 : s₁.heap = s.heap := by rw [B.state]; rfl
    have hsz : scr.slots.size = xs.length := by rw [← Array.length_toList, hlist, List.length_map]
    have hval : ∀ j : Nat, j < xs.length → scr.slots[j]? = some (.int (xs.getD j 0)) := fun j hj => by
      rw [← Array.getElem?_toList, hlist]
      simp [hj]
    have hbl : b < s.heap.size := (Array.getElem?_eq_some_iff.mp hcb).1
    have hX : va_X b xs.length (fun j => xs.getD j 0) s s.heap := ⟨scr, hcb, hof, hkn, hsz, hval⟩
    have K : W p l e room_1 s m #[Value.ref b] below meth c s₁.heap [] 0 0 (lw_Z below #[Value.ref b] s) (entryFrame m ([Value.ref b] : List Value).toArray 8) := by
      rw [hh0]
      exact rx_whole hlaw l hfl hbd (name_of_methodNamed B.named B.method).1 ⟨B.exec, B.bytes, B.returns, hml, hown, hts, hX, hbl, B.notSynchronized, hgv⟩
    obtain ⟨t, a1, o, b1, b2, b3⟩ := K s₁ rfl X₀
    exact ⟨t, o, a1, b1, b2, b3⟩
theorem lw_pre_spec {args : Array Value} {s : State} (h : (Jvm.Cond.and given_1 narrow_1).before args s = true) (hr : rest_1_c.before args s = true) : ∃ (b : Addr) (xs : List Int32), lw_P b xs args s := by
  have hs := flat_of_before _ h
  have hq := flat_of_before _ hr
  have hc : (Cond.count 1).before args s = true := hs _ (by decide +kernel)
  have harr : (Cond.arrayOf (.arg 0) .int).before args s = true := hs _ (by decide +kernel)
  have hle : (Cond.le (.length (.arg 0)) (.int 5120)).before args s = true := hs _ (by decide +kernel)
  have hlen : (Cond.isInt (.length (.arg 0))).before args s = true := hq _ (by decide +kernel)
  have hall : (Cond.all (.arg 0) (.isInt (.elem (.arg 0) (.index 0)))).before args s = true := hq _ (by decide +kernel)
  obtain ⟨b, xs, hb, hx⟩ := State.ints_of_pre rfl harr hlen hall
  have hsm : xs.length < 2 ^ 31 := hx.choose_spec.2.2.2
  have hev : (Term.length (.arg 0)).eval args s none [] s = some (.int xs.length.toInt32) := hx.length_eval hb
  have hv := Cond.le_ints hev (show (Term.int 5120).eval args s none [] s = some (.int 5120) from rfl)
  have hd : xs.length.toInt32 ≤ 5120 := by
    simpa [Cond.before, Cond.holds, hv] using hle
  have hN : xs.length ≤ 5120 := (Int32.ofNat_le_ofNat hsm (by decide)).mp (show Int32.ofNat xs.length ≤ Int32.ofNat 5120 from hd)
  exact ⟨b, xs, Cond.one_arg hc (show args[0]? = some (.ref b) from hb), hx, hN, h⟩
theorem lw_comes (hlaw : rx_Law) (l : Launch) (hfl : l.stackTraces = false) : Comes l x (Jvm.Cond.code x code maxLocals ret :: tables_1) room_1 (fun tb e args s => Calls_1 tb e args s ∧ rest_1 tb e args s ∧ Pre_1 tb e args s)
    (fun _ _ args s o t => lw_Q args s o t) := by
  intro p e ha hc hk s m args below hf hfit hheap happ hpre
  obtain ⟨b, xs, hP⟩ := lw_pre_spec hpre.2.2 hpre.2.1
  obtain ⟨k, o, h1, h2, h3, hQ⟩ := lw_walk hlaw l hfl b xs p e ha hc hk s m args below hf ((Spec.applies_iff_loose hf).mp happ).1 hP trivial
  exact ⟨k, o, h1, h2, h3, hQ⟩
theorem lw_frame {s t : State} {o : Outcome} {args : Array Value} (h : Framed s o t [] 601024 7293034) :
    Framed s o t (fieldLocs frame_1_writes args s ++ arrayLocs frame_1_arrays args s ++ staticLocs frame_1_statics s) 601024 7293034 := h
theorem lw_limb (hlaw : rx_Law) (L : Cond) (hL : ∀ (args : Array Value) (s t : State), L.after args s (.returned (some (.int 1))) t = true) :
    ArmFor flags0 classFile x code maxLocals ret World_1 tables_1 room_1 Calls_1 rest_1 Pre_1
      (fun tb e a s o t => postC L tb e a s o t ∧ Framed s o t (fieldLocs frame_1_writes a s ++ arrayLocs frame_1_arrays a s ++ staticLocs frame_1_statics s) 601024 7293034) := by
  intro l hl0 _ _ p e ha hc hk s m args below hf hfit hheap happ hpre
  have hfl : l.stackTraces = false := by unfold Launch.stackTraces; rw [hl0]; decide +kernel
  obtain ⟨k, o, h1, h2, h3, rfl, hF⟩ := lw_comes hlaw l hfl p e ha hc hk s m args below hf hfit hheap happ hpre
  exact ⟨k, _, h1, h2, h3, hL args s _, lw_frame hF⟩
end
section
/-- the kinds of the cells that the constructors make: 0 .. 51 the class, 52 .. 100 the model, 101 the law's own row -/
def gk_Kl : List (Nat × Nat) := [(10, 12), (4, 3), (12, 200), (15, 200), (7, 13), (3, 2), (17, 16), (9, 1), (14, 1024), (5, 3), (14, 240), (1, 6), (18, 10), (6, 15), (14, 24), (14, 1024), (6, 15), (14, 24), (14, 1024), (6, 15), (14, 24), (14, 1024), (6, 15), (14, 24), (14, 1024), (6, 15), (14, 24), (14, 1024), (6, 15), (14, 24), (14, 1024), (6, 15), (14, 24), (14, 1024), (6, 15), (14, 24), (14, 1024), (6, 15), (14, 24), (14, 1024), (6, 15), (14, 24), (14, 1024), (19, 10), (16, 40), (0, 7), (14, 1024), (14, 0), (14, 0), (13, 7), (14, 7), (14, 10), (11, 65), (13, 3200), (13, 16), (13, 200), (15, 200), (13, 10), (13, 10), (14, 10), (14, 10), (13, 10), (13, 10), (13, 10), (13, 40), (13, 40), (13, 40), (13, 40), (13, 40), (13, 40), (15, 40), (14, 24320), (13, 400), (13, 400), (14, 400), (13, 2400), (14, 2400), (14, 2400), (13, 2400), (13, 7), (15, 280), (14, 10), (14, 608), (14, 6688), (13, 11), (13, 11), (13, 11), (13, 11), (14, 11), (13, 11), (13, 11), (14, 11), (14, 11), (15, 11), (15, 11), (14, 264), (13, 11), (13, 2100), (14, 2100), (14, 2100), (14, 1024), (14, 1)]
/-- their references that never change -/
def gk_Rl : List (List (Option Nat)) := [[some 1, some 4, some 43, none, some 44, none, some 49, some 50, some 51], [some 2, some 3], [], [], [some 5, some 7, some 9, some 11, some 12], [some 6], [], [some 8], [], [some 10], [], [], [some 13, some 16, some 19, some 22, some 25, some 28, some 31, some 34, some 37, some 40], [some 14, some 15], [], [], [some 17, some 18], [], [], [some 20, some 21], [], [], [some 23, some 24], [], [], [some 26, some 27], [], [], [some 29, some 30], [], [], [some 32, some 33], [], [], [some 35, some 36], [], [], [some 38, some 39], [], [], [some 41, some 42], [], [], [], [], [], [], [], [], [], [], [], [none, some 53, some 54, none, some 55, none, some 56, none, some 57, some 58, some 59, some 60, some 61, some 62, some 63, none, some 64, some 65, some 66, some 67, some 68, some 69, some 70, some 71, some 72, some 73, some 74, some 75, some 76, some 77, some 78, some 79, some 80, some 81, some 82, some 83, some 84, some 85, some 86, some 87, some 88, some 89, some 90, some 91, some 92, some 93, some 94, some 95, some 96, none, none, none, none, some 97, some 98, some 99, none, none, none, none, none, none, none, none, some 100], [], [], [], [], [], [], [], [], [], [], [], [], [], [], [], [], [], [], [], [], [], [], [], [], [], [], [], [], [], [], [], [], [], [], [], [], [], [], [], [], [], [], [], [], [], [], [], [], []]
def gk_K (a : Nat) : Nat × Nat := gk_Kl.getD a (20, 0)
def gk_R (a k : Nat) : Option Nat := (gk_Rl.getD a []).getD k none
def gk_m (a : Nat) : Bool := Nat.ble 52 a && Nat.blt a 101
def gk_f (a : Nat) : Bool := Nat.blt a 102
/-- the model's part: ints and longs of its cells -/
abbrev gs_T : Type := (Nat → Nat → Int32) × (Nat → Nat → Int64)
/-- the memory once all is made: the class's part C (and what came later), the model's part S -/
def gl (C : rx_M) (S : gs_T) : rx_M := (fun a => bif gk_m a then S.1 a else C.1 a, fun a => bif gk_m a then S.2 a else C.2.1 a, fun a k => (gk_R a k).elim (C.2.2.1 a k) some, fun a => bif gk_f a then gk_K a else C.2.2.2.1 a, 102 + C.2.2.2.2)
theorem gl_n {C : rx_M} {S : gs_T} {a : Nat} (h : gk_f a = true) : a < (gl C S).2.2.2.2 := by
  have : a < 102 := by simpa [gk_f] using h
  show a < 102 + C.2.2.2.2
  omega
theorem gl_k {C : rx_M} {S : gs_T} {a : Nat} (h : gk_f a = true) {q : Nat × Nat} (hq : gk_K a = q) : (gl C S).2.2.2.1 a = q := by
  show (bif gk_f a then gk_K a else C.2.2.2.1 a) = q
  rw [h, hq]; rfl
theorem gl_r {C : rx_M} {S : gs_T} {a k r : Nat} (h : gk_R a k = some r) : (gl C S).2.2.1 a k = some r := by
  show (gk_R a k).elim (C.2.2.1 a k) some = some r
  rw [h]; rfl
theorem gl_IM {C : rx_M} {S : gs_T} {a : Nat} (h : gk_m a = true) : (gl C S).1 a = S.1 a := by
  show (bif gk_m a then S.1 a else C.1 a) = S.1 a
  rw [h]; rfl
theorem gl_LM {C : rx_M} {S : gs_T} {a : Nat} (h : gk_m a = true) : (gl C S).2.1 a = S.2 a := by
  show (bif gk_m a then S.2 a else C.2.1 a) = S.2 a
  rw [h]; rfl
theorem gl_IC {C : rx_M} {S : gs_T} {a : Nat} (h : gk_m a = false) : (gl C S).1 a = C.1 a := by
  show (bif gk_m a then S.1 a else C.1 a) = C.1 a
  rw [h]; rfl
theorem gl_LC {C : rx_M} {S : gs_T} {a : Nat} (h : gk_m a = false) : (gl C S).2.1 a = C.2.1 a := by
  show (bif gk_m a then S.2 a else C.2.1 a) = C.2.1 a
  rw [h]; rfl
theorem gl_uIM {C : rx_M} {S : gs_T} {a : Nat} (h : gk_m a = true) (j : Nat) (x : Int32) : (rx_u (gl C S).1 a j x, (gl C S).2) = gl C (rx_u S.1 a j x, S.2) := by
  refine Prod.ext (funext fun b => ?_) rfl
  show rx_u (gl C S).1 a j x b = (bif gk_m b then rx_u S.1 a j x b else C.1 b)
  by_cases hb : b = a
  · subst hb
    rw [h, rx_u_self, gl_IM h]
    show _ = rx_u S.1 b j x b
    rw [rx_u_self]
  · rw [rx_u_ne _ _ _ hb, rx_u_ne _ _ _ hb]; rfl
theorem gl_uLM {C : rx_M} {S : gs_T} {a : Nat} (h : gk_m a = true) (j : Nat) (x : Int64) : ((gl C S).1, rx_u (gl C S).2.1 a j x, (gl C S).2.2) = gl C (S.1, rx_u S.2 a j x) := by
  refine Prod.ext rfl (Prod.ext (funext fun b => ?_) rfl)
  show rx_u (gl C S).2.1 a j x b = (bif gk_m b then rx_u S.2 a j x b else C.2.1 b)
  by_cases hb : b = a
  · subst hb
    rw [h, rx_u_self, gl_LM h]
    show _ = rx_u S.2 b j x b
    rw [rx_u_self]
  · rw [rx_u_ne _ _ _ hb, rx_u_ne _ _ _ hb]; rfl
theorem gl_uIC {C : rx_M} {S : gs_T} {a : Nat} (h : gk_m a = false) (j : Nat) (x : Int32) : (rx_u (gl C S).1 a j x, (gl C S).2) = gl (rx_u C.1 a j x, C.2) S := by
  refine Prod.ext (funext fun b => ?_) rfl
  show rx_u (gl C S).1 a j x b = (bif gk_m b then S.1 b else rx_u C.1 a j x b)
  by_cases hb : b = a
  · subst hb
    rw [h, rx_u_self, gl_IC h]
    show _ = rx_u C.1 b j x b
    rw [rx_u_self]
  · rw [rx_u_ne _ _ _ hb, rx_u_ne _ _ _ hb]; rfl
theorem gl_uLC {C : rx_M} {S : gs_T} {a : Nat} (h : gk_m a = false) (j : Nat) (x : Int64) : ((gl C S).1, rx_u (gl C S).2.1 a j x, (gl C S).2.2) = gl (C.1, rx_u C.2.1 a j x, C.2.2) S := by
  refine Prod.ext rfl (Prod.ext (funext fun b => ?_) rfl)
  show rx_u (gl C S).2.1 a j x b = (bif gk_m b then S.2 b else rx_u C.2.1 a j x b)
  by_cases hb : b = a
  · subst hb
    rw [h, rx_u_self, gl_LC h]
    show _ = rx_u C.2.1 b j x b
    rw [rx_u_self]
  · rw [rx_u_ne _ _ _ hb, rx_u_ne _ _ _ hb]; rfl
section GL
variable {G : rx_E} {M : rx_Me} {d pc mc ms : Nat} {lv : List (Nat × Value)} {st : List Value} {C : rx_M} {S : gs_T} {Q : Option Value → rx_M → Prop} {Z : String → rx_M → Prop}
theorem gm_getI {a idx ci k : Nat} {ty : FieldType} (hG : rx_OK G) (hF : rx_Fd M.1.cls idx ci k ty) (ht : rx_tc ty = 0) (hd : decode M.2.1 pc = .ok (.getfield idx, 3)) (hm : gk_m a = true) (hf : gk_f a = true) (hk : (gk_K a).1 = ci) (kk : rx_W G M d (pc + 3) lv (.int (S.1 a k) :: st) (gl C S) mc ms Q Z) : rx_W G M d pc lv (.ref a :: st) (gl C S) mc ms Q Z :=
  rx_getI hG hF ht hd (gl_n hf) ((congrArg Prod.fst (gl_k hf rfl)).trans hk) (by rw [gl_IM hm]; exact kk)
theorem gm_getL {a idx ci k : Nat} {ty : FieldType} (hG : rx_OK G) (hF : rx_Fd M.1.cls idx ci k ty) (ht : rx_tc ty = 1) (hd : decode M.2.1 pc = .ok (.getfield idx, 3)) (hm : gk_m a = true) (hf : gk_f a = true) (hk : (gk_K a).1 = ci) (kk : rx_W G M d (pc + 3) lv (.long (S.2 a k) :: st) (gl C S) mc ms Q Z) : rx_W G M d pc lv (.ref a :: st) (gl C S) mc ms Q Z :=
  rx_getL hG hF ht hd (gl_n hf) ((congrArg Prod.fst (gl_k hf rfl)).trans hk) (by rw [gl_LM hm]; exact kk)
theorem gm_putI {a idx ci k : Nat} {ty : FieldType} {x : Int32} (hG : rx_OK G) (hF : rx_Fd M.1.cls idx ci k ty) (hw : rx_Wr M idx ci k) (ht : rx_tc ty = 0) (hd : decode M.2.1 pc = .ok (.putfield idx, 3)) (hm : gk_m a = true) (hf : gk_f a = true) (hk : (gk_K a).1 = ci) (hv : narrow ty (.int x) = .int x) (hq : fits ty (.int x) = true) (kk : rx_W G M d (pc + 3) lv st (gl C (rx_u S.1 a k x, S.2)) mc ms Q Z) : rx_W G M d pc lv (.int x :: .ref a :: st) (gl C S) mc ms Q Z :=
  rx_putI hG hF hw ht hd (gl_n hf) ((congrArg Prod.fst (gl_k hf rfl)).trans hk) hv hq (by rw [gl_uIM hm]; exact kk)
theorem gm_putL {a idx ci k : Nat} {x : Int64} (hG : rx_OK G) (hF : rx_Fd M.1.cls idx ci k .long) (hw : rx_Wr M idx ci k) (hd : decode M.2.1 pc = .ok (.putfield idx, 3)) (hm : gk_m a = true) (hf : gk_f a = true) (hk : (gk_K a).1 = ci) (kk : rx_W G M d (pc + 3) lv st (gl C (S.1, rx_u S.2 a k x)) mc ms Q Z) : rx_W G M d pc lv (.long x :: .ref a :: st) (gl C S) mc ms Q Z :=
  rx_putL hG hF hw hd (gl_n hf) ((congrArg Prod.fst (gl_k hf rfl)).trans hk) (by rw [gl_uLM hm]; exact kk)
theorem gm_iald {a j n : Nat} {i : Int32} (hG : rx_OK G) (hd : decode M.2.1 pc = .ok (.iaload, 1)) (hm : gk_m a = true) (hf : gk_f a = true) (hk : gk_K a = (13, n)) (hi : i = nI j) (hj : j < n) (hN : n < 2147483648) (kk : rx_W G M d (pc + 1) lv (.int (S.1 a j) :: st) (gl C S) mc ms Q Z) : rx_W G M d pc lv (.int i :: .ref a :: st) (gl C S) mc ms Q Z :=
  rx_iald hG hd (gl_n hf) (gl_k hf hk) hi hj hN (by rw [gl_IM hm]; exact kk)
theorem gm_bald {a j n : Nat} {i : Int32} (hG : rx_OK G) (hd : decode M.2.1 pc = .ok (.baload, 1)) (hm : gk_m a = true) (hf : gk_f a = true) (hk : gk_K a = (12, n)) (hi : i = nI j) (hj : j < n) (hN : n < 2147483648) (kk : rx_W G M d (pc + 1) lv (.int (S.1 a j) :: st) (gl C S) mc ms Q Z) : rx_W G M d pc lv (.int i :: .ref a :: st) (gl C S) mc ms Q Z :=
  rx_bald hG hd (gl_n hf) (gl_k hf hk) hi hj hN (by rw [gl_IM hm]; exact kk)
theorem gm_zald {a j n : Nat} {i : Int32} (hG : rx_OK G) (hd : decode M.2.1 pc = .ok (.baload, 1)) (hm : gk_m a = true) (hf : gk_f a = true) (hk : gk_K a = (15, n)) (hi : i = nI j) (hj : j < n) (hN : n < 2147483648) (kk : rx_W G M d (pc + 1) lv (.int (S.1 a j) :: st) (gl C S) mc ms Q Z) : rx_W G M d pc lv (.int i :: .ref a :: st) (gl C S) mc ms Q Z :=
  rx_zald hG hd (gl_n hf) (gl_k hf hk) hi hj hN (by rw [gl_IM hm]; exact kk)
theorem gm_lald {a j n : Nat} {i : Int32} (hG : rx_OK G) (hd : decode M.2.1 pc = .ok (.laload, 1)) (hm : gk_m a = true) (hf : gk_f a = true) (hk : gk_K a = (14, n)) (hi : i = nI j) (hj : j < n) (hN : n < 2147483648) (kk : rx_W G M d (pc + 1) lv (.long (S.2 a j) :: st) (gl C S) mc ms Q Z) : rx_W G M d pc lv (.int i :: .ref a :: st) (gl C S) mc ms Q Z :=
  rx_lald hG hd (gl_n hf) (gl_k hf hk) hi hj hN (by rw [gl_LM hm]; exact kk)
theorem gm_last {a j n : Nat} {i : Int32} {x : Int64} (hG : rx_OK G) (hd : decode M.2.1 pc = .ok (.lastore, 1)) (hm : gk_m a = true) (hf : gk_f a = true) (hk : gk_K a = (14, n)) (hi : i = nI j) (hj : j < n) (hN : n < 2147483648) (kk : rx_W G M d (pc + 1) lv st (gl C (S.1, rx_u S.2 a j x)) mc ms Q Z) : rx_W G M d pc lv (.long x :: .int i :: .ref a :: st) (gl C S) mc ms Q Z :=
  rx_last hG hd (gl_n hf) (gl_k hf hk) hi hj hN (by rw [gl_uLM hm]; exact kk)
theorem gm_iast {a j n : Nat} {i x : Int32} (hG : rx_OK G) (hd : decode M.2.1 pc = .ok (.iastore, 1)) (hm : gk_m a = true) (hf : gk_f a = true) (hk : gk_K a = (13, n)) (hi : i = nI j) (hj : j < n) (hN : n < 2147483648) (kk : rx_W G M d (pc + 1) lv st (gl C (rx_u S.1 a j x, S.2)) mc ms Q Z) : rx_W G M d pc lv (.int x :: .int i :: .ref a :: st) (gl C S) mc ms Q Z :=
  rx_iast hG hd (gl_n hf) (gl_k hf hk) hi hj hN (by rw [gl_uIM hm]; exact kk)
theorem gm_bast {a j n : Nat} {i x : Int32} (hG : rx_OK G) (hd : decode M.2.1 pc = .ok (.bastore, 1)) (hm : gk_m a = true) (hf : gk_f a = true) (hk : gk_K a = (12, n)) (hi : i = nI j) (hj : j < n) (hN : n < 2147483648) (kk : rx_W G M d (pc + 1) lv st (gl C (rx_u S.1 a j x.toInt8.toInt32, S.2)) mc ms Q Z) : rx_W G M d pc lv (.int x :: .int i :: .ref a :: st) (gl C S) mc ms Q Z :=
  rx_bast hG hd (gl_n hf) (gl_k hf hk) hi hj hN (by rw [gl_uIM hm]; exact kk)
theorem gm_zast {a j n : Nat} {i x : Int32} (hG : rx_OK G) (hd : decode M.2.1 pc = .ok (.bastore, 1)) (hm : gk_m a = true) (hf : gk_f a = true) (hk : gk_K a = (15, n)) (hi : i = nI j) (hj : j < n) (hN : n < 2147483648) (hx : narrow .boolean (.int x) = .int x) (kk : rx_W G M d (pc + 1) lv st (gl C (rx_u S.1 a j x, S.2)) mc ms Q Z) : rx_W G M d pc lv (.int x :: .int i :: .ref a :: st) (gl C S) mc ms Q Z :=
  rx_zast hG hd (gl_n hf) (gl_k hf hk) hi hj hN hx (by rw [gl_uIM hm]; exact kk)
theorem gc_getI {a idx ci k : Nat} {ty : FieldType} (hG : rx_OK G) (hF : rx_Fd M.1.cls idx ci k ty) (ht : rx_tc ty = 0) (hd : decode M.2.1 pc = .ok (.getfield idx, 3)) (hm : gk_m a = false) (hf : gk_f a = true) (hk : (gk_K a).1 = ci) (kk : rx_W G M d (pc + 3) lv (.int (C.1 a k) :: st) (gl C S) mc ms Q Z) : rx_W G M d pc lv (.ref a :: st) (gl C S) mc ms Q Z :=
  rx_getI hG hF ht hd (gl_n hf) ((congrArg Prod.fst (gl_k hf rfl)).trans hk) (by rw [gl_IC hm]; exact kk)
theorem gc_getL {a idx ci k : Nat} {ty : FieldType} (hG : rx_OK G) (hF : rx_Fd M.1.cls idx ci k ty) (ht : rx_tc ty = 1) (hd : decode M.2.1 pc = .ok (.getfield idx, 3)) (hm : gk_m a = false) (hf : gk_f a = true) (hk : (gk_K a).1 = ci) (kk : rx_W G M d (pc + 3) lv (.long (C.2.1 a k) :: st) (gl C S) mc ms Q Z) : rx_W G M d pc lv (.ref a :: st) (gl C S) mc ms Q Z :=
  rx_getL hG hF ht hd (gl_n hf) ((congrArg Prod.fst (gl_k hf rfl)).trans hk) (by rw [gl_LC hm]; exact kk)
theorem gc_putI {a idx ci k : Nat} {ty : FieldType} {x : Int32} (hG : rx_OK G) (hF : rx_Fd M.1.cls idx ci k ty) (hw : rx_Wr M idx ci k) (ht : rx_tc ty = 0) (hd : decode M.2.1 pc = .ok (.putfield idx, 3)) (hm : gk_m a = false) (hf : gk_f a = true) (hk : (gk_K a).1 = ci) (hv : narrow ty (.int x) = .int x) (hq : fits ty (.int x) = true) (kk : rx_W G M d (pc + 3) lv st (gl (rx_u C.1 a k x, C.2) S) mc ms Q Z) : rx_W G M d pc lv (.int x :: .ref a :: st) (gl C S) mc ms Q Z :=
  rx_putI hG hF hw ht hd (gl_n hf) ((congrArg Prod.fst (gl_k hf rfl)).trans hk) hv hq (by rw [gl_uIC hm]; exact kk)
theorem gc_putL {a idx ci k : Nat} {x : Int64} (hG : rx_OK G) (hF : rx_Fd M.1.cls idx ci k .long) (hw : rx_Wr M idx ci k) (hd : decode M.2.1 pc = .ok (.putfield idx, 3)) (hm : gk_m a = false) (hf : gk_f a = true) (hk : (gk_K a).1 = ci) (kk : rx_W G M d (pc + 3) lv st (gl (C.1, rx_u C.2.1 a k x, C.2.2) S) mc ms Q Z) : rx_W G M d pc lv (.long x :: .ref a :: st) (gl C S) mc ms Q Z :=
  rx_putL hG hF hw hd (gl_n hf) ((congrArg Prod.fst (gl_k hf rfl)).trans hk) (by rw [gl_uLC hm]; exact kk)
theorem gc_iald {a j n : Nat} {i : Int32} (hG : rx_OK G) (hd : decode M.2.1 pc = .ok (.iaload, 1)) (hm : gk_m a = false) (hf : gk_f a = true) (hk : gk_K a = (13, n)) (hi : i = nI j) (hj : j < n) (hN : n < 2147483648) (kk : rx_W G M d (pc + 1) lv (.int (C.1 a j) :: st) (gl C S) mc ms Q Z) : rx_W G M d pc lv (.int i :: .ref a :: st) (gl C S) mc ms Q Z :=
  rx_iald hG hd (gl_n hf) (gl_k hf hk) hi hj hN (by rw [gl_IC hm]; exact kk)
theorem gc_bald {a j n : Nat} {i : Int32} (hG : rx_OK G) (hd : decode M.2.1 pc = .ok (.baload, 1)) (hm : gk_m a = false) (hf : gk_f a = true) (hk : gk_K a = (12, n)) (hi : i = nI j) (hj : j < n) (hN : n < 2147483648) (kk : rx_W G M d (pc + 1) lv (.int (C.1 a j) :: st) (gl C S) mc ms Q Z) : rx_W G M d pc lv (.int i :: .ref a :: st) (gl C S) mc ms Q Z :=
  rx_bald hG hd (gl_n hf) (gl_k hf hk) hi hj hN (by rw [gl_IC hm]; exact kk)
theorem gc_zald {a j n : Nat} {i : Int32} (hG : rx_OK G) (hd : decode M.2.1 pc = .ok (.baload, 1)) (hm : gk_m a = false) (hf : gk_f a = true) (hk : gk_K a = (15, n)) (hi : i = nI j) (hj : j < n) (hN : n < 2147483648) (kk : rx_W G M d (pc + 1) lv (.int (C.1 a j) :: st) (gl C S) mc ms Q Z) : rx_W G M d pc lv (.int i :: .ref a :: st) (gl C S) mc ms Q Z :=
  rx_zald hG hd (gl_n hf) (gl_k hf hk) hi hj hN (by rw [gl_IC hm]; exact kk)
theorem gc_lald {a j n : Nat} {i : Int32} (hG : rx_OK G) (hd : decode M.2.1 pc = .ok (.laload, 1)) (hm : gk_m a = false) (hf : gk_f a = true) (hk : gk_K a = (14, n)) (hi : i = nI j) (hj : j < n) (hN : n < 2147483648) (kk : rx_W G M d (pc + 1) lv (.long (C.2.1 a j) :: st) (gl C S) mc ms Q Z) : rx_W G M d pc lv (.int i :: .ref a :: st) (gl C S) mc ms Q Z :=
  rx_lald hG hd (gl_n hf) (gl_k hf hk) hi hj hN (by rw [gl_LC hm]; exact kk)
theorem gc_last {a j n : Nat} {i : Int32} {x : Int64} (hG : rx_OK G) (hd : decode M.2.1 pc = .ok (.lastore, 1)) (hm : gk_m a = false) (hf : gk_f a = true) (hk : gk_K a = (14, n)) (hi : i = nI j) (hj : j < n) (hN : n < 2147483648) (kk : rx_W G M d (pc + 1) lv st (gl (C.1, rx_u C.2.1 a j x, C.2.2) S) mc ms Q Z) : rx_W G M d pc lv (.long x :: .int i :: .ref a :: st) (gl C S) mc ms Q Z :=
  rx_last hG hd (gl_n hf) (gl_k hf hk) hi hj hN (by rw [gl_uLC hm]; exact kk)
theorem gc_iast {a j n : Nat} {i x : Int32} (hG : rx_OK G) (hd : decode M.2.1 pc = .ok (.iastore, 1)) (hm : gk_m a = false) (hf : gk_f a = true) (hk : gk_K a = (13, n)) (hi : i = nI j) (hj : j < n) (hN : n < 2147483648) (kk : rx_W G M d (pc + 1) lv st (gl (rx_u C.1 a j x, C.2) S) mc ms Q Z) : rx_W G M d pc lv (.int x :: .int i :: .ref a :: st) (gl C S) mc ms Q Z :=
  rx_iast hG hd (gl_n hf) (gl_k hf hk) hi hj hN (by rw [gl_uIC hm]; exact kk)
theorem gc_bast {a j n : Nat} {i x : Int32} (hG : rx_OK G) (hd : decode M.2.1 pc = .ok (.bastore, 1)) (hm : gk_m a = false) (hf : gk_f a = true) (hk : gk_K a = (12, n)) (hi : i = nI j) (hj : j < n) (hN : n < 2147483648) (kk : rx_W G M d (pc + 1) lv st (gl (rx_u C.1 a j x.toInt8.toInt32, C.2) S) mc ms Q Z) : rx_W G M d pc lv (.int x :: .int i :: .ref a :: st) (gl C S) mc ms Q Z :=
  rx_bast hG hd (gl_n hf) (gl_k hf hk) hi hj hN (by rw [gl_uIC hm]; exact kk)
theorem gc_zast {a j n : Nat} {i x : Int32} (hG : rx_OK G) (hd : decode M.2.1 pc = .ok (.bastore, 1)) (hm : gk_m a = false) (hf : gk_f a = true) (hk : gk_K a = (15, n)) (hi : i = nI j) (hj : j < n) (hN : n < 2147483648) (hx : narrow .boolean (.int x) = .int x) (kk : rx_W G M d (pc + 1) lv st (gl (rx_u C.1 a j x, C.2) S) mc ms Q Z) : rx_W G M d pc lv (.int x :: .int i :: .ref a :: st) (gl C S) mc ms Q Z :=
  rx_zast hG hd (gl_n hf) (gl_k hf hk) hi hj hN hx (by rw [gl_uIC hm]; exact kk)
theorem g_getR {a idx ci k r : Nat} {ty : FieldType} (hG : rx_OK G) (hF : rx_Fd M.1.cls idx ci k ty) (ht : rx_tc ty = 2) (hd : decode M.2.1 pc = .ok (.getfield idx, 3)) (hf : gk_f a = true) (hk : (gk_K a).1 = ci) (hr : gk_R a k = some r) (kk : rx_W G M d (pc + 3) lv (.ref r :: st) (gl C S) mc ms Q Z) : rx_W G M d pc lv (.ref a :: st) (gl C S) mc ms Q Z :=
  rx_getR hG hF ht hd (gl_n hf) ((congrArg Prod.fst (gl_k hf rfl)).trans hk) (gl_r hr) kk
end GL
/-- a field that isn't final -/
theorem gw_nf {M : rx_Me} {idx ci k : Nat} {C0 : String} {T0 : u_T} {N0 : Nat} (hc : vwCl[ci]? = some (C0, T0, N0)) (h : (T0 k).2.2.2 = false) : rx_Wr M idx ci k := fun C T N hCl => by
  have := hCl.2.1.symm.trans hc
  cases this
  exact Or.inl h
end
section
theorem rx_ru {α : Type} (f : Nat → Nat → α) (a i : Nat) (x : α) (b j : Nat) : rx_u f a i x b j = if b = a then (if j = i then x else f b j) else f b j := by
  unfold rx_u
  by_cases h : b = a
  · subst h; simp
  · simp [h]
section GV
variable {G : rx_E} {M : rx_Me} {d pc mc ms : Nat} {lv : List (Nat × Value)} {st : List Value} {C : rx_M} {S : gs_T} {mu : rx_M} {Q : Option Value → rx_M → Prop} {Z : String → rx_M → Prop}
theorem gmv_getI {a idx ci k : Nat} {ty : FieldType} {v : Int32} (hG : rx_OK G) (hF : rx_Fd M.1.cls idx ci k ty) (ht : rx_tc ty = 0) (hd : decode M.2.1 pc = .ok (.getfield idx, 3)) (hm : gk_m a = true) (hf : gk_f a = true) (hk : (gk_K a).1 = ci) (hv : S.1 a k = v) (kk : rx_W G M d (pc + 3) lv (.int v :: st) (gl C S) mc ms Q Z) : rx_W G M d pc lv (.ref a :: st) (gl C S) mc ms Q Z := gm_getI hG hF ht hd hm hf hk (by rw [hv]; exact kk)
theorem gmv_getL {a idx ci k : Nat} {ty : FieldType} {v : Int64} (hG : rx_OK G) (hF : rx_Fd M.1.cls idx ci k ty) (ht : rx_tc ty = 1) (hd : decode M.2.1 pc = .ok (.getfield idx, 3)) (hm : gk_m a = true) (hf : gk_f a = true) (hk : (gk_K a).1 = ci) (hv : S.2 a k = v) (kk : rx_W G M d (pc + 3) lv (.long v :: st) (gl C S) mc ms Q Z) : rx_W G M d pc lv (.ref a :: st) (gl C S) mc ms Q Z := gm_getL hG hF ht hd hm hf hk (by rw [hv]; exact kk)
theorem gmv_iald {a j n : Nat} {i : Int32} {v : Int32} (hG : rx_OK G) (hd : decode M.2.1 pc = .ok (.iaload, 1)) (hm : gk_m a = true) (hf : gk_f a = true) (hk : gk_K a = (13, n)) (hi : i = nI j) (hj : j < n) (hN : n < 2147483648) (hv : S.1 a j = v) (kk : rx_W G M d (pc + 1) lv (.int v :: st) (gl C S) mc ms Q Z) : rx_W G M d pc lv (.int i :: .ref a :: st) (gl C S) mc ms Q Z := gm_iald hG hd hm hf hk hi hj hN (by rw [hv]; exact kk)
theorem gmv_bald {a j n : Nat} {i : Int32} {v : Int32} (hG : rx_OK G) (hd : decode M.2.1 pc = .ok (.baload, 1)) (hm : gk_m a = true) (hf : gk_f a = true) (hk : gk_K a = (12, n)) (hi : i = nI j) (hj : j < n) (hN : n < 2147483648) (hv : S.1 a j = v) (kk : rx_W G M d (pc + 1) lv (.int v :: st) (gl C S) mc ms Q Z) : rx_W G M d pc lv (.int i :: .ref a :: st) (gl C S) mc ms Q Z := gm_bald hG hd hm hf hk hi hj hN (by rw [hv]; exact kk)
theorem gmv_zald {a j n : Nat} {i : Int32} {v : Int32} (hG : rx_OK G) (hd : decode M.2.1 pc = .ok (.baload, 1)) (hm : gk_m a = true) (hf : gk_f a = true) (hk : gk_K a = (15, n)) (hi : i = nI j) (hj : j < n) (hN : n < 2147483648) (hv : S.1 a j = v) (kk : rx_W G M d (pc + 1) lv (.int v :: st) (gl C S) mc ms Q Z) : rx_W G M d pc lv (.int i :: .ref a :: st) (gl C S) mc ms Q Z := gm_zald hG hd hm hf hk hi hj hN (by rw [hv]; exact kk)
theorem gmv_lald {a j n : Nat} {i : Int32} {v : Int64} (hG : rx_OK G) (hd : decode M.2.1 pc = .ok (.laload, 1)) (hm : gk_m a = true) (hf : gk_f a = true) (hk : gk_K a = (14, n)) (hi : i = nI j) (hj : j < n) (hN : n < 2147483648) (hv : S.2 a j = v) (kk : rx_W G M d (pc + 1) lv (.long v :: st) (gl C S) mc ms Q Z) : rx_W G M d pc lv (.int i :: .ref a :: st) (gl C S) mc ms Q Z := gm_lald hG hd hm hf hk hi hj hN (by rw [hv]; exact kk)
theorem gcv_getI {a idx ci k : Nat} {ty : FieldType} {v : Int32} (hG : rx_OK G) (hF : rx_Fd M.1.cls idx ci k ty) (ht : rx_tc ty = 0) (hd : decode M.2.1 pc = .ok (.getfield idx, 3)) (hm : gk_m a = false) (hf : gk_f a = true) (hk : (gk_K a).1 = ci) (hv : C.1 a k = v) (kk : rx_W G M d (pc + 3) lv (.int v :: st) (gl C S) mc ms Q Z) : rx_W G M d pc lv (.ref a :: st) (gl C S) mc ms Q Z := gc_getI hG hF ht hd hm hf hk (by rw [hv]; exact kk)
theorem gcv_getL {a idx ci k : Nat} {ty : FieldType} {v : Int64} (hG : rx_OK G) (hF : rx_Fd M.1.cls idx ci k ty) (ht : rx_tc ty = 1) (hd : decode M.2.1 pc = .ok (.getfield idx, 3)) (hm : gk_m a = false) (hf : gk_f a = true) (hk : (gk_K a).1 = ci) (hv : C.2.1 a k = v) (kk : rx_W G M d (pc + 3) lv (.long v :: st) (gl C S) mc ms Q Z) : rx_W G M d pc lv (.ref a :: st) (gl C S) mc ms Q Z := gc_getL hG hF ht hd hm hf hk (by rw [hv]; exact kk)
theorem gcv_iald {a j n : Nat} {i : Int32} {v : Int32} (hG : rx_OK G) (hd : decode M.2.1 pc = .ok (.iaload, 1)) (hm : gk_m a = false) (hf : gk_f a = true) (hk : gk_K a = (13, n)) (hi : i = nI j) (hj : j < n) (hN : n < 2147483648) (hv : C.1 a j = v) (kk : rx_W G M d (pc + 1) lv (.int v :: st) (gl C S) mc ms Q Z) : rx_W G M d pc lv (.int i :: .ref a :: st) (gl C S) mc ms Q Z := gc_iald hG hd hm hf hk hi hj hN (by rw [hv]; exact kk)
theorem gcv_bald {a j n : Nat} {i : Int32} {v : Int32} (hG : rx_OK G) (hd : decode M.2.1 pc = .ok (.baload, 1)) (hm : gk_m a = false) (hf : gk_f a = true) (hk : gk_K a = (12, n)) (hi : i = nI j) (hj : j < n) (hN : n < 2147483648) (hv : C.1 a j = v) (kk : rx_W G M d (pc + 1) lv (.int v :: st) (gl C S) mc ms Q Z) : rx_W G M d pc lv (.int i :: .ref a :: st) (gl C S) mc ms Q Z := gc_bald hG hd hm hf hk hi hj hN (by rw [hv]; exact kk)
theorem gcv_zald {a j n : Nat} {i : Int32} {v : Int32} (hG : rx_OK G) (hd : decode M.2.1 pc = .ok (.baload, 1)) (hm : gk_m a = false) (hf : gk_f a = true) (hk : gk_K a = (15, n)) (hi : i = nI j) (hj : j < n) (hN : n < 2147483648) (hv : C.1 a j = v) (kk : rx_W G M d (pc + 1) lv (.int v :: st) (gl C S) mc ms Q Z) : rx_W G M d pc lv (.int i :: .ref a :: st) (gl C S) mc ms Q Z := gc_zald hG hd hm hf hk hi hj hN (by rw [hv]; exact kk)
theorem gcv_lald {a j n : Nat} {i : Int32} {v : Int64} (hG : rx_OK G) (hd : decode M.2.1 pc = .ok (.laload, 1)) (hm : gk_m a = false) (hf : gk_f a = true) (hk : gk_K a = (14, n)) (hi : i = nI j) (hj : j < n) (hN : n < 2147483648) (hv : C.2.1 a j = v) (kk : rx_W G M d (pc + 1) lv (.long v :: st) (gl C S) mc ms Q Z) : rx_W G M d pc lv (.int i :: .ref a :: st) (gl C S) mc ms Q Z := gc_lald hG hd hm hf hk hi hj hN (by rw [hv]; exact kk)
/-- the value on top, by another name -/
theorem rx_ti {x y : Int32} (h : x = y) (k : rx_W G M d pc lv (.int y :: st) mu mc ms Q Z) : rx_W G M d pc lv (.int x :: st) mu mc ms Q Z := by rw [h]; exact k
theorem rx_tl {x y : Int64} (h : x = y) (k : rx_W G M d pc lv (.long y :: st) mu mc ms Q Z) : rx_W G M d pc lv (.long x :: st) mu mc ms Q Z := by rw [h]; exact k
/-- the memory, by another name -/
theorem rx_tm {mu' : rx_M} (h : mu = mu') (k : rx_W G M d pc lv st mu' mc ms Q Z) : rx_W G M d pc lv st mu mc ms Q Z := by rw [h]; exact k
/-- calls that make nothing -/
theorem rx_invS0 {N : rx_Me} {idx n : Nat} {as : List Value} {Q' : Option Value → rx_M → Prop} (hG : rx_OK G) (hN : rx_Me_ok N n) (hL : rx_LkS M.1.cls idx N) (hd : decode M.2.1 pc = .ok (.invokestatic idx, 3)) (hn : as.length = n) (h8 : (st.map fun v => v.category).sum ≤ 8) (hc : rx_C G N d as mu 0 0 Q') (kk : ∀ v mu', Q' v mu' → rx_W G M (d + 1) (pc + 3) lv (v.toList ++ st) mu' mc ms Q Z) : rx_W G M (d + 1) pc lv (as.reverse ++ st) mu mc ms Q Z := by
  have h := rx_invS (mc := mc) (ms := ms) hG hN hL hd hn h8 hc kk
  rwa [Nat.zero_add, Nat.zero_add] at h
theorem rx_invV0 {N : rx_Me} {idx n a ci : Nat} {as : List Value} {Q' : Option Value → rx_M → Prop} (hG : rx_OK G) (hN : rx_Me_ok N n) (hL : rx_LkV M.1.cls idx N ci) (hb : a < mu.2.2.2.2) (hk : (mu.2.2.2.1 a).1 = ci) (hd : decode M.2.1 pc = .ok (.invokevirtual idx, 3)) (hn : as.length = n) (h8 : (st.map fun v => v.category).sum ≤ 8) (hc : rx_C G N d (.ref a :: as) mu 0 0 Q') (kk : ∀ v mu', Q' v mu' → rx_W G M (d + 1) (pc + 3) lv (v.toList ++ st) mu' mc ms Q Z) : rx_W G M (d + 1) pc lv (as.reverse ++ .ref a :: st) mu mc ms Q Z := by
  have h := rx_invV (mc := mc) (ms := ms) hG hN hL hb hk hd hn h8 hc kk
  rwa [Nat.zero_add, Nat.zero_add] at h
/-- a call on a fixed cell -/
theorem gv_invV {N : rx_Me} {idx n a ci : Nat} {as : List Value} {Q' : Option Value → rx_M → Prop} (hG : rx_OK G) (hN : rx_Me_ok N n) (hL : rx_LkV M.1.cls idx N ci) (hf : gk_f a = true) (hk : (gk_K a).1 = ci) (hd : decode M.2.1 pc = .ok (.invokevirtual idx, 3)) (hn : as.length = n) (h8 : (st.map fun v => v.category).sum ≤ 8) (hc : rx_C G N d (.ref a :: as) (gl C S) 0 0 Q') (kk : ∀ v mu', Q' v mu' → rx_W G M (d + 1) (pc + 3) lv (v.toList ++ st) mu' mc ms Q Z) : rx_W G M (d + 1) pc lv (as.reverse ++ .ref a :: st) (gl C S) mc ms Q Z :=
  rx_invV0 hG hN hL (gl_n hf) ((congrArg Prod.fst (gl_k hf rfl)).trans hk) hd hn h8 hc kk
/-- a contract's end, weaker -/
theorem rx_Cm {as : List Value} {Q1 Q2 : Option Value → rx_M → Prop} (h : rx_C G M d as mu mc ms Q1) (hq : ∀ v m, Q1 v m → Q2 v m) : rx_C G M d as mu mc ms Q2 := by
  intro p e h1 h2 h3 s m args below h4 h5 h6 h7
  obtain ⟨k', o, a1, a2, a3, ⟨v, m', b1, b2, b3⟩, a5⟩ := h p e h1 h2 h3 s m args below h4 h5 h6 h7
  exact ⟨k', o, a1, a2, a3, ⟨v, m', b1, hq v m' b2, b3⟩, a5⟩
end GV
end
section
/-! THE MACHINE AS MATHEMATICS: frames as a list, the inmost first; a stack as a list, its top first; a state as a function of 608 places (19 of an account: balance, nonce, code, 16 cells); events newest first. -/
/-- (code, at, gas, self, caller), (value, argument), (look, lock), stack, (the state, the number of events, what was to be given back, as they were) -/
abbrev vf_T : Type := (Nat × Nat × Nat × Nat × Nat) × (Int64 × Int64) × (Bool × Bool) × List Int64 × ((Nat → Int64) × Nat × Nat)
abbrev fC (f : vf_T) : Nat := f.1.1
abbrev fA (f : vf_T) : Nat := f.1.2.1
abbrev fG (f : vf_T) : Nat := f.1.2.2.1
abbrev fS (f : vf_T) : Nat := f.1.2.2.2.1
abbrev fK (f : vf_T) : Nat := f.1.2.2.2.2
abbrev fV (f : vf_T) : Int64 := f.2.1.1
abbrev fR (f : vf_T) : Int64 := f.2.1.2
abbrev fL (f : vf_T) : Bool := f.2.2.1.1
abbrev fO (f : vf_T) : Bool := f.2.2.1.2
abbrev fT (f : vf_T) : List Int64 := f.2.2.2.1
abbrev fB (f : vf_T) : (Nat → Int64) × Nat × Nat := f.2.2.2.2
/-- a frame with another place, gas and stack -/
def vf_set (f : vf_T) (a g : Nat) (t : List Int64) : vf_T := ((fC f, a, g, fS f, fK f), f.2.1, f.2.2.1, t, fB f)
/-- the state, the events, what is to be given back, the frames, how many have run -/
abbrev vx_S : Type := (Nat → Int64) × List (Nat × Int64 × Int64) × Nat × List vf_T × Nat
/-- the codes, how many, the origin, the height -/
abbrev vg_T : Type := (Nat → List Nat) × Nat × Nat × Nat
def up1 (f : Nat → Int64) (k : Nat) (x : Int64) : Nat → Int64 := fun j => if j = k then x else f j
def vm_size (op : Nat) : Nat := if op = 2 then 9 else if op = 1 ∨ op = 4 ∨ op = 5 ∨ op = 19 ∨ op = 20 then 2 else 1
def vm_cost (op : Nat) : Nat := if op = 0 ∨ op = 36 ∨ op = 37 then 0 else if op = 2 ∨ op = 8 ∨ op = 19 ∨ op = 20 then 2 else if op = 9 ∨ op = 10 ∨ op = 39 then 3 else if op = 21 then 10 else if op = 22 ∨ op = 38 then 20 else if op = 30 then 5 else if op = 31 then 30 else if op = 32 then 25 else if op = 33 then 100 else if op = 34 then 40 else if op = 35 then 15 else 1
def vm_takes (op : Nat) : Nat := if (6 ≤ op ∧ op ≤ 17) ∨ op = 22 ∨ op = 33 ∨ op = 35 then 2 else if op = 3 ∨ op = 18 ∨ op = 20 ∨ op = 21 ∨ op = 30 ∨ op = 34 ∨ (36 ≤ op ∧ op ≤ 38) then 1 else if op = 31 then 4 else if op = 32 then 3 else 0
def vm_gives (op : Nat) : Nat := if op = 1 ∨ op = 2 ∨ op = 4 ∨ (6 ≤ op ∧ op ≤ 18) ∨ op = 21 ∨ (23 ≤ op ∧ op ≤ 30) ∨ op = 33 then 1 else if op = 31 ∨ op = 32 then 2 else 0
def vm_bars (op : Nat) : Bool := op = 22 ∨ op = 33 ∨ op = 34 ∨ op = 35 ∨ op = 38
/-- what is told to the frame below, or the whole call's end -/
def vm_tell (X : vx_S) (how : Nat) (v : Int64) (gas : Nat) : vx_S × Option (Nat × Int64 × Nat) := match X.2.2.2.1 with
  | [] => (X, some (how, v, gas))
  | g :: gs => ((X.1, X.2.1, X.2.2.1, vf_set g (fA g) (fG g + gas) ((if how = 1 then 1 else 0) :: v :: fT g) :: gs, X.2.2.2.2), none)
/-- the inmost frame ends -/
def vm_fin (X : vx_S) (how : Nat) (v : Int64) : vx_S × Option (Nat × Int64 × Nat) := match X.2.2.2.1 with
  | [] => (X, none)
  | f :: fs => vm_tell (if how = 1 then (X.1, X.2.1, X.2.2.1, fs, X.2.2.2.2) else ((fB f).1, X.2.1.drop (X.2.1.length - (fB f).2.1), (fB f).2.2, fs, X.2.2.2.2)) how (if how = 3 then 0 else v) (if how = 3 then 0 else fG f)
def vm_acct (x : Int64) : Prop := 0 ≤ x ∧ x < 32
def vm_locked (fs : List vf_T) (x : Int64) : Prop := ∃ f ∈ fs, fO f = true ∧ x = lN (fS f)
/-- a call begins: it fails, ends at once, or a frame comes -/
noncomputable def vm_begin (X : vx_S) (caller : Nat) (to value arg : Int64) (gas : Nat) (look : Bool) : vx_S × Option (Nat × Int64 × Nat) :=
  haveI := Classical.propDecidable
  if ¬ vm_acct to ∨ value < 0 ∨ X.1 (19 * caller) < value ∨ vm_locked X.2.2.2.1 to ∨ X.2.2.2.1.length = 10 then vm_tell X 2 0 gas
  else
    let a := to.toInt.toNat
    let n1 := up1 X.1 (19 * caller) (X.1 (19 * caller) - value)
    let n2 := up1 n1 (19 * a) (n1 (19 * a) + value)
    if n2 (19 * a + 2) = 0 then vm_tell (n2, X.2) 1 0 gas
    else ((n2, X.2.1, X.2.2.1, (((n2 (19 * a + 2)).toInt.toNat - 1, 0, gas, a, caller), (value, arg), (look, false), [], (X.1, X.2.1.length, X.2.2.1)) :: X.2.2.2.1, X.2.2.2.2 + 1), none)
/-- the inmost frame and its state, changed, goes on -/
def vm_on (X : vx_S) (f : vf_T) (fs : List vf_T) : vx_S × Option (Nat × Int64 × Nat) := ((X.1, X.2.1, X.2.2.1, f :: fs, X.2.2.2.2), none)
def vm_st (f : vf_T) (t : List Int64) : vf_T := vf_set f (fA f) (fG f) t
/-- ADD to SAME but DIV, REM -/
def vm_bin (op : Nat) (a b : Int64) : Int64 := match op with
  | 6 => a + b | 7 => a - b | 8 => a * b | 9 => a / b | 10 => a - a / b * b | 11 => a &&& b | 12 => a ||| b | 13 => a ^^^ b | 14 => a <<< (b &&& 63) | 15 => a >>> (b &&& 63)
  | 16 => if a < b then 1 else 0 | _ => if a = b then 1 else 0
def vm_big (c : List Nat) (at_ : Nat) : Nat → Int64
  | 0 => 0
  | n + 1 => (vm_big c at_ n <<< (8 : Int64)) ||| lN (c.getD (at_ + 1 + n) 0)
def vm_empty (now : Nat → Int64) (a : Nat) : Prop := ∀ k, k < 19 → now (19 * a + k) = 0
/-- the least account from a on that can be made -/
noncomputable def vm_free (now : Nat → Int64) (fs : List vf_T) (origin : Nat) : Nat → Nat → Option Nat
  | 0, _ => none
  | n + 1, a => haveI := Classical.propDecidable; if vm_empty now a ∧ a ≠ origin ∧ ∀ f ∈ fs, fS f ≠ a then some a else vm_free now fs origin n (a + 1)
def vm_clear (now : Nat → Int64) (a : Nat) : Nat → Int64 := fun j => if 19 * a + 2 ≤ j ∧ j < 19 * a + 19 then 0 else now j
/-- the end of the inmost frame f over fs -/
def vm_end (X : vx_S) (f : vf_T) (fs : List vf_T) (how : Nat) (v : Int64) : vx_S × Option (Nat × Int64 × Nat) := vm_fin (X.1, X.2.1, X.2.2.1, f :: fs, X.2.2.2.2) how v
def vm_gas (asked : Int64) (g : Nat) : Nat := if asked < 0 then 0 else if asked < lN g then asked.toInt.toNat else g
/-- PUSH to SWAP, and STOP -/
def vm_do1 (c : List Nat) (X : vx_S) (op more : Nat) (f : vf_T) (fs : List vf_T) : vx_S × Option (Nat × Int64 × Nat) :=
  if op = 0 then vm_end X f fs 1 0
  else if op = 1 then vm_on X (vm_st f ((nI more).toInt8.toInt32.toInt64 :: fT f)) fs
  else if op = 2 then vm_on X (vm_st f (vm_big c (fA f - 9) 8 :: fT f)) fs
  else if op = 3 then vm_on X (vm_st f (fT f).tail) fs
  else if op = 4 then vm_on X (vm_st f ((fT f).getD more 0 :: fT f)) fs
  else vm_on X (vm_st f (((fT f).set 0 ((fT f).getD more 0)).set more ((fT f).getD 0 0))) fs
/-- ADD to NOT -/
def vm_do2 (X : vx_S) (op : Nat) (f : vf_T) (fs : List vf_T) : vx_S × Option (Nat × Int64 × Nat) :=
  if op = 18 then vm_on X (vm_st f ((if (fT f).getD 0 0 = 0 then 1 else 0) :: (fT f).tail)) fs
  else if (op = 9 ∨ op = 10) ∧ (fT f).getD 0 0 = 0 then vm_end X (vm_st f (fT f).tail.tail) fs 3 0
  else vm_on X (vm_st f (vm_bin op ((fT f).getD 1 0) ((fT f).getD 0 0) :: (fT f).tail.tail)) fs
/-- JUMP to STORE -/
def vm_do3 (X : vx_S) (op more : Nat) (f : vf_T) (fs : List vf_T) : vx_S × Option (Nat × Int64 × Nat) :=
  if op = 19 then vm_on X (vf_set f more (fG f) (fT f)) fs
  else if op = 20 then vm_on X (vf_set f (if (fT f).getD 0 0 = 0 then fA f else more) (fG f) (fT f).tail) fs
  else if op = 21 then
    if (fT f).getD 0 0 < 0 ∨ 15 < (fT f).getD 0 0 then vm_end X (vm_st f (fT f).tail) fs 3 0
    else vm_on X (vm_st f (X.1 (19 * fS f + 3 + ((fT f).getD 0 0).toInt.toNat) :: (fT f).tail)) fs
  else
    if (fT f).getD 1 0 < 0 ∨ 15 < (fT f).getD 1 0 then vm_end X (vm_st f (fT f).tail.tail) fs 3 0
    else if X.1 (19 * fS f + 3 + ((fT f).getD 1 0).toInt.toNat) = 0 ∧ (fT f).getD 0 0 ≠ 0 then
      if fG f < 40 then vm_end X (vm_st f (fT f).tail.tail) fs 3 0
      else vm_on (up1 X.1 (19 * fS f + 3 + ((fT f).getD 1 0).toInt.toNat) ((fT f).getD 0 0), X.2) (vf_set f (fA f) (fG f - 40) (fT f).tail.tail) fs
    else vm_on (up1 X.1 (19 * fS f + 3 + ((fT f).getD 1 0).toInt.toNat) ((fT f).getD 0 0), X.2.1, X.2.2.1 + (if X.1 (19 * fS f + 3 + ((fT f).getD 1 0).toInt.toNat) ≠ 0 ∧ (fT f).getD 0 0 = 0 then 15 else 0), X.2.2.2) (vm_st f (fT f).tail.tail) fs
/-- SELF to BALANCE -/
noncomputable def vm_do4 (g : vg_T) (X : vx_S) (op : Nat) (f : vf_T) (fs : List vf_T) : vx_S × Option (Nat × Int64 × Nat) :=
  haveI := Classical.propDecidable
  if op = 30 then vm_on X (vm_st f ((if vm_acct ((fT f).getD 0 0) then X.1 (19 * ((fT f).getD 0 0).toInt.toNat) else 0) :: (fT f).tail)) fs
  else vm_on X (vm_st f ((if op = 23 then lN (fS f) else if op = 24 then lN (fK f) else if op = 25 then lN g.2.2.1 else if op = 26 then fV f else if op = 27 then fR f else if op = 28 then lN g.2.2.2 else lN (fG f)) :: fT f)) fs
/-- CALL, LOOK -/
noncomputable def vm_call (X : vx_S) (look : Bool) (to value arg asked : Int64) (f : vf_T) (fs : List vf_T) (t : List Int64) : vx_S × Option (Nat × Int64 × Nat) :=
  if fL f = true ∧ value ≠ 0 then vm_end X (vm_st f t) fs 3 0
  else vm_begin (X.1, X.2.1, X.2.2.1, vf_set f (fA f) (fG f - vm_gas asked (fG f)) t :: fs, X.2.2.2.2) (fS f) to value arg (vm_gas asked (fG f)) (look || fL f)
noncomputable def vm_make (g : vg_T) (X : vx_S) (value c : Int64) (f : vf_T) (fs : List vf_T) (t : List Int64) : vx_S × Option (Nat × Int64 × Nat) :=
  match vm_free X.1 (f :: fs) g.2.2.1 32 0 with
  | none => vm_on X (vm_st f ((-1) :: t)) fs
  | some a => if c < 0 ∨ lN g.2.1 ≤ c ∨ value < 0 ∨ X.1 (19 * fS f) < value then vm_on X (vm_st f ((-1) :: t)) fs
    else vm_on (up1 (up1 (up1 X.1 (19 * fS f) (X.1 (19 * fS f) - value)) (19 * a) ((up1 X.1 (19 * fS f) (X.1 (19 * fS f) - value)) (19 * a) + value)) (19 * a + 2) (c + 1), X.2) (vm_st f (lN a :: t)) fs
noncomputable def vm_close (X : vx_S) (heir : Int64) (f : vf_T) (fs : List vf_T) (t : List Int64) : vx_S × Option (Nat × Int64 × Nat) :=
  haveI := Classical.propDecidable
  if ¬ vm_acct heir ∨ heir = lN (fS f) then vm_end X (vm_st f t) fs 3 0
  else vm_end (vm_clear (up1 (up1 X.1 (19 * heir.toInt.toNat) (X.1 (19 * heir.toInt.toNat) + X.1 (19 * fS f))) (19 * fS f) 0) (fS f), X.2) (vm_st f t) fs 1 0
/-- CALL to LOCK -/
noncomputable def vm_do5 (g : vg_T) (X : vx_S) (op : Nat) (f : vf_T) (fs : List vf_T) : vx_S × Option (Nat × Int64 × Nat) :=
  let t := fT f
  if op = 31 then vm_call X false (t.getD 0 0) (t.getD 1 0) (t.getD 2 0) (t.getD 3 0) f fs (t.drop 4)
  else if op = 32 then vm_call X true (t.getD 0 0) 0 (t.getD 1 0) (t.getD 2 0) f fs (t.drop 3)
  else if op = 33 then vm_make g X (t.getD 0 0) (t.getD 1 0) f fs (t.drop 2)
  else if op = 34 then (if t.getD 0 0 < 0 ∨ lN g.2.1 ≤ t.getD 0 0 then vm_end X (vm_st f (t.drop 1)) fs 3 0 else vm_on (up1 X.1 (19 * fS f + 2) (t.getD 0 0 + 1), X.2) (vm_st f (t.drop 1)) fs)
  else if op = 35 then vm_on (X.1, (fS f, t.getD 1 0, t.getD 0 0) :: X.2.1, X.2.2) (vm_st f (t.drop 2)) fs
  else if op = 36 then vm_end X (vm_st f (t.drop 1)) fs 1 (t.getD 0 0)
  else if op = 37 then vm_end X (vm_st f (t.drop 1)) fs 2 (t.getD 0 0)
  else if op = 38 then vm_close X (t.getD 0 0) f fs (t.drop 1)
  else vm_on X (f.1, f.2.1, (fL f, true), f.2.2.2) fs
/-- one act of the inmost frame -/
noncomputable def vm_act (g : vg_T) (X : vx_S) : vx_S × Option (Nat × Int64 × Nat) := match X.2.2.2.1 with
  | [] => (X, none)
  | f :: fs =>
    let c := g.1 (fC f)
    if c.length ≤ fA f then vm_end X f fs 1 0
    else
      let op := c.getD (fA f) 0
      let more := if 1 < vm_size op then c.getD (fA f + 1) 0 else 0
      if fG f < vm_cost op then vm_end X f fs 3 0
      else
        let f1 := vf_set f (fA f + vm_size op) (fG f - vm_cost op) (fT f)
        if (fT f).length < vm_takes op ∨ 24 < (fT f).length - vm_takes op + vm_gives op ∨ ((op = 4 ∨ op = 5) ∧ (fT f).length ≤ more) ∨ (fL f = true ∧ vm_bars op = true) then vm_end X f1 fs 3 0
        else if op ≤ 5 then vm_do1 c X op more f1 fs
        else if op ≤ 18 then vm_do2 X op f1 fs
        else if op ≤ 22 then vm_do3 X op more f1 fs
        else if op ≤ 30 then vm_do4 g X op f1 fs
        else vm_do5 g X op f1 fs
/-- acts until the whole call has ended, at most n -/
noncomputable def vm_run (g : vg_T) : Nat → vx_S → vx_S × Option (Nat × Int64 × Nat)
  | 0, X => (X, none)
  | n + 1, X => match vm_act g X with
    | (Y, some r) => (Y, some r)
    | (Y, none) => vm_run g n Y
/-- a whole call: an order's or a view's -/
noncomputable def vm_whole (g : vg_T) (now : Nat → Int64) (ev : List (Nat × Int64 × Int64)) (to value arg : Int64) (gas : Nat) (look : Bool) : vx_S × Option (Nat × Int64 × Nat) :=
  match vm_begin (now, ev, 0, [], 0) g.2.2.1 to value arg gas look with
  | (Y, some r) => (Y, some r)
  | (Y, none) => vm_run g 100000 Y
end
section
/-! THE MODEL'S MACHINE: its rows hold a machine X -/
def bI (b : Bool) : Int32 := if b then nI 1 else nI 0
/-- the stack's numbers, from place 24 p on -/
def rm_T (S : gs_T) (p : Nat) : List Int64 → Prop
  | [] => True
  | v :: r => S.2 95 (24 * p + r.length) = v ∧ rm_T S p r
def rm_F (S : gs_T) (p : Nat) (f : vf_T) : Prop :=
  (S.1 86 p = nI (fC f) ∧ S.1 87 p = nI (fA f) ∧ S.2 88 p = lN (fG f) ∧ S.1 89 p = nI (fS f) ∧ S.1 90 p = nI (fK f)) ∧ (S.2 91 p = fV f ∧ S.2 92 p = fR f) ∧ (S.1 93 p = bI (fL f) ∧ S.1 94 p = bI (fO f)) ∧
  ((fT f).length ≤ 24 ∧ S.1 96 p = nI (fT f).length ∧ rm_T S p (fT f)) ∧ ((∀ k, k < 608 → S.2 83 (608 * p + k) = (fB f).1 k) ∧ S.1 84 p = nI (fB f).2.1 ∧ S.1 85 p = nI (fB f).2.2)
def rm_Fs (S : gs_T) : List vf_T → Prop
  | [] => True
  | f :: fs => rm_F S fs.length f ∧ rm_Fs S fs
/-- events, newest first -/
def rm_E (S : gs_T) : List (Nat × Int64 × Int64) → Prop
  | [] => True
  | e :: es => (S.1 97 es.length = nI e.1 ∧ S.2 98 es.length = e.2.1 ∧ S.2 99 es.length = e.2.2) ∧ rm_E S es
/-- codes, their sizes and number, origin, height -/
def rm_G (S : gs_T) (g : vg_T) : Prop := (∀ c, c < g.2.1 → S.1 54 c = nI (g.1 c).length ∧ ∀ k, k < (g.1 c).length → S.1 53 (200 * c + k) = nI ((g.1 c).getD k 0)) ∧ S.1 52 3 = nI g.2.1 ∧ S.1 52 50 = nI g.2.2.1 ∧ S.1 52 51 = nI g.2.2.2
def rm_X (S : gs_T) (g : vg_T) (X : vx_S) : Prop := rm_G S g ∧ (∀ k, k < 608 → S.2 82 k = X.1 k) ∧ (S.1 52 52 = nI X.2.1.length ∧ rm_E S X.2.1) ∧ S.1 52 56 = nI X.2.2.1 ∧ (S.1 52 49 = nI X.2.2.2.1.length ∧ rm_Fs S X.2.2.2.1) ∧ S.1 52 57 = nI X.2.2.2.2
/-- a code is whole: beg says where acts begin -/
def vw_code (c : List Nat) : Prop := c.length ≤ 200 ∧ (∀ k, k < c.length → c.getD k 0 < 256) ∧ ∃ beg : Nat → Prop, beg 0 ∧ (∀ k, beg k → k < c.length → c.getD k 0 < 40 ∧ k + vm_size (c.getD k 0) ≤ c.length ∧ beg (k + vm_size (c.getD k 0)) ∧ (c.getD k 0 = 19 ∨ c.getD k 0 = 20 → beg (c.getD (k + 1) 0)))
/-- a place of a code at which an act begins, or its end -/
def vw_at (c : List Nat) (k : Nat) : Prop := c.length ≤ 200 ∧ (∀ k, k < c.length → c.getD k 0 < 256) ∧ ∃ beg : Nat → Prop, beg k ∧ (∀ k, beg k → k < c.length → c.getD k 0 < 40 ∧ k + vm_size (c.getD k 0) ≤ c.length ∧ beg (k + vm_size (c.getD k 0)) ∧ (c.getD k 0 = 19 ∨ c.getD k 0 = 20 → beg (c.getD (k + 1) 0)))
def vw_F (g : vg_T) (f : vf_T) : Prop := fC f < g.2.1 ∧ vw_at (g.1 (fC f)) (fA f) ∧ fG f ≤ 30000 ∧ fS f < 32 ∧ fK f < 32
/-- gas of all frames together -/
def vw_sum : List vf_T → Nat
  | [] => 0
  | f :: fs => fG f + vw_sum fs
/-- the frames below the inmost have room for what is told them -/
def vw_low : List vf_T → Prop
  | [] => True
  | f :: fs => (fT f).length ≤ 21 ∧ vw_low fs
/-- each account's code is none or one of those that are there -/
def vw_codes (g : vg_T) (n : Nat → Int64) : Prop := ∀ a, a < 32 → ∃ c, c ≤ g.2.1 ∧ n (19 * a + 2) = lN c
/-- what the frames keep, inmost first, below the state (now, how many events, what is to be given back) -/
def vw_kept (g : vg_T) : (Nat → Int64) × Nat × Nat → List vf_T → Prop
  | _, [] => True
  | w, f :: fs => ((fB f).2.1 ≤ w.2.1 ∧ (fB f).2.2 ≤ w.2.2 ∧ vw_codes g (fB f).1 ∧ (fL f = true → fB f = w)) ∧ vw_kept g (fB f) fs
def vw_X (g : vg_T) (X : vx_S) : Prop := (g.2.1 ≤ 16 ∧ ∀ c, c < g.2.1 → vw_code (g.1 c)) ∧ (∀ f ∈ X.2.2.2.1, vw_F g f) ∧ vw_low X.2.2.2.1.tail ∧ X.2.2.2.1.length ≤ 10 ∧ 15 * X.2.1.length + X.2.2.1 + X.2.2.2.2 + vw_sum X.2.2.2.1 ≤ 30001 ∧ vw_codes g X.1 ∧ vw_kept g (X.1, X.2.1.length, X.2.2.1) X.2.2.2.1
/-- frames hold the same where their places do -/
def rm_same (S S' : gs_T) (i : Nat) : Prop := (∀ a, 86 ≤ a → a ≤ 96 → a ≠ 95 → S'.1 a i = S.1 a i ∧ S'.2 a i = S.2 a i) ∧ (S'.1 84 i = S.1 84 i ∧ S'.1 85 i = S.1 85 i) ∧ (∀ j, j < 24 → S'.2 95 (24 * i + j) = S.2 95 (24 * i + j)) ∧ ∀ k, k < 608 → S'.2 83 (608 * i + k) = S.2 83 (608 * i + k)
theorem rm_T_congr {S S' : gs_T} {p : Nat} : ∀ {t : List Int64}, t.length ≤ 24 → (∀ j, j < t.length → S'.2 95 (24 * p + j) = S.2 95 (24 * p + j)) → rm_T S p t → rm_T S' p t
  | [], _, _, _ => trivial
  | v :: r, hl, hs, h => by
    have hl' : r.length + 1 ≤ 24 := hl
    exact ⟨(hs r.length (by simp)).trans h.1, rm_T_congr (by omega) (fun j hj => hs j (by simp; omega)) h.2⟩
theorem rm_F_congr {S S' : gs_T} {p : Nat} {f : vf_T} (hs : rm_same S S' p) (h : rm_F S p f) : rm_F S' p f := by
  obtain ⟨⟨h1, h2, h3, h4, h5⟩, ⟨h6, h7⟩, ⟨h8, h9⟩, ⟨h10, h11, h12⟩, ⟨h13, h14, h15⟩⟩ := h
  obtain ⟨a1, ⟨a2, a3⟩, a4, a5⟩ := hs
  refine ⟨⟨?_, ?_, ?_, ?_, ?_⟩, ⟨?_, ?_⟩, ⟨?_, ?_⟩, ⟨h10, ?_, rm_T_congr h10 (fun j hj => a4 j (by omega)) h12⟩, ⟨fun k hk => (a5 k hk).trans (h13 k hk), a2.trans h14, a3.trans h15⟩⟩
  · exact ((a1 86 (by decide) (by decide) (by decide)).1).trans h1
  · exact ((a1 87 (by decide) (by decide) (by decide)).1).trans h2
  · exact ((a1 88 (by decide) (by decide) (by decide)).2).trans h3
  · exact ((a1 89 (by decide) (by decide) (by decide)).1).trans h4
  · exact ((a1 90 (by decide) (by decide) (by decide)).1).trans h5
  · exact ((a1 91 (by decide) (by decide) (by decide)).2).trans h6
  · exact ((a1 92 (by decide) (by decide) (by decide)).2).trans h7
  · exact ((a1 93 (by decide) (by decide) (by decide)).1).trans h8
  · exact ((a1 94 (by decide) (by decide) (by decide)).1).trans h9
  · exact ((a1 96 (by decide) (by decide) (by decide)).1).trans h11
theorem rm_Fs_congr {S S' : gs_T} : ∀ {fs : List vf_T}, (∀ i, i < fs.length → rm_same S S' i) → rm_Fs S fs → rm_Fs S' fs
  | [], _, _ => trivial
  | f :: fs, hs, h => ⟨rm_F_congr (hs fs.length (by simp)) h.1, rm_Fs_congr (fun i hi => hs i (by simp; omega)) h.2⟩
theorem rm_E_congr {S S' : gs_T} : ∀ {es : List (Nat × Int64 × Int64)}, (∀ i, i < es.length → S'.1 97 i = S.1 97 i ∧ S'.2 98 i = S.2 98 i ∧ S'.2 99 i = S.2 99 i) → rm_E S es → rm_E S' es
  | [], _, _ => trivial
  | e :: es, hs, h => by
    obtain ⟨q1, q2, q3⟩ := hs es.length (by simp)
    exact ⟨⟨q1.trans h.1.1, q2.trans h.1.2.1, q3.trans h.1.2.2⟩, rm_E_congr (fun i hi => hs i (by simp; omega)) h.2⟩
/-- a stack read at the n-th number from the top -/
theorem rm_T_get {S : gs_T} {p : Nat} : ∀ {t : List Int64} {n : Nat}, n < t.length → rm_T S p t → S.2 95 (24 * p + (t.length - 1 - n)) = t.getD n 0
  | v :: r, 0, _, h => by simpa using h.1
  | v :: r, n + 1, hn, h => by
    have hn' : n < r.length := by simpa using hn
    have h1 := rm_T_get hn' h.2
    have h2 : (v :: r).length - 1 - (n + 1) = r.length - 1 - n := by simp; omega
    rw [h2, h1]
    rfl
end
section
theorem dX11_thrown_0 : decode cX11_thrown 0 = .ok (.aload_n 0, 1) := by decide +kernel
theorem dX11_thrown_1 : decode cX11_thrown 1 = .ok (.getfield 160, 3) := by decide +kernel
theorem dX11_thrown_4 : decode cX11_thrown 4 = .ok (.ireturn, 1) := by decide +kernel
theorem dX11_push_0 : decode cX11_push 0 = .ok (.aload_n 0, 1) := by decide +kernel
theorem dX11_push_1 : decode cX11_push 1 = .ok (.getfield 203, 3) := by decide +kernel
theorem dX11_push_4 : decode cX11_push 4 = .ok (.iconst 1, 1) := by decide +kernel
theorem dX11_push_5 : decode cX11_push 5 = .ok (.isub, 1) := by decide +kernel
theorem dX11_push_6 : decode cX11_push 6 = .ok (.istore_n 3, 1) := by decide +kernel
theorem dX11_push_7 : decode cX11_push 7 = .ok (.aload_n 0, 1) := by decide +kernel
theorem dX11_push_8 : decode cX11_push 8 = .ok (.getfield 138, 3) := by decide +kernel
theorem dX11_push_11 : decode cX11_push 11 = .ok (.bipush 24, 2) := by decide +kernel
theorem dX11_push_13 : decode cX11_push 13 = .ok (.iload_n 3, 1) := by decide +kernel
theorem dX11_push_14 : decode cX11_push 14 = .ok (.imul, 1) := by decide +kernel
theorem dX11_push_15 : decode cX11_push 15 = .ok (.aload_n 0, 1) := by decide +kernel
theorem dX11_push_16 : decode cX11_push 16 = .ok (.getfield 141, 3) := by decide +kernel
theorem dX11_push_19 : decode cX11_push 19 = .ok (.iload_n 3, 1) := by decide +kernel
theorem dX11_push_20 : decode cX11_push 20 = .ok (.iaload, 1) := by decide +kernel
theorem dX11_push_21 : decode cX11_push 21 = .ok (.iadd, 1) := by decide +kernel
theorem dX11_push_22 : decode cX11_push 22 = .ok (.lload_n 1, 1) := by decide +kernel
theorem dX11_push_23 : decode cX11_push 23 = .ok (.lastore, 1) := by decide +kernel
theorem dX11_push_24 : decode cX11_push 24 = .ok (.aload_n 0, 1) := by decide +kernel
theorem dX11_push_25 : decode cX11_push 25 = .ok (.getfield 141, 3) := by decide +kernel
theorem dX11_push_28 : decode cX11_push 28 = .ok (.iload_n 3, 1) := by decide +kernel
theorem dX11_push_29 : decode cX11_push 29 = .ok (.dup2, 1) := by decide +kernel
theorem dX11_push_30 : decode cX11_push 30 = .ok (.iaload, 1) := by decide +kernel
theorem dX11_push_31 : decode cX11_push 31 = .ok (.iconst 1, 1) := by decide +kernel
theorem dX11_push_32 : decode cX11_push 32 = .ok (.iadd, 1) := by decide +kernel
theorem dX11_push_33 : decode cX11_push 33 = .ok (.iastore, 1) := by decide +kernel
theorem dX11_push_34 : decode cX11_push 34 = .ok (.return_, 1) := by decide +kernel
theorem dX11_pop_0 : decode cX11_pop 0 = .ok (.aload_n 0, 1) := by decide +kernel
theorem dX11_pop_1 : decode cX11_pop 1 = .ok (.getfield 203, 3) := by decide +kernel
theorem dX11_pop_4 : decode cX11_pop 4 = .ok (.iconst 1, 1) := by decide +kernel
theorem dX11_pop_5 : decode cX11_pop 5 = .ok (.isub, 1) := by decide +kernel
theorem dX11_pop_6 : decode cX11_pop 6 = .ok (.istore_n 1, 1) := by decide +kernel
theorem dX11_pop_7 : decode cX11_pop 7 = .ok (.aload_n 0, 1) := by decide +kernel
theorem dX11_pop_8 : decode cX11_pop 8 = .ok (.getfield 141, 3) := by decide +kernel
theorem dX11_pop_11 : decode cX11_pop 11 = .ok (.iload_n 1, 1) := by decide +kernel
theorem dX11_pop_12 : decode cX11_pop 12 = .ok (.dup2, 1) := by decide +kernel
theorem dX11_pop_13 : decode cX11_pop 13 = .ok (.iaload, 1) := by decide +kernel
theorem dX11_pop_14 : decode cX11_pop 14 = .ok (.iconst 1, 1) := by decide +kernel
theorem dX11_pop_15 : decode cX11_pop 15 = .ok (.isub, 1) := by decide +kernel
theorem dX11_pop_16 : decode cX11_pop 16 = .ok (.iastore, 1) := by decide +kernel
theorem dX11_pop_17 : decode cX11_pop 17 = .ok (.aload_n 0, 1) := by decide +kernel
theorem dX11_pop_18 : decode cX11_pop 18 = .ok (.getfield 138, 3) := by decide +kernel
theorem dX11_pop_21 : decode cX11_pop 21 = .ok (.bipush 24, 2) := by decide +kernel
theorem dX11_pop_23 : decode cX11_pop 23 = .ok (.iload_n 1, 1) := by decide +kernel
theorem dX11_pop_24 : decode cX11_pop 24 = .ok (.imul, 1) := by decide +kernel
theorem dX11_pop_25 : decode cX11_pop 25 = .ok (.aload_n 0, 1) := by decide +kernel
theorem dX11_pop_26 : decode cX11_pop 26 = .ok (.getfield 141, 3) := by decide +kernel
theorem dX11_pop_29 : decode cX11_pop 29 = .ok (.iload_n 1, 1) := by decide +kernel
theorem dX11_pop_30 : decode cX11_pop 30 = .ok (.iaload, 1) := by decide +kernel
theorem dX11_pop_31 : decode cX11_pop 31 = .ok (.iadd, 1) := by decide +kernel
theorem dX11_pop_32 : decode cX11_pop 32 = .ok (.laload, 1) := by decide +kernel
theorem dX11_pop_33 : decode cX11_pop 33 = .ok (.lreturn, 1) := by decide +kernel
theorem dX11_end_0 : decode cX11_end 0 = .ok (.aload_n 0, 1) := by decide +kernel
theorem dX11_end_1 : decode cX11_end 1 = .ok (.iload_n 1, 1) := by decide +kernel
theorem dX11_end_2 : decode cX11_end 2 = .ok (.putfield 193, 3) := by decide +kernel
theorem dX11_end_5 : decode cX11_end 5 = .ok (.aload_n 0, 1) := by decide +kernel
theorem dX11_end_6 : decode cX11_end 6 = .ok (.lload_n 2, 1) := by decide +kernel
theorem dX11_end_7 : decode cX11_end 7 = .ok (.putfield 196, 3) := by decide +kernel
theorem dX11_end_10 : decode cX11_end 10 = .ok (.aload_n 0, 1) := by decide +kernel
theorem dX11_end_11 : decode cX11_end 11 = .ok (.lload 4, 2) := by decide +kernel
theorem dX11_end_13 : decode cX11_end 13 = .ok (.putfield 200, 3) := by decide +kernel
theorem dX11_end_16 : decode cX11_end 16 = .ok (.return_, 1) := by decide +kernel
theorem cm_thrown {G : rx_E} {d : Nat} {C : rx_M} {S : gs_T} (hG : rx_OK G)  : rx_C G MX11_thrown d [.ref 52] (gl C S) 0 0 (fun v mu => v = some (.int (S.1 52 0)) ∧ mu = gl C S) := by
  refine rx_meth0 (by decide +kernel) rfl (Nat.le_of_ble_eq_true rfl) ?_
  refine rx_aload_n dX11_thrown_0 rfl rfl ?_
  refine gmv_getI (v := S.1 52 0) hG hf_RX11_160 rfl dX11_thrown_1 rfl rfl rfl rfl ?_
  exact rx_iret rfl dX11_thrown_4 ⟨rfl, rfl⟩
theorem cm_end {G : rx_E} {d : Nat} {C : rx_M} {S : gs_T} (hG : rx_OK G) (how : Int32) (vl gs : Int64) : rx_C G MX11_end d [.ref 52, .int how, .long vl, .long gs] (gl C S) 0 0 (fun v mu => v = none ∧ mu = gl C ((rx_u S.1 52 58 how), (rx_u (rx_u S.2 52 59 vl) 52 60 gs))) := by
  refine rx_meth0 (by decide +kernel) rfl (Nat.le_of_ble_eq_true rfl) ?_
  refine rx_aload_n dX11_end_0 rfl rfl ?_
  refine rx_iload_n dX11_end_1 rfl ?_
  refine gm_putI hG hf_RX11_193 (gw_nf rfl rfl) rfl dX11_end_2 rfl rfl rfl rfl rfl ?_
  refine rx_aload_n dX11_end_5 rfl rfl ?_
  refine rx_lload_n dX11_end_6 rfl ?_
  refine gm_putL hG hf_RX11_196 (gw_nf rfl rfl) dX11_end_7 rfl rfl rfl ?_
  refine rx_aload_n dX11_end_10 rfl rfl ?_
  refine rx_lload dX11_end_11 rfl ?_
  refine gm_putL hG hf_RX11_200 (gw_nf rfl rfl) dX11_end_13 rfl rfl rfl ?_
  exact rx_vret rfl dX11_end_16 ⟨rfl, rfl⟩
theorem cm_push {G : rx_E} {d : Nat} {C : rx_M} {S : gs_T} (hG : rx_OK G) {p t : Nat} (hp : S.1 52 49 = nI (p + 1)) (ht : S.1 96 p = nI t) (hp1 : p < 11) (ht1 : t < 24) (vl : Int64) : rx_C G MX11_push d [.ref 52, .long vl] (gl C S) 0 0 (fun v mu => v = none ∧ mu = gl C ((rx_u S.1 96 p (nI (t + 1))), (rx_u S.2 95 (24 * p + t) vl))) := by
  refine rx_meth0 (by decide +kernel) rfl (Nat.le_of_ble_eq_true rfl) ?_
  refine rx_aload_n dX11_push_0 rfl rfl ?_
  refine gmv_getI (v := nI (p + 1)) hG hf_RX11_203 rfl dX11_push_1 rfl rfl rfl hp ?_
  refine rx_iconst (v := nI 1) dX11_push_4 rfl ?_
  refine rx_isub dX11_push_5 ?_
  refine rx_ti (y := nI p) ((pk_sub (by omega)).trans (congrArg nI (by omega))) ?_
  refine rx_istore_n dX11_push_6 (by decide) ?_
  refine rx_aload_n dX11_push_7 rfl rfl ?_
  refine g_getR hG hf_RX11_138 rfl dX11_push_8 rfl rfl rfl ?_
  refine rx_bipush (v := nI 24) dX11_push_11 rfl ?_
  refine rx_iload_n dX11_push_13 rfl ?_
  refine rx_imul dX11_push_14 ?_
  refine rx_ti (y := nI (24 * p)) ((pk_mul _ _).trans (congrArg nI (by omega))) ?_
  refine rx_aload_n dX11_push_15 rfl rfl ?_
  refine g_getR hG hf_RX11_141 rfl dX11_push_16 rfl rfl rfl ?_
  refine rx_iload_n dX11_push_19 rfl ?_
  refine gmv_iald (j := p) (v := nI t) hG dX11_push_20 rfl rfl rfl rfl (by omega) (by decide) ht ?_
  refine rx_iadd dX11_push_21 ?_
  refine rx_ti (y := nI (24 * p + t)) ((nI_add _ _).trans (congrArg nI (by omega))) ?_
  refine rx_lload_n dX11_push_22 rfl ?_
  refine gm_last (j := 24 * p + t) hG dX11_push_23 rfl rfl rfl rfl (by omega) (by decide) ?_
  refine rx_aload_n dX11_push_24 rfl rfl ?_
  refine g_getR hG hf_RX11_141 rfl dX11_push_25 rfl rfl rfl ?_
  refine rx_iload_n dX11_push_28 rfl ?_
  refine rx_dup2 dX11_push_29 rfl rfl ?_
  refine gmv_iald (j := p) (v := nI t) hG dX11_push_30 rfl rfl rfl rfl (by omega) (by decide) ht ?_
  refine rx_iconst (v := nI 1) dX11_push_31 rfl ?_
  refine rx_iadd dX11_push_32 ?_
  refine rx_ti (y := nI (t + 1)) ((nI_add _ _).trans (congrArg nI (by omega))) ?_
  refine gm_iast (j := p) hG dX11_push_33 rfl rfl rfl rfl (by omega) (by decide) ?_
  exact rx_vret rfl dX11_push_34 ⟨rfl, rfl⟩
theorem cm_pop {G : rx_E} {d : Nat} {C : rx_M} {S : gs_T} (hG : rx_OK G) {p t : Nat} (hp : S.1 52 49 = nI (p + 1)) (ht : S.1 96 p = nI (t + 1)) (hp1 : p < 11) (ht1 : t < 24) : rx_C G MX11_pop d [.ref 52] (gl C S) 0 0 (fun v mu => v = some (.long (S.2 95 (24 * p + t))) ∧ mu = gl C ((rx_u S.1 96 p (nI t)), S.2)) := by
  refine rx_meth0 (by decide +kernel) rfl (Nat.le_of_ble_eq_true rfl) ?_
  refine rx_aload_n dX11_pop_0 rfl rfl ?_
  refine gmv_getI (v := nI (p + 1)) hG hf_RX11_203 rfl dX11_pop_1 rfl rfl rfl hp ?_
  refine rx_iconst (v := nI 1) dX11_pop_4 rfl ?_
  refine rx_isub dX11_pop_5 ?_
  refine rx_ti (y := nI p) ((pk_sub (by omega)).trans (congrArg nI (by omega))) ?_
  refine rx_istore_n dX11_pop_6 (by decide) ?_
  refine rx_aload_n dX11_pop_7 rfl rfl ?_
  refine g_getR hG hf_RX11_141 rfl dX11_pop_8 rfl rfl rfl ?_
  refine rx_iload_n dX11_pop_11 rfl ?_
  refine rx_dup2 dX11_pop_12 rfl rfl ?_
  refine gmv_iald (j := p) (v := nI (t + 1)) hG dX11_pop_13 rfl rfl rfl rfl (by omega) (by decide) ht ?_
  refine rx_iconst (v := nI 1) dX11_pop_14 rfl ?_
  refine rx_isub dX11_pop_15 ?_
  refine rx_ti (y := nI t) ((pk_sub (by omega)).trans (congrArg nI (by omega))) ?_
  refine gm_iast (j := p) hG dX11_pop_16 rfl rfl rfl rfl (by omega) (by decide) ?_
  refine rx_aload_n dX11_pop_17 rfl rfl ?_
  refine g_getR hG hf_RX11_138 rfl dX11_pop_18 rfl rfl rfl ?_
  refine rx_bipush (v := nI 24) dX11_pop_21 rfl ?_
  refine rx_iload_n dX11_pop_23 rfl ?_
  refine rx_imul dX11_pop_24 ?_
  refine rx_ti (y := nI (24 * p)) ((pk_mul _ _).trans (congrArg nI (by omega))) ?_
  refine rx_aload_n dX11_pop_25 rfl rfl ?_
  refine g_getR hG hf_RX11_141 rfl dX11_pop_26 rfl rfl rfl ?_
  refine rx_iload_n dX11_pop_29 rfl ?_
  refine gmv_iald (j := p) (v := nI t) hG dX11_pop_30 rfl rfl rfl rfl (by omega) (by decide) (by simp [rx_ru, hp, ht]) ?_
  refine rx_iadd dX11_pop_31 ?_
  refine rx_ti (y := nI (24 * p + t)) ((nI_add _ _).trans (congrArg nI (by omega))) ?_
  refine gmv_lald (j := 24 * p + t) (v := S.2 95 (24 * p + t)) hG dX11_pop_32 rfl rfl rfl rfl (by omega) (by decide) rfl ?_
  exact rx_lret rfl dX11_pop_33 ⟨rfl, rfl⟩
end
section
theorem dX11_sizeOf_0 : decode cX11_sizeOf 0 = .ok (.iload_n 0, 1) := by decide +kernel
theorem dX11_sizeOf_1 : decode cX11_sizeOf 1 = .ok (.iconst 2, 1) := by decide +kernel
theorem dX11_sizeOf_2 : decode cX11_sizeOf 2 = .ok (.if_icmp .ne 8, 3) := by decide +kernel
theorem dX11_sizeOf_5 : decode cX11_sizeOf 5 = .ok (.bipush 9, 2) := by decide +kernel
theorem dX11_sizeOf_7 : decode cX11_sizeOf 7 = .ok (.goto 35, 3) := by decide +kernel
theorem dX11_sizeOf_10 : decode cX11_sizeOf 10 = .ok (.iload_n 0, 1) := by decide +kernel
theorem dX11_sizeOf_11 : decode cX11_sizeOf 11 = .ok (.iconst 1, 1) := by decide +kernel
theorem dX11_sizeOf_12 : decode cX11_sizeOf 12 = .ok (.if_icmp .eq 25, 3) := by decide +kernel
theorem dX11_sizeOf_15 : decode cX11_sizeOf 15 = .ok (.iload_n 0, 1) := by decide +kernel
theorem dX11_sizeOf_16 : decode cX11_sizeOf 16 = .ok (.iconst 4, 1) := by decide +kernel
theorem dX11_sizeOf_17 : decode cX11_sizeOf 17 = .ok (.if_icmp .eq 20, 3) := by decide +kernel
theorem dX11_sizeOf_20 : decode cX11_sizeOf 20 = .ok (.iload_n 0, 1) := by decide +kernel
theorem dX11_sizeOf_21 : decode cX11_sizeOf 21 = .ok (.iconst 5, 1) := by decide +kernel
theorem dX11_sizeOf_22 : decode cX11_sizeOf 22 = .ok (.if_icmp .eq 15, 3) := by decide +kernel
theorem dX11_sizeOf_25 : decode cX11_sizeOf 25 = .ok (.iload_n 0, 1) := by decide +kernel
theorem dX11_sizeOf_26 : decode cX11_sizeOf 26 = .ok (.bipush 19, 2) := by decide +kernel
theorem dX11_sizeOf_28 : decode cX11_sizeOf 28 = .ok (.if_icmp .eq 9, 3) := by decide +kernel
theorem dX11_sizeOf_31 : decode cX11_sizeOf 31 = .ok (.iload_n 0, 1) := by decide +kernel
theorem dX11_sizeOf_32 : decode cX11_sizeOf 32 = .ok (.bipush 20, 2) := by decide +kernel
theorem dX11_sizeOf_34 : decode cX11_sizeOf 34 = .ok (.if_icmp .ne 7, 3) := by decide +kernel
theorem dX11_sizeOf_37 : decode cX11_sizeOf 37 = .ok (.iconst 2, 1) := by decide +kernel
theorem dX11_sizeOf_38 : decode cX11_sizeOf 38 = .ok (.goto 4, 3) := by decide +kernel
theorem dX11_sizeOf_41 : decode cX11_sizeOf 41 = .ok (.iconst 1, 1) := by decide +kernel
theorem dX11_sizeOf_42 : decode cX11_sizeOf 42 = .ok (.ireturn, 1) := by decide +kernel
theorem dX11_costOf_0 : decode cX11_costOf 0 = .ok (.iload_n 0, 1) := by decide +kernel
theorem dX11_costOf_1 : decode cX11_costOf 1 = .ok (.tableswitch 204 0 39 #[175, 204, 177, 204, 204, 204, 204, 204, 177, 179, 179, 204, 204, 204, 204, 204, 204, 204, 204, 177, 177, 181, 184, 204, 204, 204, 204, 204, 204, 204, 187, 189, 192, 195, 198, 201, 175, 175, 184, 179], 175) := by decide +kernel
theorem dX11_costOf_176 : decode cX11_costOf 176 = .ok (.iconst 0, 1) := by decide +kernel
theorem dX11_costOf_177 : decode cX11_costOf 177 = .ok (.ireturn, 1) := by decide +kernel
theorem dX11_costOf_178 : decode cX11_costOf 178 = .ok (.iconst 2, 1) := by decide +kernel
theorem dX11_costOf_179 : decode cX11_costOf 179 = .ok (.ireturn, 1) := by decide +kernel
theorem dX11_costOf_180 : decode cX11_costOf 180 = .ok (.iconst 3, 1) := by decide +kernel
theorem dX11_costOf_181 : decode cX11_costOf 181 = .ok (.ireturn, 1) := by decide +kernel
theorem dX11_costOf_182 : decode cX11_costOf 182 = .ok (.bipush 10, 2) := by decide +kernel
theorem dX11_costOf_184 : decode cX11_costOf 184 = .ok (.ireturn, 1) := by decide +kernel
theorem dX11_costOf_185 : decode cX11_costOf 185 = .ok (.bipush 20, 2) := by decide +kernel
theorem dX11_costOf_187 : decode cX11_costOf 187 = .ok (.ireturn, 1) := by decide +kernel
theorem dX11_costOf_188 : decode cX11_costOf 188 = .ok (.iconst 5, 1) := by decide +kernel
theorem dX11_costOf_189 : decode cX11_costOf 189 = .ok (.ireturn, 1) := by decide +kernel
theorem dX11_costOf_190 : decode cX11_costOf 190 = .ok (.bipush 30, 2) := by decide +kernel
theorem dX11_costOf_192 : decode cX11_costOf 192 = .ok (.ireturn, 1) := by decide +kernel
theorem dX11_costOf_193 : decode cX11_costOf 193 = .ok (.bipush 25, 2) := by decide +kernel
theorem dX11_costOf_195 : decode cX11_costOf 195 = .ok (.ireturn, 1) := by decide +kernel
theorem dX11_costOf_196 : decode cX11_costOf 196 = .ok (.bipush 100, 2) := by decide +kernel
theorem dX11_costOf_198 : decode cX11_costOf 198 = .ok (.ireturn, 1) := by decide +kernel
theorem dX11_costOf_199 : decode cX11_costOf 199 = .ok (.bipush 40, 2) := by decide +kernel
theorem dX11_costOf_201 : decode cX11_costOf 201 = .ok (.ireturn, 1) := by decide +kernel
theorem dX11_costOf_202 : decode cX11_costOf 202 = .ok (.bipush 15, 2) := by decide +kernel
theorem dX11_costOf_204 : decode cX11_costOf 204 = .ok (.ireturn, 1) := by decide +kernel
theorem dX11_costOf_205 : decode cX11_costOf 205 = .ok (.iconst 1, 1) := by decide +kernel
theorem dX11_costOf_206 : decode cX11_costOf 206 = .ok (.ireturn, 1) := by decide +kernel
theorem dX11_takes_0 : decode cX11_takes 0 = .ok (.iload_n 0, 1) := by decide +kernel
theorem dX11_takes_1 : decode cX11_takes 1 = .ok (.bipush 6, 2) := by decide +kernel
theorem dX11_takes_3 : decode cX11_takes 3 = .ok (.if_icmp .lt 9, 3) := by decide +kernel
theorem dX11_takes_6 : decode cX11_takes 6 = .ok (.iload_n 0, 1) := by decide +kernel
theorem dX11_takes_7 : decode cX11_takes 7 = .ok (.bipush 17, 2) := by decide +kernel
theorem dX11_takes_9 : decode cX11_takes 9 = .ok (.if_icmp .le 21, 3) := by decide +kernel
theorem dX11_takes_12 : decode cX11_takes 12 = .ok (.iload_n 0, 1) := by decide +kernel
theorem dX11_takes_13 : decode cX11_takes 13 = .ok (.bipush 22, 2) := by decide +kernel
theorem dX11_takes_15 : decode cX11_takes 15 = .ok (.if_icmp .eq 15, 3) := by decide +kernel
theorem dX11_takes_18 : decode cX11_takes 18 = .ok (.iload_n 0, 1) := by decide +kernel
theorem dX11_takes_19 : decode cX11_takes 19 = .ok (.bipush 33, 2) := by decide +kernel
theorem dX11_takes_21 : decode cX11_takes 21 = .ok (.if_icmp .eq 9, 3) := by decide +kernel
theorem dX11_takes_24 : decode cX11_takes 24 = .ok (.iload_n 0, 1) := by decide +kernel
theorem dX11_takes_25 : decode cX11_takes 25 = .ok (.bipush 35, 2) := by decide +kernel
theorem dX11_takes_27 : decode cX11_takes 27 = .ok (.if_icmp .ne 5, 3) := by decide +kernel
theorem dX11_takes_30 : decode cX11_takes 30 = .ok (.iconst 2, 1) := by decide +kernel
theorem dX11_takes_31 : decode cX11_takes 31 = .ok (.ireturn, 1) := by decide +kernel
theorem dX11_takes_32 : decode cX11_takes 32 = .ok (.iload_n 0, 1) := by decide +kernel
theorem dX11_takes_33 : decode cX11_takes 33 = .ok (.iconst 3, 1) := by decide +kernel
theorem dX11_takes_34 : decode cX11_takes 34 = .ok (.if_icmp .eq 45, 3) := by decide +kernel
theorem dX11_takes_37 : decode cX11_takes 37 = .ok (.iload_n 0, 1) := by decide +kernel
theorem dX11_takes_38 : decode cX11_takes 38 = .ok (.bipush 18, 2) := by decide +kernel
theorem dX11_takes_40 : decode cX11_takes 40 = .ok (.if_icmp .eq 39, 3) := by decide +kernel
theorem dX11_takes_43 : decode cX11_takes 43 = .ok (.iload_n 0, 1) := by decide +kernel
theorem dX11_takes_44 : decode cX11_takes 44 = .ok (.bipush 20, 2) := by decide +kernel
theorem dX11_takes_46 : decode cX11_takes 46 = .ok (.if_icmp .eq 33, 3) := by decide +kernel
theorem dX11_takes_49 : decode cX11_takes 49 = .ok (.iload_n 0, 1) := by decide +kernel
theorem dX11_takes_50 : decode cX11_takes 50 = .ok (.bipush 21, 2) := by decide +kernel
theorem dX11_takes_52 : decode cX11_takes 52 = .ok (.if_icmp .eq 27, 3) := by decide +kernel
theorem dX11_takes_55 : decode cX11_takes 55 = .ok (.iload_n 0, 1) := by decide +kernel
theorem dX11_takes_56 : decode cX11_takes 56 = .ok (.bipush 30, 2) := by decide +kernel
theorem dX11_takes_58 : decode cX11_takes 58 = .ok (.if_icmp .eq 21, 3) := by decide +kernel
theorem dX11_takes_61 : decode cX11_takes 61 = .ok (.iload_n 0, 1) := by decide +kernel
theorem dX11_takes_62 : decode cX11_takes 62 = .ok (.bipush 34, 2) := by decide +kernel
theorem dX11_takes_64 : decode cX11_takes 64 = .ok (.if_icmp .eq 15, 3) := by decide +kernel
theorem dX11_takes_67 : decode cX11_takes 67 = .ok (.iload_n 0, 1) := by decide +kernel
theorem dX11_takes_68 : decode cX11_takes 68 = .ok (.bipush 36, 2) := by decide +kernel
theorem dX11_takes_70 : decode cX11_takes 70 = .ok (.if_icmp .lt 11, 3) := by decide +kernel
theorem dX11_takes_73 : decode cX11_takes 73 = .ok (.iload_n 0, 1) := by decide +kernel
theorem dX11_takes_74 : decode cX11_takes 74 = .ok (.bipush 38, 2) := by decide +kernel
theorem dX11_takes_76 : decode cX11_takes 76 = .ok (.if_icmp .gt 5, 3) := by decide +kernel
theorem dX11_takes_79 : decode cX11_takes 79 = .ok (.iconst 1, 1) := by decide +kernel
theorem dX11_takes_80 : decode cX11_takes 80 = .ok (.ireturn, 1) := by decide +kernel
theorem dX11_takes_81 : decode cX11_takes 81 = .ok (.iload_n 0, 1) := by decide +kernel
theorem dX11_takes_82 : decode cX11_takes 82 = .ok (.bipush 31, 2) := by decide +kernel
theorem dX11_takes_84 : decode cX11_takes 84 = .ok (.if_icmp .ne 7, 3) := by decide +kernel
theorem dX11_takes_87 : decode cX11_takes 87 = .ok (.iconst 4, 1) := by decide +kernel
theorem dX11_takes_88 : decode cX11_takes 88 = .ok (.goto 14, 3) := by decide +kernel
theorem dX11_takes_91 : decode cX11_takes 91 = .ok (.iload_n 0, 1) := by decide +kernel
theorem dX11_takes_92 : decode cX11_takes 92 = .ok (.bipush 32, 2) := by decide +kernel
theorem dX11_takes_94 : decode cX11_takes 94 = .ok (.if_icmp .ne 7, 3) := by decide +kernel
theorem dX11_takes_97 : decode cX11_takes 97 = .ok (.iconst 3, 1) := by decide +kernel
theorem dX11_takes_98 : decode cX11_takes 98 = .ok (.goto 4, 3) := by decide +kernel
theorem dX11_takes_101 : decode cX11_takes 101 = .ok (.iconst 0, 1) := by decide +kernel
theorem dX11_takes_102 : decode cX11_takes 102 = .ok (.ireturn, 1) := by decide +kernel
theorem dX11_gives_0 : decode cX11_gives 0 = .ok (.iload_n 0, 1) := by decide +kernel
theorem dX11_gives_1 : decode cX11_gives 1 = .ok (.iconst 1, 1) := by decide +kernel
theorem dX11_gives_2 : decode cX11_gives 2 = .ok (.if_icmp .eq 49, 3) := by decide +kernel
theorem dX11_gives_5 : decode cX11_gives 5 = .ok (.iload_n 0, 1) := by decide +kernel
theorem dX11_gives_6 : decode cX11_gives 6 = .ok (.iconst 2, 1) := by decide +kernel
theorem dX11_gives_7 : decode cX11_gives 7 = .ok (.if_icmp .eq 44, 3) := by decide +kernel
theorem dX11_gives_10 : decode cX11_gives 10 = .ok (.iload_n 0, 1) := by decide +kernel
theorem dX11_gives_11 : decode cX11_gives 11 = .ok (.iconst 4, 1) := by decide +kernel
theorem dX11_gives_12 : decode cX11_gives 12 = .ok (.if_icmp .eq 39, 3) := by decide +kernel
theorem dX11_gives_15 : decode cX11_gives 15 = .ok (.iload_n 0, 1) := by decide +kernel
theorem dX11_gives_16 : decode cX11_gives 16 = .ok (.bipush 6, 2) := by decide +kernel
theorem dX11_gives_18 : decode cX11_gives 18 = .ok (.if_icmp .lt 9, 3) := by decide +kernel
theorem dX11_gives_21 : decode cX11_gives 21 = .ok (.iload_n 0, 1) := by decide +kernel
theorem dX11_gives_22 : decode cX11_gives 22 = .ok (.bipush 18, 2) := by decide +kernel
theorem dX11_gives_24 : decode cX11_gives 24 = .ok (.if_icmp .le 27, 3) := by decide +kernel
theorem dX11_gives_27 : decode cX11_gives 27 = .ok (.iload_n 0, 1) := by decide +kernel
theorem dX11_gives_28 : decode cX11_gives 28 = .ok (.bipush 21, 2) := by decide +kernel
theorem dX11_gives_30 : decode cX11_gives 30 = .ok (.if_icmp .eq 21, 3) := by decide +kernel
theorem dX11_gives_33 : decode cX11_gives 33 = .ok (.iload_n 0, 1) := by decide +kernel
theorem dX11_gives_34 : decode cX11_gives 34 = .ok (.bipush 23, 2) := by decide +kernel
theorem dX11_gives_36 : decode cX11_gives 36 = .ok (.if_icmp .lt 9, 3) := by decide +kernel
theorem dX11_gives_39 : decode cX11_gives 39 = .ok (.iload_n 0, 1) := by decide +kernel
theorem dX11_gives_40 : decode cX11_gives 40 = .ok (.bipush 30, 2) := by decide +kernel
theorem dX11_gives_42 : decode cX11_gives 42 = .ok (.if_icmp .le 9, 3) := by decide +kernel
theorem dX11_gives_45 : decode cX11_gives 45 = .ok (.iload_n 0, 1) := by decide +kernel
theorem dX11_gives_46 : decode cX11_gives 46 = .ok (.bipush 33, 2) := by decide +kernel
theorem dX11_gives_48 : decode cX11_gives 48 = .ok (.if_icmp .ne 5, 3) := by decide +kernel
theorem dX11_gives_51 : decode cX11_gives 51 = .ok (.iconst 1, 1) := by decide +kernel
theorem dX11_gives_52 : decode cX11_gives 52 = .ok (.ireturn, 1) := by decide +kernel
theorem dX11_gives_53 : decode cX11_gives 53 = .ok (.iload_n 0, 1) := by decide +kernel
theorem dX11_gives_54 : decode cX11_gives 54 = .ok (.bipush 31, 2) := by decide +kernel
theorem dX11_gives_56 : decode cX11_gives 56 = .ok (.if_icmp .eq 9, 3) := by decide +kernel
theorem dX11_gives_59 : decode cX11_gives 59 = .ok (.iload_n 0, 1) := by decide +kernel
theorem dX11_gives_60 : decode cX11_gives 60 = .ok (.bipush 32, 2) := by decide +kernel
theorem dX11_gives_62 : decode cX11_gives 62 = .ok (.if_icmp .ne 7, 3) := by decide +kernel
theorem dX11_gives_65 : decode cX11_gives 65 = .ok (.iconst 2, 1) := by decide +kernel
theorem dX11_gives_66 : decode cX11_gives 66 = .ok (.goto 4, 3) := by decide +kernel
theorem dX11_gives_69 : decode cX11_gives 69 = .ok (.iconst 0, 1) := by decide +kernel
theorem dX11_gives_70 : decode cX11_gives 70 = .ok (.ireturn, 1) := by decide +kernel
theorem dX11_isAccount_0 : decode cX11_isAccount 0 = .ok (.lload_n 0, 1) := by decide +kernel
theorem dX11_isAccount_1 : decode cX11_isAccount 1 = .ok (.lconst 0, 1) := by decide +kernel
theorem dX11_isAccount_2 : decode cX11_isAccount 2 = .ok (.lcmp, 1) := by decide +kernel
theorem dX11_isAccount_3 : decode cX11_isAccount 3 = .ok (.ifCond .lt 15, 3) := by decide +kernel
theorem dX11_isAccount_6 : decode cX11_isAccount 6 = .ok (.lload_n 0, 1) := by decide +kernel
theorem dX11_isAccount_7 : decode cX11_isAccount 7 = .ok (.ldc2_w 179, 3) := by decide +kernel
theorem dX11_isAccount_10 : decode cX11_isAccount 10 = .ok (.lcmp, 1) := by decide +kernel
theorem dX11_isAccount_11 : decode cX11_isAccount 11 = .ok (.ifCond .ge 7, 3) := by decide +kernel
theorem dX11_isAccount_14 : decode cX11_isAccount 14 = .ok (.iconst 1, 1) := by decide +kernel
theorem dX11_isAccount_15 : decode cX11_isAccount 15 = .ok (.goto 4, 3) := by decide +kernel
theorem dX11_isAccount_18 : decode cX11_isAccount 18 = .ok (.iconst 0, 1) := by decide +kernel
theorem dX11_isAccount_19 : decode cX11_isAccount 19 = .ok (.ireturn, 1) := by decide +kernel
theorem cm_sizeOf {G : rx_E} {d : Nat}  (hG : rx_OK G) {op : Nat} (hop : op < 40) {mu : rx_M} : rx_C G MX11_sizeOf d [.int (nI op)] mu 0 0 (fun v m => v = some (.int (nI (vm_size op))) ∧ m = mu) := by
  refine rx_meth0 (by decide +kernel) rfl (Nat.le_of_ble_eq_true rfl) ?_
  refine rx_iload_n dX11_sizeOf_0 rfl ?_
  refine rx_iconst (v := nI 2) dX11_sizeOf_1 rfl ?_
  refine rx_icmp_ne (tgt := 10) dX11_sizeOf_2 (by decide) (fun h2 => ?_) (fun h2 => ?_)
  · rw [nI_eq (by omega) (by omega)] at h2
    refine rx_iload_n dX11_sizeOf_10 rfl ?_
    refine rx_iconst (v := nI 1) dX11_sizeOf_11 rfl ?_
    refine rx_icmp_eq (tgt := 37) dX11_sizeOf_12 (by decide) (fun h12 => ?_) (fun h12 => ?_)
    · rw [nI_eq (by omega) (by omega)] at h12
      refine rx_iconst (v := nI 2) dX11_sizeOf_37 rfl ?_
      refine rx_goto (tgt := 42) dX11_sizeOf_38 (by decide) ?_
      exact rx_iret rfl dX11_sizeOf_42 ⟨congrArg (fun n => some (Value.int (nI n))) (show 2 = vm_size op by unfold vm_size; (repeat' split) <;> omega), rfl⟩
    · rw [nI_eq (by omega) (by omega)] at h12
      refine rx_iload_n dX11_sizeOf_15 rfl ?_
      refine rx_iconst (v := nI 4) dX11_sizeOf_16 rfl ?_
      refine rx_icmp_eq (tgt := 37) dX11_sizeOf_17 (by decide) (fun h17 => ?_) (fun h17 => ?_)
      · rw [nI_eq (by omega) (by omega)] at h17
        refine rx_iconst (v := nI 2) dX11_sizeOf_37 rfl ?_
        refine rx_goto (tgt := 42) dX11_sizeOf_38 (by decide) ?_
        exact rx_iret rfl dX11_sizeOf_42 ⟨congrArg (fun n => some (Value.int (nI n))) (show 2 = vm_size op by unfold vm_size; (repeat' split) <;> omega), rfl⟩
      · rw [nI_eq (by omega) (by omega)] at h17
        refine rx_iload_n dX11_sizeOf_20 rfl ?_
        refine rx_iconst (v := nI 5) dX11_sizeOf_21 rfl ?_
        refine rx_icmp_eq (tgt := 37) dX11_sizeOf_22 (by decide) (fun h22 => ?_) (fun h22 => ?_)
        · rw [nI_eq (by omega) (by omega)] at h22
          refine rx_iconst (v := nI 2) dX11_sizeOf_37 rfl ?_
          refine rx_goto (tgt := 42) dX11_sizeOf_38 (by decide) ?_
          exact rx_iret rfl dX11_sizeOf_42 ⟨congrArg (fun n => some (Value.int (nI n))) (show 2 = vm_size op by unfold vm_size; (repeat' split) <;> omega), rfl⟩
        · rw [nI_eq (by omega) (by omega)] at h22
          refine rx_iload_n dX11_sizeOf_25 rfl ?_
          refine rx_bipush (v := nI 19) dX11_sizeOf_26 rfl ?_
          refine rx_icmp_eq (tgt := 37) dX11_sizeOf_28 (by decide) (fun h28 => ?_) (fun h28 => ?_)
          · rw [nI_eq (by omega) (by omega)] at h28
            refine rx_iconst (v := nI 2) dX11_sizeOf_37 rfl ?_
            refine rx_goto (tgt := 42) dX11_sizeOf_38 (by decide) ?_
            exact rx_iret rfl dX11_sizeOf_42 ⟨congrArg (fun n => some (Value.int (nI n))) (show 2 = vm_size op by unfold vm_size; (repeat' split) <;> omega), rfl⟩
          · rw [nI_eq (by omega) (by omega)] at h28
            refine rx_iload_n dX11_sizeOf_31 rfl ?_
            refine rx_bipush (v := nI 20) dX11_sizeOf_32 rfl ?_
            refine rx_icmp_ne (tgt := 41) dX11_sizeOf_34 (by decide) (fun h34 => ?_) (fun h34 => ?_)
            · rw [nI_eq (by omega) (by omega)] at h34
              refine rx_iconst (v := nI 1) dX11_sizeOf_41 rfl ?_
              exact rx_iret rfl dX11_sizeOf_42 ⟨congrArg (fun n => some (Value.int (nI n))) (show 1 = vm_size op by unfold vm_size; (repeat' split) <;> omega), rfl⟩
            · rw [nI_eq (by omega) (by omega)] at h34
              refine rx_iconst (v := nI 2) dX11_sizeOf_37 rfl ?_
              refine rx_goto (tgt := 42) dX11_sizeOf_38 (by decide) ?_
              exact rx_iret rfl dX11_sizeOf_42 ⟨congrArg (fun n => some (Value.int (nI n))) (show 2 = vm_size op by unfold vm_size; (repeat' split) <;> omega), rfl⟩
  · rw [nI_eq (by omega) (by omega)] at h2
    refine rx_bipush (v := nI 9) dX11_sizeOf_5 rfl ?_
    refine rx_goto (tgt := 42) dX11_sizeOf_7 (by decide) ?_
    exact rx_iret rfl dX11_sizeOf_42 ⟨congrArg (fun n => some (Value.int (nI n))) (show 9 = vm_size op by unfold vm_size; (repeat' split) <;> omega), rfl⟩
theorem cm_takes {G : rx_E} {d : Nat}  (hG : rx_OK G) {op : Nat} (hop : op < 40) {mu : rx_M} : rx_C G MX11_takes d [.int (nI op)] mu 0 0 (fun v m => v = some (.int (nI (vm_takes op))) ∧ m = mu) := by
  refine rx_meth0 (by decide +kernel) rfl (Nat.le_of_ble_eq_true rfl) ?_
  refine rx_iload_n dX11_takes_0 rfl ?_
  refine rx_bipush (v := nI 6) dX11_takes_1 rfl ?_
  refine rx_icmp_lt (tgt := 12) dX11_takes_3 (by decide) (fun h3 => ?_) (fun h3 => ?_)
  · rw [nI_ltI (by omega) (by omega)] at h3
    refine rx_iload_n dX11_takes_12 rfl ?_
    refine rx_bipush (v := nI 22) dX11_takes_13 rfl ?_
    refine rx_icmp_eq (tgt := 30) dX11_takes_15 (by decide) (fun h15 => ?_) (fun h15 => ?_)
    · rw [nI_eq (by omega) (by omega)] at h15
      refine rx_iconst (v := nI 2) dX11_takes_30 rfl ?_
      exact rx_iret rfl dX11_takes_31 ⟨congrArg (fun n => some (Value.int (nI n))) (show 2 = vm_takes op by unfold vm_takes; (repeat' split) <;> omega), rfl⟩
    · rw [nI_eq (by omega) (by omega)] at h15
      refine rx_iload_n dX11_takes_18 rfl ?_
      refine rx_bipush (v := nI 33) dX11_takes_19 rfl ?_
      refine rx_icmp_eq (tgt := 30) dX11_takes_21 (by decide) (fun h21 => ?_) (fun h21 => ?_)
      · rw [nI_eq (by omega) (by omega)] at h21
        refine rx_iconst (v := nI 2) dX11_takes_30 rfl ?_
        exact rx_iret rfl dX11_takes_31 ⟨congrArg (fun n => some (Value.int (nI n))) (show 2 = vm_takes op by unfold vm_takes; (repeat' split) <;> omega), rfl⟩
      · rw [nI_eq (by omega) (by omega)] at h21
        refine rx_iload_n dX11_takes_24 rfl ?_
        refine rx_bipush (v := nI 35) dX11_takes_25 rfl ?_
        refine rx_icmp_ne (tgt := 32) dX11_takes_27 (by decide) (fun h27 => ?_) (fun h27 => ?_)
        · rw [nI_eq (by omega) (by omega)] at h27
          refine rx_iload_n dX11_takes_32 rfl ?_
          refine rx_iconst (v := nI 3) dX11_takes_33 rfl ?_
          refine rx_icmp_eq (tgt := 79) dX11_takes_34 (by decide) (fun h34 => ?_) (fun h34 => ?_)
          · rw [nI_eq (by omega) (by omega)] at h34
            refine rx_iconst (v := nI 1) dX11_takes_79 rfl ?_
            exact rx_iret rfl dX11_takes_80 ⟨congrArg (fun n => some (Value.int (nI n))) (show 1 = vm_takes op by unfold vm_takes; (repeat' split) <;> omega), rfl⟩
          · rw [nI_eq (by omega) (by omega)] at h34
            refine rx_iload_n dX11_takes_37 rfl ?_
            refine rx_bipush (v := nI 18) dX11_takes_38 rfl ?_
            refine rx_icmp_eq (tgt := 79) dX11_takes_40 (by decide) (fun h40 => ?_) (fun h40 => ?_)
            · rw [nI_eq (by omega) (by omega)] at h40
              refine rx_iconst (v := nI 1) dX11_takes_79 rfl ?_
              exact rx_iret rfl dX11_takes_80 ⟨congrArg (fun n => some (Value.int (nI n))) (show 1 = vm_takes op by unfold vm_takes; (repeat' split) <;> omega), rfl⟩
            · rw [nI_eq (by omega) (by omega)] at h40
              refine rx_iload_n dX11_takes_43 rfl ?_
              refine rx_bipush (v := nI 20) dX11_takes_44 rfl ?_
              refine rx_icmp_eq (tgt := 79) dX11_takes_46 (by decide) (fun h46 => ?_) (fun h46 => ?_)
              · rw [nI_eq (by omega) (by omega)] at h46
                refine rx_iconst (v := nI 1) dX11_takes_79 rfl ?_
                exact rx_iret rfl dX11_takes_80 ⟨congrArg (fun n => some (Value.int (nI n))) (show 1 = vm_takes op by unfold vm_takes; (repeat' split) <;> omega), rfl⟩
              · rw [nI_eq (by omega) (by omega)] at h46
                refine rx_iload_n dX11_takes_49 rfl ?_
                refine rx_bipush (v := nI 21) dX11_takes_50 rfl ?_
                refine rx_icmp_eq (tgt := 79) dX11_takes_52 (by decide) (fun h52 => ?_) (fun h52 => ?_)
                · rw [nI_eq (by omega) (by omega)] at h52
                  refine rx_iconst (v := nI 1) dX11_takes_79 rfl ?_
                  exact rx_iret rfl dX11_takes_80 ⟨congrArg (fun n => some (Value.int (nI n))) (show 1 = vm_takes op by unfold vm_takes; (repeat' split) <;> omega), rfl⟩
                · rw [nI_eq (by omega) (by omega)] at h52
                  refine rx_iload_n dX11_takes_55 rfl ?_
                  refine rx_bipush (v := nI 30) dX11_takes_56 rfl ?_
                  refine rx_icmp_eq (tgt := 79) dX11_takes_58 (by decide) (fun h58 => ?_) (fun h58 => ?_)
                  · rw [nI_eq (by omega) (by omega)] at h58
                    refine rx_iconst (v := nI 1) dX11_takes_79 rfl ?_
                    exact rx_iret rfl dX11_takes_80 ⟨congrArg (fun n => some (Value.int (nI n))) (show 1 = vm_takes op by unfold vm_takes; (repeat' split) <;> omega), rfl⟩
                  · rw [nI_eq (by omega) (by omega)] at h58
                    refine rx_iload_n dX11_takes_61 rfl ?_
                    refine rx_bipush (v := nI 34) dX11_takes_62 rfl ?_
                    refine rx_icmp_eq (tgt := 79) dX11_takes_64 (by decide) (fun h64 => ?_) (fun h64 => ?_)
                    · rw [nI_eq (by omega) (by omega)] at h64
                      refine rx_iconst (v := nI 1) dX11_takes_79 rfl ?_
                      exact rx_iret rfl dX11_takes_80 ⟨congrArg (fun n => some (Value.int (nI n))) (show 1 = vm_takes op by unfold vm_takes; (repeat' split) <;> omega), rfl⟩
                    · rw [nI_eq (by omega) (by omega)] at h64
                      refine rx_iload_n dX11_takes_67 rfl ?_
                      refine rx_bipush (v := nI 36) dX11_takes_68 rfl ?_
                      refine rx_icmp_lt (tgt := 81) dX11_takes_70 (by decide) (fun h70 => ?_) (fun h70 => ?_)
                      · rw [nI_ltI (by omega) (by omega)] at h70
                        refine rx_iload_n dX11_takes_81 rfl ?_
                        refine rx_bipush (v := nI 31) dX11_takes_82 rfl ?_
                        refine rx_icmp_ne (tgt := 91) dX11_takes_84 (by decide) (fun h84 => ?_) (fun h84 => ?_)
                        · rw [nI_eq (by omega) (by omega)] at h84
                          refine rx_iload_n dX11_takes_91 rfl ?_
                          refine rx_bipush (v := nI 32) dX11_takes_92 rfl ?_
                          refine rx_icmp_ne (tgt := 101) dX11_takes_94 (by decide) (fun h94 => ?_) (fun h94 => ?_)
                          · rw [nI_eq (by omega) (by omega)] at h94
                            refine rx_iconst (v := nI 0) dX11_takes_101 rfl ?_
                            exact rx_iret rfl dX11_takes_102 ⟨congrArg (fun n => some (Value.int (nI n))) (show 0 = vm_takes op by unfold vm_takes; (repeat' split) <;> omega), rfl⟩
                          · rw [nI_eq (by omega) (by omega)] at h94
                            refine rx_iconst (v := nI 3) dX11_takes_97 rfl ?_
                            refine rx_goto (tgt := 102) dX11_takes_98 (by decide) ?_
                            exact rx_iret rfl dX11_takes_102 ⟨congrArg (fun n => some (Value.int (nI n))) (show 3 = vm_takes op by unfold vm_takes; (repeat' split) <;> omega), rfl⟩
                        · rw [nI_eq (by omega) (by omega)] at h84
                          refine rx_iconst (v := nI 4) dX11_takes_87 rfl ?_
                          refine rx_goto (tgt := 102) dX11_takes_88 (by decide) ?_
                          exact rx_iret rfl dX11_takes_102 ⟨congrArg (fun n => some (Value.int (nI n))) (show 4 = vm_takes op by unfold vm_takes; (repeat' split) <;> omega), rfl⟩
                      · rw [nI_ltI (by omega) (by omega)] at h70
                        refine rx_iload_n dX11_takes_73 rfl ?_
                        refine rx_bipush (v := nI 38) dX11_takes_74 rfl ?_
                        refine rx_icmp_gt (tgt := 81) dX11_takes_76 (by decide) (fun h76 => ?_) (fun h76 => ?_)
                        · rw [nI_ltI (by omega) (by omega)] at h76
                          refine rx_iload_n dX11_takes_81 rfl ?_
                          refine rx_bipush (v := nI 31) dX11_takes_82 rfl ?_
                          refine rx_icmp_ne (tgt := 91) dX11_takes_84 (by decide) (fun h84 => ?_) (fun h84 => ?_)
                          · rw [nI_eq (by omega) (by omega)] at h84
                            refine rx_iload_n dX11_takes_91 rfl ?_
                            refine rx_bipush (v := nI 32) dX11_takes_92 rfl ?_
                            refine rx_icmp_ne (tgt := 101) dX11_takes_94 (by decide) (fun h94 => ?_) (fun h94 => ?_)
                            · rw [nI_eq (by omega) (by omega)] at h94
                              refine rx_iconst (v := nI 0) dX11_takes_101 rfl ?_
                              exact rx_iret rfl dX11_takes_102 ⟨congrArg (fun n => some (Value.int (nI n))) (show 0 = vm_takes op by unfold vm_takes; (repeat' split) <;> omega), rfl⟩
                            · rw [nI_eq (by omega) (by omega)] at h94
                              refine rx_iconst (v := nI 3) dX11_takes_97 rfl ?_
                              refine rx_goto (tgt := 102) dX11_takes_98 (by decide) ?_
                              exact rx_iret rfl dX11_takes_102 ⟨congrArg (fun n => some (Value.int (nI n))) (show 3 = vm_takes op by unfold vm_takes; (repeat' split) <;> omega), rfl⟩
                          · rw [nI_eq (by omega) (by omega)] at h84
                            refine rx_iconst (v := nI 4) dX11_takes_87 rfl ?_
                            refine rx_goto (tgt := 102) dX11_takes_88 (by decide) ?_
                            exact rx_iret rfl dX11_takes_102 ⟨congrArg (fun n => some (Value.int (nI n))) (show 4 = vm_takes op by unfold vm_takes; (repeat' split) <;> omega), rfl⟩
                        · rw [nI_ltI (by omega) (by omega)] at h76
                          refine rx_iconst (v := nI 1) dX11_takes_79 rfl ?_
                          exact rx_iret rfl dX11_takes_80 ⟨congrArg (fun n => some (Value.int (nI n))) (show 1 = vm_takes op by unfold vm_takes; (repeat' split) <;> omega), rfl⟩
        · rw [nI_eq (by omega) (by omega)] at h27
          refine rx_iconst (v := nI 2) dX11_takes_30 rfl ?_
          exact rx_iret rfl dX11_takes_31 ⟨congrArg (fun n => some (Value.int (nI n))) (show 2 = vm_takes op by unfold vm_takes; (repeat' split) <;> omega), rfl⟩
  · rw [nI_ltI (by omega) (by omega)] at h3
    refine rx_iload_n dX11_takes_6 rfl ?_
    refine rx_bipush (v := nI 17) dX11_takes_7 rfl ?_
    refine rx_icmp_le (tgt := 30) dX11_takes_9 (by decide) (fun h9 => ?_) (fun h9 => ?_)
    · rw [nI_leI (by omega) (by omega)] at h9
      refine rx_iconst (v := nI 2) dX11_takes_30 rfl ?_
      exact rx_iret rfl dX11_takes_31 ⟨congrArg (fun n => some (Value.int (nI n))) (show 2 = vm_takes op by unfold vm_takes; (repeat' split) <;> omega), rfl⟩
    · rw [nI_leI (by omega) (by omega)] at h9
      refine rx_iload_n dX11_takes_12 rfl ?_
      refine rx_bipush (v := nI 22) dX11_takes_13 rfl ?_
      refine rx_icmp_eq (tgt := 30) dX11_takes_15 (by decide) (fun h15 => ?_) (fun h15 => ?_)
      · rw [nI_eq (by omega) (by omega)] at h15
        refine rx_iconst (v := nI 2) dX11_takes_30 rfl ?_
        exact rx_iret rfl dX11_takes_31 ⟨congrArg (fun n => some (Value.int (nI n))) (show 2 = vm_takes op by unfold vm_takes; (repeat' split) <;> omega), rfl⟩
      · rw [nI_eq (by omega) (by omega)] at h15
        refine rx_iload_n dX11_takes_18 rfl ?_
        refine rx_bipush (v := nI 33) dX11_takes_19 rfl ?_
        refine rx_icmp_eq (tgt := 30) dX11_takes_21 (by decide) (fun h21 => ?_) (fun h21 => ?_)
        · rw [nI_eq (by omega) (by omega)] at h21
          refine rx_iconst (v := nI 2) dX11_takes_30 rfl ?_
          exact rx_iret rfl dX11_takes_31 ⟨congrArg (fun n => some (Value.int (nI n))) (show 2 = vm_takes op by unfold vm_takes; (repeat' split) <;> omega), rfl⟩
        · rw [nI_eq (by omega) (by omega)] at h21
          refine rx_iload_n dX11_takes_24 rfl ?_
          refine rx_bipush (v := nI 35) dX11_takes_25 rfl ?_
          refine rx_icmp_ne (tgt := 32) dX11_takes_27 (by decide) (fun h27 => ?_) (fun h27 => ?_)
          · rw [nI_eq (by omega) (by omega)] at h27
            refine rx_iload_n dX11_takes_32 rfl ?_
            refine rx_iconst (v := nI 3) dX11_takes_33 rfl ?_
            refine rx_icmp_eq (tgt := 79) dX11_takes_34 (by decide) (fun h34 => ?_) (fun h34 => ?_)
            · rw [nI_eq (by omega) (by omega)] at h34
              refine rx_iconst (v := nI 1) dX11_takes_79 rfl ?_
              exact rx_iret rfl dX11_takes_80 ⟨congrArg (fun n => some (Value.int (nI n))) (show 1 = vm_takes op by unfold vm_takes; (repeat' split) <;> omega), rfl⟩
            · rw [nI_eq (by omega) (by omega)] at h34
              refine rx_iload_n dX11_takes_37 rfl ?_
              refine rx_bipush (v := nI 18) dX11_takes_38 rfl ?_
              refine rx_icmp_eq (tgt := 79) dX11_takes_40 (by decide) (fun h40 => ?_) (fun h40 => ?_)
              · rw [nI_eq (by omega) (by omega)] at h40
                refine rx_iconst (v := nI 1) dX11_takes_79 rfl ?_
                exact rx_iret rfl dX11_takes_80 ⟨congrArg (fun n => some (Value.int (nI n))) (show 1 = vm_takes op by unfold vm_takes; (repeat' split) <;> omega), rfl⟩
              · rw [nI_eq (by omega) (by omega)] at h40
                refine rx_iload_n dX11_takes_43 rfl ?_
                refine rx_bipush (v := nI 20) dX11_takes_44 rfl ?_
                refine rx_icmp_eq (tgt := 79) dX11_takes_46 (by decide) (fun h46 => ?_) (fun h46 => ?_)
                · rw [nI_eq (by omega) (by omega)] at h46
                  refine rx_iconst (v := nI 1) dX11_takes_79 rfl ?_
                  exact rx_iret rfl dX11_takes_80 ⟨congrArg (fun n => some (Value.int (nI n))) (show 1 = vm_takes op by unfold vm_takes; (repeat' split) <;> omega), rfl⟩
                · rw [nI_eq (by omega) (by omega)] at h46
                  refine rx_iload_n dX11_takes_49 rfl ?_
                  refine rx_bipush (v := nI 21) dX11_takes_50 rfl ?_
                  refine rx_icmp_eq (tgt := 79) dX11_takes_52 (by decide) (fun h52 => ?_) (fun h52 => ?_)
                  · rw [nI_eq (by omega) (by omega)] at h52
                    refine rx_iconst (v := nI 1) dX11_takes_79 rfl ?_
                    exact rx_iret rfl dX11_takes_80 ⟨congrArg (fun n => some (Value.int (nI n))) (show 1 = vm_takes op by unfold vm_takes; (repeat' split) <;> omega), rfl⟩
                  · rw [nI_eq (by omega) (by omega)] at h52
                    refine rx_iload_n dX11_takes_55 rfl ?_
                    refine rx_bipush (v := nI 30) dX11_takes_56 rfl ?_
                    refine rx_icmp_eq (tgt := 79) dX11_takes_58 (by decide) (fun h58 => ?_) (fun h58 => ?_)
                    · rw [nI_eq (by omega) (by omega)] at h58
                      refine rx_iconst (v := nI 1) dX11_takes_79 rfl ?_
                      exact rx_iret rfl dX11_takes_80 ⟨congrArg (fun n => some (Value.int (nI n))) (show 1 = vm_takes op by unfold vm_takes; (repeat' split) <;> omega), rfl⟩
                    · rw [nI_eq (by omega) (by omega)] at h58
                      refine rx_iload_n dX11_takes_61 rfl ?_
                      refine rx_bipush (v := nI 34) dX11_takes_62 rfl ?_
                      refine rx_icmp_eq (tgt := 79) dX11_takes_64 (by decide) (fun h64 => ?_) (fun h64 => ?_)
                      · rw [nI_eq (by omega) (by omega)] at h64
                        refine rx_iconst (v := nI 1) dX11_takes_79 rfl ?_
                        exact rx_iret rfl dX11_takes_80 ⟨congrArg (fun n => some (Value.int (nI n))) (show 1 = vm_takes op by unfold vm_takes; (repeat' split) <;> omega), rfl⟩
                      · rw [nI_eq (by omega) (by omega)] at h64
                        refine rx_iload_n dX11_takes_67 rfl ?_
                        refine rx_bipush (v := nI 36) dX11_takes_68 rfl ?_
                        refine rx_icmp_lt (tgt := 81) dX11_takes_70 (by decide) (fun h70 => ?_) (fun h70 => ?_)
                        · rw [nI_ltI (by omega) (by omega)] at h70
                          refine rx_iload_n dX11_takes_81 rfl ?_
                          refine rx_bipush (v := nI 31) dX11_takes_82 rfl ?_
                          refine rx_icmp_ne (tgt := 91) dX11_takes_84 (by decide) (fun h84 => ?_) (fun h84 => ?_)
                          · rw [nI_eq (by omega) (by omega)] at h84
                            refine rx_iload_n dX11_takes_91 rfl ?_
                            refine rx_bipush (v := nI 32) dX11_takes_92 rfl ?_
                            refine rx_icmp_ne (tgt := 101) dX11_takes_94 (by decide) (fun h94 => ?_) (fun h94 => ?_)
                            · rw [nI_eq (by omega) (by omega)] at h94
                              refine rx_iconst (v := nI 0) dX11_takes_101 rfl ?_
                              exact rx_iret rfl dX11_takes_102 ⟨congrArg (fun n => some (Value.int (nI n))) (show 0 = vm_takes op by unfold vm_takes; (repeat' split) <;> omega), rfl⟩
                            · rw [nI_eq (by omega) (by omega)] at h94
                              refine rx_iconst (v := nI 3) dX11_takes_97 rfl ?_
                              refine rx_goto (tgt := 102) dX11_takes_98 (by decide) ?_
                              exact rx_iret rfl dX11_takes_102 ⟨congrArg (fun n => some (Value.int (nI n))) (show 3 = vm_takes op by unfold vm_takes; (repeat' split) <;> omega), rfl⟩
                          · rw [nI_eq (by omega) (by omega)] at h84
                            refine rx_iconst (v := nI 4) dX11_takes_87 rfl ?_
                            refine rx_goto (tgt := 102) dX11_takes_88 (by decide) ?_
                            exact rx_iret rfl dX11_takes_102 ⟨congrArg (fun n => some (Value.int (nI n))) (show 4 = vm_takes op by unfold vm_takes; (repeat' split) <;> omega), rfl⟩
                        · rw [nI_ltI (by omega) (by omega)] at h70
                          refine rx_iload_n dX11_takes_73 rfl ?_
                          refine rx_bipush (v := nI 38) dX11_takes_74 rfl ?_
                          refine rx_icmp_gt (tgt := 81) dX11_takes_76 (by decide) (fun h76 => ?_) (fun h76 => ?_)
                          · rw [nI_ltI (by omega) (by omega)] at h76
                            refine rx_iload_n dX11_takes_81 rfl ?_
                            refine rx_bipush (v := nI 31) dX11_takes_82 rfl ?_
                            refine rx_icmp_ne (tgt := 91) dX11_takes_84 (by decide) (fun h84 => ?_) (fun h84 => ?_)
                            · rw [nI_eq (by omega) (by omega)] at h84
                              refine rx_iload_n dX11_takes_91 rfl ?_
                              refine rx_bipush (v := nI 32) dX11_takes_92 rfl ?_
                              refine rx_icmp_ne (tgt := 101) dX11_takes_94 (by decide) (fun h94 => ?_) (fun h94 => ?_)
                              · rw [nI_eq (by omega) (by omega)] at h94
                                refine rx_iconst (v := nI 0) dX11_takes_101 rfl ?_
                                exact rx_iret rfl dX11_takes_102 ⟨congrArg (fun n => some (Value.int (nI n))) (show 0 = vm_takes op by unfold vm_takes; (repeat' split) <;> omega), rfl⟩
                              · rw [nI_eq (by omega) (by omega)] at h94
                                refine rx_iconst (v := nI 3) dX11_takes_97 rfl ?_
                                refine rx_goto (tgt := 102) dX11_takes_98 (by decide) ?_
                                exact rx_iret rfl dX11_takes_102 ⟨congrArg (fun n => some (Value.int (nI n))) (show 3 = vm_takes op by unfold vm_takes; (repeat' split) <;> omega), rfl⟩
                            · rw [nI_eq (by omega) (by omega)] at h84
                              refine rx_iconst (v := nI 4) dX11_takes_87 rfl ?_
                              refine rx_goto (tgt := 102) dX11_takes_88 (by decide) ?_
                              exact rx_iret rfl dX11_takes_102 ⟨congrArg (fun n => some (Value.int (nI n))) (show 4 = vm_takes op by unfold vm_takes; (repeat' split) <;> omega), rfl⟩
                          · rw [nI_ltI (by omega) (by omega)] at h76
                            refine rx_iconst (v := nI 1) dX11_takes_79 rfl ?_
                            exact rx_iret rfl dX11_takes_80 ⟨congrArg (fun n => some (Value.int (nI n))) (show 1 = vm_takes op by unfold vm_takes; (repeat' split) <;> omega), rfl⟩
          · rw [nI_eq (by omega) (by omega)] at h27
            refine rx_iconst (v := nI 2) dX11_takes_30 rfl ?_
            exact rx_iret rfl dX11_takes_31 ⟨congrArg (fun n => some (Value.int (nI n))) (show 2 = vm_takes op by unfold vm_takes; (repeat' split) <;> omega), rfl⟩
theorem cm_gives {G : rx_E} {d : Nat}  (hG : rx_OK G) {op : Nat} (hop : op < 40) {mu : rx_M} : rx_C G MX11_gives d [.int (nI op)] mu 0 0 (fun v m => v = some (.int (nI (vm_gives op))) ∧ m = mu) := by
  refine rx_meth0 (by decide +kernel) rfl (Nat.le_of_ble_eq_true rfl) ?_
  refine rx_iload_n dX11_gives_0 rfl ?_
  refine rx_iconst (v := nI 1) dX11_gives_1 rfl ?_
  refine rx_icmp_eq (tgt := 51) dX11_gives_2 (by decide) (fun h2 => ?_) (fun h2 => ?_)
  · rw [nI_eq (by omega) (by omega)] at h2
    refine rx_iconst (v := nI 1) dX11_gives_51 rfl ?_
    exact rx_iret rfl dX11_gives_52 ⟨congrArg (fun n => some (Value.int (nI n))) (show 1 = vm_gives op by unfold vm_gives; (repeat' split) <;> omega), rfl⟩
  · rw [nI_eq (by omega) (by omega)] at h2
    refine rx_iload_n dX11_gives_5 rfl ?_
    refine rx_iconst (v := nI 2) dX11_gives_6 rfl ?_
    refine rx_icmp_eq (tgt := 51) dX11_gives_7 (by decide) (fun h7 => ?_) (fun h7 => ?_)
    · rw [nI_eq (by omega) (by omega)] at h7
      refine rx_iconst (v := nI 1) dX11_gives_51 rfl ?_
      exact rx_iret rfl dX11_gives_52 ⟨congrArg (fun n => some (Value.int (nI n))) (show 1 = vm_gives op by unfold vm_gives; (repeat' split) <;> omega), rfl⟩
    · rw [nI_eq (by omega) (by omega)] at h7
      refine rx_iload_n dX11_gives_10 rfl ?_
      refine rx_iconst (v := nI 4) dX11_gives_11 rfl ?_
      refine rx_icmp_eq (tgt := 51) dX11_gives_12 (by decide) (fun h12 => ?_) (fun h12 => ?_)
      · rw [nI_eq (by omega) (by omega)] at h12
        refine rx_iconst (v := nI 1) dX11_gives_51 rfl ?_
        exact rx_iret rfl dX11_gives_52 ⟨congrArg (fun n => some (Value.int (nI n))) (show 1 = vm_gives op by unfold vm_gives; (repeat' split) <;> omega), rfl⟩
      · rw [nI_eq (by omega) (by omega)] at h12
        refine rx_iload_n dX11_gives_15 rfl ?_
        refine rx_bipush (v := nI 6) dX11_gives_16 rfl ?_
        refine rx_icmp_lt (tgt := 27) dX11_gives_18 (by decide) (fun h18 => ?_) (fun h18 => ?_)
        · rw [nI_ltI (by omega) (by omega)] at h18
          refine rx_iload_n dX11_gives_27 rfl ?_
          refine rx_bipush (v := nI 21) dX11_gives_28 rfl ?_
          refine rx_icmp_eq (tgt := 51) dX11_gives_30 (by decide) (fun h30 => ?_) (fun h30 => ?_)
          · rw [nI_eq (by omega) (by omega)] at h30
            refine rx_iconst (v := nI 1) dX11_gives_51 rfl ?_
            exact rx_iret rfl dX11_gives_52 ⟨congrArg (fun n => some (Value.int (nI n))) (show 1 = vm_gives op by unfold vm_gives; (repeat' split) <;> omega), rfl⟩
          · rw [nI_eq (by omega) (by omega)] at h30
            refine rx_iload_n dX11_gives_33 rfl ?_
            refine rx_bipush (v := nI 23) dX11_gives_34 rfl ?_
            refine rx_icmp_lt (tgt := 45) dX11_gives_36 (by decide) (fun h36 => ?_) (fun h36 => ?_)
            · rw [nI_ltI (by omega) (by omega)] at h36
              refine rx_iload_n dX11_gives_45 rfl ?_
              refine rx_bipush (v := nI 33) dX11_gives_46 rfl ?_
              refine rx_icmp_ne (tgt := 53) dX11_gives_48 (by decide) (fun h48 => ?_) (fun h48 => ?_)
              · rw [nI_eq (by omega) (by omega)] at h48
                refine rx_iload_n dX11_gives_53 rfl ?_
                refine rx_bipush (v := nI 31) dX11_gives_54 rfl ?_
                refine rx_icmp_eq (tgt := 65) dX11_gives_56 (by decide) (fun h56 => ?_) (fun h56 => ?_)
                · rw [nI_eq (by omega) (by omega)] at h56
                  refine rx_iconst (v := nI 2) dX11_gives_65 rfl ?_
                  refine rx_goto (tgt := 70) dX11_gives_66 (by decide) ?_
                  exact rx_iret rfl dX11_gives_70 ⟨congrArg (fun n => some (Value.int (nI n))) (show 2 = vm_gives op by unfold vm_gives; (repeat' split) <;> omega), rfl⟩
                · rw [nI_eq (by omega) (by omega)] at h56
                  refine rx_iload_n dX11_gives_59 rfl ?_
                  refine rx_bipush (v := nI 32) dX11_gives_60 rfl ?_
                  refine rx_icmp_ne (tgt := 69) dX11_gives_62 (by decide) (fun h62 => ?_) (fun h62 => ?_)
                  · rw [nI_eq (by omega) (by omega)] at h62
                    refine rx_iconst (v := nI 0) dX11_gives_69 rfl ?_
                    exact rx_iret rfl dX11_gives_70 ⟨congrArg (fun n => some (Value.int (nI n))) (show 0 = vm_gives op by unfold vm_gives; (repeat' split) <;> omega), rfl⟩
                  · rw [nI_eq (by omega) (by omega)] at h62
                    refine rx_iconst (v := nI 2) dX11_gives_65 rfl ?_
                    refine rx_goto (tgt := 70) dX11_gives_66 (by decide) ?_
                    exact rx_iret rfl dX11_gives_70 ⟨congrArg (fun n => some (Value.int (nI n))) (show 2 = vm_gives op by unfold vm_gives; (repeat' split) <;> omega), rfl⟩
              · rw [nI_eq (by omega) (by omega)] at h48
                refine rx_iconst (v := nI 1) dX11_gives_51 rfl ?_
                exact rx_iret rfl dX11_gives_52 ⟨congrArg (fun n => some (Value.int (nI n))) (show 1 = vm_gives op by unfold vm_gives; (repeat' split) <;> omega), rfl⟩
            · rw [nI_ltI (by omega) (by omega)] at h36
              refine rx_iload_n dX11_gives_39 rfl ?_
              refine rx_bipush (v := nI 30) dX11_gives_40 rfl ?_
              refine rx_icmp_le (tgt := 51) dX11_gives_42 (by decide) (fun h42 => ?_) (fun h42 => ?_)
              · rw [nI_leI (by omega) (by omega)] at h42
                refine rx_iconst (v := nI 1) dX11_gives_51 rfl ?_
                exact rx_iret rfl dX11_gives_52 ⟨congrArg (fun n => some (Value.int (nI n))) (show 1 = vm_gives op by unfold vm_gives; (repeat' split) <;> omega), rfl⟩
              · rw [nI_leI (by omega) (by omega)] at h42
                refine rx_iload_n dX11_gives_45 rfl ?_
                refine rx_bipush (v := nI 33) dX11_gives_46 rfl ?_
                refine rx_icmp_ne (tgt := 53) dX11_gives_48 (by decide) (fun h48 => ?_) (fun h48 => ?_)
                · rw [nI_eq (by omega) (by omega)] at h48
                  refine rx_iload_n dX11_gives_53 rfl ?_
                  refine rx_bipush (v := nI 31) dX11_gives_54 rfl ?_
                  refine rx_icmp_eq (tgt := 65) dX11_gives_56 (by decide) (fun h56 => ?_) (fun h56 => ?_)
                  · rw [nI_eq (by omega) (by omega)] at h56
                    refine rx_iconst (v := nI 2) dX11_gives_65 rfl ?_
                    refine rx_goto (tgt := 70) dX11_gives_66 (by decide) ?_
                    exact rx_iret rfl dX11_gives_70 ⟨congrArg (fun n => some (Value.int (nI n))) (show 2 = vm_gives op by unfold vm_gives; (repeat' split) <;> omega), rfl⟩
                  · rw [nI_eq (by omega) (by omega)] at h56
                    refine rx_iload_n dX11_gives_59 rfl ?_
                    refine rx_bipush (v := nI 32) dX11_gives_60 rfl ?_
                    refine rx_icmp_ne (tgt := 69) dX11_gives_62 (by decide) (fun h62 => ?_) (fun h62 => ?_)
                    · rw [nI_eq (by omega) (by omega)] at h62
                      refine rx_iconst (v := nI 0) dX11_gives_69 rfl ?_
                      exact rx_iret rfl dX11_gives_70 ⟨congrArg (fun n => some (Value.int (nI n))) (show 0 = vm_gives op by unfold vm_gives; (repeat' split) <;> omega), rfl⟩
                    · rw [nI_eq (by omega) (by omega)] at h62
                      refine rx_iconst (v := nI 2) dX11_gives_65 rfl ?_
                      refine rx_goto (tgt := 70) dX11_gives_66 (by decide) ?_
                      exact rx_iret rfl dX11_gives_70 ⟨congrArg (fun n => some (Value.int (nI n))) (show 2 = vm_gives op by unfold vm_gives; (repeat' split) <;> omega), rfl⟩
                · rw [nI_eq (by omega) (by omega)] at h48
                  refine rx_iconst (v := nI 1) dX11_gives_51 rfl ?_
                  exact rx_iret rfl dX11_gives_52 ⟨congrArg (fun n => some (Value.int (nI n))) (show 1 = vm_gives op by unfold vm_gives; (repeat' split) <;> omega), rfl⟩
        · rw [nI_ltI (by omega) (by omega)] at h18
          refine rx_iload_n dX11_gives_21 rfl ?_
          refine rx_bipush (v := nI 18) dX11_gives_22 rfl ?_
          refine rx_icmp_le (tgt := 51) dX11_gives_24 (by decide) (fun h24 => ?_) (fun h24 => ?_)
          · rw [nI_leI (by omega) (by omega)] at h24
            refine rx_iconst (v := nI 1) dX11_gives_51 rfl ?_
            exact rx_iret rfl dX11_gives_52 ⟨congrArg (fun n => some (Value.int (nI n))) (show 1 = vm_gives op by unfold vm_gives; (repeat' split) <;> omega), rfl⟩
          · rw [nI_leI (by omega) (by omega)] at h24
            refine rx_iload_n dX11_gives_27 rfl ?_
            refine rx_bipush (v := nI 21) dX11_gives_28 rfl ?_
            refine rx_icmp_eq (tgt := 51) dX11_gives_30 (by decide) (fun h30 => ?_) (fun h30 => ?_)
            · rw [nI_eq (by omega) (by omega)] at h30
              refine rx_iconst (v := nI 1) dX11_gives_51 rfl ?_
              exact rx_iret rfl dX11_gives_52 ⟨congrArg (fun n => some (Value.int (nI n))) (show 1 = vm_gives op by unfold vm_gives; (repeat' split) <;> omega), rfl⟩
            · rw [nI_eq (by omega) (by omega)] at h30
              refine rx_iload_n dX11_gives_33 rfl ?_
              refine rx_bipush (v := nI 23) dX11_gives_34 rfl ?_
              refine rx_icmp_lt (tgt := 45) dX11_gives_36 (by decide) (fun h36 => ?_) (fun h36 => ?_)
              · rw [nI_ltI (by omega) (by omega)] at h36
                refine rx_iload_n dX11_gives_45 rfl ?_
                refine rx_bipush (v := nI 33) dX11_gives_46 rfl ?_
                refine rx_icmp_ne (tgt := 53) dX11_gives_48 (by decide) (fun h48 => ?_) (fun h48 => ?_)
                · rw [nI_eq (by omega) (by omega)] at h48
                  refine rx_iload_n dX11_gives_53 rfl ?_
                  refine rx_bipush (v := nI 31) dX11_gives_54 rfl ?_
                  refine rx_icmp_eq (tgt := 65) dX11_gives_56 (by decide) (fun h56 => ?_) (fun h56 => ?_)
                  · rw [nI_eq (by omega) (by omega)] at h56
                    refine rx_iconst (v := nI 2) dX11_gives_65 rfl ?_
                    refine rx_goto (tgt := 70) dX11_gives_66 (by decide) ?_
                    exact rx_iret rfl dX11_gives_70 ⟨congrArg (fun n => some (Value.int (nI n))) (show 2 = vm_gives op by unfold vm_gives; (repeat' split) <;> omega), rfl⟩
                  · rw [nI_eq (by omega) (by omega)] at h56
                    refine rx_iload_n dX11_gives_59 rfl ?_
                    refine rx_bipush (v := nI 32) dX11_gives_60 rfl ?_
                    refine rx_icmp_ne (tgt := 69) dX11_gives_62 (by decide) (fun h62 => ?_) (fun h62 => ?_)
                    · rw [nI_eq (by omega) (by omega)] at h62
                      refine rx_iconst (v := nI 0) dX11_gives_69 rfl ?_
                      exact rx_iret rfl dX11_gives_70 ⟨congrArg (fun n => some (Value.int (nI n))) (show 0 = vm_gives op by unfold vm_gives; (repeat' split) <;> omega), rfl⟩
                    · rw [nI_eq (by omega) (by omega)] at h62
                      refine rx_iconst (v := nI 2) dX11_gives_65 rfl ?_
                      refine rx_goto (tgt := 70) dX11_gives_66 (by decide) ?_
                      exact rx_iret rfl dX11_gives_70 ⟨congrArg (fun n => some (Value.int (nI n))) (show 2 = vm_gives op by unfold vm_gives; (repeat' split) <;> omega), rfl⟩
                · rw [nI_eq (by omega) (by omega)] at h48
                  refine rx_iconst (v := nI 1) dX11_gives_51 rfl ?_
                  exact rx_iret rfl dX11_gives_52 ⟨congrArg (fun n => some (Value.int (nI n))) (show 1 = vm_gives op by unfold vm_gives; (repeat' split) <;> omega), rfl⟩
              · rw [nI_ltI (by omega) (by omega)] at h36
                refine rx_iload_n dX11_gives_39 rfl ?_
                refine rx_bipush (v := nI 30) dX11_gives_40 rfl ?_
                refine rx_icmp_le (tgt := 51) dX11_gives_42 (by decide) (fun h42 => ?_) (fun h42 => ?_)
                · rw [nI_leI (by omega) (by omega)] at h42
                  refine rx_iconst (v := nI 1) dX11_gives_51 rfl ?_
                  exact rx_iret rfl dX11_gives_52 ⟨congrArg (fun n => some (Value.int (nI n))) (show 1 = vm_gives op by unfold vm_gives; (repeat' split) <;> omega), rfl⟩
                · rw [nI_leI (by omega) (by omega)] at h42
                  refine rx_iload_n dX11_gives_45 rfl ?_
                  refine rx_bipush (v := nI 33) dX11_gives_46 rfl ?_
                  refine rx_icmp_ne (tgt := 53) dX11_gives_48 (by decide) (fun h48 => ?_) (fun h48 => ?_)
                  · rw [nI_eq (by omega) (by omega)] at h48
                    refine rx_iload_n dX11_gives_53 rfl ?_
                    refine rx_bipush (v := nI 31) dX11_gives_54 rfl ?_
                    refine rx_icmp_eq (tgt := 65) dX11_gives_56 (by decide) (fun h56 => ?_) (fun h56 => ?_)
                    · rw [nI_eq (by omega) (by omega)] at h56
                      refine rx_iconst (v := nI 2) dX11_gives_65 rfl ?_
                      refine rx_goto (tgt := 70) dX11_gives_66 (by decide) ?_
                      exact rx_iret rfl dX11_gives_70 ⟨congrArg (fun n => some (Value.int (nI n))) (show 2 = vm_gives op by unfold vm_gives; (repeat' split) <;> omega), rfl⟩
                    · rw [nI_eq (by omega) (by omega)] at h56
                      refine rx_iload_n dX11_gives_59 rfl ?_
                      refine rx_bipush (v := nI 32) dX11_gives_60 rfl ?_
                      refine rx_icmp_ne (tgt := 69) dX11_gives_62 (by decide) (fun h62 => ?_) (fun h62 => ?_)
                      · rw [nI_eq (by omega) (by omega)] at h62
                        refine rx_iconst (v := nI 0) dX11_gives_69 rfl ?_
                        exact rx_iret rfl dX11_gives_70 ⟨congrArg (fun n => some (Value.int (nI n))) (show 0 = vm_gives op by unfold vm_gives; (repeat' split) <;> omega), rfl⟩
                      · rw [nI_eq (by omega) (by omega)] at h62
                        refine rx_iconst (v := nI 2) dX11_gives_65 rfl ?_
                        refine rx_goto (tgt := 70) dX11_gives_66 (by decide) ?_
                        exact rx_iret rfl dX11_gives_70 ⟨congrArg (fun n => some (Value.int (nI n))) (show 2 = vm_gives op by unfold vm_gives; (repeat' split) <;> omega), rfl⟩
                  · rw [nI_eq (by omega) (by omega)] at h48
                    refine rx_iconst (v := nI 1) dX11_gives_51 rfl ?_
                    exact rx_iret rfl dX11_gives_52 ⟨congrArg (fun n => some (Value.int (nI n))) (show 1 = vm_gives op by unfold vm_gives; (repeat' split) <;> omega), rfl⟩
theorem cm_costOf {G : rx_E} {d : Nat}  (hG : rx_OK G) {op : Nat} (hop : op < 40) {mu : rx_M} : rx_C G MX11_costOf d [.int (nI op)] mu 0 0 (fun v m => v = some (.int (nI (vm_cost op))) ∧ m = mu) := by
  refine rx_meth0 (by decide +kernel) rfl (Nat.le_of_ble_eq_true rfl) ?_
  have hc : op = 0 ∨ op = 1 ∨ op = 2 ∨ op = 3 ∨ op = 4 ∨ op = 5 ∨ op = 6 ∨ op = 7 ∨ op = 8 ∨ op = 9 ∨ op = 10 ∨ op = 11 ∨ op = 12 ∨ op = 13 ∨ op = 14 ∨ op = 15 ∨ op = 16 ∨ op = 17 ∨ op = 18 ∨ op = 19 ∨ op = 20 ∨ op = 21 ∨ op = 22 ∨ op = 23 ∨ op = 24 ∨ op = 25 ∨ op = 26 ∨ op = 27 ∨ op = 28 ∨ op = 29 ∨ op = 30 ∨ op = 31 ∨ op = 32 ∨ op = 33 ∨ op = 34 ∨ op = 35 ∨ op = 36 ∨ op = 37 ∨ op = 38 ∨ op = 39 := by omega
  rcases hc with rfl | rfl | rfl | rfl | rfl | rfl | rfl | rfl | rfl | rfl | rfl | rfl | rfl | rfl | rfl | rfl | rfl | rfl | rfl | rfl | rfl | rfl | rfl | rfl | rfl | rfl | rfl | rfl | rfl | rfl | rfl | rfl | rfl | rfl | rfl | rfl | rfl | rfl | rfl | rfl
  · refine rx_iload_n dX11_costOf_0 rfl ?_
    refine rx_tabIn (tgt := 176) dX11_costOf_1 (by decide) (by decide) rfl (by decide) ?_
    refine rx_iconst (v := nI 0) dX11_costOf_176 rfl ?_
    exact rx_iret rfl dX11_costOf_177 ⟨rfl, rfl⟩
  · refine rx_iload_n dX11_costOf_0 rfl ?_
    refine rx_tabIn (tgt := 205) dX11_costOf_1 (by decide) (by decide) rfl (by decide) ?_
    refine rx_iconst (v := nI 1) dX11_costOf_205 rfl ?_
    exact rx_iret rfl dX11_costOf_206 ⟨rfl, rfl⟩
  · refine rx_iload_n dX11_costOf_0 rfl ?_
    refine rx_tabIn (tgt := 178) dX11_costOf_1 (by decide) (by decide) rfl (by decide) ?_
    refine rx_iconst (v := nI 2) dX11_costOf_178 rfl ?_
    exact rx_iret rfl dX11_costOf_179 ⟨rfl, rfl⟩
  · refine rx_iload_n dX11_costOf_0 rfl ?_
    refine rx_tabIn (tgt := 205) dX11_costOf_1 (by decide) (by decide) rfl (by decide) ?_
    refine rx_iconst (v := nI 1) dX11_costOf_205 rfl ?_
    exact rx_iret rfl dX11_costOf_206 ⟨rfl, rfl⟩
  · refine rx_iload_n dX11_costOf_0 rfl ?_
    refine rx_tabIn (tgt := 205) dX11_costOf_1 (by decide) (by decide) rfl (by decide) ?_
    refine rx_iconst (v := nI 1) dX11_costOf_205 rfl ?_
    exact rx_iret rfl dX11_costOf_206 ⟨rfl, rfl⟩
  · refine rx_iload_n dX11_costOf_0 rfl ?_
    refine rx_tabIn (tgt := 205) dX11_costOf_1 (by decide) (by decide) rfl (by decide) ?_
    refine rx_iconst (v := nI 1) dX11_costOf_205 rfl ?_
    exact rx_iret rfl dX11_costOf_206 ⟨rfl, rfl⟩
  · refine rx_iload_n dX11_costOf_0 rfl ?_
    refine rx_tabIn (tgt := 205) dX11_costOf_1 (by decide) (by decide) rfl (by decide) ?_
    refine rx_iconst (v := nI 1) dX11_costOf_205 rfl ?_
    exact rx_iret rfl dX11_costOf_206 ⟨rfl, rfl⟩
  · refine rx_iload_n dX11_costOf_0 rfl ?_
    refine rx_tabIn (tgt := 205) dX11_costOf_1 (by decide) (by decide) rfl (by decide) ?_
    refine rx_iconst (v := nI 1) dX11_costOf_205 rfl ?_
    exact rx_iret rfl dX11_costOf_206 ⟨rfl, rfl⟩
  · refine rx_iload_n dX11_costOf_0 rfl ?_
    refine rx_tabIn (tgt := 178) dX11_costOf_1 (by decide) (by decide) rfl (by decide) ?_
    refine rx_iconst (v := nI 2) dX11_costOf_178 rfl ?_
    exact rx_iret rfl dX11_costOf_179 ⟨rfl, rfl⟩
  · refine rx_iload_n dX11_costOf_0 rfl ?_
    refine rx_tabIn (tgt := 180) dX11_costOf_1 (by decide) (by decide) rfl (by decide) ?_
    refine rx_iconst (v := nI 3) dX11_costOf_180 rfl ?_
    exact rx_iret rfl dX11_costOf_181 ⟨rfl, rfl⟩
  · refine rx_iload_n dX11_costOf_0 rfl ?_
    refine rx_tabIn (tgt := 180) dX11_costOf_1 (by decide) (by decide) rfl (by decide) ?_
    refine rx_iconst (v := nI 3) dX11_costOf_180 rfl ?_
    exact rx_iret rfl dX11_costOf_181 ⟨rfl, rfl⟩
  · refine rx_iload_n dX11_costOf_0 rfl ?_
    refine rx_tabIn (tgt := 205) dX11_costOf_1 (by decide) (by decide) rfl (by decide) ?_
    refine rx_iconst (v := nI 1) dX11_costOf_205 rfl ?_
    exact rx_iret rfl dX11_costOf_206 ⟨rfl, rfl⟩
  · refine rx_iload_n dX11_costOf_0 rfl ?_
    refine rx_tabIn (tgt := 205) dX11_costOf_1 (by decide) (by decide) rfl (by decide) ?_
    refine rx_iconst (v := nI 1) dX11_costOf_205 rfl ?_
    exact rx_iret rfl dX11_costOf_206 ⟨rfl, rfl⟩
  · refine rx_iload_n dX11_costOf_0 rfl ?_
    refine rx_tabIn (tgt := 205) dX11_costOf_1 (by decide) (by decide) rfl (by decide) ?_
    refine rx_iconst (v := nI 1) dX11_costOf_205 rfl ?_
    exact rx_iret rfl dX11_costOf_206 ⟨rfl, rfl⟩
  · refine rx_iload_n dX11_costOf_0 rfl ?_
    refine rx_tabIn (tgt := 205) dX11_costOf_1 (by decide) (by decide) rfl (by decide) ?_
    refine rx_iconst (v := nI 1) dX11_costOf_205 rfl ?_
    exact rx_iret rfl dX11_costOf_206 ⟨rfl, rfl⟩
  · refine rx_iload_n dX11_costOf_0 rfl ?_
    refine rx_tabIn (tgt := 205) dX11_costOf_1 (by decide) (by decide) rfl (by decide) ?_
    refine rx_iconst (v := nI 1) dX11_costOf_205 rfl ?_
    exact rx_iret rfl dX11_costOf_206 ⟨rfl, rfl⟩
  · refine rx_iload_n dX11_costOf_0 rfl ?_
    refine rx_tabIn (tgt := 205) dX11_costOf_1 (by decide) (by decide) rfl (by decide) ?_
    refine rx_iconst (v := nI 1) dX11_costOf_205 rfl ?_
    exact rx_iret rfl dX11_costOf_206 ⟨rfl, rfl⟩
  · refine rx_iload_n dX11_costOf_0 rfl ?_
    refine rx_tabIn (tgt := 205) dX11_costOf_1 (by decide) (by decide) rfl (by decide) ?_
    refine rx_iconst (v := nI 1) dX11_costOf_205 rfl ?_
    exact rx_iret rfl dX11_costOf_206 ⟨rfl, rfl⟩
  · refine rx_iload_n dX11_costOf_0 rfl ?_
    refine rx_tabIn (tgt := 205) dX11_costOf_1 (by decide) (by decide) rfl (by decide) ?_
    refine rx_iconst (v := nI 1) dX11_costOf_205 rfl ?_
    exact rx_iret rfl dX11_costOf_206 ⟨rfl, rfl⟩
  · refine rx_iload_n dX11_costOf_0 rfl ?_
    refine rx_tabIn (tgt := 178) dX11_costOf_1 (by decide) (by decide) rfl (by decide) ?_
    refine rx_iconst (v := nI 2) dX11_costOf_178 rfl ?_
    exact rx_iret rfl dX11_costOf_179 ⟨rfl, rfl⟩
  · refine rx_iload_n dX11_costOf_0 rfl ?_
    refine rx_tabIn (tgt := 178) dX11_costOf_1 (by decide) (by decide) rfl (by decide) ?_
    refine rx_iconst (v := nI 2) dX11_costOf_178 rfl ?_
    exact rx_iret rfl dX11_costOf_179 ⟨rfl, rfl⟩
  · refine rx_iload_n dX11_costOf_0 rfl ?_
    refine rx_tabIn (tgt := 182) dX11_costOf_1 (by decide) (by decide) rfl (by decide) ?_
    refine rx_bipush (v := nI 10) dX11_costOf_182 rfl ?_
    exact rx_iret rfl dX11_costOf_184 ⟨rfl, rfl⟩
  · refine rx_iload_n dX11_costOf_0 rfl ?_
    refine rx_tabIn (tgt := 185) dX11_costOf_1 (by decide) (by decide) rfl (by decide) ?_
    refine rx_bipush (v := nI 20) dX11_costOf_185 rfl ?_
    exact rx_iret rfl dX11_costOf_187 ⟨rfl, rfl⟩
  · refine rx_iload_n dX11_costOf_0 rfl ?_
    refine rx_tabIn (tgt := 205) dX11_costOf_1 (by decide) (by decide) rfl (by decide) ?_
    refine rx_iconst (v := nI 1) dX11_costOf_205 rfl ?_
    exact rx_iret rfl dX11_costOf_206 ⟨rfl, rfl⟩
  · refine rx_iload_n dX11_costOf_0 rfl ?_
    refine rx_tabIn (tgt := 205) dX11_costOf_1 (by decide) (by decide) rfl (by decide) ?_
    refine rx_iconst (v := nI 1) dX11_costOf_205 rfl ?_
    exact rx_iret rfl dX11_costOf_206 ⟨rfl, rfl⟩
  · refine rx_iload_n dX11_costOf_0 rfl ?_
    refine rx_tabIn (tgt := 205) dX11_costOf_1 (by decide) (by decide) rfl (by decide) ?_
    refine rx_iconst (v := nI 1) dX11_costOf_205 rfl ?_
    exact rx_iret rfl dX11_costOf_206 ⟨rfl, rfl⟩
  · refine rx_iload_n dX11_costOf_0 rfl ?_
    refine rx_tabIn (tgt := 205) dX11_costOf_1 (by decide) (by decide) rfl (by decide) ?_
    refine rx_iconst (v := nI 1) dX11_costOf_205 rfl ?_
    exact rx_iret rfl dX11_costOf_206 ⟨rfl, rfl⟩
  · refine rx_iload_n dX11_costOf_0 rfl ?_
    refine rx_tabIn (tgt := 205) dX11_costOf_1 (by decide) (by decide) rfl (by decide) ?_
    refine rx_iconst (v := nI 1) dX11_costOf_205 rfl ?_
    exact rx_iret rfl dX11_costOf_206 ⟨rfl, rfl⟩
  · refine rx_iload_n dX11_costOf_0 rfl ?_
    refine rx_tabIn (tgt := 205) dX11_costOf_1 (by decide) (by decide) rfl (by decide) ?_
    refine rx_iconst (v := nI 1) dX11_costOf_205 rfl ?_
    exact rx_iret rfl dX11_costOf_206 ⟨rfl, rfl⟩
  · refine rx_iload_n dX11_costOf_0 rfl ?_
    refine rx_tabIn (tgt := 205) dX11_costOf_1 (by decide) (by decide) rfl (by decide) ?_
    refine rx_iconst (v := nI 1) dX11_costOf_205 rfl ?_
    exact rx_iret rfl dX11_costOf_206 ⟨rfl, rfl⟩
  · refine rx_iload_n dX11_costOf_0 rfl ?_
    refine rx_tabIn (tgt := 188) dX11_costOf_1 (by decide) (by decide) rfl (by decide) ?_
    refine rx_iconst (v := nI 5) dX11_costOf_188 rfl ?_
    exact rx_iret rfl dX11_costOf_189 ⟨rfl, rfl⟩
  · refine rx_iload_n dX11_costOf_0 rfl ?_
    refine rx_tabIn (tgt := 190) dX11_costOf_1 (by decide) (by decide) rfl (by decide) ?_
    refine rx_bipush (v := nI 30) dX11_costOf_190 rfl ?_
    exact rx_iret rfl dX11_costOf_192 ⟨rfl, rfl⟩
  · refine rx_iload_n dX11_costOf_0 rfl ?_
    refine rx_tabIn (tgt := 193) dX11_costOf_1 (by decide) (by decide) rfl (by decide) ?_
    refine rx_bipush (v := nI 25) dX11_costOf_193 rfl ?_
    exact rx_iret rfl dX11_costOf_195 ⟨rfl, rfl⟩
  · refine rx_iload_n dX11_costOf_0 rfl ?_
    refine rx_tabIn (tgt := 196) dX11_costOf_1 (by decide) (by decide) rfl (by decide) ?_
    refine rx_bipush (v := nI 100) dX11_costOf_196 rfl ?_
    exact rx_iret rfl dX11_costOf_198 ⟨rfl, rfl⟩
  · refine rx_iload_n dX11_costOf_0 rfl ?_
    refine rx_tabIn (tgt := 199) dX11_costOf_1 (by decide) (by decide) rfl (by decide) ?_
    refine rx_bipush (v := nI 40) dX11_costOf_199 rfl ?_
    exact rx_iret rfl dX11_costOf_201 ⟨rfl, rfl⟩
  · refine rx_iload_n dX11_costOf_0 rfl ?_
    refine rx_tabIn (tgt := 202) dX11_costOf_1 (by decide) (by decide) rfl (by decide) ?_
    refine rx_bipush (v := nI 15) dX11_costOf_202 rfl ?_
    exact rx_iret rfl dX11_costOf_204 ⟨rfl, rfl⟩
  · refine rx_iload_n dX11_costOf_0 rfl ?_
    refine rx_tabIn (tgt := 176) dX11_costOf_1 (by decide) (by decide) rfl (by decide) ?_
    refine rx_iconst (v := nI 0) dX11_costOf_176 rfl ?_
    exact rx_iret rfl dX11_costOf_177 ⟨rfl, rfl⟩
  · refine rx_iload_n dX11_costOf_0 rfl ?_
    refine rx_tabIn (tgt := 176) dX11_costOf_1 (by decide) (by decide) rfl (by decide) ?_
    refine rx_iconst (v := nI 0) dX11_costOf_176 rfl ?_
    exact rx_iret rfl dX11_costOf_177 ⟨rfl, rfl⟩
  · refine rx_iload_n dX11_costOf_0 rfl ?_
    refine rx_tabIn (tgt := 185) dX11_costOf_1 (by decide) (by decide) rfl (by decide) ?_
    refine rx_bipush (v := nI 20) dX11_costOf_185 rfl ?_
    exact rx_iret rfl dX11_costOf_187 ⟨rfl, rfl⟩
  · refine rx_iload_n dX11_costOf_0 rfl ?_
    refine rx_tabIn (tgt := 180) dX11_costOf_1 (by decide) (by decide) rfl (by decide) ?_
    refine rx_iconst (v := nI 3) dX11_costOf_180 rfl ?_
    exact rx_iret rfl dX11_costOf_181 ⟨rfl, rfl⟩
theorem cm_isAccount {G : rx_E} {d : Nat}  (hG : rx_OK G) {x : Int64} {mu : rx_M} [Decidable (vm_acct x)] : rx_C G MX11_isAccount d [.long x] mu 0 0 (fun v m => v = some (.int (if vm_acct x then nI 1 else nI 0)) ∧ m = mu) := by
  refine rx_meth0 (by decide +kernel) rfl (Nat.le_of_ble_eq_true rfl) ?_
  refine rx_lload_n dX11_isAccount_0 rfl ?_
  refine rx_lconst (v := 0) dX11_isAccount_1 rfl ?_
  refine rx_lc_lt (tgt := 18) dX11_isAccount_2 dX11_isAccount_3 (by decide) (fun h2 => ?_) (fun h2 => ?_)
  · refine rx_iconst (v := nI 0) dX11_isAccount_18 rfl ?_
    exact rx_zret rfl rfl dX11_isAccount_19 ⟨by rw [if_neg (fun h => absurd h.1 (Int64.not_le.mpr h2))], rfl⟩
  · refine rx_lload_n dX11_isAccount_6 rfl ?_
    refine rx_ldc2 hG hw_886 dX11_isAccount_7 ?_
    refine rx_lc_ge (tgt := 18) dX11_isAccount_10 dX11_isAccount_11 (by decide) (fun h10 => ?_) (fun h10 => ?_)
    · refine rx_iconst (v := nI 0) dX11_isAccount_18 rfl ?_
      exact rx_zret rfl rfl dX11_isAccount_19 ⟨by rw [if_neg (fun h => absurd h.2 (Int64.not_lt.mpr h10))], rfl⟩
    · refine rx_iconst (v := nI 1) dX11_isAccount_14 rfl ?_
      refine rx_goto (tgt := 19) dX11_isAccount_15 (by decide) ?_
      exact rx_zret rfl rfl dX11_isAccount_19 ⟨by rw [if_pos ⟨Int64.not_lt.mp h2, Int64.not_le.mp h10⟩], rfl⟩
end
section
theorem dX11_isLocked_0 : decode cX11_isLocked 0 = .ok (.iconst 0, 1) := by decide +kernel
theorem dX11_isLocked_1 : decode cX11_isLocked 1 = .ok (.istore_n 3, 1) := by decide +kernel
theorem dX11_isLocked_2 : decode cX11_isLocked 2 = .ok (.iconst 0, 1) := by decide +kernel
theorem dX11_isLocked_3 : decode cX11_isLocked 3 = .ok (.istore 4, 2) := by decide +kernel
theorem dX11_isLocked_5 : decode cX11_isLocked 5 = .ok (.iload 4, 2) := by decide +kernel
theorem dX11_isLocked_7 : decode cX11_isLocked 7 = .ok (.aload_n 0, 1) := by decide +kernel
theorem dX11_isLocked_8 : decode cX11_isLocked 8 = .ok (.getfield 203, 3) := by decide +kernel
theorem dX11_isLocked_11 : decode cX11_isLocked 11 = .ok (.if_icmp .ge 42, 3) := by decide +kernel
theorem dX11_isLocked_14 : decode cX11_isLocked 14 = .ok (.iload_n 3, 1) := by decide +kernel
theorem dX11_isLocked_15 : decode cX11_isLocked 15 = .ok (.ifCond .ne 26, 3) := by decide +kernel
theorem dX11_isLocked_18 : decode cX11_isLocked 18 = .ok (.aload_n 0, 1) := by decide +kernel
theorem dX11_isLocked_19 : decode cX11_isLocked 19 = .ok (.getfield 135, 3) := by decide +kernel
theorem dX11_isLocked_22 : decode cX11_isLocked 22 = .ok (.iload 4, 2) := by decide +kernel
theorem dX11_isLocked_24 : decode cX11_isLocked 24 = .ok (.baload, 1) := by decide +kernel
theorem dX11_isLocked_25 : decode cX11_isLocked 25 = .ok (.ifCond .eq 20, 3) := by decide +kernel
theorem dX11_isLocked_28 : decode cX11_isLocked 28 = .ok (.aload_n 0, 1) := by decide +kernel
theorem dX11_isLocked_29 : decode cX11_isLocked 29 = .ok (.getfield 120, 3) := by decide +kernel
theorem dX11_isLocked_32 : decode cX11_isLocked 32 = .ok (.iload 4, 2) := by decide +kernel
theorem dX11_isLocked_34 : decode cX11_isLocked 34 = .ok (.iaload, 1) := by decide +kernel
theorem dX11_isLocked_35 : decode cX11_isLocked 35 = .ok (.i2l, 1) := by decide +kernel
theorem dX11_isLocked_36 : decode cX11_isLocked 36 = .ok (.lload_n 1, 1) := by decide +kernel
theorem dX11_isLocked_37 : decode cX11_isLocked 37 = .ok (.lcmp, 1) := by decide +kernel
theorem dX11_isLocked_38 : decode cX11_isLocked 38 = .ok (.ifCond .ne 7, 3) := by decide +kernel
theorem dX11_isLocked_41 : decode cX11_isLocked 41 = .ok (.iconst 1, 1) := by decide +kernel
theorem dX11_isLocked_42 : decode cX11_isLocked 42 = .ok (.goto 4, 3) := by decide +kernel
theorem dX11_isLocked_45 : decode cX11_isLocked 45 = .ok (.iconst 0, 1) := by decide +kernel
theorem dX11_isLocked_46 : decode cX11_isLocked 46 = .ok (.istore_n 3, 1) := by decide +kernel
theorem dX11_isLocked_47 : decode cX11_isLocked 47 = .ok (.iinc 4 1, 3) := by decide +kernel
theorem dX11_isLocked_50 : decode cX11_isLocked 50 = .ok (.goto (-45), 3) := by decide +kernel
theorem dX11_isLocked_53 : decode cX11_isLocked 53 = .ok (.iload_n 3, 1) := by decide +kernel
theorem dX11_isLocked_54 : decode cX11_isLocked 54 = .ok (.ireturn, 1) := by decide +kernel
theorem dX11_hasFrame_0 : decode cX11_hasFrame 0 = .ok (.iconst 0, 1) := by decide +kernel
theorem dX11_hasFrame_1 : decode cX11_hasFrame 1 = .ok (.istore_n 2, 1) := by decide +kernel
theorem dX11_hasFrame_2 : decode cX11_hasFrame 2 = .ok (.iconst 0, 1) := by decide +kernel
theorem dX11_hasFrame_3 : decode cX11_hasFrame 3 = .ok (.istore_n 3, 1) := by decide +kernel
theorem dX11_hasFrame_4 : decode cX11_hasFrame 4 = .ok (.iload_n 3, 1) := by decide +kernel
theorem dX11_hasFrame_5 : decode cX11_hasFrame 5 = .ok (.aload_n 0, 1) := by decide +kernel
theorem dX11_hasFrame_6 : decode cX11_hasFrame 6 = .ok (.getfield 203, 3) := by decide +kernel
theorem dX11_hasFrame_9 : decode cX11_hasFrame 9 = .ok (.if_icmp .ge 29, 3) := by decide +kernel
theorem dX11_hasFrame_12 : decode cX11_hasFrame 12 = .ok (.iload_n 2, 1) := by decide +kernel
theorem dX11_hasFrame_13 : decode cX11_hasFrame 13 = .ok (.ifCond .ne 13, 3) := by decide +kernel
theorem dX11_hasFrame_16 : decode cX11_hasFrame 16 = .ok (.aload_n 0, 1) := by decide +kernel
theorem dX11_hasFrame_17 : decode cX11_hasFrame 17 = .ok (.getfield 120, 3) := by decide +kernel
theorem dX11_hasFrame_20 : decode cX11_hasFrame 20 = .ok (.iload_n 3, 1) := by decide +kernel
theorem dX11_hasFrame_21 : decode cX11_hasFrame 21 = .ok (.iaload, 1) := by decide +kernel
theorem dX11_hasFrame_22 : decode cX11_hasFrame 22 = .ok (.iload_n 1, 1) := by decide +kernel
theorem dX11_hasFrame_23 : decode cX11_hasFrame 23 = .ok (.if_icmp .ne 7, 3) := by decide +kernel
theorem dX11_hasFrame_26 : decode cX11_hasFrame 26 = .ok (.iconst 1, 1) := by decide +kernel
theorem dX11_hasFrame_27 : decode cX11_hasFrame 27 = .ok (.goto 4, 3) := by decide +kernel
theorem dX11_hasFrame_30 : decode cX11_hasFrame 30 = .ok (.iconst 0, 1) := by decide +kernel
theorem dX11_hasFrame_31 : decode cX11_hasFrame 31 = .ok (.istore_n 2, 1) := by decide +kernel
theorem dX11_hasFrame_32 : decode cX11_hasFrame 32 = .ok (.iinc 3 1, 3) := by decide +kernel
theorem dX11_hasFrame_35 : decode cX11_hasFrame 35 = .ok (.goto (-31), 3) := by decide +kernel
theorem dX11_hasFrame_38 : decode cX11_hasFrame 38 = .ok (.iload_n 2, 1) := by decide +kernel
theorem dX11_hasFrame_39 : decode cX11_hasFrame 39 = .ok (.ireturn, 1) := by decide +kernel
theorem dX11_isEmpty_0 : decode cX11_isEmpty 0 = .ok (.iconst 1, 1) := by decide +kernel
theorem dX11_isEmpty_1 : decode cX11_isEmpty 1 = .ok (.istore_n 2, 1) := by decide +kernel
theorem dX11_isEmpty_2 : decode cX11_isEmpty 2 = .ok (.iconst 0, 1) := by decide +kernel
theorem dX11_isEmpty_3 : decode cX11_isEmpty 3 = .ok (.istore_n 3, 1) := by decide +kernel
theorem dX11_isEmpty_4 : decode cX11_isEmpty 4 = .ok (.iload_n 3, 1) := by decide +kernel
theorem dX11_isEmpty_5 : decode cX11_isEmpty 5 = .ok (.bipush 19, 2) := by decide +kernel
theorem dX11_isEmpty_7 : decode cX11_isEmpty 7 = .ok (.if_icmp .ge 35, 3) := by decide +kernel
theorem dX11_isEmpty_10 : decode cX11_isEmpty 10 = .ok (.iload_n 2, 1) := by decide +kernel
theorem dX11_isEmpty_11 : decode cX11_isEmpty 11 = .ok (.ifCond .eq 23, 3) := by decide +kernel
theorem dX11_isEmpty_14 : decode cX11_isEmpty 14 = .ok (.aload_n 0, 1) := by decide +kernel
theorem dX11_isEmpty_15 : decode cX11_isEmpty 15 = .ok (.getfield 99, 3) := by decide +kernel
theorem dX11_isEmpty_18 : decode cX11_isEmpty 18 = .ok (.bipush 19, 2) := by decide +kernel
theorem dX11_isEmpty_20 : decode cX11_isEmpty 20 = .ok (.iload_n 1, 1) := by decide +kernel
theorem dX11_isEmpty_21 : decode cX11_isEmpty 21 = .ok (.imul, 1) := by decide +kernel
theorem dX11_isEmpty_22 : decode cX11_isEmpty 22 = .ok (.iload_n 3, 1) := by decide +kernel
theorem dX11_isEmpty_23 : decode cX11_isEmpty 23 = .ok (.iadd, 1) := by decide +kernel
theorem dX11_isEmpty_24 : decode cX11_isEmpty 24 = .ok (.laload, 1) := by decide +kernel
theorem dX11_isEmpty_25 : decode cX11_isEmpty 25 = .ok (.lconst 0, 1) := by decide +kernel
theorem dX11_isEmpty_26 : decode cX11_isEmpty 26 = .ok (.lcmp, 1) := by decide +kernel
theorem dX11_isEmpty_27 : decode cX11_isEmpty 27 = .ok (.ifCond .ne 7, 3) := by decide +kernel
theorem dX11_isEmpty_30 : decode cX11_isEmpty 30 = .ok (.iconst 1, 1) := by decide +kernel
theorem dX11_isEmpty_31 : decode cX11_isEmpty 31 = .ok (.goto 4, 3) := by decide +kernel
theorem dX11_isEmpty_34 : decode cX11_isEmpty 34 = .ok (.iconst 0, 1) := by decide +kernel
theorem dX11_isEmpty_35 : decode cX11_isEmpty 35 = .ok (.istore_n 2, 1) := by decide +kernel
theorem dX11_isEmpty_36 : decode cX11_isEmpty 36 = .ok (.iinc 3 1, 3) := by decide +kernel
theorem dX11_isEmpty_39 : decode cX11_isEmpty 39 = .ok (.goto (-35), 3) := by decide +kernel
theorem dX11_isEmpty_42 : decode cX11_isEmpty 42 = .ok (.iload_n 2, 1) := by decide +kernel
theorem dX11_isEmpty_43 : decode cX11_isEmpty 43 = .ok (.ireturn, 1) := by decide +kernel
theorem lm_isLocked {G : rx_E} {d mc ms : Nat} {C : rx_M} {S : gs_T} {Q : Option Value → rx_M → Prop} {Z : String → rx_M → Prop} (hG : rx_OK G) {n : Nat} {x : Int64} (hn : S.1 52 49 = nI n) (hn1 : n ≤ 11) (hQ : ∀ v, (v = 1 ∧ (∃ j, j < n ∧ (S.1 94 j ≠ 0 ∧ (S.1 89 j).toInt64 = x))) ∨ (v = 0 ∧ ¬ ∃ j, j < n ∧ (S.1 94 j ≠ 0 ∧ (S.1 89 j).toInt64 = x)) → Q (some (.int (nI v))) (gl C S)) : ∀ (k i v : Nat), i + k = n → ((v = 1 ∧ ∃ j, j < i ∧ (S.1 94 j ≠ 0 ∧ (S.1 89 j).toInt64 = x)) ∨ (v = 0 ∧ ¬ ∃ j, j < i ∧ (S.1 94 j ≠ 0 ∧ (S.1 89 j).toInt64 = x))) → rx_W G MX11_isLocked d 5 [(4, .int (nI i)), (3, .int (nI v)), (1, .long x), (0, .ref 52)] [] (gl C S) mc ms Q Z := by
  intro k
  induction k with
  | zero =>
    intro i v hi hv
    have hi : i = n := by omega
    subst hi
    refine rx_iload dX11_isLocked_5 rfl ?_
    refine rx_aload_n dX11_isLocked_7 rfl rfl ?_
    refine gmv_getI (v := nI i) hG hf_RX11_203 rfl dX11_isLocked_8 rfl rfl rfl hn ?_
    refine rx_icmp_ge (tgt := 53) dX11_isLocked_11 (by decide) (fun h11 => ?_) (fun h11 => absurd (by rw [nI_leI (by omega) (by omega)]; omega) h11) 
    refine rx_iload_n dX11_isLocked_53 rfl ?_
    exact rx_zret rfl (by rcases hv with ⟨rfl, -⟩ | ⟨rfl, -⟩ <;> rfl) dX11_isLocked_54 (hQ v hv)
  | succ k ih =>
    intro i v hi hv
    rcases hv with ⟨rfl, hv⟩ | ⟨rfl, hv⟩
    · refine rx_iload dX11_isLocked_5 rfl ?_
      refine rx_aload_n dX11_isLocked_7 rfl rfl ?_
      refine gmv_getI (v := nI n) hG hf_RX11_203 rfl dX11_isLocked_8 rfl rfl rfl hn ?_
      refine rx_icmp_ge (tgt := 53) dX11_isLocked_11 (by decide) (fun h11 => absurd h11 (by rw [nI_leI (by omega) (by omega)]; omega)) (fun h11 => ?_)
      refine rx_iload_n dX11_isLocked_14 rfl ?_
      refine rx_if_ne (tgt := 41) dX11_isLocked_15 (by decide) (fun h15 => ?_) (fun h15 => (absurd h15 (by decide))) 
      refine rx_iconst (v := nI 1) dX11_isLocked_41 rfl ?_
      refine rx_goto (tgt := 46) dX11_isLocked_42 (by decide) ?_
      refine rx_istore_n dX11_isLocked_46 (by decide) ?_
      refine rx_iinc (v := nI (i + 1)) dX11_isLocked_47 rfl ((nI_add _ 1).trans (congrArg nI (by omega))) ?_
      refine rx_goto (tgt := 5) dX11_isLocked_50 (by decide) ?_
      refine rx_lv (lv' := [(4, .int (nI (i + 1))), (3, .int (nI 1)), (1, .long x), (0, .ref 52)]) ⟨rfl, rfl, rfl, rfl, trivial⟩ ?_
      exact ih (i + 1) 1 (by omega) (Or.inl ⟨rfl, by obtain ⟨j, h1, h2⟩ := hv; exact ⟨j, by omega, h2⟩⟩)
    · refine rx_iload dX11_isLocked_5 rfl ?_
      refine rx_aload_n dX11_isLocked_7 rfl rfl ?_
      refine gmv_getI (v := nI n) hG hf_RX11_203 rfl dX11_isLocked_8 rfl rfl rfl hn ?_
      refine rx_icmp_ge (tgt := 53) dX11_isLocked_11 (by decide) (fun h11 => absurd h11 (by rw [nI_leI (by omega) (by omega)]; omega)) (fun h11 => ?_)
      refine rx_iload_n dX11_isLocked_14 rfl ?_
      refine rx_if_ne (tgt := 41) dX11_isLocked_15 (by decide) (fun h15 => (absurd h15 (by decide))) (fun h15 => ?_)
      refine rx_aload_n dX11_isLocked_18 rfl rfl ?_
      refine g_getR hG hf_RX11_135 rfl dX11_isLocked_19 rfl rfl rfl ?_
      refine rx_iload dX11_isLocked_22 rfl ?_
      refine gmv_zald (j := i) (v := S.1 94 i) hG dX11_isLocked_24 rfl rfl rfl rfl (by omega) (by decide) rfl ?_
      refine rx_if_eq (tgt := 45) dX11_isLocked_25 (by decide) (fun h25 => ?_) (fun h25 => ?_)
      · refine rx_iconst (v := nI 0) dX11_isLocked_45 rfl ?_
        refine rx_istore_n dX11_isLocked_46 (by decide) ?_
        refine rx_iinc (v := nI (i + 1)) dX11_isLocked_47 rfl ((nI_add _ 1).trans (congrArg nI (by omega))) ?_
        refine rx_goto (tgt := 5) dX11_isLocked_50 (by decide) ?_
        refine rx_lv (lv' := [(4, .int (nI (i + 1))), (3, .int (nI 0)), (1, .long x), (0, .ref 52)]) ⟨rfl, rfl, rfl, rfl, trivial⟩ ?_
        exact ih (i + 1) 0 (by omega) (Or.inr ⟨rfl, fun ⟨j, h1, h2⟩ => by by_cases e : j = i; (subst e; exact h2.1 h25); exact hv ⟨j, by omega, h2⟩⟩)
      · refine rx_aload_n dX11_isLocked_28 rfl rfl ?_
        refine g_getR hG hf_RX11_120 rfl dX11_isLocked_29 rfl rfl rfl ?_
        refine rx_iload dX11_isLocked_32 rfl ?_
        refine gmv_iald (j := i) (v := S.1 89 i) hG dX11_isLocked_34 rfl rfl rfl rfl (by omega) (by decide) rfl ?_
        refine rx_i2l dX11_isLocked_35 ?_
        refine rx_lload_n dX11_isLocked_36 rfl ?_
        refine rx_lc_ne (tgt := 45) dX11_isLocked_37 dX11_isLocked_38 (by decide) (fun h37 => ?_) (fun h37 => ?_)
        · refine rx_iconst (v := nI 0) dX11_isLocked_45 rfl ?_
          refine rx_istore_n dX11_isLocked_46 (by decide) ?_
          refine rx_iinc (v := nI (i + 1)) dX11_isLocked_47 rfl ((nI_add _ 1).trans (congrArg nI (by omega))) ?_
          refine rx_goto (tgt := 5) dX11_isLocked_50 (by decide) ?_
          refine rx_lv (lv' := [(4, .int (nI (i + 1))), (3, .int (nI 0)), (1, .long x), (0, .ref 52)]) ⟨rfl, rfl, rfl, rfl, trivial⟩ ?_
          exact ih (i + 1) 0 (by omega) (Or.inr ⟨rfl, fun ⟨j, h1, h2⟩ => by by_cases e : j = i; (subst e; exact h37 h2.2); exact hv ⟨j, by omega, h2⟩⟩)
        · refine rx_iconst (v := nI 1) dX11_isLocked_41 rfl ?_
          refine rx_goto (tgt := 46) dX11_isLocked_42 (by decide) ?_
          refine rx_istore_n dX11_isLocked_46 (by decide) ?_
          refine rx_iinc (v := nI (i + 1)) dX11_isLocked_47 rfl ((nI_add _ 1).trans (congrArg nI (by omega))) ?_
          refine rx_goto (tgt := 5) dX11_isLocked_50 (by decide) ?_
          refine rx_lv (lv' := [(4, .int (nI (i + 1))), (3, .int (nI 1)), (1, .long x), (0, .ref 52)]) ⟨rfl, rfl, rfl, rfl, trivial⟩ ?_
          exact ih (i + 1) 1 (by omega) (Or.inl ⟨rfl, i, by omega, h25, h37⟩)
theorem cm_isLocked {G : rx_E} {d : Nat} {C : rx_M} {S : gs_T} (hG : rx_OK G) {n : Nat} {x : Int64} (hn : S.1 52 49 = nI n) (hn1 : n ≤ 11) : rx_C G MX11_isLocked d [.ref 52, .long x] (gl C S) 0 0 (fun v mu => (∃ r, ((r = 1 ∧ ∃ j, j < n ∧ (S.1 94 j ≠ 0 ∧ (S.1 89 j).toInt64 = x)) ∨ (r = 0 ∧ ¬ ∃ j, j < n ∧ (S.1 94 j ≠ 0 ∧ (S.1 89 j).toInt64 = x))) ∧ v = some (.int (nI r))) ∧ mu = gl C S) := by
  refine rx_meth0 (by decide +kernel) rfl (Nat.le_of_ble_eq_true rfl) ?_
  refine rx_iconst (v := nI 0) dX11_isLocked_0 rfl ?_
  refine rx_istore_n dX11_isLocked_1 (by decide) ?_
  refine rx_iconst (v := nI 0) dX11_isLocked_2 rfl ?_
  refine rx_istore dX11_isLocked_3 (by decide) ?_
  refine rx_lv (lv' := [(4, .int (nI 0)), (3, .int (nI 0)), (1, .long x), (0, .ref 52)]) ⟨rfl, rfl, rfl, rfl, trivial⟩ ?_
  refine lm_isLocked (x := x) hG hn hn1 ?_ n 0 0 (by omega) (Or.inr ⟨rfl, fun ⟨j, h1, _⟩ => by omega⟩)
  exact fun v hv => ⟨⟨v, hv, rfl⟩, rfl⟩
theorem lm_hasFrame {G : rx_E} {d mc ms : Nat} {C : rx_M} {S : gs_T} {Q : Option Value → rx_M → Prop} {Z : String → rx_M → Prop} (hG : rx_OK G) {n a : Nat} (hn : S.1 52 49 = nI n) (hn1 : n ≤ 11) (hQ : ∀ v, (v = 1 ∧ (∃ j, j < n ∧ (S.1 89 j = nI a))) ∨ (v = 0 ∧ ¬ ∃ j, j < n ∧ (S.1 89 j = nI a)) → Q (some (.int (nI v))) (gl C S)) : ∀ (k i v : Nat), i + k = n → ((v = 1 ∧ ∃ j, j < i ∧ (S.1 89 j = nI a)) ∨ (v = 0 ∧ ¬ ∃ j, j < i ∧ (S.1 89 j = nI a))) → rx_W G MX11_hasFrame d 4 [(3, .int (nI i)), (2, .int (nI v)), (1, .int (nI a)), (0, .ref 52)] [] (gl C S) mc ms Q Z := by
  intro k
  induction k with
  | zero =>
    intro i v hi hv
    have hi : i = n := by omega
    subst hi
    refine rx_iload_n dX11_hasFrame_4 rfl ?_
    refine rx_aload_n dX11_hasFrame_5 rfl rfl ?_
    refine gmv_getI (v := nI i) hG hf_RX11_203 rfl dX11_hasFrame_6 rfl rfl rfl hn ?_
    refine rx_icmp_ge (tgt := 38) dX11_hasFrame_9 (by decide) (fun h9 => ?_) (fun h9 => absurd (by rw [nI_leI (by omega) (by omega)]; omega) h9) 
    refine rx_iload_n dX11_hasFrame_38 rfl ?_
    exact rx_zret rfl (by rcases hv with ⟨rfl, -⟩ | ⟨rfl, -⟩ <;> rfl) dX11_hasFrame_39 (hQ v hv)
  | succ k ih =>
    intro i v hi hv
    rcases hv with ⟨rfl, hv⟩ | ⟨rfl, hv⟩
    · refine rx_iload_n dX11_hasFrame_4 rfl ?_
      refine rx_aload_n dX11_hasFrame_5 rfl rfl ?_
      refine gmv_getI (v := nI n) hG hf_RX11_203 rfl dX11_hasFrame_6 rfl rfl rfl hn ?_
      refine rx_icmp_ge (tgt := 38) dX11_hasFrame_9 (by decide) (fun h9 => absurd h9 (by rw [nI_leI (by omega) (by omega)]; omega)) (fun h9 => ?_)
      refine rx_iload_n dX11_hasFrame_12 rfl ?_
      refine rx_if_ne (tgt := 26) dX11_hasFrame_13 (by decide) (fun h13 => ?_) (fun h13 => (absurd h13 (by decide))) 
      refine rx_iconst (v := nI 1) dX11_hasFrame_26 rfl ?_
      refine rx_goto (tgt := 31) dX11_hasFrame_27 (by decide) ?_
      refine rx_istore_n dX11_hasFrame_31 (by decide) ?_
      refine rx_iinc (v := nI (i + 1)) dX11_hasFrame_32 rfl ((nI_add _ 1).trans (congrArg nI (by omega))) ?_
      refine rx_goto (tgt := 4) dX11_hasFrame_35 (by decide) ?_
      refine rx_lv (lv' := [(3, .int (nI (i + 1))), (2, .int (nI 1)), (1, .int (nI a)), (0, .ref 52)]) ⟨rfl, rfl, rfl, rfl, trivial⟩ ?_
      exact ih (i + 1) 1 (by omega) (Or.inl ⟨rfl, by obtain ⟨j, h1, h2⟩ := hv; exact ⟨j, by omega, h2⟩⟩)
    · refine rx_iload_n dX11_hasFrame_4 rfl ?_
      refine rx_aload_n dX11_hasFrame_5 rfl rfl ?_
      refine gmv_getI (v := nI n) hG hf_RX11_203 rfl dX11_hasFrame_6 rfl rfl rfl hn ?_
      refine rx_icmp_ge (tgt := 38) dX11_hasFrame_9 (by decide) (fun h9 => absurd h9 (by rw [nI_leI (by omega) (by omega)]; omega)) (fun h9 => ?_)
      refine rx_iload_n dX11_hasFrame_12 rfl ?_
      refine rx_if_ne (tgt := 26) dX11_hasFrame_13 (by decide) (fun h13 => (absurd h13 (by decide))) (fun h13 => ?_)
      refine rx_aload_n dX11_hasFrame_16 rfl rfl ?_
      refine g_getR hG hf_RX11_120 rfl dX11_hasFrame_17 rfl rfl rfl ?_
      refine rx_iload_n dX11_hasFrame_20 rfl ?_
      refine gmv_iald (j := i) (v := S.1 89 i) hG dX11_hasFrame_21 rfl rfl rfl rfl (by omega) (by decide) rfl ?_
      refine rx_iload_n dX11_hasFrame_22 rfl ?_
      refine rx_icmp_ne (tgt := 30) dX11_hasFrame_23 (by decide) (fun h23 => ?_) (fun h23 => ?_)
      · refine rx_iconst (v := nI 0) dX11_hasFrame_30 rfl ?_
        refine rx_istore_n dX11_hasFrame_31 (by decide) ?_
        refine rx_iinc (v := nI (i + 1)) dX11_hasFrame_32 rfl ((nI_add _ 1).trans (congrArg nI (by omega))) ?_
        refine rx_goto (tgt := 4) dX11_hasFrame_35 (by decide) ?_
        refine rx_lv (lv' := [(3, .int (nI (i + 1))), (2, .int (nI 0)), (1, .int (nI a)), (0, .ref 52)]) ⟨rfl, rfl, rfl, rfl, trivial⟩ ?_
        exact ih (i + 1) 0 (by omega) (Or.inr ⟨rfl, fun ⟨j, h1, h2⟩ => by by_cases e : j = i; (subst e; exact h23 h2); exact hv ⟨j, by omega, h2⟩⟩)
      · refine rx_iconst (v := nI 1) dX11_hasFrame_26 rfl ?_
        refine rx_goto (tgt := 31) dX11_hasFrame_27 (by decide) ?_
        refine rx_istore_n dX11_hasFrame_31 (by decide) ?_
        refine rx_iinc (v := nI (i + 1)) dX11_hasFrame_32 rfl ((nI_add _ 1).trans (congrArg nI (by omega))) ?_
        refine rx_goto (tgt := 4) dX11_hasFrame_35 (by decide) ?_
        refine rx_lv (lv' := [(3, .int (nI (i + 1))), (2, .int (nI 1)), (1, .int (nI a)), (0, .ref 52)]) ⟨rfl, rfl, rfl, rfl, trivial⟩ ?_
        exact ih (i + 1) 1 (by omega) (Or.inl ⟨rfl, i, by omega, h23⟩)
theorem cm_hasFrame {G : rx_E} {d : Nat} {C : rx_M} {S : gs_T} (hG : rx_OK G) {n a : Nat} (hn : S.1 52 49 = nI n) (hn1 : n ≤ 11) : rx_C G MX11_hasFrame d [.ref 52, .int (nI a)] (gl C S) 0 0 (fun v mu => (∃ r, ((r = 1 ∧ ∃ j, j < n ∧ (S.1 89 j = nI a)) ∨ (r = 0 ∧ ¬ ∃ j, j < n ∧ (S.1 89 j = nI a))) ∧ v = some (.int (nI r))) ∧ mu = gl C S) := by
  refine rx_meth0 (by decide +kernel) rfl (Nat.le_of_ble_eq_true rfl) ?_
  refine rx_iconst (v := nI 0) dX11_hasFrame_0 rfl ?_
  refine rx_istore_n dX11_hasFrame_1 (by decide) ?_
  refine rx_iconst (v := nI 0) dX11_hasFrame_2 rfl ?_
  refine rx_istore_n dX11_hasFrame_3 (by decide) ?_
  refine rx_lv (lv' := [(3, .int (nI 0)), (2, .int (nI 0)), (1, .int (nI a)), (0, .ref 52)]) ⟨rfl, rfl, rfl, rfl, trivial⟩ ?_
  refine lm_hasFrame (a := a) hG hn hn1 ?_ n 0 0 (by omega) (Or.inr ⟨rfl, fun ⟨j, h1, _⟩ => by omega⟩)
  exact fun v hv => ⟨⟨v, hv, rfl⟩, rfl⟩
end
section
/-- n places of one row laid into another -/
def rx_cp (L : Nat → Nat → Int64) (a o b p n : Nat) : Nat → Nat → Int64 := fun c j => if c = a ∧ o ≤ j ∧ j < o + n then L b (p + (j - o)) else L c j
theorem rx_cp_get {L : Nat → Nat → Int64} {a o b p n c j : Nat} (h : c ≠ a) : rx_cp L a o b p n c j = L c j := by
  unfold rx_cp
  rw [if_neg (fun q => h q.1)]
theorem rx_cp_succ {L : Nat → Nat → Int64} {a o b p n j q : Nat} (hj : j = o + n) (hq : q = p + n) : rx_u (rx_cp L a o b p n) a j (L b q) = rx_cp L a o b p (n + 1) := by
  subst hj; subst hq
  funext c k
  rw [rx_ru]
  unfold rx_cp
  by_cases hc : c = a
  · subst hc
    by_cases hk : k = o + n
    · subst hk
      rw [if_pos rfl, if_pos rfl, if_pos ⟨rfl, by omega, by omega⟩]
      congr 1
      omega
    · rw [if_pos rfl, if_neg hk]
      by_cases h : o ≤ k ∧ k < o + n
      · rw [if_pos ⟨rfl, h⟩, if_pos ⟨rfl, h.1, by omega⟩]
      · rw [if_neg (fun q => h q.2), if_neg (fun q => h ⟨q.2.1, by omega⟩)]
  · rw [if_neg hc, if_neg (fun q => hc q.1), if_neg (fun q => hc q.1)]
theorem rx_cp_0 {L : Nat → Nat → Int64} {a o b p : Nat} : rx_cp L a o b p 0 = L := by
  funext c j
  unfold rx_cp
  rw [if_neg (fun q => by omega)]
theorem dX11_finish_0 : decode cX11_finish 0 = .ok (.aload_n 0, 1) := by decide +kernel
theorem dX11_finish_1 : decode cX11_finish 1 = .ok (.getfield 203, 3) := by decide +kernel
theorem dX11_finish_4 : decode cX11_finish 4 = .ok (.iconst 1, 1) := by decide +kernel
theorem dX11_finish_5 : decode cX11_finish 5 = .ok (.isub, 1) := by decide +kernel
theorem dX11_finish_6 : decode cX11_finish 6 = .ok (.istore 4, 2) := by decide +kernel
theorem dX11_finish_8 : decode cX11_finish 8 = .ok (.aload_n 0, 1) := by decide +kernel
theorem dX11_finish_9 : decode cX11_finish 9 = .ok (.dup, 1) := by decide +kernel
theorem dX11_finish_10 : decode cX11_finish 10 = .ok (.getfield 203, 3) := by decide +kernel
theorem dX11_finish_13 : decode cX11_finish 13 = .ok (.iconst 1, 1) := by decide +kernel
theorem dX11_finish_14 : decode cX11_finish 14 = .ok (.isub, 1) := by decide +kernel
theorem dX11_finish_15 : decode cX11_finish 15 = .ok (.putfield 203, 3) := by decide +kernel
theorem dX11_finish_18 : decode cX11_finish 18 = .ok (.iload_n 1, 1) := by decide +kernel
theorem dX11_finish_19 : decode cX11_finish 19 = .ok (.iconst 3, 1) := by decide +kernel
theorem dX11_finish_20 : decode cX11_finish 20 = .ok (.if_icmp .ne 7, 3) := by decide +kernel
theorem dX11_finish_23 : decode cX11_finish 23 = .ok (.lconst 0, 1) := by decide +kernel
theorem dX11_finish_24 : decode cX11_finish 24 = .ok (.goto 10, 3) := by decide +kernel
theorem dX11_finish_27 : decode cX11_finish 27 = .ok (.aload_n 0, 1) := by decide +kernel
theorem dX11_finish_28 : decode cX11_finish 28 = .ok (.getfield 117, 3) := by decide +kernel
theorem dX11_finish_31 : decode cX11_finish 31 = .ok (.iload 4, 2) := by decide +kernel
theorem dX11_finish_33 : decode cX11_finish 33 = .ok (.laload, 1) := by decide +kernel
theorem dX11_finish_34 : decode cX11_finish 34 = .ok (.lstore 5, 2) := by decide +kernel
theorem dX11_finish_36 : decode cX11_finish 36 = .ok (.iload_n 1, 1) := by decide +kernel
theorem dX11_finish_37 : decode cX11_finish 37 = .ok (.iconst 1, 1) := by decide +kernel
theorem dX11_finish_38 : decode cX11_finish 38 = .ok (.if_icmp .eq 63, 3) := by decide +kernel
theorem dX11_finish_41 : decode cX11_finish 41 = .ok (.iconst 0, 1) := by decide +kernel
theorem dX11_finish_42 : decode cX11_finish 42 = .ok (.istore 7, 2) := by decide +kernel
theorem dX11_finish_44 : decode cX11_finish 44 = .ok (.iload 7, 2) := by decide +kernel
theorem dX11_finish_46 : decode cX11_finish 46 = .ok (.sipush 608, 3) := by decide +kernel
theorem dX11_finish_49 : decode cX11_finish 49 = .ok (.if_icmp .ge 30, 3) := by decide +kernel
theorem dX11_finish_52 : decode cX11_finish 52 = .ok (.aload_n 0, 1) := by decide +kernel
theorem dX11_finish_53 : decode cX11_finish 53 = .ok (.getfield 99, 3) := by decide +kernel
theorem dX11_finish_56 : decode cX11_finish 56 = .ok (.iload 7, 2) := by decide +kernel
theorem dX11_finish_58 : decode cX11_finish 58 = .ok (.aload_n 0, 1) := by decide +kernel
theorem dX11_finish_59 : decode cX11_finish 59 = .ok (.getfield 102, 3) := by decide +kernel
theorem dX11_finish_62 : decode cX11_finish 62 = .ok (.sipush 608, 3) := by decide +kernel
theorem dX11_finish_65 : decode cX11_finish 65 = .ok (.iload 4, 2) := by decide +kernel
theorem dX11_finish_67 : decode cX11_finish 67 = .ok (.imul, 1) := by decide +kernel
theorem dX11_finish_68 : decode cX11_finish 68 = .ok (.iload 7, 2) := by decide +kernel
theorem dX11_finish_70 : decode cX11_finish 70 = .ok (.iadd, 1) := by decide +kernel
theorem dX11_finish_71 : decode cX11_finish 71 = .ok (.laload, 1) := by decide +kernel
theorem dX11_finish_72 : decode cX11_finish 72 = .ok (.lastore, 1) := by decide +kernel
theorem dX11_finish_73 : decode cX11_finish 73 = .ok (.iinc 7 1, 3) := by decide +kernel
theorem dX11_finish_76 : decode cX11_finish 76 = .ok (.goto (-32), 3) := by decide +kernel
theorem dX11_finish_79 : decode cX11_finish 79 = .ok (.aload_n 0, 1) := by decide +kernel
theorem dX11_finish_80 : decode cX11_finish 80 = .ok (.aload_n 0, 1) := by decide +kernel
theorem dX11_finish_81 : decode cX11_finish 81 = .ok (.getfield 105, 3) := by decide +kernel
theorem dX11_finish_84 : decode cX11_finish 84 = .ok (.iload 4, 2) := by decide +kernel
theorem dX11_finish_86 : decode cX11_finish 86 = .ok (.iaload, 1) := by decide +kernel
theorem dX11_finish_87 : decode cX11_finish 87 = .ok (.putfield 212, 3) := by decide +kernel
theorem dX11_finish_90 : decode cX11_finish 90 = .ok (.aload_n 0, 1) := by decide +kernel
theorem dX11_finish_91 : decode cX11_finish 91 = .ok (.aload_n 0, 1) := by decide +kernel
theorem dX11_finish_92 : decode cX11_finish 92 = .ok (.getfield 108, 3) := by decide +kernel
theorem dX11_finish_95 : decode cX11_finish 95 = .ok (.iload 4, 2) := by decide +kernel
theorem dX11_finish_97 : decode cX11_finish 97 = .ok (.iaload, 1) := by decide +kernel
theorem dX11_finish_98 : decode cX11_finish 98 = .ok (.putfield 215, 3) := by decide +kernel
theorem dX11_finish_101 : decode cX11_finish 101 = .ok (.aload_n 0, 1) := by decide +kernel
theorem dX11_finish_102 : decode cX11_finish 102 = .ok (.iload_n 1, 1) := by decide +kernel
theorem dX11_finish_103 : decode cX11_finish 103 = .ok (.iload_n 1, 1) := by decide +kernel
theorem dX11_finish_104 : decode cX11_finish 104 = .ok (.iconst 3, 1) := by decide +kernel
theorem dX11_finish_105 : decode cX11_finish 105 = .ok (.if_icmp .ne 7, 3) := by decide +kernel
theorem dX11_finish_108 : decode cX11_finish 108 = .ok (.lconst 0, 1) := by decide +kernel
theorem dX11_finish_109 : decode cX11_finish 109 = .ok (.goto 4, 3) := by decide +kernel
theorem dX11_finish_112 : decode cX11_finish 112 = .ok (.lload_n 2, 1) := by decide +kernel
theorem dX11_finish_113 : decode cX11_finish 113 = .ok (.lload 5, 2) := by decide +kernel
theorem dX11_finish_115 : decode cX11_finish 115 = .ok (.invokevirtual 209, 3) := by decide +kernel
theorem dX11_finish_118 : decode cX11_finish 118 = .ok (.return_, 1) := by decide +kernel
theorem dX11_begin_0 : decode cX11_begin 0 = .ok (.lload_n 2, 1) := by decide +kernel
theorem dX11_begin_1 : decode cX11_begin 1 = .ok (.invokestatic 181, 3) := by decide +kernel
theorem dX11_begin_4 : decode cX11_begin 4 = .ok (.ifCond .eq 42, 3) := by decide +kernel
theorem dX11_begin_7 : decode cX11_begin 7 = .ok (.lload 4, 2) := by decide +kernel
theorem dX11_begin_9 : decode cX11_begin 9 = .ok (.lconst 0, 1) := by decide +kernel
theorem dX11_begin_10 : decode cX11_begin 10 = .ok (.lcmp, 1) := by decide +kernel
theorem dX11_begin_11 : decode cX11_begin 11 = .ok (.ifCond .lt 35, 3) := by decide +kernel
theorem dX11_begin_14 : decode cX11_begin 14 = .ok (.lload 4, 2) := by decide +kernel
theorem dX11_begin_16 : decode cX11_begin 16 = .ok (.aload_n 0, 1) := by decide +kernel
theorem dX11_begin_17 : decode cX11_begin 17 = .ok (.getfield 99, 3) := by decide +kernel
theorem dX11_begin_20 : decode cX11_begin 20 = .ok (.bipush 19, 2) := by decide +kernel
theorem dX11_begin_22 : decode cX11_begin 22 = .ok (.iload_n 1, 1) := by decide +kernel
theorem dX11_begin_23 : decode cX11_begin 23 = .ok (.imul, 1) := by decide +kernel
theorem dX11_begin_24 : decode cX11_begin 24 = .ok (.laload, 1) := by decide +kernel
theorem dX11_begin_25 : decode cX11_begin 25 = .ok (.lcmp, 1) := by decide +kernel
theorem dX11_begin_26 : decode cX11_begin 26 = .ok (.ifCond .gt 20, 3) := by decide +kernel
theorem dX11_begin_29 : decode cX11_begin 29 = .ok (.aload_n 0, 1) := by decide +kernel
theorem dX11_begin_30 : decode cX11_begin 30 = .ok (.lload_n 2, 1) := by decide +kernel
theorem dX11_begin_31 : decode cX11_begin 31 = .ok (.invokevirtual 206, 3) := by decide +kernel
theorem dX11_begin_34 : decode cX11_begin 34 = .ok (.ifCond .ne 12, 3) := by decide +kernel
theorem dX11_begin_37 : decode cX11_begin 37 = .ok (.aload_n 0, 1) := by decide +kernel
theorem dX11_begin_38 : decode cX11_begin 38 = .ok (.getfield 203, 3) := by decide +kernel
theorem dX11_begin_41 : decode cX11_begin 41 = .ok (.bipush 10, 2) := by decide +kernel
theorem dX11_begin_43 : decode cX11_begin 43 = .ok (.if_icmp .ne 13, 3) := by decide +kernel
theorem dX11_begin_46 : decode cX11_begin 46 = .ok (.aload_n 0, 1) := by decide +kernel
theorem dX11_begin_47 : decode cX11_begin 47 = .ok (.iconst 2, 1) := by decide +kernel
theorem dX11_begin_48 : decode cX11_begin 48 = .ok (.lconst 0, 1) := by decide +kernel
theorem dX11_begin_49 : decode cX11_begin 49 = .ok (.lload 8, 2) := by decide +kernel
theorem dX11_begin_51 : decode cX11_begin 51 = .ok (.invokevirtual 209, 3) := by decide +kernel
theorem dX11_begin_54 : decode cX11_begin 54 = .ok (.iconst 0, 1) := by decide +kernel
theorem dX11_begin_55 : decode cX11_begin 55 = .ok (.ireturn, 1) := by decide +kernel
theorem dX11_begin_56 : decode cX11_begin 56 = .ok (.lload_n 2, 1) := by decide +kernel
theorem dX11_begin_57 : decode cX11_begin 57 = .ok (.l2i, 1) := by decide +kernel
theorem dX11_begin_58 : decode cX11_begin 58 = .ok (.istore 11, 2) := by decide +kernel
theorem dX11_begin_60 : decode cX11_begin 60 = .ok (.iconst 0, 1) := by decide +kernel
theorem dX11_begin_61 : decode cX11_begin 61 = .ok (.istore 12, 2) := by decide +kernel
theorem dX11_begin_63 : decode cX11_begin 63 = .ok (.iload 12, 2) := by decide +kernel
theorem dX11_begin_65 : decode cX11_begin 65 = .ok (.sipush 608, 3) := by decide +kernel
theorem dX11_begin_68 : decode cX11_begin 68 = .ok (.if_icmp .ge 32, 3) := by decide +kernel
theorem dX11_begin_71 : decode cX11_begin 71 = .ok (.aload_n 0, 1) := by decide +kernel
theorem dX11_begin_72 : decode cX11_begin 72 = .ok (.getfield 102, 3) := by decide +kernel
theorem dX11_begin_75 : decode cX11_begin 75 = .ok (.sipush 608, 3) := by decide +kernel
theorem dX11_begin_78 : decode cX11_begin 78 = .ok (.aload_n 0, 1) := by decide +kernel
theorem dX11_begin_79 : decode cX11_begin 79 = .ok (.getfield 203, 3) := by decide +kernel
theorem dX11_begin_82 : decode cX11_begin 82 = .ok (.imul, 1) := by decide +kernel
theorem dX11_begin_83 : decode cX11_begin 83 = .ok (.iload 12, 2) := by decide +kernel
theorem dX11_begin_85 : decode cX11_begin 85 = .ok (.iadd, 1) := by decide +kernel
theorem dX11_begin_86 : decode cX11_begin 86 = .ok (.aload_n 0, 1) := by decide +kernel
theorem dX11_begin_87 : decode cX11_begin 87 = .ok (.getfield 99, 3) := by decide +kernel
theorem dX11_begin_90 : decode cX11_begin 90 = .ok (.iload 12, 2) := by decide +kernel
theorem dX11_begin_92 : decode cX11_begin 92 = .ok (.laload, 1) := by decide +kernel
theorem dX11_begin_93 : decode cX11_begin 93 = .ok (.lastore, 1) := by decide +kernel
theorem dX11_begin_94 : decode cX11_begin 94 = .ok (.iinc 12 1, 3) := by decide +kernel
theorem dX11_begin_97 : decode cX11_begin 97 = .ok (.goto (-34), 3) := by decide +kernel
theorem dX11_begin_100 : decode cX11_begin 100 = .ok (.aload_n 0, 1) := by decide +kernel
theorem dX11_begin_101 : decode cX11_begin 101 = .ok (.getfield 105, 3) := by decide +kernel
theorem dX11_begin_104 : decode cX11_begin 104 = .ok (.aload_n 0, 1) := by decide +kernel
theorem dX11_begin_105 : decode cX11_begin 105 = .ok (.getfield 203, 3) := by decide +kernel
theorem dX11_begin_108 : decode cX11_begin 108 = .ok (.aload_n 0, 1) := by decide +kernel
theorem dX11_begin_109 : decode cX11_begin 109 = .ok (.getfield 212, 3) := by decide +kernel
theorem dX11_begin_112 : decode cX11_begin 112 = .ok (.iastore, 1) := by decide +kernel
theorem dX11_begin_113 : decode cX11_begin 113 = .ok (.aload_n 0, 1) := by decide +kernel
theorem dX11_begin_114 : decode cX11_begin 114 = .ok (.getfield 108, 3) := by decide +kernel
theorem dX11_begin_117 : decode cX11_begin 117 = .ok (.aload_n 0, 1) := by decide +kernel
theorem dX11_begin_118 : decode cX11_begin 118 = .ok (.getfield 203, 3) := by decide +kernel
theorem dX11_begin_121 : decode cX11_begin 121 = .ok (.aload_n 0, 1) := by decide +kernel
theorem dX11_begin_122 : decode cX11_begin 122 = .ok (.getfield 215, 3) := by decide +kernel
theorem dX11_begin_125 : decode cX11_begin 125 = .ok (.iastore, 1) := by decide +kernel
theorem dX11_begin_126 : decode cX11_begin 126 = .ok (.aload_n 0, 1) := by decide +kernel
theorem dX11_begin_127 : decode cX11_begin 127 = .ok (.getfield 99, 3) := by decide +kernel
theorem dX11_begin_130 : decode cX11_begin 130 = .ok (.bipush 19, 2) := by decide +kernel
theorem dX11_begin_132 : decode cX11_begin 132 = .ok (.iload_n 1, 1) := by decide +kernel
theorem dX11_begin_133 : decode cX11_begin 133 = .ok (.imul, 1) := by decide +kernel
theorem dX11_begin_134 : decode cX11_begin 134 = .ok (.dup2, 1) := by decide +kernel
theorem dX11_begin_135 : decode cX11_begin 135 = .ok (.laload, 1) := by decide +kernel
theorem dX11_begin_136 : decode cX11_begin 136 = .ok (.lload 4, 2) := by decide +kernel
theorem dX11_begin_138 : decode cX11_begin 138 = .ok (.lsub, 1) := by decide +kernel
theorem dX11_begin_139 : decode cX11_begin 139 = .ok (.lastore, 1) := by decide +kernel
theorem dX11_begin_140 : decode cX11_begin 140 = .ok (.aload_n 0, 1) := by decide +kernel
theorem dX11_begin_141 : decode cX11_begin 141 = .ok (.getfield 99, 3) := by decide +kernel
theorem dX11_begin_144 : decode cX11_begin 144 = .ok (.bipush 19, 2) := by decide +kernel
theorem dX11_begin_146 : decode cX11_begin 146 = .ok (.iload 11, 2) := by decide +kernel
theorem dX11_begin_148 : decode cX11_begin 148 = .ok (.imul, 1) := by decide +kernel
theorem dX11_begin_149 : decode cX11_begin 149 = .ok (.dup2, 1) := by decide +kernel
theorem dX11_begin_150 : decode cX11_begin 150 = .ok (.laload, 1) := by decide +kernel
theorem dX11_begin_151 : decode cX11_begin 151 = .ok (.lload 4, 2) := by decide +kernel
theorem dX11_begin_153 : decode cX11_begin 153 = .ok (.ladd, 1) := by decide +kernel
theorem dX11_begin_154 : decode cX11_begin 154 = .ok (.lastore, 1) := by decide +kernel
theorem dX11_begin_155 : decode cX11_begin 155 = .ok (.aload_n 0, 1) := by decide +kernel
theorem dX11_begin_156 : decode cX11_begin 156 = .ok (.getfield 99, 3) := by decide +kernel
theorem dX11_begin_159 : decode cX11_begin 159 = .ok (.bipush 19, 2) := by decide +kernel
theorem dX11_begin_161 : decode cX11_begin 161 = .ok (.iload 11, 2) := by decide +kernel
theorem dX11_begin_163 : decode cX11_begin 163 = .ok (.imul, 1) := by decide +kernel
theorem dX11_begin_164 : decode cX11_begin 164 = .ok (.iconst 2, 1) := by decide +kernel
theorem dX11_begin_165 : decode cX11_begin 165 = .ok (.iadd, 1) := by decide +kernel
theorem dX11_begin_166 : decode cX11_begin 166 = .ok (.laload, 1) := by decide +kernel
theorem dX11_begin_167 : decode cX11_begin 167 = .ok (.lconst 0, 1) := by decide +kernel
theorem dX11_begin_168 : decode cX11_begin 168 = .ok (.lcmp, 1) := by decide +kernel
theorem dX11_begin_169 : decode cX11_begin 169 = .ok (.ifCond .ne 13, 3) := by decide +kernel
theorem dX11_begin_172 : decode cX11_begin 172 = .ok (.aload_n 0, 1) := by decide +kernel
theorem dX11_begin_173 : decode cX11_begin 173 = .ok (.iconst 1, 1) := by decide +kernel
theorem dX11_begin_174 : decode cX11_begin 174 = .ok (.lconst 0, 1) := by decide +kernel
theorem dX11_begin_175 : decode cX11_begin 175 = .ok (.lload 8, 2) := by decide +kernel
theorem dX11_begin_177 : decode cX11_begin 177 = .ok (.invokevirtual 209, 3) := by decide +kernel
theorem dX11_begin_180 : decode cX11_begin 180 = .ok (.iconst 0, 1) := by decide +kernel
theorem dX11_begin_181 : decode cX11_begin 181 = .ok (.ireturn, 1) := by decide +kernel
theorem dX11_begin_182 : decode cX11_begin 182 = .ok (.aload_n 0, 1) := by decide +kernel
theorem dX11_begin_183 : decode cX11_begin 183 = .ok (.getfield 203, 3) := by decide +kernel
theorem dX11_begin_186 : decode cX11_begin 186 = .ok (.istore 12, 2) := by decide +kernel
theorem dX11_begin_188 : decode cX11_begin 188 = .ok (.aload_n 0, 1) := by decide +kernel
theorem dX11_begin_189 : decode cX11_begin 189 = .ok (.getfield 111, 3) := by decide +kernel
theorem dX11_begin_192 : decode cX11_begin 192 = .ok (.iload 12, 2) := by decide +kernel
theorem dX11_begin_194 : decode cX11_begin 194 = .ok (.aload_n 0, 1) := by decide +kernel
theorem dX11_begin_195 : decode cX11_begin 195 = .ok (.getfield 99, 3) := by decide +kernel
theorem dX11_begin_198 : decode cX11_begin 198 = .ok (.bipush 19, 2) := by decide +kernel
theorem dX11_begin_200 : decode cX11_begin 200 = .ok (.iload 11, 2) := by decide +kernel
theorem dX11_begin_202 : decode cX11_begin 202 = .ok (.imul, 1) := by decide +kernel
theorem dX11_begin_203 : decode cX11_begin 203 = .ok (.iconst 2, 1) := by decide +kernel
theorem dX11_begin_204 : decode cX11_begin 204 = .ok (.iadd, 1) := by decide +kernel
theorem dX11_begin_205 : decode cX11_begin 205 = .ok (.laload, 1) := by decide +kernel
theorem dX11_begin_206 : decode cX11_begin 206 = .ok (.l2i, 1) := by decide +kernel
theorem dX11_begin_207 : decode cX11_begin 207 = .ok (.iconst 1, 1) := by decide +kernel
theorem dX11_begin_208 : decode cX11_begin 208 = .ok (.isub, 1) := by decide +kernel
theorem dX11_begin_209 : decode cX11_begin 209 = .ok (.iastore, 1) := by decide +kernel
theorem dX11_begin_210 : decode cX11_begin 210 = .ok (.aload_n 0, 1) := by decide +kernel
theorem dX11_begin_211 : decode cX11_begin 211 = .ok (.getfield 114, 3) := by decide +kernel
theorem dX11_begin_214 : decode cX11_begin 214 = .ok (.iload 12, 2) := by decide +kernel
theorem dX11_begin_216 : decode cX11_begin 216 = .ok (.iconst 0, 1) := by decide +kernel
theorem dX11_begin_217 : decode cX11_begin 217 = .ok (.iastore, 1) := by decide +kernel
theorem dX11_begin_218 : decode cX11_begin 218 = .ok (.aload_n 0, 1) := by decide +kernel
theorem dX11_begin_219 : decode cX11_begin 219 = .ok (.getfield 117, 3) := by decide +kernel
theorem dX11_begin_222 : decode cX11_begin 222 = .ok (.iload 12, 2) := by decide +kernel
theorem dX11_begin_224 : decode cX11_begin 224 = .ok (.lload 8, 2) := by decide +kernel
theorem dX11_begin_226 : decode cX11_begin 226 = .ok (.lastore, 1) := by decide +kernel
theorem dX11_begin_227 : decode cX11_begin 227 = .ok (.aload_n 0, 1) := by decide +kernel
theorem dX11_begin_228 : decode cX11_begin 228 = .ok (.getfield 120, 3) := by decide +kernel
theorem dX11_begin_231 : decode cX11_begin 231 = .ok (.iload 12, 2) := by decide +kernel
theorem dX11_begin_233 : decode cX11_begin 233 = .ok (.iload 11, 2) := by decide +kernel
theorem dX11_begin_235 : decode cX11_begin 235 = .ok (.iastore, 1) := by decide +kernel
theorem dX11_begin_236 : decode cX11_begin 236 = .ok (.aload_n 0, 1) := by decide +kernel
theorem dX11_begin_237 : decode cX11_begin 237 = .ok (.getfield 123, 3) := by decide +kernel
theorem dX11_begin_240 : decode cX11_begin 240 = .ok (.iload 12, 2) := by decide +kernel
theorem dX11_begin_242 : decode cX11_begin 242 = .ok (.iload_n 1, 1) := by decide +kernel
theorem dX11_begin_243 : decode cX11_begin 243 = .ok (.iastore, 1) := by decide +kernel
theorem dX11_begin_244 : decode cX11_begin 244 = .ok (.aload_n 0, 1) := by decide +kernel
theorem dX11_begin_245 : decode cX11_begin 245 = .ok (.getfield 126, 3) := by decide +kernel
theorem dX11_begin_248 : decode cX11_begin 248 = .ok (.iload 12, 2) := by decide +kernel
theorem dX11_begin_250 : decode cX11_begin 250 = .ok (.lload 4, 2) := by decide +kernel
theorem dX11_begin_252 : decode cX11_begin 252 = .ok (.lastore, 1) := by decide +kernel
theorem dX11_begin_253 : decode cX11_begin 253 = .ok (.aload_n 0, 1) := by decide +kernel
theorem dX11_begin_254 : decode cX11_begin 254 = .ok (.getfield 129, 3) := by decide +kernel
theorem dX11_begin_257 : decode cX11_begin 257 = .ok (.iload 12, 2) := by decide +kernel
theorem dX11_begin_259 : decode cX11_begin 259 = .ok (.lload 6, 2) := by decide +kernel
theorem dX11_begin_261 : decode cX11_begin 261 = .ok (.lastore, 1) := by decide +kernel
theorem dX11_begin_262 : decode cX11_begin 262 = .ok (.aload_n 0, 1) := by decide +kernel
theorem dX11_begin_263 : decode cX11_begin 263 = .ok (.getfield 132, 3) := by decide +kernel
theorem dX11_begin_266 : decode cX11_begin 266 = .ok (.iload 12, 2) := by decide +kernel
theorem dX11_begin_268 : decode cX11_begin 268 = .ok (.iload 10, 2) := by decide +kernel
theorem dX11_begin_270 : decode cX11_begin 270 = .ok (.bastore, 1) := by decide +kernel
theorem dX11_begin_271 : decode cX11_begin 271 = .ok (.aload_n 0, 1) := by decide +kernel
theorem dX11_begin_272 : decode cX11_begin 272 = .ok (.getfield 135, 3) := by decide +kernel
theorem dX11_begin_275 : decode cX11_begin 275 = .ok (.iload 12, 2) := by decide +kernel
theorem dX11_begin_277 : decode cX11_begin 277 = .ok (.iconst 0, 1) := by decide +kernel
theorem dX11_begin_278 : decode cX11_begin 278 = .ok (.bastore, 1) := by decide +kernel
theorem dX11_begin_279 : decode cX11_begin 279 = .ok (.aload_n 0, 1) := by decide +kernel
theorem dX11_begin_280 : decode cX11_begin 280 = .ok (.getfield 141, 3) := by decide +kernel
theorem dX11_begin_283 : decode cX11_begin 283 = .ok (.iload 12, 2) := by decide +kernel
theorem dX11_begin_285 : decode cX11_begin 285 = .ok (.iconst 0, 1) := by decide +kernel
theorem dX11_begin_286 : decode cX11_begin 286 = .ok (.iastore, 1) := by decide +kernel
theorem dX11_begin_287 : decode cX11_begin 287 = .ok (.aload_n 0, 1) := by decide +kernel
theorem dX11_begin_288 : decode cX11_begin 288 = .ok (.dup, 1) := by decide +kernel
theorem dX11_begin_289 : decode cX11_begin 289 = .ok (.getfield 203, 3) := by decide +kernel
theorem dX11_begin_292 : decode cX11_begin 292 = .ok (.iconst 1, 1) := by decide +kernel
theorem dX11_begin_293 : decode cX11_begin 293 = .ok (.iadd, 1) := by decide +kernel
theorem dX11_begin_294 : decode cX11_begin 294 = .ok (.putfield 203, 3) := by decide +kernel
theorem dX11_begin_297 : decode cX11_begin 297 = .ok (.aload_n 0, 1) := by decide +kernel
theorem dX11_begin_298 : decode cX11_begin 298 = .ok (.dup, 1) := by decide +kernel
theorem dX11_begin_299 : decode cX11_begin 299 = .ok (.getfield 218, 3) := by decide +kernel
theorem dX11_begin_302 : decode cX11_begin 302 = .ok (.iconst 1, 1) := by decide +kernel
theorem dX11_begin_303 : decode cX11_begin 303 = .ok (.iadd, 1) := by decide +kernel
theorem dX11_begin_304 : decode cX11_begin 304 = .ok (.putfield 218, 3) := by decide +kernel
theorem dX11_begin_307 : decode cX11_begin 307 = .ok (.iconst 1, 1) := by decide +kernel
theorem dX11_begin_308 : decode cX11_begin 308 = .ok (.ireturn, 1) := by decide +kernel
theorem lm_finish {G : rx_E} {d mc ms : Nat} {C : rx_M} {S : gs_T} {Q : Option Value → rx_M → Prop} {Z : String → rx_M → Prop} (hG : rx_OK G) {p : Nat} {hw : Int32} {vl gs : Int64} (hp1 : p < 11) (K : rx_W G MX11_finish d 79 [(7, .int (nI 608)), (0, .ref 52), (1, .int hw), (2, .long vl), (4, .int (nI p)), (5, .long gs)] [] (gl C (S.1, rx_cp S.2 82 0 83 (608 * p) 608)) mc ms Q Z) : ∀ (k i : Nat), i + k = 608 → rx_W G MX11_finish d 44 [(7, .int (nI i)), (0, .ref 52), (1, .int hw), (2, .long vl), (4, .int (nI p)), (5, .long gs)] [] (gl C (S.1, rx_cp S.2 82 0 83 (608 * p) i)) mc ms Q Z := by
  intro k
  induction k with
  | zero =>
    intro i hi
    have hi : i = 608 := by omega
    subst hi
    refine rx_iload dX11_finish_44 rfl ?_
    refine rx_sipush (v := nI 608) dX11_finish_46 rfl ?_
    exact rx_icmp_ge (tgt := 79) dX11_finish_49 (by decide) (fun _ => K) (fun h => absurd (by rw [nI_leI (by omega) (by omega)]; omega) h)
  | succ k ih =>
    intro i hi
    refine rx_iload dX11_finish_44 rfl ?_
    refine rx_sipush (v := nI 608) dX11_finish_46 rfl ?_
    refine rx_icmp_ge (tgt := 79) dX11_finish_49 (by decide) (fun h => absurd h (by rw [nI_leI (by omega) (by omega)]; omega)) (fun h49 => ?_)
    refine rx_aload_n dX11_finish_52 rfl rfl ?_
    refine g_getR hG hf_RX11_99 rfl dX11_finish_53 rfl rfl rfl ?_
    refine rx_iload dX11_finish_56 rfl ?_
    refine rx_aload_n dX11_finish_58 rfl rfl ?_
    refine g_getR hG hf_RX11_102 rfl dX11_finish_59 rfl rfl rfl ?_
    refine rx_sipush (v := nI 608) dX11_finish_62 rfl ?_
    refine rx_iload dX11_finish_65 rfl ?_
    refine rx_imul dX11_finish_67 ?_
    refine rx_ti (y := nI (608 * p)) ((pk_mul _ _).trans (congrArg nI (by omega))) ?_
    refine rx_iload dX11_finish_68 rfl ?_
    refine rx_iadd dX11_finish_70 ?_
    refine rx_ti (y := nI (i + 608 * p)) ((nI_add _ _).trans (congrArg nI (by omega))) ?_
    refine gmv_lald (j := i + 608 * p) (v := S.2 83 (i + 608 * p)) hG dX11_finish_71 rfl rfl rfl rfl (by omega) (by decide) (by show rx_cp S.2 82 0 83 (608 * p) i 83 (i + 608 * p) = _; exact rx_cp_get (by decide)) ?_
    refine gm_last (j := i) hG dX11_finish_72 rfl rfl rfl rfl (by omega) (by decide) ?_
    refine rx_iinc (v := nI (i + 1)) dX11_finish_73 rfl ((nI_add _ 1).trans (congrArg nI (by omega))) ?_
    refine rx_goto (tgt := 44) dX11_finish_76 (by decide) ?_
    refine rx_lv (lv' := [(7, .int (nI (i + 1))), (0, .ref 52), (1, .int hw), (2, .long vl), (4, .int (nI p)), (5, .long gs)]) ⟨rfl, rfl, rfl, rfl, rfl, rfl, trivial⟩ ?_
    refine rx_tm (mu' := gl C (S.1, rx_cp S.2 82 0 83 (608 * p) (i + 1))) (congrArg (fun q => gl C (S.1, q)) (rx_cp_succ (by omega) (by omega))) ?_
    exact ih (i + 1) (by omega)
theorem cm_finish1 {G : rx_E} {d : Nat} {C : rx_M} {S : gs_T} (hG : rx_OK G) {p : Nat} {vl : Int64} (hp : S.1 52 49 = nI (p + 1)) (hp1 : p < 11) : rx_C G MX11_finish (d + 1) [.ref 52, .int (nI 1), .long vl] (gl C S) 0 0 (fun v mu => v = none ∧ mu = gl C ((rx_u (rx_u S.1 52 49 (nI p)) 52 58 (nI 1)), (rx_u (rx_u S.2 52 59 vl) 52 60 (S.2 88 p)))) := by
  refine rx_meth0 (by decide +kernel) rfl (Nat.le_of_ble_eq_true rfl) ?_
  refine rx_aload_n dX11_finish_0 rfl rfl ?_
  refine gmv_getI (v := nI (p + 1)) hG hf_RX11_203 rfl dX11_finish_1 rfl rfl rfl hp ?_
  refine rx_iconst (v := nI 1) dX11_finish_4 rfl ?_
  refine rx_isub dX11_finish_5 ?_
  refine rx_ti (y := nI p) ((pk_sub (by omega)).trans (congrArg nI (by omega))) ?_
  refine rx_istore dX11_finish_6 (by decide) ?_
  refine rx_aload_n dX11_finish_8 rfl rfl ?_
  refine rx_dup dX11_finish_9 rfl ?_
  refine gmv_getI (v := nI (p + 1)) hG hf_RX11_203 rfl dX11_finish_10 rfl rfl rfl hp ?_
  refine rx_iconst (v := nI 1) dX11_finish_13 rfl ?_
  refine rx_isub dX11_finish_14 ?_
  refine rx_ti (y := nI p) ((pk_sub (by omega)).trans (congrArg nI (by omega))) ?_
  refine gm_putI hG hf_RX11_203 (gw_nf rfl rfl) rfl dX11_finish_15 rfl rfl rfl rfl rfl ?_
  refine rx_iload_n dX11_finish_18 rfl ?_
  refine rx_iconst (v := nI 3) dX11_finish_19 rfl ?_
  refine rx_icmp_ne (tgt := 27) dX11_finish_20 (by decide) (fun h20 => ?_) (fun h20 => (absurd h20 (by decide))) 
  refine rx_aload_n dX11_finish_27 rfl rfl ?_
  refine g_getR hG hf_RX11_117 rfl dX11_finish_28 rfl rfl rfl ?_
  refine rx_iload dX11_finish_31 rfl ?_
  refine gmv_lald (j := p) (v := S.2 88 p) hG dX11_finish_33 rfl rfl rfl rfl (by omega) (by decide) rfl ?_
  refine rx_lstore dX11_finish_34 (by decide) ?_
  refine rx_iload_n dX11_finish_36 rfl ?_
  refine rx_iconst (v := nI 1) dX11_finish_37 rfl ?_
  refine rx_icmp_eq (tgt := 101) dX11_finish_38 (by decide) (fun h38 => ?_) (fun h38 => (absurd h38 (by decide))) 
  refine rx_aload_n dX11_finish_101 rfl rfl ?_
  refine rx_iload_n dX11_finish_102 rfl ?_
  refine rx_iload_n dX11_finish_103 rfl ?_
  refine rx_iconst (v := nI 3) dX11_finish_104 rfl ?_
  refine rx_icmp_ne (tgt := 112) dX11_finish_105 (by decide) (fun h105 => ?_) (fun h105 => (absurd h105 (by decide))) 
  refine rx_lload_n dX11_finish_112 rfl ?_
  refine rx_lload dX11_finish_113 rfl ?_
  refine gv_invV (as := [.int _, .long _, .long _]) hG okX11_end lk_RX11_209 rfl rfl dX11_finish_115 rfl (by simp [Value.category]) (cm_end hG _ _ _) ?_
  rintro _ _ ⟨rfl, rfl⟩
  exact rx_vret rfl dX11_finish_118 ⟨rfl, rfl⟩
theorem cm_finish2 {G : rx_E} {d : Nat} {C : rx_M} {S : gs_T} (hG : rx_OK G) {p : Nat} {vl : Int64} (hp : S.1 52 49 = nI (p + 1)) (hp1 : p < 11) : rx_C G MX11_finish (d + 1) [.ref 52, .int (nI 2), .long vl] (gl C S) 0 0 (fun v mu => v = none ∧ mu = gl C ((rx_u (rx_u (rx_u (rx_u S.1 52 49 (nI p)) 52 52 (S.1 84 p)) 52 56 (S.1 85 p)) 52 58 (nI 2)), (rx_u (rx_u (rx_cp S.2 82 0 83 (608 * p) 608) 52 59 vl) 52 60 (S.2 88 p)))) := by
  refine rx_meth0 (by decide +kernel) rfl (Nat.le_of_ble_eq_true rfl) ?_
  refine rx_aload_n dX11_finish_0 rfl rfl ?_
  refine gmv_getI (v := nI (p + 1)) hG hf_RX11_203 rfl dX11_finish_1 rfl rfl rfl hp ?_
  refine rx_iconst (v := nI 1) dX11_finish_4 rfl ?_
  refine rx_isub dX11_finish_5 ?_
  refine rx_ti (y := nI p) ((pk_sub (by omega)).trans (congrArg nI (by omega))) ?_
  refine rx_istore dX11_finish_6 (by decide) ?_
  refine rx_aload_n dX11_finish_8 rfl rfl ?_
  refine rx_dup dX11_finish_9 rfl ?_
  refine gmv_getI (v := nI (p + 1)) hG hf_RX11_203 rfl dX11_finish_10 rfl rfl rfl hp ?_
  refine rx_iconst (v := nI 1) dX11_finish_13 rfl ?_
  refine rx_isub dX11_finish_14 ?_
  refine rx_ti (y := nI p) ((pk_sub (by omega)).trans (congrArg nI (by omega))) ?_
  refine gm_putI hG hf_RX11_203 (gw_nf rfl rfl) rfl dX11_finish_15 rfl rfl rfl rfl rfl ?_
  refine rx_iload_n dX11_finish_18 rfl ?_
  refine rx_iconst (v := nI 3) dX11_finish_19 rfl ?_
  refine rx_icmp_ne (tgt := 27) dX11_finish_20 (by decide) (fun h20 => ?_) (fun h20 => (absurd h20 (by decide))) 
  refine rx_aload_n dX11_finish_27 rfl rfl ?_
  refine g_getR hG hf_RX11_117 rfl dX11_finish_28 rfl rfl rfl ?_
  refine rx_iload dX11_finish_31 rfl ?_
  refine gmv_lald (j := p) (v := S.2 88 p) hG dX11_finish_33 rfl rfl rfl rfl (by omega) (by decide) rfl ?_
  refine rx_lstore dX11_finish_34 (by decide) ?_
  refine rx_iload_n dX11_finish_36 rfl ?_
  refine rx_iconst (v := nI 1) dX11_finish_37 rfl ?_
  refine rx_icmp_eq (tgt := 101) dX11_finish_38 (by decide) (fun h38 => (absurd h38 (by decide))) (fun h38 => ?_)
  refine rx_iconst (v := nI 0) dX11_finish_41 rfl ?_
  refine rx_istore dX11_finish_42 (by decide) ?_
  refine rx_lv (lv' := [(7, .int (nI 0)), (0, .ref 52), (1, .int (nI 2)), (2, .long vl), (4, .int (nI p)), (5, .long (S.2 88 p))]) ⟨rfl, rfl, rfl, rfl, rfl, rfl, trivial⟩ ?_
  refine rx_tm (mu' := gl C ((rx_u S.1 52 49 (nI p)), rx_cp S.2 82 0 83 (608 * p) 0)) (by rw [rx_cp_0]) ?_
  refine lm_finish (S := ((rx_u S.1 52 49 (nI p)), S.2)) hG hp1 ?_ 608 0 (by omega)
  refine rx_aload_n dX11_finish_79 rfl rfl ?_
  refine rx_aload_n dX11_finish_80 rfl rfl ?_
  refine g_getR hG hf_RX11_105 rfl dX11_finish_81 rfl rfl rfl ?_
  refine rx_iload dX11_finish_84 rfl ?_
  refine gmv_iald (j := p) (v := S.1 84 p) hG dX11_finish_86 rfl rfl rfl rfl (by omega) (by decide) (by simp [rx_ru, hp]) ?_
  refine gm_putI hG hf_RX11_212 (gw_nf rfl rfl) rfl dX11_finish_87 rfl rfl rfl rfl rfl ?_
  refine rx_aload_n dX11_finish_90 rfl rfl ?_
  refine rx_aload_n dX11_finish_91 rfl rfl ?_
  refine g_getR hG hf_RX11_108 rfl dX11_finish_92 rfl rfl rfl ?_
  refine rx_iload dX11_finish_95 rfl ?_
  refine gmv_iald (j := p) (v := S.1 85 p) hG dX11_finish_97 rfl rfl rfl rfl (by omega) (by decide) (by simp [rx_ru, hp]) ?_
  refine gm_putI hG hf_RX11_215 (gw_nf rfl rfl) rfl dX11_finish_98 rfl rfl rfl rfl rfl ?_
  refine rx_aload_n dX11_finish_101 rfl rfl ?_
  refine rx_iload_n dX11_finish_102 rfl ?_
  refine rx_iload_n dX11_finish_103 rfl ?_
  refine rx_iconst (v := nI 3) dX11_finish_104 rfl ?_
  refine rx_icmp_ne (tgt := 112) dX11_finish_105 (by decide) (fun h105 => ?_) (fun h105 => (absurd h105 (by decide))) 
  refine rx_lload_n dX11_finish_112 rfl ?_
  refine rx_lload dX11_finish_113 rfl ?_
  refine gv_invV (as := [.int _, .long _, .long _]) hG okX11_end lk_RX11_209 rfl rfl dX11_finish_115 rfl (by simp [Value.category]) (cm_end hG _ _ _) ?_
  rintro _ _ ⟨rfl, rfl⟩
  exact rx_vret rfl dX11_finish_118 ⟨rfl, rfl⟩
theorem cm_finish3 {G : rx_E} {d : Nat} {C : rx_M} {S : gs_T} (hG : rx_OK G) {p : Nat} {vl : Int64} (hp : S.1 52 49 = nI (p + 1)) (hp1 : p < 11) : rx_C G MX11_finish (d + 1) [.ref 52, .int (nI 3), .long vl] (gl C S) 0 0 (fun v mu => v = none ∧ mu = gl C ((rx_u (rx_u (rx_u (rx_u S.1 52 49 (nI p)) 52 52 (S.1 84 p)) 52 56 (S.1 85 p)) 52 58 (nI 3)), (rx_u (rx_u (rx_cp S.2 82 0 83 (608 * p) 608) 52 59 0) 52 60 0))) := by
  refine rx_meth0 (by decide +kernel) rfl (Nat.le_of_ble_eq_true rfl) ?_
  refine rx_aload_n dX11_finish_0 rfl rfl ?_
  refine gmv_getI (v := nI (p + 1)) hG hf_RX11_203 rfl dX11_finish_1 rfl rfl rfl hp ?_
  refine rx_iconst (v := nI 1) dX11_finish_4 rfl ?_
  refine rx_isub dX11_finish_5 ?_
  refine rx_ti (y := nI p) ((pk_sub (by omega)).trans (congrArg nI (by omega))) ?_
  refine rx_istore dX11_finish_6 (by decide) ?_
  refine rx_aload_n dX11_finish_8 rfl rfl ?_
  refine rx_dup dX11_finish_9 rfl ?_
  refine gmv_getI (v := nI (p + 1)) hG hf_RX11_203 rfl dX11_finish_10 rfl rfl rfl hp ?_
  refine rx_iconst (v := nI 1) dX11_finish_13 rfl ?_
  refine rx_isub dX11_finish_14 ?_
  refine rx_ti (y := nI p) ((pk_sub (by omega)).trans (congrArg nI (by omega))) ?_
  refine gm_putI hG hf_RX11_203 (gw_nf rfl rfl) rfl dX11_finish_15 rfl rfl rfl rfl rfl ?_
  refine rx_iload_n dX11_finish_18 rfl ?_
  refine rx_iconst (v := nI 3) dX11_finish_19 rfl ?_
  refine rx_icmp_ne (tgt := 27) dX11_finish_20 (by decide) (fun h20 => (absurd h20 (by decide))) (fun h20 => ?_)
  refine rx_lconst (v := 0) dX11_finish_23 rfl ?_
  refine rx_goto (tgt := 34) dX11_finish_24 (by decide) ?_
  refine rx_lstore dX11_finish_34 (by decide) ?_
  refine rx_iload_n dX11_finish_36 rfl ?_
  refine rx_iconst (v := nI 1) dX11_finish_37 rfl ?_
  refine rx_icmp_eq (tgt := 101) dX11_finish_38 (by decide) (fun h38 => (absurd h38 (by decide))) (fun h38 => ?_)
  refine rx_iconst (v := nI 0) dX11_finish_41 rfl ?_
  refine rx_istore dX11_finish_42 (by decide) ?_
  refine rx_lv (lv' := [(7, .int (nI 0)), (0, .ref 52), (1, .int (nI 3)), (2, .long vl), (4, .int (nI p)), (5, .long 0)]) ⟨rfl, rfl, rfl, rfl, rfl, rfl, trivial⟩ ?_
  refine rx_tm (mu' := gl C ((rx_u S.1 52 49 (nI p)), rx_cp S.2 82 0 83 (608 * p) 0)) (by rw [rx_cp_0]) ?_
  refine lm_finish (S := ((rx_u S.1 52 49 (nI p)), S.2)) hG hp1 ?_ 608 0 (by omega)
  refine rx_aload_n dX11_finish_79 rfl rfl ?_
  refine rx_aload_n dX11_finish_80 rfl rfl ?_
  refine g_getR hG hf_RX11_105 rfl dX11_finish_81 rfl rfl rfl ?_
  refine rx_iload dX11_finish_84 rfl ?_
  refine gmv_iald (j := p) (v := S.1 84 p) hG dX11_finish_86 rfl rfl rfl rfl (by omega) (by decide) (by simp [rx_ru, hp]) ?_
  refine gm_putI hG hf_RX11_212 (gw_nf rfl rfl) rfl dX11_finish_87 rfl rfl rfl rfl rfl ?_
  refine rx_aload_n dX11_finish_90 rfl rfl ?_
  refine rx_aload_n dX11_finish_91 rfl rfl ?_
  refine g_getR hG hf_RX11_108 rfl dX11_finish_92 rfl rfl rfl ?_
  refine rx_iload dX11_finish_95 rfl ?_
  refine gmv_iald (j := p) (v := S.1 85 p) hG dX11_finish_97 rfl rfl rfl rfl (by omega) (by decide) (by simp [rx_ru, hp]) ?_
  refine gm_putI hG hf_RX11_215 (gw_nf rfl rfl) rfl dX11_finish_98 rfl rfl rfl rfl rfl ?_
  refine rx_aload_n dX11_finish_101 rfl rfl ?_
  refine rx_iload_n dX11_finish_102 rfl ?_
  refine rx_iload_n dX11_finish_103 rfl ?_
  refine rx_iconst (v := nI 3) dX11_finish_104 rfl ?_
  refine rx_icmp_ne (tgt := 112) dX11_finish_105 (by decide) (fun h105 => (absurd h105 (by decide))) (fun h105 => ?_)
  refine rx_lconst (v := 0) dX11_finish_108 rfl ?_
  refine rx_goto (tgt := 113) dX11_finish_109 (by decide) ?_
  refine rx_lload dX11_finish_113 rfl ?_
  refine gv_invV (as := [.int _, .long _, .long _]) hG okX11_end lk_RX11_209 rfl rfl dX11_finish_115 rfl (by simp [Value.category]) (cm_end hG _ _ _) ?_
  rintro _ _ ⟨rfl, rfl⟩
  exact rx_vret rfl dX11_finish_118 ⟨rfl, rfl⟩
end
section
theorem cm_isAccountT {G : rx_E} {d : Nat} (hG : rx_OK G) {x : Int64} {mu : rx_M} (h : vm_acct x) : rx_C G MX11_isAccount d [.long x] mu 0 0 (fun v m => v = some (.int (nI 1)) ∧ m = mu) := by
  haveI := Classical.propDecidable
  refine rx_Cm (cm_isAccount hG) (fun v m hq => ?_)
  rw [if_pos h] at hq
  exact hq
theorem cm_isAccountF {G : rx_E} {d : Nat} (hG : rx_OK G) {x : Int64} {mu : rx_M} (h : ¬ vm_acct x) : rx_C G MX11_isAccount d [.long x] mu 0 0 (fun v m => v = some (.int (nI 0)) ∧ m = mu) := by
  haveI := Classical.propDecidable
  refine rx_Cm (cm_isAccount hG) (fun v m hq => ?_)
  rw [if_neg h] at hq
  exact hq
theorem lN_acct {x : Int64} (h : vm_acct x) : ∃ a, a < 32 ∧ x = lN a := by
  obtain ⟨k, hk, rfl⟩ := pk_lOf (Int64.not_lt.mpr h.1)
  have h2 : lN k < lN 32 := h.2
  rw [pk_lLT hk (by decide)] at h2
  exact ⟨k, h2, rfl⟩
theorem lm_begin {G : rx_E} {d mc ms : Nat} {C : rx_M} {S : gs_T} {Q : Option Value → rx_M → Prop} {Z : String → rx_M → Prop} (hG : rx_OK G) {p cl a : Nat} {vl ar gs : Int64} {lk : Int32} (hp : S.1 52 49 = nI p) (hp1 : p < 11) (K : rx_W G MX11_begin d 100 [(12, .int (nI 608)), (0, .ref 52), (1, .int (nI cl)), (2, .long (lN a)), (4, .long vl), (6, .long ar), (8, .long gs), (10, .int lk), (11, .int (nI a))] [] (gl C (S.1, rx_cp S.2 83 (608 * p) 82 0 608)) mc ms Q Z) : ∀ (k i : Nat), i + k = 608 → rx_W G MX11_begin d 63 [(12, .int (nI i)), (0, .ref 52), (1, .int (nI cl)), (2, .long (lN a)), (4, .long vl), (6, .long ar), (8, .long gs), (10, .int lk), (11, .int (nI a))] [] (gl C (S.1, rx_cp S.2 83 (608 * p) 82 0 i)) mc ms Q Z := by
  intro k
  induction k with
  | zero =>
    intro i hi
    have hi : i = 608 := by omega
    subst hi
    refine rx_iload dX11_begin_63 rfl ?_
    refine rx_sipush (v := nI 608) dX11_begin_65 rfl ?_
    exact rx_icmp_ge (tgt := 100) dX11_begin_68 (by decide) (fun _ => K) (fun h => absurd (by rw [nI_leI (by omega) (by omega)]; omega) h)
  | succ k ih =>
    intro i hi
    refine rx_iload dX11_begin_63 rfl ?_
    refine rx_sipush (v := nI 608) dX11_begin_65 rfl ?_
    refine rx_icmp_ge (tgt := 100) dX11_begin_68 (by decide) (fun h => absurd h (by rw [nI_leI (by omega) (by omega)]; omega)) (fun h68 => ?_)
    refine rx_aload_n dX11_begin_71 rfl rfl ?_
    refine g_getR hG hf_RX11_102 rfl dX11_begin_72 rfl rfl rfl ?_
    refine rx_sipush (v := nI 608) dX11_begin_75 rfl ?_
    refine rx_aload_n dX11_begin_78 rfl rfl ?_
    refine gmv_getI (v := nI p) hG hf_RX11_203 rfl dX11_begin_79 rfl rfl rfl hp ?_
    refine rx_imul dX11_begin_82 ?_
    refine rx_ti (y := nI (608 * p)) ((pk_mul _ _).trans (congrArg nI (by omega))) ?_
    refine rx_iload dX11_begin_83 rfl ?_
    refine rx_iadd dX11_begin_85 ?_
    refine rx_ti (y := nI (i + 608 * p)) ((nI_add _ _).trans (congrArg nI (by omega))) ?_
    refine rx_aload_n dX11_begin_86 rfl rfl ?_
    refine g_getR hG hf_RX11_99 rfl dX11_begin_87 rfl rfl rfl ?_
    refine rx_iload dX11_begin_90 rfl ?_
    refine gmv_lald (j := i) (v := S.2 82 i) hG dX11_begin_92 rfl rfl rfl rfl (by omega) (by decide) (by show rx_cp S.2 83 (608 * p) 82 0 i 82 i = _; exact rx_cp_get (by decide)) ?_
    refine gm_last (j := i + 608 * p) hG dX11_begin_93 rfl rfl rfl rfl (by omega) (by decide) ?_
    refine rx_iinc (v := nI (i + 1)) dX11_begin_94 rfl ((nI_add _ 1).trans (congrArg nI (by omega))) ?_
    refine rx_goto (tgt := 63) dX11_begin_97 (by decide) ?_
    refine rx_lv (lv' := [(12, .int (nI (i + 1))), (0, .ref 52), (1, .int (nI cl)), (2, .long (lN a)), (4, .long vl), (6, .long ar), (8, .long gs), (10, .int lk), (11, .int (nI a))]) ⟨rfl, rfl, rfl, rfl, rfl, rfl, rfl, rfl, rfl, trivial⟩ ?_
    refine rx_tm (mu' := gl C (S.1, rx_cp S.2 83 (608 * p) 82 0 (i + 1))) (congrArg (fun q => gl C (S.1, q)) (rx_cp_succ (by omega) (by omega))) ?_
    exact ih (i + 1) (by omega)
set_option maxHeartbeats 1000000 in
theorem cm_begin {G : rx_E} {d : Nat} {C : rx_M} {S : gs_T} (hG : rx_OK G) {p cl : Nat} {tt vl ar gs : Int64} {lk : Int32} (hp : S.1 52 49 = nI p) (hp1 : p < 11) (hcl : cl < 32) (hlk1 : narrow .boolean (.int lk) = .int lk) : rx_C G MX11_begin (d + 1) [.ref 52, .int (nI cl), .long tt, .long vl, .long ar, .long gs, .int lk] (gl C S) 0 0 (fun v mu => ((¬ vm_acct tt ∨ vl < 0 ∨ S.2 82 (19 * cl) < vl ∨ (∃ j, j < p ∧ (S.1 94 j ≠ 0 ∧ (S.1 89 j).toInt64 = tt)) ∨ p = 10) ∧ v = some (.int (nI 0)) ∧ mu = gl C ((rx_u S.1 52 58 (nI 2)), (rx_u (rx_u S.2 52 59 0) 52 60 gs))) ∨
    (∃ a, a < 32 ∧ tt = lN a ∧ (¬ (vl < 0) ∧ ¬ (S.2 82 (19 * cl) < vl) ∧ ¬ (∃ j, j < p ∧ (S.1 94 j ≠ 0 ∧ (S.1 89 j).toInt64 = lN a)) ∧ p ≠ 10) ∧ (up1 (up1 (fun k => S.2 82 k) (19 * cl) (S.2 82 (19 * cl) - vl)) (19 * a) ((up1 (fun k => S.2 82 k) (19 * cl) (S.2 82 (19 * cl) - vl)) (19 * a) + vl)) (19 * a + 2) = 0 ∧ v = some (.int (nI 0)) ∧ mu = gl C ((rx_u (rx_u (rx_u S.1 84 p (S.1 52 52)) 85 p (S.1 52 56)) 52 58 (nI 1)), (rx_u (rx_u (rx_u (rx_u (rx_cp S.2 83 (608 * p) 82 0 608) 82 (19 * cl) ((S.2 82 (19 * cl)) - vl)) 82 (19 * a) (((up1 (fun k => S.2 82 k) (19 * cl) (S.2 82 (19 * cl) - vl)) (19 * a)) + vl)) 52 59 0) 52 60 gs))) ∨
    (∃ a, a < 32 ∧ tt = lN a ∧ (¬ (vl < 0) ∧ ¬ (S.2 82 (19 * cl) < vl) ∧ ¬ (∃ j, j < p ∧ (S.1 94 j ≠ 0 ∧ (S.1 89 j).toInt64 = lN a)) ∧ p ≠ 10) ∧ ¬ (up1 (up1 (fun k => S.2 82 k) (19 * cl) (S.2 82 (19 * cl) - vl)) (19 * a) ((up1 (fun k => S.2 82 k) (19 * cl) (S.2 82 (19 * cl) - vl)) (19 * a) + vl)) (19 * a + 2) = 0 ∧ v = some (.int (nI 1)) ∧ mu = gl C ((rx_u (rx_u (rx_u (rx_u (rx_u (rx_u (rx_u (rx_u (rx_u (rx_u (rx_u S.1 84 p (S.1 52 52)) 85 p (S.1 52 56)) 86 p ((((up1 (up1 (fun k => S.2 82 k) (19 * cl) (S.2 82 (19 * cl) - vl)) (19 * a) ((up1 (fun k => S.2 82 k) (19 * cl) (S.2 82 (19 * cl) - vl)) (19 * a) + vl)) (19 * a + 2)).toInt32) - (nI 1))) 87 p (nI 0)) 89 p (nI a)) 90 p (nI cl)) 93 p lk) 94 p (nI 0)) 96 p (nI 0)) 52 49 (nI (p + 1))) 52 57 ((S.1 52 57) + (nI 1))), (rx_u (rx_u (rx_u (rx_u (rx_u (rx_cp S.2 83 (608 * p) 82 0 608) 82 (19 * cl) ((S.2 82 (19 * cl)) - vl)) 82 (19 * a) (((up1 (fun k => S.2 82 k) (19 * cl) (S.2 82 (19 * cl) - vl)) (19 * a)) + vl)) 88 p gs) 91 p vl) 92 p ar)))) := by
  refine rx_meth0 (by decide +kernel) rfl (Nat.le_of_ble_eq_true rfl) ?_
  by_cases hac : vm_acct tt
  rotate_left
  · refine rx_lload_n dX11_begin_0 rfl ?_
    refine rx_invS0 (as := [.long _]) hG okX11_isAccount lk_RX11_181 dX11_begin_1 rfl (by simp [Value.category]) (cm_isAccountF hG hac) ?_
    rintro _ _ ⟨rfl, rfl⟩
    refine rx_if_eq (tgt := 46) dX11_begin_4 (by decide) (fun _ => ?_) (fun h => absurd (by decide) h)
    refine rx_aload_n dX11_begin_46 rfl rfl ?_
    refine rx_iconst (v := nI 2) dX11_begin_47 rfl ?_
    refine rx_lconst (v := 0) dX11_begin_48 rfl ?_
    refine rx_lload dX11_begin_49 rfl ?_
    refine gv_invV (as := [.int _, .long _, .long _]) hG okX11_end lk_RX11_209 rfl rfl dX11_begin_51 rfl (by simp [Value.category]) (cm_end hG _ _ _) ?_
    rintro _ _ ⟨rfl, rfl⟩
    refine rx_iconst (v := nI 0) dX11_begin_54 rfl ?_
    exact rx_zret rfl rfl dX11_begin_55 (Or.inl ⟨Or.inl hac, rfl, rfl⟩)
  obtain ⟨a, ha, rfl⟩ := lN_acct hac
  refine rx_lload_n dX11_begin_0 rfl ?_
  refine rx_invS0 (as := [.long _]) hG okX11_isAccount lk_RX11_181 dX11_begin_1 rfl (by simp [Value.category]) (cm_isAccountT hG hac) ?_
  rintro _ _ ⟨rfl, rfl⟩
  refine rx_if_eq (tgt := 46) dX11_begin_4 (by decide) (fun h => absurd h (by decide)) (fun _ => ?_)
  refine rx_lload dX11_begin_7 rfl ?_
  refine rx_lconst (v := 0) dX11_begin_9 rfl ?_
  refine rx_lc_lt (tgt := 46) dX11_begin_10 dX11_begin_11 (by decide) (fun h10 => ?_) (fun h10 => ?_)
  · refine rx_aload_n dX11_begin_46 rfl rfl ?_
    refine rx_iconst (v := nI 2) dX11_begin_47 rfl ?_
    refine rx_lconst (v := 0) dX11_begin_48 rfl ?_
    refine rx_lload dX11_begin_49 rfl ?_
    refine gv_invV (as := [.int _, .long _, .long _]) hG okX11_end lk_RX11_209 rfl rfl dX11_begin_51 rfl (by simp [Value.category]) (cm_end hG _ _ _) ?_
    rintro _ _ ⟨rfl, rfl⟩
    refine rx_iconst (v := nI 0) dX11_begin_54 rfl ?_
    exact rx_zret rfl rfl dX11_begin_55 (Or.inl ⟨Or.inr (Or.inl h10), rfl, rfl⟩)
  refine rx_lload dX11_begin_14 rfl ?_
  refine rx_aload_n dX11_begin_16 rfl rfl ?_
  refine g_getR hG hf_RX11_99 rfl dX11_begin_17 rfl rfl rfl ?_
  refine rx_bipush (v := nI 19) dX11_begin_20 rfl ?_
  refine rx_iload_n dX11_begin_22 rfl ?_
  refine rx_imul dX11_begin_23 ?_
  refine rx_ti (y := nI (19 * cl)) ((pk_mul _ _).trans (congrArg nI (by omega))) ?_
  refine gmv_lald (j := 19 * cl) (v := S.2 82 (19 * cl)) hG dX11_begin_24 rfl rfl rfl rfl (by omega) (by decide) rfl ?_
  refine rx_lc_gt (tgt := 46) dX11_begin_25 dX11_begin_26 (by decide) (fun h25 => ?_) (fun h25 => ?_)
  · refine rx_aload_n dX11_begin_46 rfl rfl ?_
    refine rx_iconst (v := nI 2) dX11_begin_47 rfl ?_
    refine rx_lconst (v := 0) dX11_begin_48 rfl ?_
    refine rx_lload dX11_begin_49 rfl ?_
    refine gv_invV (as := [.int _, .long _, .long _]) hG okX11_end lk_RX11_209 rfl rfl dX11_begin_51 rfl (by simp [Value.category]) (cm_end hG _ _ _) ?_
    rintro _ _ ⟨rfl, rfl⟩
    refine rx_iconst (v := nI 0) dX11_begin_54 rfl ?_
    exact rx_zret rfl rfl dX11_begin_55 (Or.inl ⟨Or.inr (Or.inr (Or.inl h25)), rfl, rfl⟩)
  refine rx_aload_n dX11_begin_29 rfl rfl ?_
  refine rx_lload_n dX11_begin_30 rfl ?_
  refine gv_invV (as := [.long _]) hG okX11_isLocked lk_RX11_206 rfl rfl dX11_begin_31 rfl (by simp [Value.category]) (cm_isLocked hG hp (by omega)) ?_
  rintro _ _ ⟨⟨r, hr, rfl⟩, rfl⟩
  rcases hr with ⟨rfl, hlk⟩ | ⟨rfl, hlk⟩
  · refine rx_if_ne (tgt := 46) dX11_begin_34 (by decide) (fun _ => ?_) (fun h => absurd h (by decide))
    refine rx_aload_n dX11_begin_46 rfl rfl ?_
    refine rx_iconst (v := nI 2) dX11_begin_47 rfl ?_
    refine rx_lconst (v := 0) dX11_begin_48 rfl ?_
    refine rx_lload dX11_begin_49 rfl ?_
    refine gv_invV (as := [.int _, .long _, .long _]) hG okX11_end lk_RX11_209 rfl rfl dX11_begin_51 rfl (by simp [Value.category]) (cm_end hG _ _ _) ?_
    rintro _ _ ⟨rfl, rfl⟩
    refine rx_iconst (v := nI 0) dX11_begin_54 rfl ?_
    exact rx_zret rfl rfl dX11_begin_55 (Or.inl ⟨Or.inr (Or.inr (Or.inr (Or.inl hlk))), rfl, rfl⟩)
  refine rx_if_ne (tgt := 46) dX11_begin_34 (by decide) (fun h => absurd (by decide) h) (fun _ => ?_)
  refine rx_aload_n dX11_begin_37 rfl rfl ?_
  refine gmv_getI (v := nI p) hG hf_RX11_203 rfl dX11_begin_38 rfl rfl rfl hp ?_
  refine rx_bipush (v := nI 10) dX11_begin_41 rfl ?_
  refine rx_icmp_ne (tgt := 56) dX11_begin_43 (by decide) (fun h43 => ?_) (fun h43 => ?_)
  rotate_left
  · rw [nI_eq (by omega) (by omega)] at h43
    refine rx_aload_n dX11_begin_46 rfl rfl ?_
    refine rx_iconst (v := nI 2) dX11_begin_47 rfl ?_
    refine rx_lconst (v := 0) dX11_begin_48 rfl ?_
    refine rx_lload dX11_begin_49 rfl ?_
    refine gv_invV (as := [.int _, .long _, .long _]) hG okX11_end lk_RX11_209 rfl rfl dX11_begin_51 rfl (by simp [Value.category]) (cm_end hG _ _ _) ?_
    rintro _ _ ⟨rfl, rfl⟩
    refine rx_iconst (v := nI 0) dX11_begin_54 rfl ?_
    exact rx_zret rfl rfl dX11_begin_55 (Or.inl ⟨Or.inr (Or.inr (Or.inr (Or.inr h43))), rfl, rfl⟩)
  rw [nI_eq (by omega) (by omega)] at h43
  refine rx_lload_n dX11_begin_56 rfl ?_
  refine rx_l2i dX11_begin_57 ?_
  refine rx_ti (y := nI a) (lN_i a) ?_
  refine rx_istore dX11_begin_58 (by decide) ?_
  refine rx_iconst (v := nI 0) dX11_begin_60 rfl ?_
  refine rx_istore dX11_begin_61 (by decide) ?_
  refine rx_lv (lv' := [(12, .int (nI 0)), (0, .ref 52), (1, .int (nI cl)), (2, .long (lN a)), (4, .long vl), (6, .long ar), (8, .long gs), (10, .int lk), (11, .int (nI a))]) ⟨rfl, rfl, rfl, rfl, rfl, rfl, rfl, rfl, rfl, trivial⟩ ?_
  refine rx_tm (mu' := gl C (S.1, rx_cp S.2 83 (608 * p) 82 0 0)) (by rw [rx_cp_0]) ?_
  refine lm_begin hG hp (by omega) ?_ 608 0 (by omega)
  refine rx_aload_n dX11_begin_100 rfl rfl ?_
  refine g_getR hG hf_RX11_105 rfl dX11_begin_101 rfl rfl rfl ?_
  refine rx_aload_n dX11_begin_104 rfl rfl ?_
  refine gmv_getI (v := nI p) hG hf_RX11_203 rfl dX11_begin_105 rfl rfl rfl hp ?_
  refine rx_aload_n dX11_begin_108 rfl rfl ?_
  refine gmv_getI (v := S.1 52 52) hG hf_RX11_212 rfl dX11_begin_109 rfl rfl rfl rfl ?_
  refine gm_iast (j := p) hG dX11_begin_112 rfl rfl rfl rfl (by omega) (by decide) ?_
  refine rx_aload_n dX11_begin_113 rfl rfl ?_
  refine g_getR hG hf_RX11_108 rfl dX11_begin_114 rfl rfl rfl ?_
  refine rx_aload_n dX11_begin_117 rfl rfl ?_
  refine gmv_getI (v := nI p) hG hf_RX11_203 rfl dX11_begin_118 rfl rfl rfl (by simp [rx_ru, hp]) ?_
  refine rx_aload_n dX11_begin_121 rfl rfl ?_
  refine gmv_getI (v := S.1 52 56) hG hf_RX11_215 rfl dX11_begin_122 rfl rfl rfl (by simp [rx_ru]) ?_
  refine gm_iast (j := p) hG dX11_begin_125 rfl rfl rfl rfl (by omega) (by decide) ?_
  refine rx_aload_n dX11_begin_126 rfl rfl ?_
  refine g_getR hG hf_RX11_99 rfl dX11_begin_127 rfl rfl rfl ?_
  refine rx_bipush (v := nI 19) dX11_begin_130 rfl ?_
  refine rx_iload_n dX11_begin_132 rfl ?_
  refine rx_imul dX11_begin_133 ?_
  refine rx_ti (y := nI (19 * cl)) ((pk_mul _ _).trans (congrArg nI (by omega))) ?_
  refine rx_dup2 dX11_begin_134 rfl rfl ?_
  refine gmv_lald (j := 19 * cl) (v := S.2 82 (19 * cl)) hG dX11_begin_135 rfl rfl rfl rfl (by omega) (by decide) (by simp [rx_ru, rx_cp, up1]) ?_
  refine rx_lload dX11_begin_136 rfl ?_
  refine rx_lsub dX11_begin_138 ?_
  refine gm_last (j := 19 * cl) hG dX11_begin_139 rfl rfl rfl rfl (by omega) (by decide) ?_
  refine rx_aload_n dX11_begin_140 rfl rfl ?_
  refine g_getR hG hf_RX11_99 rfl dX11_begin_141 rfl rfl rfl ?_
  refine rx_bipush (v := nI 19) dX11_begin_144 rfl ?_
  refine rx_iload dX11_begin_146 rfl ?_
  refine rx_imul dX11_begin_148 ?_
  refine rx_ti (y := nI (19 * a)) ((pk_mul _ _).trans (congrArg nI (by omega))) ?_
  refine rx_dup2 dX11_begin_149 rfl rfl ?_
  refine gmv_lald (j := 19 * a) (v := (up1 (fun k => S.2 82 k) (19 * cl) (S.2 82 (19 * cl) - vl)) (19 * a)) hG dX11_begin_150 rfl rfl rfl rfl (by omega) (by decide) (by simp [rx_ru, rx_cp, up1]) ?_
  refine rx_lload dX11_begin_151 rfl ?_
  refine rx_ladd dX11_begin_153 ?_
  refine gm_last (j := 19 * a) hG dX11_begin_154 rfl rfl rfl rfl (by omega) (by decide) ?_
  refine rx_aload_n dX11_begin_155 rfl rfl ?_
  refine g_getR hG hf_RX11_99 rfl dX11_begin_156 rfl rfl rfl ?_
  refine rx_bipush (v := nI 19) dX11_begin_159 rfl ?_
  refine rx_iload dX11_begin_161 rfl ?_
  refine rx_imul dX11_begin_163 ?_
  refine rx_ti (y := nI (19 * a)) ((pk_mul _ _).trans (congrArg nI (by omega))) ?_
  refine rx_iconst (v := nI 2) dX11_begin_164 rfl ?_
  refine rx_iadd dX11_begin_165 ?_
  refine rx_ti (y := nI (19 * a + 2)) ((nI_add _ _).trans (congrArg nI (by omega))) ?_
  refine gmv_lald (j := 19 * a + 2) (v := (up1 (up1 (fun k => S.2 82 k) (19 * cl) (S.2 82 (19 * cl) - vl)) (19 * a) ((up1 (fun k => S.2 82 k) (19 * cl) (S.2 82 (19 * cl) - vl)) (19 * a) + vl)) (19 * a + 2)) hG dX11_begin_166 rfl rfl rfl rfl (by omega) (by decide) (by simp only [rx_ru, rx_cp, up1]; simp) ?_
  refine rx_lconst (v := 0) dX11_begin_167 rfl ?_
  refine rx_lc_ne (tgt := 182) dX11_begin_168 dX11_begin_169 (by decide) (fun h168 => ?_) (fun h168 => ?_)
  rotate_left
  · have hok : ¬ (vl < 0) ∧ ¬ (S.2 82 (19 * cl) < vl) ∧ ¬ (∃ j, j < p ∧ (S.1 94 j ≠ 0 ∧ (S.1 89 j).toInt64 = lN a)) ∧ p ≠ 10 := ⟨h10, h25, hlk, h43⟩
    refine rx_aload_n dX11_begin_172 rfl rfl ?_
    refine rx_iconst (v := nI 1) dX11_begin_173 rfl ?_
    refine rx_lconst (v := 0) dX11_begin_174 rfl ?_
    refine rx_lload dX11_begin_175 rfl ?_
    refine gv_invV (as := [.int _, .long _, .long _]) hG okX11_end lk_RX11_209 rfl rfl dX11_begin_177 rfl (by simp [Value.category]) (cm_end hG _ _ _) ?_
    rintro _ _ ⟨rfl, rfl⟩
    refine rx_iconst (v := nI 0) dX11_begin_180 rfl ?_
    exact rx_zret rfl rfl dX11_begin_181 (Or.inr (Or.inl ⟨a, ha, rfl, hok, h168, rfl, rfl⟩))
  have hok : ¬ (vl < 0) ∧ ¬ (S.2 82 (19 * cl) < vl) ∧ ¬ (∃ j, j < p ∧ (S.1 94 j ≠ 0 ∧ (S.1 89 j).toInt64 = lN a)) ∧ p ≠ 10 := ⟨h10, h25, hlk, h43⟩
  refine rx_aload_n dX11_begin_182 rfl rfl ?_
  refine gmv_getI (v := nI p) hG hf_RX11_203 rfl dX11_begin_183 rfl rfl rfl (by simp [rx_ru, hp]) ?_
  refine rx_istore dX11_begin_186 (by decide) ?_
  refine rx_aload_n dX11_begin_188 rfl rfl ?_
  refine g_getR hG hf_RX11_111 rfl dX11_begin_189 rfl rfl rfl ?_
  refine rx_iload dX11_begin_192 rfl ?_
  refine rx_aload_n dX11_begin_194 rfl rfl ?_
  refine g_getR hG hf_RX11_99 rfl dX11_begin_195 rfl rfl rfl ?_
  refine rx_bipush (v := nI 19) dX11_begin_198 rfl ?_
  refine rx_iload dX11_begin_200 rfl ?_
  refine rx_imul dX11_begin_202 ?_
  refine rx_ti (y := nI (19 * a)) ((pk_mul _ _).trans (congrArg nI (by omega))) ?_
  refine rx_iconst (v := nI 2) dX11_begin_203 rfl ?_
  refine rx_iadd dX11_begin_204 ?_
  refine rx_ti (y := nI (19 * a + 2)) ((nI_add _ _).trans (congrArg nI (by omega))) ?_
  refine gmv_lald (j := 19 * a + 2) (v := (up1 (up1 (fun k => S.2 82 k) (19 * cl) (S.2 82 (19 * cl) - vl)) (19 * a) ((up1 (fun k => S.2 82 k) (19 * cl) (S.2 82 (19 * cl) - vl)) (19 * a) + vl)) (19 * a + 2)) hG dX11_begin_205 rfl rfl rfl rfl (by omega) (by decide) (by simp only [rx_ru, rx_cp, up1]; simp) ?_
  refine rx_l2i dX11_begin_206 ?_
  refine rx_iconst (v := nI 1) dX11_begin_207 rfl ?_
  refine rx_isub dX11_begin_208 ?_
  refine gm_iast (j := p) hG dX11_begin_209 rfl rfl rfl rfl (by omega) (by decide) ?_
  refine rx_aload_n dX11_begin_210 rfl rfl ?_
  refine g_getR hG hf_RX11_114 rfl dX11_begin_211 rfl rfl rfl ?_
  refine rx_iload dX11_begin_214 rfl ?_
  refine rx_iconst (v := nI 0) dX11_begin_216 rfl ?_
  refine gm_iast (j := p) hG dX11_begin_217 rfl rfl rfl rfl (by omega) (by decide) ?_
  refine rx_aload_n dX11_begin_218 rfl rfl ?_
  refine g_getR hG hf_RX11_117 rfl dX11_begin_219 rfl rfl rfl ?_
  refine rx_iload dX11_begin_222 rfl ?_
  refine rx_lload dX11_begin_224 rfl ?_
  refine gm_last (j := p) hG dX11_begin_226 rfl rfl rfl rfl (by omega) (by decide) ?_
  refine rx_aload_n dX11_begin_227 rfl rfl ?_
  refine g_getR hG hf_RX11_120 rfl dX11_begin_228 rfl rfl rfl ?_
  refine rx_iload dX11_begin_231 rfl ?_
  refine rx_iload dX11_begin_233 rfl ?_
  refine gm_iast (j := p) hG dX11_begin_235 rfl rfl rfl rfl (by omega) (by decide) ?_
  refine rx_aload_n dX11_begin_236 rfl rfl ?_
  refine g_getR hG hf_RX11_123 rfl dX11_begin_237 rfl rfl rfl ?_
  refine rx_iload dX11_begin_240 rfl ?_
  refine rx_iload_n dX11_begin_242 rfl ?_
  refine gm_iast (j := p) hG dX11_begin_243 rfl rfl rfl rfl (by omega) (by decide) ?_
  refine rx_aload_n dX11_begin_244 rfl rfl ?_
  refine g_getR hG hf_RX11_126 rfl dX11_begin_245 rfl rfl rfl ?_
  refine rx_iload dX11_begin_248 rfl ?_
  refine rx_lload dX11_begin_250 rfl ?_
  refine gm_last (j := p) hG dX11_begin_252 rfl rfl rfl rfl (by omega) (by decide) ?_
  refine rx_aload_n dX11_begin_253 rfl rfl ?_
  refine g_getR hG hf_RX11_129 rfl dX11_begin_254 rfl rfl rfl ?_
  refine rx_iload dX11_begin_257 rfl ?_
  refine rx_lload dX11_begin_259 rfl ?_
  refine gm_last (j := p) hG dX11_begin_261 rfl rfl rfl rfl (by omega) (by decide) ?_
  refine rx_aload_n dX11_begin_262 rfl rfl ?_
  refine g_getR hG hf_RX11_132 rfl dX11_begin_263 rfl rfl rfl ?_
  refine rx_iload dX11_begin_266 rfl ?_
  refine rx_iload dX11_begin_268 rfl ?_
  refine gm_zast (j := p) hG dX11_begin_270 rfl rfl rfl rfl (by omega) (by decide) hlk1 ?_
  refine rx_aload_n dX11_begin_271 rfl rfl ?_
  refine g_getR hG hf_RX11_135 rfl dX11_begin_272 rfl rfl rfl ?_
  refine rx_iload dX11_begin_275 rfl ?_
  refine rx_iconst (v := nI 0) dX11_begin_277 rfl ?_
  refine gm_zast (j := p) hG dX11_begin_278 rfl rfl rfl rfl (by omega) (by decide) rfl ?_
  refine rx_aload_n dX11_begin_279 rfl rfl ?_
  refine g_getR hG hf_RX11_141 rfl dX11_begin_280 rfl rfl rfl ?_
  refine rx_iload dX11_begin_283 rfl ?_
  refine rx_iconst (v := nI 0) dX11_begin_285 rfl ?_
  refine gm_iast (j := p) hG dX11_begin_286 rfl rfl rfl rfl (by omega) (by decide) ?_
  refine rx_aload_n dX11_begin_287 rfl rfl ?_
  refine rx_dup dX11_begin_288 rfl ?_
  refine gmv_getI (v := nI p) hG hf_RX11_203 rfl dX11_begin_289 rfl rfl rfl (by simp [rx_ru, hp]) ?_
  refine rx_iconst (v := nI 1) dX11_begin_292 rfl ?_
  refine rx_iadd dX11_begin_293 ?_
  refine rx_ti (y := nI (p + 1)) ((nI_add _ _).trans (congrArg nI (by omega))) ?_
  refine gm_putI hG hf_RX11_203 (gw_nf rfl rfl) rfl dX11_begin_294 rfl rfl rfl rfl rfl ?_
  refine rx_aload_n dX11_begin_297 rfl rfl ?_
  refine rx_dup dX11_begin_298 rfl ?_
  refine gmv_getI (v := S.1 52 57) hG hf_RX11_218 rfl dX11_begin_299 rfl rfl rfl (by simp [rx_ru]) ?_
  refine rx_iconst (v := nI 1) dX11_begin_302 rfl ?_
  refine rx_iadd dX11_begin_303 ?_
  refine gm_putI hG hf_RX11_218 (gw_nf rfl rfl) rfl dX11_begin_304 rfl rfl rfl rfl rfl ?_
  refine rx_iconst (v := nI 1) dX11_begin_307 rfl ?_
  exact rx_zret rfl rfl dX11_begin_308 (Or.inr (Or.inr ⟨a, ha, rfl, hok, h168, rfl, rfl⟩))
end
section
/-! THE MODEL'S MACHINE BY RELATION: each method takes rows that hold a machine to rows that hold another -/
theorem rx_une {α : Type} (f : Nat → Nat → α) {a b i : Nat} {x : α} (h : b ≠ a) : rx_u f a i x b = f b := rx_u_ne f i x h
/-- what a whole call leaves as it was -/
def rm_rest (S0 S : gs_T) : Prop := (∀ a, a < 82 → a ≠ 52 → S.1 a = S0.1 a ∧ S.2 a = S0.2 a) ∧ (S.1 100 = S0.1 100 ∧ S.2 100 = S0.2 100) ∧ ∀ k, k ≠ 49 → k ≠ 50 → k ≠ 52 → k ≠ 56 → k ≠ 57 → k ≠ 58 → k ≠ 59 → k ≠ 60 → S.1 52 k = S0.1 52 k ∧ S.2 52 k = S0.2 52 k
def rm_Y (S0 S : gs_T) (g : vg_T) (X : vx_S) (E : Nat) : Prop := rm_X S g X ∧ rm_rest S0 S ∧ S.1 52 58 = nI E
theorem rm_rest_I {S0 S : gs_T} {a j : Nat} {x : Int32} (h : rm_rest S0 S) (ha : (82 ≤ a ∧ a < 100) ∨ (a = 52 ∧ (j = 49 ∨ j = 50 ∨ j = 52 ∨ j = 56 ∨ j = 57 ∨ j = 58 ∨ j = 59 ∨ j = 60))) : rm_rest S0 (rx_u S.1 a j x, S.2) := by
  obtain ⟨h1, h2, h3⟩ := h
  refine ⟨fun b hb hb2 => ?_, ?_, fun k k1 k2 k3 k4 k5 k6 k7 k8 => ?_⟩
  · refine ⟨?_, (h1 b hb hb2).2⟩
    show rx_u S.1 a j x b = _
    rw [rx_une _ (by omega)]; exact (h1 b hb hb2).1
  · refine ⟨?_, h2.2⟩
    show rx_u S.1 a j x 100 = _
    rw [rx_une _ (by omega)]; exact h2.1
  · refine ⟨?_, (h3 k k1 k2 k3 k4 k5 k6 k7 k8).2⟩
    show rx_u S.1 a j x 52 k = _
    rw [rx_ru]
    rcases ha with ha | ⟨rfl, ha⟩
    · rw [if_neg (by omega)]; exact (h3 k k1 k2 k3 k4 k5 k6 k7 k8).1
    · rw [if_pos rfl, if_neg (by omega)]; exact (h3 k k1 k2 k3 k4 k5 k6 k7 k8).1
theorem rm_rest_L {S0 S : gs_T} {a j : Nat} {x : Int64} (h : rm_rest S0 S) (ha : (82 ≤ a ∧ a < 100) ∨ (a = 52 ∧ (j = 49 ∨ j = 50 ∨ j = 52 ∨ j = 56 ∨ j = 57 ∨ j = 58 ∨ j = 59 ∨ j = 60))) : rm_rest S0 (S.1, rx_u S.2 a j x) := by
  obtain ⟨h1, h2, h3⟩ := h
  refine ⟨fun b hb hb2 => ?_, ?_, fun k k1 k2 k3 k4 k5 k6 k7 k8 => ?_⟩
  · refine ⟨(h1 b hb hb2).1, ?_⟩
    show rx_u S.2 a j x b = _
    rw [rx_une _ (by omega)]; exact (h1 b hb hb2).2
  · refine ⟨h2.1, ?_⟩
    show rx_u S.2 a j x 100 = _
    rw [rx_une _ (by omega)]; exact h2.2
  · refine ⟨(h3 k k1 k2 k3 k4 k5 k6 k7 k8).1, ?_⟩
    show rx_u S.2 a j x 52 k = _
    rw [rx_ru]
    rcases ha with ha | ⟨rfl, ha⟩
    · rw [if_neg (by omega)]; exact (h3 k k1 k2 k3 k4 k5 k6 k7 k8).2
    · rw [if_pos rfl, if_neg (by omega)]; exact (h3 k k1 k2 k3 k4 k5 k6 k7 k8).2
theorem rm_rest_cp {S0 S : gs_T} {a o b p n : Nat} (h : rm_rest S0 S) (ha : 82 ≤ a ∧ a < 100) : rm_rest S0 (S.1, rx_cp S.2 a o b p n) := by
  obtain ⟨h1, h2, h3⟩ := h
  have hz : ∀ c, c ≠ a → rx_cp S.2 a o b p n c = S.2 c := fun c hc => funext fun j => rx_cp_get hc
  refine ⟨fun b hb hb2 => ⟨(h1 b hb hb2).1, ?_⟩, ⟨h2.1, ?_⟩, fun k k1 k2 k3 k4 k5 k6 k7 k8 => ⟨(h3 k k1 k2 k3 k4 k5 k6 k7 k8).1, ?_⟩⟩
  · exact (hz b (by omega)).trans (h1 b hb hb2).2
  · exact (hz 100 (by omega)).trans h2.2
  · exact (congrFun (hz 52 (by omega)) k).trans (h3 k k1 k2 k3 k4 k5 k6 k7 k8).2
/-- the rows are the same but for the p-th frame -/
def rm_near (S S' : gs_T) (p : Nat) : Prop := (∀ i, i < p → rm_same S S' i) ∧ (∀ a, a < 83 ∨ 96 < a → S'.1 a = S.1 a ∧ S'.2 a = S.2 a)
theorem rm_near_I {S : gs_T} {a p : Nat} {x : Int32} (h1 : 84 ≤ a) (h2 : a ≤ 96) : rm_near S (rx_u S.1 a p x, S.2) p := by
  refine ⟨fun i hi => ⟨fun b _ _ _ => ⟨?_, rfl⟩, ⟨?_, ?_⟩, fun _ _ => rfl, fun _ _ => rfl⟩, fun b hb => ⟨?_, rfl⟩⟩
  · show rx_u S.1 a p x b i = _
    rw [rx_ru]; split
    · rw [if_neg (by omega)]
    · rfl
  · show rx_u S.1 a p x 84 i = _
    rw [rx_ru]; split
    · rw [if_neg (by omega)]
    · rfl
  · show rx_u S.1 a p x 85 i = _
    rw [rx_ru]; split
    · rw [if_neg (by omega)]
    · rfl
  · show rx_u S.1 a p x b = _
    rw [rx_une _ (by omega)]
theorem rm_near_L {S : gs_T} {a p : Nat} {x : Int64} (h1 : 86 ≤ a) (h2 : a ≤ 96) (h3 : a ≠ 95) : rm_near S (S.1, rx_u S.2 a p x) p := by
  refine ⟨fun i hi => ⟨fun b _ _ _ => ⟨rfl, ?_⟩, ⟨rfl, rfl⟩, fun j _ => ?_, fun j _ => ?_⟩, fun b hb => ⟨rfl, ?_⟩⟩
  · show rx_u S.2 a p x b i = _
    rw [rx_ru]; split
    · rw [if_neg (by omega)]
    · rfl
  · show rx_u S.2 a p x 95 _ = _
    rw [rx_une _ (by omega)]
  · show rx_u S.2 a p x 83 _ = _
    rw [rx_une _ (by omega)]
  · show rx_u S.2 a p x b = _
    rw [rx_une _ (by omega)]
theorem rm_near_T {S : gs_T} {p j : Nat} {x : Int64} (h : 24 * p ≤ j) : rm_near S (S.1, rx_u S.2 95 j x) p := by
  refine ⟨fun i hi => ⟨fun b _ _ hb => ⟨rfl, ?_⟩, ⟨rfl, rfl⟩, fun k hk => ?_, fun k _ => ?_⟩, fun b hb => ⟨rfl, ?_⟩⟩
  · show rx_u S.2 95 j x b i = _
    rw [rx_une _ hb]
  · show rx_u S.2 95 j x 95 _ = _
    rw [rx_ru, if_pos rfl, if_neg (by omega)]
  · show rx_u S.2 95 j x 83 _ = _
    rw [rx_une _ (by decide)]
  · show rx_u S.2 95 j x b = _
    rw [rx_une _ (by omega)]
theorem rm_same_trans {S T U : gs_T} {i : Nat} (h1 : rm_same S T i) (h2 : rm_same T U i) : rm_same S U i :=
  ⟨fun a x y z => ⟨(h2.1 a x y z).1.trans (h1.1 a x y z).1, (h2.1 a x y z).2.trans (h1.1 a x y z).2⟩, ⟨h2.2.1.1.trans h1.2.1.1, h2.2.1.2.trans h1.2.1.2⟩, fun j hj => (h2.2.2.1 j hj).trans (h1.2.2.1 j hj), fun j hj => (h2.2.2.2 j hj).trans (h1.2.2.2 j hj)⟩
theorem rm_near_trans {S T U : gs_T} {p : Nat} (h1 : rm_near S T p) (h2 : rm_near T U p) : rm_near S U p :=
  ⟨fun i hi => rm_same_trans (h1.1 i hi) (h2.1 i hi), fun a ha => ⟨((h2.2 a ha).1).trans (h1.2 a ha).1, ((h2.2 a ha).2).trans (h1.2 a ha).2⟩⟩
/-- the inmost frame changed alone -/
theorem rY_top {S0 S S' : gs_T} {g : vg_T} {n : Nat → Int64} {e : List (Nat × Int64 × Int64)} {b m E : Nat} {f f' : vf_T} {fs : List vf_T} (h : rm_Y S0 S g (n, e, b, f :: fs, m) E) (hn : rm_near S S' fs.length) (hf : rm_F S' fs.length f') : rm_Y S0 S' g (n, e, b, f' :: fs, m) E := by
  obtain ⟨⟨⟨g1, g2, g3, g4⟩, h2, ⟨h3, h4⟩, h5, ⟨h6, h7⟩, h8⟩, ⟨r1, r2, r3⟩, h9⟩ := h
  have hI : ∀ a, a < 83 ∨ 96 < a → S'.1 a = S.1 a := fun a ha => (hn.2 a ha).1
  have hL : ∀ a, a < 83 ∨ 96 < a → S'.2 a = S.2 a := fun a ha => (hn.2 a ha).2
  have i52 := hI 52 (by decide)
  have l52 := hL 52 (by decide)
  refine ⟨⟨⟨fun c hc => ?_, ?_, ?_, ?_⟩, fun k hk => ?_, ⟨?_, ?_⟩, ?_, ⟨?_, hf, rm_Fs_congr hn.1 h7.2⟩, ?_⟩, ⟨fun a ha ha2 => ?_, ?_, fun k k1 k2 k3 k4 k5 k6 k7 k8 => ?_⟩, ?_⟩
  · rw [hI 54 (by decide), hI 53 (by decide)]; exact g1 c hc
  · rw [i52]; exact g2
  · rw [i52]; exact g3
  · rw [i52]; exact g4
  · rw [hL 82 (by decide)]; exact h2 k hk
  · rw [i52]; exact h3
  · exact rm_E_congr (fun i _ => ⟨by rw [hI 97 (by decide)], by rw [hL 98 (by decide)], by rw [hL 99 (by decide)]⟩) h4
  · rw [i52]; exact h5
  · rw [i52]; exact h6
  · rw [i52]; exact h8
  · rw [hI a (by omega), hL a (by omega)]; exact r1 a ha ha2
  · rw [hI 100 (by omega), hL 100 (by omega)]; exact r2
  · rw [i52, l52]; exact r3 k k1 k2 k3 k4 k5 k6 k7 k8
  · rw [i52]; exact h9
section RY
variable {S0 S : gs_T} {g : vg_T} {n : Nat → Int64} {e : List (Nat × Int64 × Int64)} {b m E c a q s k : Nat} {v r : Int64} {l o : Bool} {t : List Int64} {w : (Nat → Int64) × Nat × Nat} {fs : List vf_T}
theorem rY_dep (h : rm_Y S0 S g (n, e, b, ((c, a, q, s, k), (v, r), (l, o), t, w) :: fs, m) E) : S.1 52 49 = nI (fs.length + 1) := h.1.2.2.2.2.1.1
theorem rY_dep' {gs : List vf_T} (h : rm_Y S0 S g (n, e, b, gs, m) E) : S.1 52 49 = nI gs.length := h.1.2.2.2.2.1.1
theorem rY_F (h : rm_Y S0 S g (n, e, b, ((c, a, q, s, k), (v, r), (l, o), t, w) :: fs, m) E) : rm_F S fs.length ((c, a, q, s, k), (v, r), (l, o), t, w) := h.1.2.2.2.2.1.2.1
theorem rY_code (h : rm_Y S0 S g (n, e, b, ((c, a, q, s, k), (v, r), (l, o), t, w) :: fs, m) E) : S.1 86 fs.length = nI c := (rY_F h).1.1
theorem rY_at (h : rm_Y S0 S g (n, e, b, ((c, a, q, s, k), (v, r), (l, o), t, w) :: fs, m) E) : S.1 87 fs.length = nI a := (rY_F h).1.2.1
theorem rY_gas (h : rm_Y S0 S g (n, e, b, ((c, a, q, s, k), (v, r), (l, o), t, w) :: fs, m) E) : S.2 88 fs.length = lN q := (rY_F h).1.2.2.1
theorem rY_self (h : rm_Y S0 S g (n, e, b, ((c, a, q, s, k), (v, r), (l, o), t, w) :: fs, m) E) : S.1 89 fs.length = nI s := (rY_F h).1.2.2.2.1
theorem rY_call (h : rm_Y S0 S g (n, e, b, ((c, a, q, s, k), (v, r), (l, o), t, w) :: fs, m) E) : S.1 90 fs.length = nI k := (rY_F h).1.2.2.2.2
theorem rY_val (h : rm_Y S0 S g (n, e, b, ((c, a, q, s, k), (v, r), (l, o), t, w) :: fs, m) E) : S.2 91 fs.length = v := (rY_F h).2.1.1
theorem rY_arg (h : rm_Y S0 S g (n, e, b, ((c, a, q, s, k), (v, r), (l, o), t, w) :: fs, m) E) : S.2 92 fs.length = r := (rY_F h).2.1.2
theorem rY_look (h : rm_Y S0 S g (n, e, b, ((c, a, q, s, k), (v, r), (l, o), t, w) :: fs, m) E) : S.1 93 fs.length = bI l := (rY_F h).2.2.1.1
theorem rY_lock (h : rm_Y S0 S g (n, e, b, ((c, a, q, s, k), (v, r), (l, o), t, w) :: fs, m) E) : S.1 94 fs.length = bI o := (rY_F h).2.2.1.2
theorem rY_n (h : rm_Y S0 S g (n, e, b, ((c, a, q, s, k), (v, r), (l, o), t, w) :: fs, m) E) : t.length ≤ 24 := (rY_F h).2.2.2.1.1
theorem rY_size (h : rm_Y S0 S g (n, e, b, ((c, a, q, s, k), (v, r), (l, o), t, w) :: fs, m) E) : S.1 96 fs.length = nI t.length := (rY_F h).2.2.2.1.2.1
theorem rY_T (h : rm_Y S0 S g (n, e, b, ((c, a, q, s, k), (v, r), (l, o), t, w) :: fs, m) E) : rm_T S fs.length t := (rY_F h).2.2.2.1.2.2
theorem rY_now {gs : List vf_T} (h : rm_Y S0 S g (n, e, b, gs, m) E) {j : Nat} (hj : j < 608) : S.2 82 j = n j := h.1.2.1 j hj
theorem rY_many {gs : List vf_T} (h : rm_Y S0 S g (n, e, b, gs, m) E) : S.1 52 3 = nI g.2.1 := h.1.1.2.1
theorem rY_orig {gs : List vf_T} (h : rm_Y S0 S g (n, e, b, gs, m) E) : S.1 52 50 = nI g.2.2.1 := h.1.1.2.2.1
theorem rY_high {gs : List vf_T} (h : rm_Y S0 S g (n, e, b, gs, m) E) : S.1 52 51 = nI g.2.2.2 := h.1.1.2.2.2
theorem rY_csize {gs : List vf_T} (h : rm_Y S0 S g (n, e, b, gs, m) E) {j : Nat} (hj : j < g.2.1) : S.1 54 j = nI (g.1 j).length := (h.1.1.1 j hj).1
theorem rY_octet {gs : List vf_T} (h : rm_Y S0 S g (n, e, b, gs, m) E) {j i : Nat} (hj : j < g.2.1) (hi : i < (g.1 j).length) : S.1 53 (200 * j + i) = nI ((g.1 j).getD i 0) := (h.1.1.1 j hj).2 i hi
theorem rY_ev {gs : List vf_T} (h : rm_Y S0 S g (n, e, b, gs, m) E) : S.1 52 52 = nI e.length := h.1.2.2.1.1
theorem rY_back {gs : List vf_T} (h : rm_Y S0 S g (n, e, b, gs, m) E) : S.1 52 56 = nI b := h.1.2.2.2.1
theorem rY_run {gs : List vf_T} (h : rm_Y S0 S g (n, e, b, gs, m) E) : S.1 52 57 = nI m := h.1.2.2.2.2.2
theorem rY_end {gs : List vf_T} (h : rm_Y S0 S g (n, e, b, gs, m) E) : S.1 52 58 = nI E := h.2.2
/-- the inmost frame's place, gas, lock -/
theorem rY_setAt (h : rm_Y S0 S g (n, e, b, ((c, a, q, s, k), (v, r), (l, o), t, w) :: fs, m) E) (a' : Nat) : rm_Y S0 (rx_u S.1 87 fs.length (nI a'), S.2) g (n, e, b, ((c, a', q, s, k), (v, r), (l, o), t, w) :: fs, m) E := by
  refine rY_top h (rm_near_I (by decide) (by decide)) ?_
  obtain ⟨⟨h1, h2, h3, h4, h5⟩, ⟨h6, h7⟩, ⟨h8, h9⟩, ⟨h10, h11, h12⟩, ⟨h13, h14, h15⟩⟩ := rY_F h
  exact ⟨⟨by simpa [rx_ru] using h1, by simp [rx_ru], h3, by simpa [rx_ru] using h4, by simpa [rx_ru] using h5⟩, ⟨h6, h7⟩, ⟨by simpa [rx_ru] using h8, by simpa [rx_ru] using h9⟩, ⟨h10, by simpa [rx_ru] using h11, rm_T_congr (S := S) h10 (fun _ _ => rfl) h12⟩, ⟨h13, by simpa [rx_ru] using h14, by simpa [rx_ru] using h15⟩⟩
theorem rY_setGas (h : rm_Y S0 S g (n, e, b, ((c, a, q, s, k), (v, r), (l, o), t, w) :: fs, m) E) (q' : Nat) : rm_Y S0 (S.1, rx_u S.2 88 fs.length (lN q')) g (n, e, b, ((c, a, q', s, k), (v, r), (l, o), t, w) :: fs, m) E := by
  refine rY_top h (rm_near_L (by decide) (by decide) (by decide)) ?_
  obtain ⟨⟨h1, h2, h3, h4, h5⟩, ⟨h6, h7⟩, ⟨h8, h9⟩, ⟨h10, h11, h12⟩, ⟨h13, h14, h15⟩⟩ := rY_F h
  exact ⟨⟨h1, h2, by simp [rx_ru], h4, h5⟩, ⟨by simpa [rx_ru] using h6, by simpa [rx_ru] using h7⟩, ⟨h8, h9⟩, ⟨h10, h11, rm_T_congr (S := S) h10 (fun _ _ => by simp [rx_ru]) h12⟩, ⟨fun j hj => by simpa [rx_ru] using h13 j hj, h14, h15⟩⟩
theorem rY_setLock (h : rm_Y S0 S g (n, e, b, ((c, a, q, s, k), (v, r), (l, o), t, w) :: fs, m) E) : rm_Y S0 (rx_u S.1 94 fs.length (nI 1), S.2) g (n, e, b, ((c, a, q, s, k), (v, r), (l, true), t, w) :: fs, m) E := by
  refine rY_top h (rm_near_I (by decide) (by decide)) ?_
  obtain ⟨⟨h1, h2, h3, h4, h5⟩, ⟨h6, h7⟩, ⟨h8, h9⟩, ⟨h10, h11, h12⟩, ⟨h13, h14, h15⟩⟩ := rY_F h
  exact ⟨⟨by simpa [rx_ru] using h1, by simpa [rx_ru] using h2, h3, by simpa [rx_ru] using h4, by simpa [rx_ru] using h5⟩, ⟨h6, h7⟩, ⟨by simpa [rx_ru] using h8, by simp [rx_ru, bI]⟩, ⟨h10, by simpa [rx_ru] using h11, rm_T_congr (S := S) h10 (fun _ _ => rfl) h12⟩, ⟨h13, by simpa [rx_ru] using h14, by simpa [rx_ru] using h15⟩⟩
theorem rY_pushed (h : rm_Y S0 S g (n, e, b, ((c, a, q, s, k), (v, r), (l, o), t, w) :: fs, m) E) (ht : t.length < 24) (x : Int64) : rm_Y S0 (rx_u S.1 96 fs.length (nI (t.length + 1)), rx_u S.2 95 (24 * fs.length + t.length) x) g (n, e, b, ((c, a, q, s, k), (v, r), (l, o), x :: t, w) :: fs, m) E := by
  refine rY_top h (rm_near_trans (rm_near_I (by decide) (by decide)) (rm_near_T (S := (rx_u S.1 96 fs.length (nI (t.length + 1)), S.2)) (by omega))) ?_
  obtain ⟨⟨h1, h2, h3, h4, h5⟩, ⟨h6, h7⟩, ⟨h8, h9⟩, ⟨h10, h11, h12⟩, ⟨h13, h14, h15⟩⟩ := rY_F h
  exact ⟨⟨by simpa [rx_ru] using h1, by simpa [rx_ru] using h2, by simpa [rx_ru] using h3, by simpa [rx_ru] using h4, by simpa [rx_ru] using h5⟩, ⟨by simpa [rx_ru] using h6, by simpa [rx_ru] using h7⟩, ⟨by simpa [rx_ru] using h8, by simpa [rx_ru] using h9⟩, ⟨ht, (by show rx_u S.1 96 fs.length (nI (t.length + 1)) 96 fs.length = nI (t.length + 1); simp [rx_ru]), ⟨by simp [rx_ru], rm_T_congr (S := S) h10 (fun j hj => by simp [rx_ru]; omega) h12⟩⟩, ⟨fun j hj => by simpa [rx_ru] using h13 j hj, by simpa [rx_ru] using h14, by simpa [rx_ru] using h15⟩⟩
theorem rY_popped {x : Int64} (h : rm_Y S0 S g (n, e, b, ((c, a, q, s, k), (v, r), (l, o), x :: t, w) :: fs, m) E) : rm_Y S0 (rx_u S.1 96 fs.length (nI t.length), S.2) g (n, e, b, ((c, a, q, s, k), (v, r), (l, o), t, w) :: fs, m) E := by
  refine rY_top h (rm_near_I (by decide) (by decide)) ?_
  obtain ⟨⟨h1, h2, h3, h4, h5⟩, ⟨h6, h7⟩, ⟨h8, h9⟩, ⟨h10, h11, h12⟩, ⟨h13, h14, h15⟩⟩ := rY_F h
  have h10' : t.length + 1 ≤ 24 := h10
  exact ⟨⟨by simpa [rx_ru] using h1, by simpa [rx_ru] using h2, h3, by simpa [rx_ru] using h4, by simpa [rx_ru] using h5⟩, ⟨h6, h7⟩, ⟨by simpa [rx_ru] using h8, by simpa [rx_ru] using h9⟩, ⟨(by show t.length ≤ 24; omega), (by show rx_u S.1 96 fs.length (nI t.length) 96 fs.length = nI t.length; simp [rx_ru]), rm_T_congr (S := S) (t := t) (by omega) (fun _ _ => rfl) h12.2⟩, ⟨h13, by simpa [rx_ru] using h14, by simpa [rx_ru] using h15⟩⟩
/-- two places of the state and the like: one of the state -/
theorem rY_setNow {gs : List vf_T} (h : rm_Y S0 S g (n, e, b, gs, m) E) (j : Nat) (x : Int64) : rm_Y S0 (S.1, rx_u S.2 82 j x) g (up1 n j x, e, b, gs, m) E := by
  obtain ⟨⟨⟨g1, g2, g3, g4⟩, h2, ⟨h3, h4⟩, h5, ⟨h6, h7⟩, h8⟩, hr, h9⟩ := h
  refine ⟨⟨⟨g1, g2, g3, g4⟩, fun i hi => ?_, ⟨h3, ?_⟩, h5, ⟨h6, ?_⟩, h8⟩, rm_rest_L hr (by omega), h9⟩
  · show rx_u S.2 82 j x 82 i = up1 n j x i
    rw [rx_ru, if_pos rfl]
    unfold up1
    split
    · rfl
    · exact h2 i hi
  · exact rm_E_congr (S := S) (fun i _ => ⟨rfl, by simp [rx_ru], by simp [rx_ru]⟩) h4
  · exact rm_Fs_congr (S := S) (fun i _ => ⟨fun a ha ha2 _ => ⟨rfl, by show rx_u S.2 82 j x a i = _; rw [rx_une _ (by omega)]⟩, ⟨rfl, rfl⟩, fun _ _ => by simp [rx_ru], fun _ _ => by simp [rx_ru]⟩) h7
theorem rY_setBack {gs : List vf_T} (h : rm_Y S0 S g (n, e, b, gs, m) E) (b' : Nat) : rm_Y S0 (rx_u S.1 52 56 (nI b'), S.2) g (n, e, b', gs, m) E := by
  obtain ⟨⟨⟨g1, g2, g3, g4⟩, h2, ⟨h3, h4⟩, h5, ⟨h6, h7⟩, h8⟩, hr, h9⟩ := h
  refine ⟨⟨⟨fun c hc => by simpa [rx_ru] using g1 c hc, by simpa [rx_ru] using g2, by simpa [rx_ru] using g3, by simpa [rx_ru] using g4⟩, h2, ⟨by simpa [rx_ru] using h3, ?_⟩, by simp [rx_ru], ⟨by simpa [rx_ru] using h6, ?_⟩, by simpa [rx_ru] using h8⟩, rm_rest_I hr (by omega), by simpa [rx_ru] using h9⟩
  · exact rm_E_congr (S := S) (fun i _ => ⟨by simp [rx_ru], rfl, rfl⟩) h4
  · exact rm_Fs_congr (S := S) (fun i _ => ⟨fun a ha ha2 _ => ⟨by show rx_u S.1 52 56 _ a i = _; rw [rx_une _ (by omega)], rfl⟩, ⟨by simp [rx_ru], by simp [rx_ru]⟩, fun _ _ => rfl, fun _ _ => rfl⟩) h7
theorem rY_setEnd {gs : List vf_T} (h : rm_Y S0 S g (n, e, b, gs, m) E) (E' : Nat) : rm_Y S0 (rx_u S.1 52 58 (nI E'), S.2) g (n, e, b, gs, m) E' := by
  obtain ⟨⟨⟨g1, g2, g3, g4⟩, h2, ⟨h3, h4⟩, h5, ⟨h6, h7⟩, h8⟩, hr, h9⟩ := h
  refine ⟨⟨⟨fun c hc => by simpa [rx_ru] using g1 c hc, by simpa [rx_ru] using g2, by simpa [rx_ru] using g3, by simpa [rx_ru] using g4⟩, h2, ⟨by simpa [rx_ru] using h3, ?_⟩, by simpa [rx_ru] using h5, ⟨by simpa [rx_ru] using h6, ?_⟩, by simpa [rx_ru] using h8⟩, rm_rest_I hr (by omega), by simp [rx_ru]⟩
  · exact rm_E_congr (S := S) (fun i _ => ⟨by simp [rx_ru], rfl, rfl⟩) h4
  · exact rm_Fs_congr (S := S) (fun i _ => ⟨fun a ha ha2 _ => ⟨by show rx_u S.1 52 58 _ a i = _; rw [rx_une _ (by omega)], rfl⟩, ⟨by simp [rx_ru], by simp [rx_ru]⟩, fun _ _ => rfl, fun _ _ => rfl⟩) h7
/-- longs of the model's own: what was ended with -/
theorem rY_set52 {gs : List vf_T} (h : rm_Y S0 S g (n, e, b, gs, m) E) {j : Nat} (hj : j = 59 ∨ j = 60) (x : Int64) : rm_Y S0 (S.1, rx_u S.2 52 j x) g (n, e, b, gs, m) E := by
  obtain ⟨⟨⟨g1, g2, g3, g4⟩, h2, ⟨h3, h4⟩, h5, ⟨h6, h7⟩, h8⟩, hr, h9⟩ := h
  refine ⟨⟨⟨g1, g2, g3, g4⟩, fun i hi => by simpa [rx_ru] using h2 i hi, ⟨h3, ?_⟩, h5, ⟨h6, ?_⟩, h8⟩, rm_rest_L hr (by omega), h9⟩
  · exact rm_E_congr (S := S) (fun i _ => ⟨rfl, by simp [rx_ru], by simp [rx_ru]⟩) h4
  · exact rm_Fs_congr (S := S) (fun i _ => ⟨fun a ha ha2 _ => ⟨rfl, by show rx_u S.2 52 j x a i = _; rw [rx_une _ (by omega)]⟩, ⟨rfl, rfl⟩, fun _ _ => by simp [rx_ru], fun _ _ => by simp [rx_ru]⟩) h7
end RY
end
section
theorem rx_uu {α : Type} (f : Nat → Nat → α) (a i : Nat) (x : α) : rx_u f a i x a i = x := by rw [rx_ru, if_pos rfl, if_pos rfl]
theorem rx_u52 {A : Nat → Nat → Int32} (f : Nat → Nat → Int64) (i : Nat) (x : Int64) : (A, rx_u f 52 i x).2 52 i = x := rx_uu f 52 i x
/-- what came of an act: the machine goes on, or an end is to be told -/
def rm_on (S0 : gs_T) (g : vg_T) (R : vx_S × Option (Nat × Int64 × Nat)) (S' : gs_T) : Prop := (∃ X', R = (X', none) ∧ rm_Y S0 S' g X' 0) ∨ (∃ X1 how v gas, (1 ≤ how ∧ how ≤ 3) ∧ R = vm_tell X1 how v gas ∧ rm_Y S0 S' g X1 how ∧ S'.2 52 59 = v ∧ S'.2 52 60 = lN gas)
/-- the end of a method of the model's machine -/
def rq_on (C : rx_M) (S0 : gs_T) (g : vg_T) (R : vx_S × Option (Nat × Int64 × Nat)) (v : Option Value) (mu : rx_M) : Prop := v = none ∧ ∃ S', mu = gl C S' ∧ rm_on S0 g R S'
def rq_Y (C : rx_M) (S0 : gs_T) (g : vg_T) (X : vx_S) (E : Nat) (r : Option Value) (v : Option Value) (mu : rx_M) : Prop := v = r ∧ ∃ S', mu = gl C S' ∧ rm_Y S0 S' g X E
theorem rm_E_drop {S : gs_T} : ∀ {es : List (Nat × Int64 × Int64)} (k : Nat), rm_E S es → rm_E S (es.drop k)
  | [], k, _ => by rw [List.drop_nil]; exact trivial
  | e :: es, 0, h => h
  | e :: es, k + 1, h => by rw [List.drop_succ_cons]; exact rm_E_drop k h.2
/-- a property of some frame, read from the rows -/
theorem rm_Fs_ex {S : gs_T} {P : Nat → Prop} {R : vf_T → Prop} : ∀ {fs : List vf_T}, rm_Fs S fs → (∀ j f, f ∈ fs → rm_F S j f → (P j ↔ R f)) → ((∃ j, j < fs.length ∧ P j) ↔ ∃ f ∈ fs, R f)
  | [], _, _ => ⟨fun ⟨j, h, _⟩ => absurd h (Nat.not_lt_zero j), fun ⟨f, h, _⟩ => absurd h List.not_mem_nil⟩
  | f :: fs, h, hp => by
    have ih := rm_Fs_ex h.2 (fun j f hf => hp j f (List.mem_cons_of_mem _ hf))
    constructor
    · rintro ⟨j, hj, hP⟩
      have hj : j < fs.length + 1 := hj
      by_cases e : j = fs.length
      · subst e
        exact ⟨f, List.mem_cons_self, (hp _ f List.mem_cons_self h.1).mp hP⟩
      · obtain ⟨f', hf', hR⟩ := ih.mp ⟨j, by omega, hP⟩
        exact ⟨f', List.mem_cons_of_mem _ hf', hR⟩
    · rintro ⟨f', hf', hR⟩
      rcases List.mem_cons.mp hf' with rfl | hf'
      · exact ⟨fs.length, by simp, (hp _ f' List.mem_cons_self h.1).mpr hR⟩
      · obtain ⟨j, hj, hP⟩ := ih.mpr ⟨f', hf', hR⟩
        exact ⟨j, by simp; omega, hP⟩
section RZ
variable {G : rx_E} {d : Nat} {C : rx_M} {S0 S : gs_T} {g : vg_T} {n : Nat → Int64} {e : List (Nat × Int64 × Int64)} {b m E c a q s k : Nat} {v r : Int64} {l o : Bool} {t : List Int64} {w : (Nat → Int64) × Nat × Nat} {fs : List vf_T}
theorem cr_push (hG : rx_OK G) (h : rm_Y S0 S g (n, e, b, ((c, a, q, s, k), (v, r), (l, o), t, w) :: fs, m) E) (hp : fs.length < 11) (ht : t.length < 24) (x : Int64) : rx_C G MX11_push d [.ref 52, .long x] (gl C S) 0 0 (rq_Y C S0 g (n, e, b, ((c, a, q, s, k), (v, r), (l, o), x :: t, w) :: fs, m) E none) :=
  rx_Cm (cm_push hG (rY_dep h) (rY_size h) hp ht x) (fun _ _ hq => ⟨hq.1, _, hq.2, rY_pushed h ht x⟩)
theorem cr_pop {x : Int64} (hG : rx_OK G) (h : rm_Y S0 S g (n, e, b, ((c, a, q, s, k), (v, r), (l, o), x :: t, w) :: fs, m) E) (hp : fs.length < 11) : rx_C G MX11_pop d [.ref 52] (gl C S) 0 0 (rq_Y C S0 g (n, e, b, ((c, a, q, s, k), (v, r), (l, o), t, w) :: fs, m) E (some (.long x))) :=
  rx_Cm (cm_pop hG (rY_dep h) (rY_size h) hp (rY_n h)) (fun _ _ hq => ⟨by rw [hq.1, (rY_T h).1], _, hq.2, rY_popped h⟩)
theorem rY_down {f : vf_T} (h : rm_Y S0 S g (n, e, b, f :: fs, m) E) : rm_Y S0 (rx_u S.1 52 49 (nI fs.length), S.2) g (n, e, b, fs, m) E := by
  obtain ⟨⟨⟨g1, g2, g3, g4⟩, h2, ⟨h3, h4⟩, h5, ⟨h6, h7⟩, h8⟩, hr, h9⟩ := h
  refine ⟨⟨⟨fun c hc => by simpa [rx_ru] using g1 c hc, by simpa [rx_ru] using g2, by simpa [rx_ru] using g3, by simpa [rx_ru] using g4⟩, h2, ⟨by simpa [rx_ru] using h3, ?_⟩, by simpa [rx_ru] using h5, ⟨by simp [rx_ru], ?_⟩, by simpa [rx_ru] using h8⟩, rm_rest_I hr (by omega), by simpa [rx_ru] using h9⟩
  · exact rm_E_congr (S := S) (fun i _ => ⟨by simp [rx_ru], rfl, rfl⟩) h4
  · exact rm_Fs_congr (S := S) (fun i _ => ⟨fun a ha ha2 _ => ⟨by show rx_u S.1 52 49 _ a i = _; rw [rx_une _ (by omega)], rfl⟩, ⟨by simp [rx_ru], by simp [rx_ru]⟩, fun _ _ => rfl, fun _ _ => rfl⟩) h7.2
theorem rY_setEv {gs : List vf_T} (h : rm_Y S0 S g (n, e, b, gs, m) E) {j : Nat} (hj : j ≤ e.length) : rm_Y S0 (rx_u S.1 52 52 (nI j), S.2) g (n, e.drop (e.length - j), b, gs, m) E := by
  obtain ⟨⟨⟨g1, g2, g3, g4⟩, h2, ⟨h3, h4⟩, h5, ⟨h6, h7⟩, h8⟩, hr, h9⟩ := h
  refine ⟨⟨⟨fun c hc => by simpa [rx_ru] using g1 c hc, by simpa [rx_ru] using g2, by simpa [rx_ru] using g3, by simpa [rx_ru] using g4⟩, h2, ⟨?_, ?_⟩, by simpa [rx_ru] using h5, ⟨by simpa [rx_ru] using h6, ?_⟩, by simpa [rx_ru] using h8⟩, rm_rest_I hr (by omega), by simpa [rx_ru] using h9⟩
  · show rx_u S.1 52 52 (nI j) 52 52 = nI (e.drop (e.length - j)).length
    rw [List.length_drop, rx_ru, if_pos rfl, if_pos rfl]
    congr 1
    omega
  · exact rm_E_congr (S := S) (fun i _ => ⟨by simp [rx_ru], rfl, rfl⟩) (rm_E_drop _ h4)
  · exact rm_Fs_congr (S := S) (fun i _ => ⟨fun a ha ha2 _ => ⟨by show rx_u S.1 52 52 _ a i = _; rw [rx_une _ (by omega)], rfl⟩, ⟨by simp [rx_ru], by simp [rx_ru]⟩, fun _ _ => rfl, fun _ _ => rfl⟩) h7
theorem rY_nowAll {gs : List vf_T} (h : rm_Y S0 S g (n, e, b, gs, m) E) {n' : Nat → Int64} {a o p : Nat} (ho : o = 0) (ha : a = 82) {src : Nat} (hs : ∀ k, k < 608 → S.2 src (p + k) = n' k) : rm_Y S0 (S.1, rx_cp S.2 a o src p 608) g (n', e, b, gs, m) E := by
  subst ho; subst ha
  obtain ⟨⟨⟨g1, g2, g3, g4⟩, h2, ⟨h3, h4⟩, h5, ⟨h6, h7⟩, h8⟩, hr, h9⟩ := h
  have hz : ∀ c j, c ≠ 82 → rx_cp S.2 82 0 src p 608 c j = S.2 c j := fun c j hc => rx_cp_get hc
  refine ⟨⟨⟨g1, g2, g3, g4⟩, fun i hi => ?_, ⟨h3, ?_⟩, h5, ⟨h6, ?_⟩, h8⟩, rm_rest_cp hr (by omega), h9⟩
  · show rx_cp S.2 82 0 src p 608 82 i = n' i
    unfold rx_cp
    rw [if_pos ⟨rfl, by omega, by omega⟩]
    exact hs i hi
  · exact rm_E_congr (S := S) (fun i _ => ⟨rfl, hz 98 i (by decide), hz 99 i (by decide)⟩) h4
  · exact rm_Fs_congr (S := S) (fun i _ => ⟨fun a ha ha2 _ => ⟨rfl, hz a i (by omega)⟩, ⟨rfl, rfl⟩, fun _ _ => hz 95 _ (by decide), fun _ _ => hz 83 _ (by decide)⟩) h7
theorem cr_fin1 (hG : rx_OK G) (h : rm_Y S0 S g (n, e, b, ((c, a, q, s, k), (v, r), (l, o), t, w) :: fs, m) E) (hp : fs.length < 11) (x : Int64) : rx_C G MX11_finish (d + 1) [.ref 52, .int (nI 1), .long x] (gl C S) 0 0 (rq_on C S0 g (vm_fin (n, e, b, ((c, a, q, s, k), (v, r), (l, o), t, w) :: fs, m) 1 x)) := by
  refine rx_Cm (cm_finish1 hG (rY_dep h) hp) (fun _ _ hq => ⟨hq.1, _, hq.2, Or.inr ⟨(n, e, b, fs, m), 1, x, q, by decide, rfl, ?_, ?_, ?_⟩⟩)
  · exact rY_set52 (rY_set52 (rY_setEnd (rY_down h) 1) (Or.inl rfl) _) (Or.inr rfl) _
  · simp [rx_ru]
  · show rx_u (rx_u S.2 52 59 x) 52 60 (S.2 88 fs.length) 52 60 = lN q
    rw [rx_ru, if_pos rfl, if_pos rfl]; exact rY_gas h
theorem cr_fin2 (hG : rx_OK G) (h : rm_Y S0 S g (n, e, b, ((c, a, q, s, k), (v, r), (l, o), t, w) :: fs, m) E) (hp : fs.length < 11) (hw : w.2.1 ≤ e.length) (x : Int64) : rx_C G MX11_finish (d + 1) [.ref 52, .int (nI 2), .long x] (gl C S) 0 0 (rq_on C S0 g (vm_fin (n, e, b, ((c, a, q, s, k), (v, r), (l, o), t, w) :: fs, m) 2 x)) := by
  have hk := (rY_F h).2.2.2.2
  refine rx_Cm (cm_finish2 hG (rY_dep h) hp) (fun _ _ hq => ⟨hq.1, _, hq.2, Or.inr ⟨(w.1, e.drop (e.length - w.2.1), w.2.2, fs, m), 2, x, q, by decide, rfl, ?_, ?_, ?_⟩⟩)
  · rw [hk.2.1, hk.2.2]
    exact rY_set52 (rY_set52 (rY_setEnd (rY_nowAll (rY_setBack (rY_setEv (rY_down h) hw) w.2.2) rfl rfl hk.1) 2) (Or.inl rfl) _) (Or.inr rfl) _
  · simp [rx_ru]
  · exact (rx_u52 _ _ _).trans (rY_gas h)
theorem cr_fin3 (hG : rx_OK G) (h : rm_Y S0 S g (n, e, b, ((c, a, q, s, k), (v, r), (l, o), t, w) :: fs, m) E) (hp : fs.length < 11) (hw : w.2.1 ≤ e.length) (x : Int64) : rx_C G MX11_finish (d + 1) [.ref 52, .int (nI 3), .long x] (gl C S) 0 0 (rq_on C S0 g (vm_fin (n, e, b, ((c, a, q, s, k), (v, r), (l, o), t, w) :: fs, m) 3 x)) := by
  have hk := (rY_F h).2.2.2.2
  refine rx_Cm (cm_finish3 hG (rY_dep h) hp) (fun _ _ hq => ⟨hq.1, _, hq.2, Or.inr ⟨(w.1, e.drop (e.length - w.2.1), w.2.2, fs, m), 3, 0, 0, by decide, rfl, ?_, ?_, ?_⟩⟩)
  · rw [hk.2.1, hk.2.2]
    exact rY_set52 (rY_set52 (rY_setEnd (rY_nowAll (rY_setBack (rY_setEv (rY_down h) hw) w.2.2) rfl rfl hk.1) 3) (Or.inl rfl) _) (Or.inr rfl) _
  · simp [rx_ru]
  · exact rx_u52 _ _ _
end RZ
theorem lN_toNat {j : Nat} (h : j < 2 ^ 31) : (lN j).toInt.toNat = j := by rw [lN_toInt h]; rfl
/-- a call begins -/
def rq_begin (C : rx_M) (S0 : gs_T) (g : vg_T) (R : vx_S × Option (Nat × Int64 × Nat)) (E : Nat) (v : Option Value) (mu : rx_M) : Prop :=
  (v = some (.int (nI 0)) ∧ ∃ S', mu = gl C S' ∧ ∃ X1 how x gas, (1 ≤ how ∧ how ≤ 3) ∧ R = vm_tell X1 how x gas ∧ rm_Y S0 S' g X1 how ∧ S'.2 52 59 = x ∧ S'.2 52 60 = lN gas) ∨
  (v = some (.int (nI 1)) ∧ ∃ S', mu = gl C S' ∧ ∃ X', R = (X', none) ∧ rm_Y S0 S' g X' E)
theorem bI_nar (l : Bool) : narrow .boolean (.int (bI l)) = .int (bI l) := by cases l <;> rfl
theorem bI_ne (l : Bool) : bI l ≠ 0 ↔ l = true := by cases l <;> decide
section RB
variable {G : rx_E} {d : Nat} {C : rx_M} {S0 S : gs_T} {g : vg_T} {n : Nat → Int64} {e : List (Nat × Int64 × Int64)} {b m E : Nat} {gs : List vf_T}
theorem rm_locked (h : rm_Y S0 S g (n, e, b, gs, m) E) (hs : ∀ f ∈ gs, fS f < 32) {x : Int64} : (∃ j, j < gs.length ∧ (S.1 94 j ≠ 0 ∧ (S.1 89 j).toInt64 = x)) ↔ vm_locked gs x := by
  refine rm_Fs_ex h.1.2.2.2.2.1.2 (fun j f hf hF => ?_)
  have := hs f hf
  rw [hF.2.2.1.2, bI_ne, hF.1.2.2.2.1, nI_l (by omega)]
  exact and_congr_right fun _ => eq_comm
theorem rY_bal (h : rm_Y S0 S g (n, e, b, gs, m) E) {cl : Nat} (hcl : cl < 32) : S.2 82 (19 * cl) = n (19 * cl) := rY_now h (by omega)
/-- the state with a value moved, as the rows have it -/
theorem rY_moved (h : rm_Y S0 S g (n, e, b, gs, m) E) {cl a : Nat} (hcl : cl < 32) (ha : a < 32) (vl : Int64) : ∀ j, j < 608 → up1 (up1 (fun k => S.2 82 k) (19 * cl) (S.2 82 (19 * cl) - vl)) (19 * a) ((up1 (fun k => S.2 82 k) (19 * cl) (S.2 82 (19 * cl) - vl)) (19 * a) + vl) j = up1 (up1 n (19 * cl) (n (19 * cl) - vl)) (19 * a) ((up1 n (19 * cl) (n (19 * cl) - vl)) (19 * a) + vl) j := by
  intro j hj
  simp only [up1, rY_bal h hcl, rY_bal h ha, rY_now h hj]
theorem vm_notacct {to value arg : Int64} {X : vx_S} {cl q : Nat} {l : Bool} (hf : ¬ vm_acct to ∨ value < 0 ∨ X.1 (19 * cl) < value ∨ vm_locked X.2.2.2.1 to ∨ X.2.2.2.1.length = 10) : vm_begin X cl to value arg q l = vm_tell X 2 0 q := by
  unfold vm_begin
  rw [if_pos hf]
theorem vm_begunW {value arg : Int64} {X : vx_S} {cl q a : Nat} {l : Bool} (ha : a < 32) (hf : ¬ (¬ vm_acct (lN a) ∨ value < 0 ∨ X.1 (19 * cl) < value ∨ vm_locked X.2.2.2.1 (lN a) ∨ X.2.2.2.1.length = 10)) (hz : (up1 (up1 X.1 (19 * cl) (X.1 (19 * cl) - value)) (19 * a) ((up1 X.1 (19 * cl) (X.1 (19 * cl) - value)) (19 * a) + value)) (19 * a + 2) = 0) : vm_begin X cl (lN a) value arg q l = vm_tell (up1 (up1 X.1 (19 * cl) (X.1 (19 * cl) - value)) (19 * a) ((up1 X.1 (19 * cl) (X.1 (19 * cl) - value)) (19 * a) + value), X.2) 1 0 q := by
  unfold vm_begin
  rw [if_neg hf, lN_toNat (by omega)]
  exact if_pos hz
theorem vm_begunF {value arg : Int64} {X : vx_S} {cl q a : Nat} {l : Bool} (ha : a < 32) (hf : ¬ (¬ vm_acct (lN a) ∨ value < 0 ∨ X.1 (19 * cl) < value ∨ vm_locked X.2.2.2.1 (lN a) ∨ X.2.2.2.1.length = 10)) (hz : ¬ (up1 (up1 X.1 (19 * cl) (X.1 (19 * cl) - value)) (19 * a) ((up1 X.1 (19 * cl) (X.1 (19 * cl) - value)) (19 * a) + value)) (19 * a + 2) = 0) : vm_begin X cl (lN a) value arg q l = ((up1 (up1 X.1 (19 * cl) (X.1 (19 * cl) - value)) (19 * a) ((up1 X.1 (19 * cl) (X.1 (19 * cl) - value)) (19 * a) + value), X.2.1, X.2.2.1, ((((up1 (up1 X.1 (19 * cl) (X.1 (19 * cl) - value)) (19 * a) ((up1 X.1 (19 * cl) (X.1 (19 * cl) - value)) (19 * a) + value)) (19 * a + 2)).toInt.toNat - 1, 0, q, a, cl), (value, arg), (l, false), [], (X.1, X.2.1.length, X.2.2.1)) :: X.2.2.2.1, X.2.2.2.2 + 1), none) := by
  unfold vm_begin
  rw [if_neg hf, lN_toNat (by omega)]
  exact if_neg hz
theorem lN_isacct {a : Nat} (ha : a < 32) : vm_acct (lN a) := ⟨by rw [show (0 : Int64) = lN 0 from rfl, lN_le (by decide) (by omega)]; omega, by rw [show (32 : Int64) = lN 32 from rfl, lN_lt (by omega) (by decide)]; exact ha⟩
theorem rY_above {S' : gs_T} (h : rm_Y S0 S g (n, e, b, gs, m) E) (hn : rm_near S S' gs.length) : rm_Y S0 S' g (n, e, b, gs, m) E := by
  obtain ⟨⟨⟨g1, g2, g3, g4⟩, h2, ⟨h3, h4⟩, h5, ⟨h6, h7⟩, h8⟩, ⟨r1, r2, r3⟩, h9⟩ := h
  have hI : ∀ a, a < 83 ∨ 96 < a → S'.1 a = S.1 a := fun a ha => (hn.2 a ha).1
  have hL : ∀ a, a < 83 ∨ 96 < a → S'.2 a = S.2 a := fun a ha => (hn.2 a ha).2
  have i52 := hI 52 (by decide)
  have l52 := hL 52 (by decide)
  refine ⟨⟨⟨fun c hc => ?_, ?_, ?_, ?_⟩, fun k hk => ?_, ⟨?_, ?_⟩, ?_, ⟨?_, rm_Fs_congr hn.1 h7⟩, ?_⟩, ⟨fun a ha ha2 => ?_, ?_, fun k k1 k2 k3 k4 k5 k6 k7 k8 => ?_⟩, ?_⟩
  · rw [hI 54 (by decide), hI 53 (by decide)]; exact g1 c hc
  · rw [i52]; exact g2
  · rw [i52]; exact g3
  · rw [i52]; exact g4
  · rw [hL 82 (by decide)]; exact h2 k hk
  · rw [i52]; exact h3
  · exact rm_E_congr (fun i _ => ⟨by rw [hI 97 (by decide)], by rw [hL 98 (by decide)], by rw [hL 99 (by decide)]⟩) h4
  · rw [i52]; exact h5
  · rw [i52]; exact h6
  · rw [i52]; exact h8
  · rw [hI a (by omega), hL a (by omega)]; exact r1 a ha ha2
  · rw [hI 100 (by omega), hL 100 (by omega)]; exact r2
  · rw [i52, l52]; exact r3 k k1 k2 k3 k4 k5 k6 k7 k8
  · rw [i52]; exact h9
theorem rm_near_cp {p : Nat} : rm_near S (S.1, rx_cp S.2 83 (608 * p) 82 0 608) p := by
  have hz : ∀ c j, c ≠ 83 → rx_cp S.2 83 (608 * p) 82 0 608 c j = S.2 c j := fun c j hc => rx_cp_get hc
  refine ⟨fun i hi => ⟨fun a ha ha2 _ => ⟨rfl, hz a i (by omega)⟩, ⟨rfl, rfl⟩, fun _ _ => hz 95 _ (by decide), fun j hj => ?_⟩, fun a ha => ⟨rfl, funext fun j => hz a j (by omega)⟩⟩
  show rx_cp S.2 83 (608 * p) 82 0 608 83 _ = _
  unfold rx_cp
  rw [if_neg (fun q => by omega)]
theorem rm_near_addI {A : Nat → Nat → Int32} {B : Nat → Nat → Int64} {a p : Nat} {x : Int32} (h : rm_near S (A, B) p) (h1 : 84 ≤ a) (h2 : a ≤ 96) : rm_near S (rx_u A a p x, B) p := rm_near_trans h (rm_near_I h1 h2)
theorem rm_near_addL {A : Nat → Nat → Int32} {B : Nat → Nat → Int64} {a p : Nat} {x : Int64} (h : rm_near S (A, B) p) (h1 : 86 ≤ a) (h2 : a ≤ 96) (h3 : a ≠ 95) : rm_near S (A, rx_u B a p x) p := rm_near_trans h (rm_near_L h1 h2 h3)
theorem rm_near_refl {p : Nat} : rm_near S S p := ⟨fun _ _ => ⟨fun _ _ _ _ => ⟨rfl, rfl⟩, ⟨rfl, rfl⟩, fun _ _ => rfl, fun _ _ => rfl⟩, fun _ _ => ⟨rfl, rfl⟩⟩
theorem rY_up {f : vf_T} (h : rm_Y S0 S g (n, e, b, gs, m) E) (hF : rm_F S gs.length f) : rm_Y S0 (rx_u (rx_u S.1 52 49 (nI (gs.length + 1))) 52 57 (nI (m + 1)), S.2) g (n, e, b, f :: gs, m + 1) E := by
  obtain ⟨⟨⟨g1, g2, g3, g4⟩, h2, ⟨h3, h4⟩, h5, ⟨h6, h7⟩, h8⟩, hr, h9⟩ := h
  have hS : ∀ i, rm_same S (rx_u (rx_u S.1 52 49 (nI (gs.length + 1))) 52 57 (nI (m + 1)), S.2) i := fun i => ⟨fun a ha ha2 _ => ⟨by show rx_u (rx_u S.1 52 49 _) 52 57 _ a i = _; rw [rx_une _ (by omega), rx_une _ (by omega)], rfl⟩, ⟨by simp [rx_ru], by simp [rx_ru]⟩, fun _ _ => rfl, fun _ _ => rfl⟩
  refine ⟨⟨⟨fun c hc => by simpa [rx_ru] using g1 c hc, by simpa [rx_ru] using g2, by simpa [rx_ru] using g3, by simpa [rx_ru] using g4⟩, h2, ⟨by simpa [rx_ru] using h3, ?_⟩, by simpa [rx_ru] using h5, ⟨by simp [rx_ru], rm_F_congr (hS _) hF, rm_Fs_congr (fun i _ => hS i) h7⟩, by simp [rx_ru]⟩, rm_rest_I (S := (rx_u S.1 52 49 (nI (gs.length + 1)), S.2)) (rm_rest_I hr (by omega)) (by omega), by simpa [rx_ru] using h9⟩
  exact rm_E_congr (S := S) (fun i _ => ⟨by simp [rx_ru], rfl, rfl⟩) h4
theorem rY_keep (h : rm_Y S0 S g (n, e, b, gs, m) E) : rm_Y S0 (rx_u (rx_u S.1 84 gs.length (S.1 52 52)) 85 gs.length (S.1 52 56), rx_cp S.2 83 (608 * gs.length) 82 0 608) g (n, e, b, gs, m) E :=
  rY_above (rY_above (rY_above h rm_near_cp) (rm_near_I (by decide) (by decide))) (rm_near_I (by decide) (by decide))
/-- the state with a value moved, in the rows -/
theorem rY_move (h : rm_Y S0 S g (n, e, b, gs, m) E) {S1 : gs_T} (h1 : rm_Y S0 S1 g (n, e, b, gs, m) E) {cl a : Nat} (hcl : cl < 32) (ha : a < 32) (vl : Int64) : rm_Y S0 (S1.1, rx_u (rx_u S1.2 82 (19 * cl) (S.2 82 (19 * cl) - vl)) 82 (19 * a) (up1 (fun k => S.2 82 k) (19 * cl) (S.2 82 (19 * cl) - vl) (19 * a) + vl)) g (up1 (up1 n (19 * cl) (n (19 * cl) - vl)) (19 * a) ((up1 n (19 * cl) (n (19 * cl) - vl)) (19 * a) + vl), e, b, gs, m) E := by
  have e1 : S.2 82 (19 * cl) - vl = n (19 * cl) - vl := by rw [rY_bal h hcl]
  have e2 : up1 (fun k => S.2 82 k) (19 * cl) (S.2 82 (19 * cl) - vl) (19 * a) = up1 n (19 * cl) (n (19 * cl) - vl) (19 * a) := by
    simp only [up1, rY_bal h hcl, rY_bal h ha]
  rw [e1] at e2 ⊢
  rw [e2]
  exact rY_setNow (rY_setNow h1 _ _) _ _
theorem cr_begin (hG : rx_OK G) (h : rm_Y S0 S g (n, e, b, gs, m) E) (hp : gs.length ≤ 10) (hs : ∀ f ∈ gs, fS f < 32) (hc : vw_codes g n) (hg : g.2.1 ≤ 16) {cl q : Nat} (hcl : cl < 32) (tt vl ar : Int64) (l : Bool) : rx_C G MX11_begin (d + 1) [.ref 52, .int (nI cl), .long tt, .long vl, .long ar, .long (lN q), .int (bI l)] (gl C S) 0 0 (rq_begin C S0 g (vm_begin (n, e, b, gs, m) cl tt vl ar q l) E) := by
  refine rx_Cm (cm_begin hG (rY_dep' h) (by omega) hcl (bI_nar l)) (fun _ _ hq => ?_)
  rw [rm_locked h hs] at hq
  rcases hq with ⟨hf, rfl, rfl⟩ | ⟨a, ha, rfl, ⟨k1, k2, k3, k4⟩, hz, rfl, rfl⟩ | ⟨a, ha, rfl, ⟨k1, k2, k3, k4⟩, hz, rfl, rfl⟩
  · rw [rY_bal h hcl] at hf
    exact Or.inl ⟨rfl, _, rfl, _, 2, 0, q, by decide, vm_notacct hf, rY_set52 (rY_set52 (rY_setEnd h 2) (Or.inl rfl) _) (Or.inr rfl) _, by simp [rx_ru], rx_u52 _ _ _⟩
  · rw [rm_locked h hs] at k3
    rw [rY_bal h hcl] at k2
    have hno : ¬ (¬ vm_acct (lN a) ∨ vl < 0 ∨ n (19 * cl) < vl ∨ vm_locked gs (lN a) ∨ gs.length = 10) := by
      rintro (hx | hx | hx | hx | hx)
      · exact hx (lN_isacct ha)
      · exact k1 hx
      · exact k2 hx
      · exact k3 hx
      · exact k4 hx
    rw [rY_moved h hcl ha vl _ (by omega)] at hz
    refine Or.inl ⟨rfl, _, rfl, _, 1, 0, q, by decide, vm_begunW (X := (n, e, b, gs, m)) ha hno hz, ?_, by simp [rx_ru], rx_u52 _ _ _⟩
    exact rY_set52 (rY_set52 (rY_setEnd (rY_move h (rY_keep h) hcl ha vl) 1) (Or.inl rfl) _) (Or.inr rfl) _
  · rw [rm_locked h hs] at k3
    rw [rY_bal h hcl] at k2
    have hno : ¬ (¬ vm_acct (lN a) ∨ vl < 0 ∨ n (19 * cl) < vl ∨ vm_locked gs (lN a) ∨ gs.length = 10) := by
      rintro (hx | hx | hx | hx | hx)
      · exact hx (lN_isacct ha)
      · exact k1 hx
      · exact k2 hx
      · exact k3 hx
      · exact k4 hx
    have hcc : up1 (up1 n (19 * cl) (n (19 * cl) - vl)) (19 * a) ((up1 n (19 * cl) (n (19 * cl) - vl)) (19 * a) + vl) (19 * a + 2) = n (19 * a + 2) := by
      unfold up1
      rw [if_neg (by omega), if_neg (by omega)]
    obtain ⟨cc, hcc1, hcc2⟩ := hc a ha
    rw [rY_moved h hcl ha vl _ (by omega)] at hz
    have hne : cc ≠ 0 := fun h0 => by
      subst h0
      exact hz (hcc.trans hcc2)
    refine Or.inr ⟨rfl, _, rfl, _, vm_begunF (X := (n, e, b, gs, m)) ha hno hz, ?_⟩
    rw [rY_moved h hcl ha vl _ (by omega), hcc, hcc2, lN_i, show nI cc - nI 1 = nI (cc - 1) from (pk_sub (by omega)).trans rfl, rY_run h, nI_add, lN_toNat (by omega)]
    refine rY_up (S := ((rx_u (rx_u (rx_u (rx_u (rx_u (rx_u (rx_u (rx_u (rx_u S.1 84 gs.length (S.1 52 52)) 85 gs.length (S.1 52 56)) 86 gs.length (nI (cc - 1))) 87 gs.length (nI 0)) 89 gs.length (nI a)) 90 gs.length (nI cl)) 93 gs.length (bI l)) 94 gs.length (nI 0)) 96 gs.length (nI 0)), (rx_u (rx_u (rx_u (rx_u (rx_u (rx_cp S.2 83 (608 * gs.length) 82 0 608) 82 (19 * cl) (S.2 82 (19 * cl) - vl)) 82 (19 * a) (up1 (fun k => S.2 82 k) (19 * cl) (S.2 82 (19 * cl) - vl) (19 * a) + vl)) 88 gs.length (lN q)) 91 gs.length vl) 92 gs.length ar))) (rY_above (S := (rx_u (rx_u S.1 84 gs.length (S.1 52 52)) 85 gs.length (S.1 52 56), rx_u (rx_u (rx_cp S.2 83 (608 * gs.length) 82 0 608) 82 (19 * cl) (S.2 82 (19 * cl) - vl)) 82 (19 * a) (up1 (fun k => S.2 82 k) (19 * cl) (S.2 82 (19 * cl) - vl) (19 * a) + vl))) (rY_move h (rY_keep h) hcl ha vl) ?_) ?_
    · exact rm_near_addL (rm_near_addL (rm_near_addL (rm_near_addI (rm_near_addI (rm_near_addI (rm_near_addI (rm_near_addI (rm_near_addI (rm_near_addI rm_near_refl (by decide) (by decide)) (by decide) (by decide)) (by decide) (by decide)) (by decide) (by decide)) (by decide) (by decide)) (by decide) (by decide)) (by decide) (by decide)) (by decide) (by decide) (by decide)) (by decide) (by decide) (by decide)) (by decide) (by decide) (by decide)
    · refine ⟨⟨by simp [rx_ru, fC, fA, fG, fS, fK, fV, fR, fL, fO, fT, fB], by simp [rx_ru, fC, fA, fG, fS, fK, fV, fR, fL, fO, fT, fB], by simp [rx_ru, fC, fA, fG, fS, fK, fV, fR, fL, fO, fT, fB], by simp [rx_ru, fC, fA, fG, fS, fK, fV, fR, fL, fO, fT, fB], by simp [rx_ru, fC, fA, fG, fS, fK, fV, fR, fL, fO, fT, fB]⟩, ⟨by simp [rx_ru, fC, fA, fG, fS, fK, fV, fR, fL, fO, fT, fB], by simp [rx_ru, fC, fA, fG, fS, fK, fV, fR, fL, fO, fT, fB]⟩, ⟨by simp [rx_ru, fC, fA, fG, fS, fK, fV, fR, fL, fO, fT, fB], by simp [rx_ru, fO, bI]⟩, ⟨by simp [fT], by simp [rx_ru, fC, fA, fG, fS, fK, fV, fR, fL, fO, fT, fB], trivial⟩, ⟨fun k hk => ?_, ?_, ?_⟩⟩
      · simp [rx_ru, rx_cp, hk, fB]
        exact rY_now h hk
      · simp [rx_ru, fC, fA, fG, fS, fK, fV, fR, fL, fO, fT, fB]; exact rY_ev h
      · simp [rx_ru, fC, fA, fG, fS, fK, fV, fR, fL, fO, fT, fB]; exact rY_back h
end RB
end
section
theorem rY_ab {G : rx_E} {M : rx_Me} {d pc mc ms E : Nat} {lv : List (Nat × Value)} {st : List Value} {C : rx_M} {S0 S : gs_T} {g : vg_T} {X : vx_S} {Q : Option Value → rx_M → Prop} {Z : String → rx_M → Prop} (h : rm_Y S0 S g X E) (k : ∀ S', rm_Y S0 S' g X E → rx_W G M d pc lv st (gl C S') mc ms Q Z) : rx_W G M d pc lv st (gl C S) mc ms Q Z := k S h
theorem rY_abx {G : rx_E} {M : rx_Me} {d pc mc ms E : Nat} {lv : List (Nat × Value)} {st : List Value} {C : rx_M} {S0 S : gs_T} {g : vg_T} {X : vx_S} {x : Int64} {Q : Option Value → rx_M → Prop} {Z : String → rx_M → Prop} (h : rm_Y S0 S g X E) (hx : S.2 52 59 = x) (k : ∀ S', rm_Y S0 S' g X E → S'.2 52 59 = x → rx_W G M d pc lv st (gl C S') mc ms Q Z) : rx_W G M d pc lv st (gl C S) mc ms Q Z := k S h hx
theorem rm_onE {S0 : gs_T} {g : vg_T} {R R' : vx_S × Option (Nat × Int64 × Nat)} {S' : gs_T} (h : R = R') (hF : rm_on S0 g R' S') : rm_on S0 g R S' := h ▸ hF
theorem m63 : ∀ i, i < 64 → ¬ i < 6 → (Int64.toBitVec 63).getLsbD i = false := by decide +kernel
theorem sh63 (y : Int64) : y.toInt32.toInt64 &&& 63 = y &&& 63 := by
  apply Int64.toBitVec_inj.mp
  apply BitVec.eq_of_getLsbD_eq
  intro i hi
  simp only [Int64.toBitVec_and, Int32.toBitVec_toInt64, Int64.toBitVec_toInt32, BitVec.getLsbD_and]
  by_cases h : i < 6
  · congr 1
    have h1 : i < 32 := by omega
    have h2 : i < 64 := by omega
    rw [BitVec.getLsbD_signExtend, BitVec.getLsbD_signExtend, if_pos h1, if_pos h2, decide_eq_true h1, decide_eq_true h2, Bool.true_and, Bool.true_and]
  · rw [m63 i hi h]; simp
theorem sh63a (y : Int64) : (y &&& lN 63).toInt32.toInt64 &&& 63 = y &&& 63 := by
  rw [sh63]
  apply Int64.toBitVec_inj.mp
  apply BitVec.eq_of_getLsbD_eq
  intro i hi
  simp only [Int64.toBitVec_and, BitVec.getLsbD_and]
  show (y.toBitVec.getLsbD i && (Int64.toBitVec 63).getLsbD i && (Int64.toBitVec 63).getLsbD i) = _
  cases y.toBitVec.getLsbD i <;> simp
theorem dX11_tell_0 : decode cX11_tell 0 = .ok (.aload_n 0, 1) := by decide +kernel
theorem dX11_tell_1 : decode cX11_tell 1 = .ok (.getfield 203, 3) := by decide +kernel
theorem dX11_tell_4 : decode cX11_tell 4 = .ok (.iconst 1, 1) := by decide +kernel
theorem dX11_tell_5 : decode cX11_tell 5 = .ok (.isub, 1) := by decide +kernel
theorem dX11_tell_6 : decode cX11_tell 6 = .ok (.istore_n 1, 1) := by decide +kernel
theorem dX11_tell_7 : decode cX11_tell 7 = .ok (.aload_n 0, 1) := by decide +kernel
theorem dX11_tell_8 : decode cX11_tell 8 = .ok (.getfield 117, 3) := by decide +kernel
theorem dX11_tell_11 : decode cX11_tell 11 = .ok (.iload_n 1, 1) := by decide +kernel
theorem dX11_tell_12 : decode cX11_tell 12 = .ok (.dup2, 1) := by decide +kernel
theorem dX11_tell_13 : decode cX11_tell 13 = .ok (.laload, 1) := by decide +kernel
theorem dX11_tell_14 : decode cX11_tell 14 = .ok (.aload_n 0, 1) := by decide +kernel
theorem dX11_tell_15 : decode cX11_tell 15 = .ok (.getfield 200, 3) := by decide +kernel
theorem dX11_tell_18 : decode cX11_tell 18 = .ok (.ladd, 1) := by decide +kernel
theorem dX11_tell_19 : decode cX11_tell 19 = .ok (.lastore, 1) := by decide +kernel
theorem dX11_tell_20 : decode cX11_tell 20 = .ok (.aload_n 0, 1) := by decide +kernel
theorem dX11_tell_21 : decode cX11_tell 21 = .ok (.aload_n 0, 1) := by decide +kernel
theorem dX11_tell_22 : decode cX11_tell 22 = .ok (.getfield 196, 3) := by decide +kernel
theorem dX11_tell_25 : decode cX11_tell 25 = .ok (.invokevirtual 221, 3) := by decide +kernel
theorem dX11_tell_28 : decode cX11_tell 28 = .ok (.aload_n 0, 1) := by decide +kernel
theorem dX11_tell_29 : decode cX11_tell 29 = .ok (.aload_n 0, 1) := by decide +kernel
theorem dX11_tell_30 : decode cX11_tell 30 = .ok (.getfield 193, 3) := by decide +kernel
theorem dX11_tell_33 : decode cX11_tell 33 = .ok (.iconst 1, 1) := by decide +kernel
theorem dX11_tell_34 : decode cX11_tell 34 = .ok (.if_icmp .ne 7, 3) := by decide +kernel
theorem dX11_tell_37 : decode cX11_tell 37 = .ok (.lconst 1, 1) := by decide +kernel
theorem dX11_tell_38 : decode cX11_tell 38 = .ok (.goto 4, 3) := by decide +kernel
theorem dX11_tell_41 : decode cX11_tell 41 = .ok (.lconst 0, 1) := by decide +kernel
theorem dX11_tell_42 : decode cX11_tell 42 = .ok (.invokevirtual 221, 3) := by decide +kernel
theorem dX11_tell_45 : decode cX11_tell 45 = .ok (.return_, 1) := by decide +kernel
theorem dX11_simple_0 : decode cX11_simple 0 = .ok (.aload_n 0, 1) := by decide +kernel
theorem dX11_simple_1 : decode cX11_simple 1 = .ok (.getfield 203, 3) := by decide +kernel
theorem dX11_simple_4 : decode cX11_simple 4 = .ok (.iconst 1, 1) := by decide +kernel
theorem dX11_simple_5 : decode cX11_simple 5 = .ok (.isub, 1) := by decide +kernel
theorem dX11_simple_6 : decode cX11_simple 6 = .ok (.istore 4, 2) := by decide +kernel
theorem dX11_simple_8 : decode cX11_simple 8 = .ok (.iload_n 1, 1) := by decide +kernel
theorem dX11_simple_9 : decode cX11_simple 9 = .ok (.tableswitch 138 0 4 #[35, 44, 54, 100, 109], 35) := by decide +kernel
theorem dX11_simple_44 : decode cX11_simple 44 = .ok (.aload_n 0, 1) := by decide +kernel
theorem dX11_simple_45 : decode cX11_simple 45 = .ok (.iconst 1, 1) := by decide +kernel
theorem dX11_simple_46 : decode cX11_simple 46 = .ok (.lconst 0, 1) := by decide +kernel
theorem dX11_simple_47 : decode cX11_simple 47 = .ok (.invokevirtual 231, 3) := by decide +kernel
theorem dX11_simple_50 : decode cX11_simple 50 = .ok (.goto 153, 3) := by decide +kernel
theorem dX11_simple_53 : decode cX11_simple 53 = .ok (.aload_n 0, 1) := by decide +kernel
theorem dX11_simple_54 : decode cX11_simple 54 = .ok (.iload_n 2, 1) := by decide +kernel
theorem dX11_simple_55 : decode cX11_simple 55 = .ok (.i2b, 1) := by decide +kernel
theorem dX11_simple_56 : decode cX11_simple 56 = .ok (.i2l, 1) := by decide +kernel
theorem dX11_simple_57 : decode cX11_simple 57 = .ok (.invokevirtual 221, 3) := by decide +kernel
theorem dX11_simple_60 : decode cX11_simple 60 = .ok (.goto 143, 3) := by decide +kernel
theorem dX11_simple_63 : decode cX11_simple 63 = .ok (.lconst 0, 1) := by decide +kernel
theorem dX11_simple_64 : decode cX11_simple 64 = .ok (.lstore 5, 2) := by decide +kernel
theorem dX11_simple_66 : decode cX11_simple 66 = .ok (.iconst 1, 1) := by decide +kernel
theorem dX11_simple_67 : decode cX11_simple 67 = .ok (.istore 7, 2) := by decide +kernel
theorem dX11_simple_69 : decode cX11_simple 69 = .ok (.iload 7, 2) := by decide +kernel
theorem dX11_simple_71 : decode cX11_simple 71 = .ok (.bipush 8, 2) := by decide +kernel
theorem dX11_simple_73 : decode cX11_simple 73 = .ok (.if_icmp .gt 27, 3) := by decide +kernel
theorem dX11_simple_76 : decode cX11_simple 76 = .ok (.lload 5, 2) := by decide +kernel
theorem dX11_simple_78 : decode cX11_simple 78 = .ok (.bipush 8, 2) := by decide +kernel
theorem dX11_simple_80 : decode cX11_simple 80 = .ok (.lshl, 1) := by decide +kernel
theorem dX11_simple_81 : decode cX11_simple 81 = .ok (.aload_n 0, 1) := by decide +kernel
theorem dX11_simple_82 : decode cX11_simple 82 = .ok (.getfield 7, 3) := by decide +kernel
theorem dX11_simple_85 : decode cX11_simple 85 = .ok (.iload_n 3, 1) := by decide +kernel
theorem dX11_simple_86 : decode cX11_simple 86 = .ok (.iload 7, 2) := by decide +kernel
theorem dX11_simple_88 : decode cX11_simple 88 = .ok (.iadd, 1) := by decide +kernel
theorem dX11_simple_89 : decode cX11_simple 89 = .ok (.iaload, 1) := by decide +kernel
theorem dX11_simple_90 : decode cX11_simple 90 = .ok (.i2l, 1) := by decide +kernel
theorem dX11_simple_91 : decode cX11_simple 91 = .ok (.lor, 1) := by decide +kernel
theorem dX11_simple_92 : decode cX11_simple 92 = .ok (.lstore 5, 2) := by decide +kernel
theorem dX11_simple_94 : decode cX11_simple 94 = .ok (.iinc 7 1, 3) := by decide +kernel
theorem dX11_simple_97 : decode cX11_simple 97 = .ok (.goto (-28), 3) := by decide +kernel
theorem dX11_simple_100 : decode cX11_simple 100 = .ok (.aload_n 0, 1) := by decide +kernel
theorem dX11_simple_101 : decode cX11_simple 101 = .ok (.lload 5, 2) := by decide +kernel
theorem dX11_simple_103 : decode cX11_simple 103 = .ok (.invokevirtual 221, 3) := by decide +kernel
theorem dX11_simple_106 : decode cX11_simple 106 = .ok (.goto 97, 3) := by decide +kernel
theorem dX11_simple_109 : decode cX11_simple 109 = .ok (.aload_n 0, 1) := by decide +kernel
theorem dX11_simple_110 : decode cX11_simple 110 = .ok (.invokevirtual 262, 3) := by decide +kernel
theorem dX11_simple_113 : decode cX11_simple 113 = .ok (.lstore 5, 2) := by decide +kernel
theorem dX11_simple_115 : decode cX11_simple 115 = .ok (.goto 88, 3) := by decide +kernel
theorem dX11_simple_118 : decode cX11_simple 118 = .ok (.aload_n 0, 1) := by decide +kernel
theorem dX11_simple_119 : decode cX11_simple 119 = .ok (.aload_n 0, 1) := by decide +kernel
theorem dX11_simple_120 : decode cX11_simple 120 = .ok (.getfield 138, 3) := by decide +kernel
theorem dX11_simple_123 : decode cX11_simple 123 = .ok (.bipush 24, 2) := by decide +kernel
theorem dX11_simple_125 : decode cX11_simple 125 = .ok (.iload 4, 2) := by decide +kernel
theorem dX11_simple_127 : decode cX11_simple 127 = .ok (.imul, 1) := by decide +kernel
theorem dX11_simple_128 : decode cX11_simple 128 = .ok (.aload_n 0, 1) := by decide +kernel
theorem dX11_simple_129 : decode cX11_simple 129 = .ok (.getfield 141, 3) := by decide +kernel
theorem dX11_simple_132 : decode cX11_simple 132 = .ok (.iload 4, 2) := by decide +kernel
theorem dX11_simple_134 : decode cX11_simple 134 = .ok (.iaload, 1) := by decide +kernel
theorem dX11_simple_135 : decode cX11_simple 135 = .ok (.iadd, 1) := by decide +kernel
theorem dX11_simple_136 : decode cX11_simple 136 = .ok (.iconst 1, 1) := by decide +kernel
theorem dX11_simple_137 : decode cX11_simple 137 = .ok (.isub, 1) := by decide +kernel
theorem dX11_simple_138 : decode cX11_simple 138 = .ok (.iload_n 2, 1) := by decide +kernel
theorem dX11_simple_139 : decode cX11_simple 139 = .ok (.isub, 1) := by decide +kernel
theorem dX11_simple_140 : decode cX11_simple 140 = .ok (.laload, 1) := by decide +kernel
theorem dX11_simple_141 : decode cX11_simple 141 = .ok (.invokevirtual 221, 3) := by decide +kernel
theorem dX11_simple_144 : decode cX11_simple 144 = .ok (.goto 59, 3) := by decide +kernel
theorem dX11_simple_147 : decode cX11_simple 147 = .ok (.bipush 24, 2) := by decide +kernel
theorem dX11_simple_149 : decode cX11_simple 149 = .ok (.iload 4, 2) := by decide +kernel
theorem dX11_simple_151 : decode cX11_simple 151 = .ok (.imul, 1) := by decide +kernel
theorem dX11_simple_152 : decode cX11_simple 152 = .ok (.aload_n 0, 1) := by decide +kernel
theorem dX11_simple_153 : decode cX11_simple 153 = .ok (.getfield 141, 3) := by decide +kernel
theorem dX11_simple_156 : decode cX11_simple 156 = .ok (.iload 4, 2) := by decide +kernel
theorem dX11_simple_158 : decode cX11_simple 158 = .ok (.iaload, 1) := by decide +kernel
theorem dX11_simple_159 : decode cX11_simple 159 = .ok (.iadd, 1) := by decide +kernel
theorem dX11_simple_160 : decode cX11_simple 160 = .ok (.iconst 1, 1) := by decide +kernel
theorem dX11_simple_161 : decode cX11_simple 161 = .ok (.isub, 1) := by decide +kernel
theorem dX11_simple_162 : decode cX11_simple 162 = .ok (.istore 5, 2) := by decide +kernel
theorem dX11_simple_164 : decode cX11_simple 164 = .ok (.aload_n 0, 1) := by decide +kernel
theorem dX11_simple_165 : decode cX11_simple 165 = .ok (.getfield 138, 3) := by decide +kernel
theorem dX11_simple_168 : decode cX11_simple 168 = .ok (.iload 5, 2) := by decide +kernel
theorem dX11_simple_170 : decode cX11_simple 170 = .ok (.laload, 1) := by decide +kernel
theorem dX11_simple_171 : decode cX11_simple 171 = .ok (.lstore 6, 2) := by decide +kernel
theorem dX11_simple_173 : decode cX11_simple 173 = .ok (.aload_n 0, 1) := by decide +kernel
theorem dX11_simple_174 : decode cX11_simple 174 = .ok (.getfield 138, 3) := by decide +kernel
theorem dX11_simple_177 : decode cX11_simple 177 = .ok (.iload 5, 2) := by decide +kernel
theorem dX11_simple_179 : decode cX11_simple 179 = .ok (.aload_n 0, 1) := by decide +kernel
theorem dX11_simple_180 : decode cX11_simple 180 = .ok (.getfield 138, 3) := by decide +kernel
theorem dX11_simple_183 : decode cX11_simple 183 = .ok (.iload 5, 2) := by decide +kernel
theorem dX11_simple_185 : decode cX11_simple 185 = .ok (.iload_n 2, 1) := by decide +kernel
theorem dX11_simple_186 : decode cX11_simple 186 = .ok (.isub, 1) := by decide +kernel
theorem dX11_simple_187 : decode cX11_simple 187 = .ok (.laload, 1) := by decide +kernel
theorem dX11_simple_188 : decode cX11_simple 188 = .ok (.lastore, 1) := by decide +kernel
theorem dX11_simple_189 : decode cX11_simple 189 = .ok (.aload_n 0, 1) := by decide +kernel
theorem dX11_simple_190 : decode cX11_simple 190 = .ok (.getfield 138, 3) := by decide +kernel
theorem dX11_simple_193 : decode cX11_simple 193 = .ok (.iload 5, 2) := by decide +kernel
theorem dX11_simple_195 : decode cX11_simple 195 = .ok (.iload_n 2, 1) := by decide +kernel
theorem dX11_simple_196 : decode cX11_simple 196 = .ok (.isub, 1) := by decide +kernel
theorem dX11_simple_197 : decode cX11_simple 197 = .ok (.lload 6, 2) := by decide +kernel
theorem dX11_simple_199 : decode cX11_simple 199 = .ok (.lastore, 1) := by decide +kernel
theorem dX11_simple_200 : decode cX11_simple 200 = .ok (.goto 3, 3) := by decide +kernel
theorem dX11_simple_203 : decode cX11_simple 203 = .ok (.return_, 1) := by decide +kernel
theorem dX11_reckon_0 : decode cX11_reckon 0 = .ok (.aload_n 0, 1) := by decide +kernel
theorem dX11_reckon_1 : decode cX11_reckon 1 = .ok (.invokevirtual 262, 3) := by decide +kernel
theorem dX11_reckon_4 : decode cX11_reckon 4 = .ok (.lstore_n 2, 1) := by decide +kernel
theorem dX11_reckon_5 : decode cX11_reckon 5 = .ok (.iload_n 1, 1) := by decide +kernel
theorem dX11_reckon_6 : decode cX11_reckon 6 = .ok (.bipush 18, 2) := by decide +kernel
theorem dX11_reckon_8 : decode cX11_reckon 8 = .ok (.if_icmp .ne 19, 3) := by decide +kernel
theorem dX11_reckon_11 : decode cX11_reckon 11 = .ok (.aload_n 0, 1) := by decide +kernel
theorem dX11_reckon_12 : decode cX11_reckon 12 = .ok (.lload_n 2, 1) := by decide +kernel
theorem dX11_reckon_13 : decode cX11_reckon 13 = .ok (.lconst 0, 1) := by decide +kernel
theorem dX11_reckon_14 : decode cX11_reckon 14 = .ok (.lcmp, 1) := by decide +kernel
theorem dX11_reckon_15 : decode cX11_reckon 15 = .ok (.ifCond .ne 7, 3) := by decide +kernel
theorem dX11_reckon_18 : decode cX11_reckon 18 = .ok (.lconst 1, 1) := by decide +kernel
theorem dX11_reckon_19 : decode cX11_reckon 19 = .ok (.goto 4, 3) := by decide +kernel
theorem dX11_reckon_22 : decode cX11_reckon 22 = .ok (.lconst 0, 1) := by decide +kernel
theorem dX11_reckon_23 : decode cX11_reckon 23 = .ok (.invokevirtual 221, 3) := by decide +kernel
theorem dX11_reckon_26 : decode cX11_reckon 26 = .ok (.return_, 1) := by decide +kernel
theorem dX11_reckon_27 : decode cX11_reckon 27 = .ok (.aload_n 0, 1) := by decide +kernel
theorem dX11_reckon_28 : decode cX11_reckon 28 = .ok (.invokevirtual 262, 3) := by decide +kernel
theorem dX11_reckon_31 : decode cX11_reckon 31 = .ok (.lstore 4, 2) := by decide +kernel
theorem dX11_reckon_33 : decode cX11_reckon 33 = .ok (.iload_n 1, 1) := by decide +kernel
theorem dX11_reckon_34 : decode cX11_reckon 34 = .ok (.bipush 9, 2) := by decide +kernel
theorem dX11_reckon_36 : decode cX11_reckon 36 = .ok (.if_icmp .eq 9, 3) := by decide +kernel
theorem dX11_reckon_39 : decode cX11_reckon 39 = .ok (.iload_n 1, 1) := by decide +kernel
theorem dX11_reckon_40 : decode cX11_reckon 40 = .ok (.bipush 10, 2) := by decide +kernel
theorem dX11_reckon_42 : decode cX11_reckon 42 = .ok (.if_icmp .ne 16, 3) := by decide +kernel
theorem dX11_reckon_45 : decode cX11_reckon 45 = .ok (.lload_n 2, 1) := by decide +kernel
theorem dX11_reckon_46 : decode cX11_reckon 46 = .ok (.lconst 0, 1) := by decide +kernel
theorem dX11_reckon_47 : decode cX11_reckon 47 = .ok (.lcmp, 1) := by decide +kernel
theorem dX11_reckon_48 : decode cX11_reckon 48 = .ok (.ifCond .ne 10, 3) := by decide +kernel
theorem dX11_reckon_51 : decode cX11_reckon 51 = .ok (.aload_n 0, 1) := by decide +kernel
theorem dX11_reckon_52 : decode cX11_reckon 52 = .ok (.iconst 3, 1) := by decide +kernel
theorem dX11_reckon_53 : decode cX11_reckon 53 = .ok (.lconst 0, 1) := by decide +kernel
theorem dX11_reckon_54 : decode cX11_reckon 54 = .ok (.invokevirtual 231, 3) := by decide +kernel
theorem dX11_reckon_57 : decode cX11_reckon 57 = .ok (.return_, 1) := by decide +kernel
theorem dX11_reckon_58 : decode cX11_reckon 58 = .ok (.iload_n 1, 1) := by decide +kernel
theorem dX11_reckon_59 : decode cX11_reckon 59 = .ok (.tableswitch 196 6 16 #[57, 68, 79, 90, 101, 112, 123, 134, 145, 161, 177], 57) := by decide +kernel
theorem dX11_reckon_116 : decode cX11_reckon 116 = .ok (.aload_n 0, 1) := by decide +kernel
theorem dX11_reckon_117 : decode cX11_reckon 117 = .ok (.lload 4, 2) := by decide +kernel
theorem dX11_reckon_119 : decode cX11_reckon 119 = .ok (.lload_n 2, 1) := by decide +kernel
theorem dX11_reckon_120 : decode cX11_reckon 120 = .ok (.ladd, 1) := by decide +kernel
theorem dX11_reckon_121 : decode cX11_reckon 121 = .ok (.invokevirtual 221, 3) := by decide +kernel
theorem dX11_reckon_124 : decode cX11_reckon 124 = .ok (.goto 147, 3) := by decide +kernel
theorem dX11_reckon_127 : decode cX11_reckon 127 = .ok (.aload_n 0, 1) := by decide +kernel
theorem dX11_reckon_128 : decode cX11_reckon 128 = .ok (.lload 4, 2) := by decide +kernel
theorem dX11_reckon_130 : decode cX11_reckon 130 = .ok (.lload_n 2, 1) := by decide +kernel
theorem dX11_reckon_131 : decode cX11_reckon 131 = .ok (.lsub, 1) := by decide +kernel
theorem dX11_reckon_132 : decode cX11_reckon 132 = .ok (.invokevirtual 221, 3) := by decide +kernel
theorem dX11_reckon_135 : decode cX11_reckon 135 = .ok (.goto 136, 3) := by decide +kernel
theorem dX11_reckon_138 : decode cX11_reckon 138 = .ok (.aload_n 0, 1) := by decide +kernel
theorem dX11_reckon_139 : decode cX11_reckon 139 = .ok (.lload 4, 2) := by decide +kernel
theorem dX11_reckon_141 : decode cX11_reckon 141 = .ok (.lload_n 2, 1) := by decide +kernel
theorem dX11_reckon_142 : decode cX11_reckon 142 = .ok (.lmul, 1) := by decide +kernel
theorem dX11_reckon_143 : decode cX11_reckon 143 = .ok (.invokevirtual 221, 3) := by decide +kernel
theorem dX11_reckon_146 : decode cX11_reckon 146 = .ok (.goto 125, 3) := by decide +kernel
theorem dX11_reckon_149 : decode cX11_reckon 149 = .ok (.aload_n 0, 1) := by decide +kernel
theorem dX11_reckon_150 : decode cX11_reckon 150 = .ok (.lload 4, 2) := by decide +kernel
theorem dX11_reckon_152 : decode cX11_reckon 152 = .ok (.lload_n 2, 1) := by decide +kernel
theorem dX11_reckon_153 : decode cX11_reckon 153 = .ok (.ldiv, 1) := by decide +kernel
theorem dX11_reckon_154 : decode cX11_reckon 154 = .ok (.invokevirtual 221, 3) := by decide +kernel
theorem dX11_reckon_157 : decode cX11_reckon 157 = .ok (.goto 114, 3) := by decide +kernel
theorem dX11_reckon_160 : decode cX11_reckon 160 = .ok (.aload_n 0, 1) := by decide +kernel
theorem dX11_reckon_161 : decode cX11_reckon 161 = .ok (.lload 4, 2) := by decide +kernel
theorem dX11_reckon_163 : decode cX11_reckon 163 = .ok (.lload_n 2, 1) := by decide +kernel
theorem dX11_reckon_164 : decode cX11_reckon 164 = .ok (.lrem, 1) := by decide +kernel
theorem dX11_reckon_165 : decode cX11_reckon 165 = .ok (.invokevirtual 221, 3) := by decide +kernel
theorem dX11_reckon_168 : decode cX11_reckon 168 = .ok (.goto 103, 3) := by decide +kernel
theorem dX11_reckon_171 : decode cX11_reckon 171 = .ok (.aload_n 0, 1) := by decide +kernel
theorem dX11_reckon_172 : decode cX11_reckon 172 = .ok (.lload 4, 2) := by decide +kernel
theorem dX11_reckon_174 : decode cX11_reckon 174 = .ok (.lload_n 2, 1) := by decide +kernel
theorem dX11_reckon_175 : decode cX11_reckon 175 = .ok (.land, 1) := by decide +kernel
theorem dX11_reckon_176 : decode cX11_reckon 176 = .ok (.invokevirtual 221, 3) := by decide +kernel
theorem dX11_reckon_179 : decode cX11_reckon 179 = .ok (.goto 92, 3) := by decide +kernel
theorem dX11_reckon_182 : decode cX11_reckon 182 = .ok (.aload_n 0, 1) := by decide +kernel
theorem dX11_reckon_183 : decode cX11_reckon 183 = .ok (.lload 4, 2) := by decide +kernel
theorem dX11_reckon_185 : decode cX11_reckon 185 = .ok (.lload_n 2, 1) := by decide +kernel
theorem dX11_reckon_186 : decode cX11_reckon 186 = .ok (.lor, 1) := by decide +kernel
theorem dX11_reckon_187 : decode cX11_reckon 187 = .ok (.invokevirtual 221, 3) := by decide +kernel
theorem dX11_reckon_190 : decode cX11_reckon 190 = .ok (.goto 81, 3) := by decide +kernel
theorem dX11_reckon_193 : decode cX11_reckon 193 = .ok (.aload_n 0, 1) := by decide +kernel
theorem dX11_reckon_194 : decode cX11_reckon 194 = .ok (.lload 4, 2) := by decide +kernel
theorem dX11_reckon_196 : decode cX11_reckon 196 = .ok (.lload_n 2, 1) := by decide +kernel
theorem dX11_reckon_197 : decode cX11_reckon 197 = .ok (.lxor, 1) := by decide +kernel
theorem dX11_reckon_198 : decode cX11_reckon 198 = .ok (.invokevirtual 221, 3) := by decide +kernel
theorem dX11_reckon_201 : decode cX11_reckon 201 = .ok (.goto 70, 3) := by decide +kernel
theorem dX11_reckon_204 : decode cX11_reckon 204 = .ok (.aload_n 0, 1) := by decide +kernel
theorem dX11_reckon_205 : decode cX11_reckon 205 = .ok (.lload 4, 2) := by decide +kernel
theorem dX11_reckon_207 : decode cX11_reckon 207 = .ok (.lload_n 2, 1) := by decide +kernel
theorem dX11_reckon_208 : decode cX11_reckon 208 = .ok (.ldc2_w 266, 3) := by decide +kernel
theorem dX11_reckon_211 : decode cX11_reckon 211 = .ok (.land, 1) := by decide +kernel
theorem dX11_reckon_212 : decode cX11_reckon 212 = .ok (.l2i, 1) := by decide +kernel
theorem dX11_reckon_213 : decode cX11_reckon 213 = .ok (.lshl, 1) := by decide +kernel
theorem dX11_reckon_214 : decode cX11_reckon 214 = .ok (.invokevirtual 221, 3) := by decide +kernel
theorem dX11_reckon_217 : decode cX11_reckon 217 = .ok (.goto 54, 3) := by decide +kernel
theorem dX11_reckon_220 : decode cX11_reckon 220 = .ok (.aload_n 0, 1) := by decide +kernel
theorem dX11_reckon_221 : decode cX11_reckon 221 = .ok (.lload 4, 2) := by decide +kernel
theorem dX11_reckon_223 : decode cX11_reckon 223 = .ok (.lload_n 2, 1) := by decide +kernel
theorem dX11_reckon_224 : decode cX11_reckon 224 = .ok (.ldc2_w 266, 3) := by decide +kernel
theorem dX11_reckon_227 : decode cX11_reckon 227 = .ok (.land, 1) := by decide +kernel
theorem dX11_reckon_228 : decode cX11_reckon 228 = .ok (.l2i, 1) := by decide +kernel
theorem dX11_reckon_229 : decode cX11_reckon 229 = .ok (.lshr, 1) := by decide +kernel
theorem dX11_reckon_230 : decode cX11_reckon 230 = .ok (.invokevirtual 221, 3) := by decide +kernel
theorem dX11_reckon_233 : decode cX11_reckon 233 = .ok (.goto 38, 3) := by decide +kernel
theorem dX11_reckon_236 : decode cX11_reckon 236 = .ok (.aload_n 0, 1) := by decide +kernel
theorem dX11_reckon_237 : decode cX11_reckon 237 = .ok (.lload 4, 2) := by decide +kernel
theorem dX11_reckon_239 : decode cX11_reckon 239 = .ok (.lload_n 2, 1) := by decide +kernel
theorem dX11_reckon_240 : decode cX11_reckon 240 = .ok (.lcmp, 1) := by decide +kernel
theorem dX11_reckon_241 : decode cX11_reckon 241 = .ok (.ifCond .ge 7, 3) := by decide +kernel
theorem dX11_reckon_244 : decode cX11_reckon 244 = .ok (.lconst 1, 1) := by decide +kernel
theorem dX11_reckon_245 : decode cX11_reckon 245 = .ok (.goto 4, 3) := by decide +kernel
theorem dX11_reckon_248 : decode cX11_reckon 248 = .ok (.lconst 0, 1) := by decide +kernel
theorem dX11_reckon_249 : decode cX11_reckon 249 = .ok (.invokevirtual 221, 3) := by decide +kernel
theorem dX11_reckon_252 : decode cX11_reckon 252 = .ok (.goto 19, 3) := by decide +kernel
theorem dX11_reckon_255 : decode cX11_reckon 255 = .ok (.aload_n 0, 1) := by decide +kernel
theorem dX11_reckon_256 : decode cX11_reckon 256 = .ok (.lload 4, 2) := by decide +kernel
theorem dX11_reckon_258 : decode cX11_reckon 258 = .ok (.lload_n 2, 1) := by decide +kernel
theorem dX11_reckon_259 : decode cX11_reckon 259 = .ok (.lcmp, 1) := by decide +kernel
theorem dX11_reckon_260 : decode cX11_reckon 260 = .ok (.ifCond .ne 7, 3) := by decide +kernel
theorem dX11_reckon_263 : decode cX11_reckon 263 = .ok (.lconst 1, 1) := by decide +kernel
theorem dX11_reckon_264 : decode cX11_reckon 264 = .ok (.goto 4, 3) := by decide +kernel
theorem dX11_reckon_267 : decode cX11_reckon 267 = .ok (.lconst 0, 1) := by decide +kernel
theorem dX11_reckon_268 : decode cX11_reckon 268 = .ok (.invokevirtual 221, 3) := by decide +kernel
theorem dX11_reckon_271 : decode cX11_reckon 271 = .ok (.return_, 1) := by decide +kernel
theorem cr_tell1 {G : rx_E} {d : Nat} {C : rx_M} {S0 S : gs_T} {g : vg_T} {n : Nat → Int64} {e : List (Nat × Int64 × Int64)} {b m c a q s k : Nat} {v r : Int64} {l o : Bool} {t : List Int64} {w : (Nat → Int64) × Nat × Nat} {fs : List vf_T} (hG : rx_OK G) (hp : fs.length < 11) (ht : t.length ≤ 22) {u : Nat} {x : Int64} (hx : S.2 52 59 = x) (hu : S.2 52 60 = lN u) (hY : rm_Y S0 S g (n, e, b, ((c, a, q, s, k), (v, r), (l, o), t, w) :: fs, m) 1) : rx_C G MX11_tell (d + 1) [.ref 52] (gl C S) 0 0 (rq_Y C S0 g (n, e, b, ((c, a, q + u, s, k), (v, r), (l, o), ((1) :: x :: t), w) :: fs, m) 1 none) := by
  refine rx_meth0 (by decide +kernel) rfl (Nat.le_of_ble_eq_true rfl) ?_
  refine rx_aload_n dX11_tell_0 rfl rfl ?_
  refine gmv_getI (v := nI (fs.length + 1)) hG hf_RX11_203 rfl dX11_tell_1 rfl rfl rfl (rY_dep hY) ?_
  refine rx_iconst (v := nI 1) dX11_tell_4 rfl ?_
  refine rx_isub dX11_tell_5 ?_
  refine rx_ti (y := nI fs.length) ((pk_sub (by omega)).trans (congrArg nI (by omega))) ?_
  refine rx_istore_n dX11_tell_6 (by decide) ?_
  refine rx_aload_n dX11_tell_7 rfl rfl ?_
  refine g_getR hG hf_RX11_117 rfl dX11_tell_8 rfl rfl rfl ?_
  refine rx_iload_n dX11_tell_11 rfl ?_
  refine rx_dup2 dX11_tell_12 rfl rfl ?_
  refine gmv_lald (j := fs.length) (v := lN q) hG dX11_tell_13 rfl rfl rfl rfl (by omega) (by decide) (rY_gas hY) ?_
  refine rx_aload_n dX11_tell_14 rfl rfl ?_
  refine gmv_getL (v := lN u) hG hf_RX11_200 rfl dX11_tell_15 rfl rfl rfl hu ?_
  refine rx_ladd dX11_tell_18 ?_
  refine rx_tl (y := lN (q + u)) ((lN_add _ _).trans (congrArg lN (by omega))) ?_
  refine gm_last (j := fs.length) hG dX11_tell_19 rfl rfl rfl rfl (by omega) (by decide) ?_
  refine rY_abx (rY_setGas hY (q + u)) (x := x) (by simpa [rx_ru] using hx) (fun _ hY1 hx => ?_)
  refine rx_aload_n dX11_tell_20 rfl rfl ?_
  refine rx_aload_n dX11_tell_21 rfl rfl ?_
  refine gmv_getL (v := x) hG hf_RX11_196 rfl dX11_tell_22 rfl rfl rfl hx ?_
  refine gv_invV (as := [.long _]) hG okX11_push lk_RX11_221 rfl rfl dX11_tell_25 rfl (by simp [Value.category]) (cr_push hG hY1 (by omega) (by (try simp only [List.length_cons, List.length_nil]); omega) _) ?_
  rintro _ _ ⟨rfl, _, rfl, hY2⟩
  refine rx_aload_n dX11_tell_28 rfl rfl ?_
  refine rx_aload_n dX11_tell_29 rfl rfl ?_
  refine gmv_getI (v := nI 1) hG hf_RX11_193 rfl dX11_tell_30 rfl rfl rfl (rY_end hY2) ?_
  refine rx_iconst (v := nI 1) dX11_tell_33 rfl ?_
  refine rx_icmp_ne (tgt := 41) dX11_tell_34 (by decide) (fun h34 => (absurd h34 (by decide))) (fun h34 => ?_)
  refine rx_lconst (v := lN 1) dX11_tell_37 rfl ?_
  refine rx_goto (tgt := 42) dX11_tell_38 (by decide) ?_
  refine gv_invV (as := [.long _]) hG okX11_push lk_RX11_221 rfl rfl dX11_tell_42 rfl (by simp [Value.category]) (cr_push hG hY2 (by omega) (by (try simp only [List.length_cons, List.length_nil]); omega) _) ?_
  rintro _ _ ⟨rfl, _, rfl, hY3⟩
  exact rx_vret rfl dX11_tell_45 ⟨rfl, _, rfl, hY3⟩
theorem cr_tell2 {G : rx_E} {d : Nat} {C : rx_M} {S0 S : gs_T} {g : vg_T} {n : Nat → Int64} {e : List (Nat × Int64 × Int64)} {b m c a q s k : Nat} {v r : Int64} {l o : Bool} {t : List Int64} {w : (Nat → Int64) × Nat × Nat} {fs : List vf_T} (hG : rx_OK G) (hp : fs.length < 11) (ht : t.length ≤ 22) {u : Nat} {x : Int64} (hx : S.2 52 59 = x) (hu : S.2 52 60 = lN u) (hY : rm_Y S0 S g (n, e, b, ((c, a, q, s, k), (v, r), (l, o), t, w) :: fs, m) 2) : rx_C G MX11_tell (d + 1) [.ref 52] (gl C S) 0 0 (rq_Y C S0 g (n, e, b, ((c, a, q + u, s, k), (v, r), (l, o), ((0) :: x :: t), w) :: fs, m) 2 none) := by
  refine rx_meth0 (by decide +kernel) rfl (Nat.le_of_ble_eq_true rfl) ?_
  refine rx_aload_n dX11_tell_0 rfl rfl ?_
  refine gmv_getI (v := nI (fs.length + 1)) hG hf_RX11_203 rfl dX11_tell_1 rfl rfl rfl (rY_dep hY) ?_
  refine rx_iconst (v := nI 1) dX11_tell_4 rfl ?_
  refine rx_isub dX11_tell_5 ?_
  refine rx_ti (y := nI fs.length) ((pk_sub (by omega)).trans (congrArg nI (by omega))) ?_
  refine rx_istore_n dX11_tell_6 (by decide) ?_
  refine rx_aload_n dX11_tell_7 rfl rfl ?_
  refine g_getR hG hf_RX11_117 rfl dX11_tell_8 rfl rfl rfl ?_
  refine rx_iload_n dX11_tell_11 rfl ?_
  refine rx_dup2 dX11_tell_12 rfl rfl ?_
  refine gmv_lald (j := fs.length) (v := lN q) hG dX11_tell_13 rfl rfl rfl rfl (by omega) (by decide) (rY_gas hY) ?_
  refine rx_aload_n dX11_tell_14 rfl rfl ?_
  refine gmv_getL (v := lN u) hG hf_RX11_200 rfl dX11_tell_15 rfl rfl rfl hu ?_
  refine rx_ladd dX11_tell_18 ?_
  refine rx_tl (y := lN (q + u)) ((lN_add _ _).trans (congrArg lN (by omega))) ?_
  refine gm_last (j := fs.length) hG dX11_tell_19 rfl rfl rfl rfl (by omega) (by decide) ?_
  refine rY_abx (rY_setGas hY (q + u)) (x := x) (by simpa [rx_ru] using hx) (fun _ hY1 hx => ?_)
  refine rx_aload_n dX11_tell_20 rfl rfl ?_
  refine rx_aload_n dX11_tell_21 rfl rfl ?_
  refine gmv_getL (v := x) hG hf_RX11_196 rfl dX11_tell_22 rfl rfl rfl hx ?_
  refine gv_invV (as := [.long _]) hG okX11_push lk_RX11_221 rfl rfl dX11_tell_25 rfl (by simp [Value.category]) (cr_push hG hY1 (by omega) (by (try simp only [List.length_cons, List.length_nil]); omega) _) ?_
  rintro _ _ ⟨rfl, _, rfl, hY2⟩
  refine rx_aload_n dX11_tell_28 rfl rfl ?_
  refine rx_aload_n dX11_tell_29 rfl rfl ?_
  refine gmv_getI (v := nI 2) hG hf_RX11_193 rfl dX11_tell_30 rfl rfl rfl (rY_end hY2) ?_
  refine rx_iconst (v := nI 1) dX11_tell_33 rfl ?_
  refine rx_icmp_ne (tgt := 41) dX11_tell_34 (by decide) (fun h34 => ?_) (fun h34 => (absurd h34 (by decide))) 
  refine rx_lconst (v := lN 0) dX11_tell_41 rfl ?_
  refine gv_invV (as := [.long _]) hG okX11_push lk_RX11_221 rfl rfl dX11_tell_42 rfl (by simp [Value.category]) (cr_push hG hY2 (by omega) (by (try simp only [List.length_cons, List.length_nil]); omega) _) ?_
  rintro _ _ ⟨rfl, _, rfl, hY3⟩
  exact rx_vret rfl dX11_tell_45 ⟨rfl, _, rfl, hY3⟩
theorem cr_tell3 {G : rx_E} {d : Nat} {C : rx_M} {S0 S : gs_T} {g : vg_T} {n : Nat → Int64} {e : List (Nat × Int64 × Int64)} {b m c a q s k : Nat} {v r : Int64} {l o : Bool} {t : List Int64} {w : (Nat → Int64) × Nat × Nat} {fs : List vf_T} (hG : rx_OK G) (hp : fs.length < 11) (ht : t.length ≤ 22) {u : Nat} {x : Int64} (hx : S.2 52 59 = x) (hu : S.2 52 60 = lN u) (hY : rm_Y S0 S g (n, e, b, ((c, a, q, s, k), (v, r), (l, o), t, w) :: fs, m) 3) : rx_C G MX11_tell (d + 1) [.ref 52] (gl C S) 0 0 (rq_Y C S0 g (n, e, b, ((c, a, q + u, s, k), (v, r), (l, o), ((0) :: x :: t), w) :: fs, m) 3 none) := by
  refine rx_meth0 (by decide +kernel) rfl (Nat.le_of_ble_eq_true rfl) ?_
  refine rx_aload_n dX11_tell_0 rfl rfl ?_
  refine gmv_getI (v := nI (fs.length + 1)) hG hf_RX11_203 rfl dX11_tell_1 rfl rfl rfl (rY_dep hY) ?_
  refine rx_iconst (v := nI 1) dX11_tell_4 rfl ?_
  refine rx_isub dX11_tell_5 ?_
  refine rx_ti (y := nI fs.length) ((pk_sub (by omega)).trans (congrArg nI (by omega))) ?_
  refine rx_istore_n dX11_tell_6 (by decide) ?_
  refine rx_aload_n dX11_tell_7 rfl rfl ?_
  refine g_getR hG hf_RX11_117 rfl dX11_tell_8 rfl rfl rfl ?_
  refine rx_iload_n dX11_tell_11 rfl ?_
  refine rx_dup2 dX11_tell_12 rfl rfl ?_
  refine gmv_lald (j := fs.length) (v := lN q) hG dX11_tell_13 rfl rfl rfl rfl (by omega) (by decide) (rY_gas hY) ?_
  refine rx_aload_n dX11_tell_14 rfl rfl ?_
  refine gmv_getL (v := lN u) hG hf_RX11_200 rfl dX11_tell_15 rfl rfl rfl hu ?_
  refine rx_ladd dX11_tell_18 ?_
  refine rx_tl (y := lN (q + u)) ((lN_add _ _).trans (congrArg lN (by omega))) ?_
  refine gm_last (j := fs.length) hG dX11_tell_19 rfl rfl rfl rfl (by omega) (by decide) ?_
  refine rY_abx (rY_setGas hY (q + u)) (x := x) (by simpa [rx_ru] using hx) (fun _ hY1 hx => ?_)
  refine rx_aload_n dX11_tell_20 rfl rfl ?_
  refine rx_aload_n dX11_tell_21 rfl rfl ?_
  refine gmv_getL (v := x) hG hf_RX11_196 rfl dX11_tell_22 rfl rfl rfl hx ?_
  refine gv_invV (as := [.long _]) hG okX11_push lk_RX11_221 rfl rfl dX11_tell_25 rfl (by simp [Value.category]) (cr_push hG hY1 (by omega) (by (try simp only [List.length_cons, List.length_nil]); omega) _) ?_
  rintro _ _ ⟨rfl, _, rfl, hY2⟩
  refine rx_aload_n dX11_tell_28 rfl rfl ?_
  refine rx_aload_n dX11_tell_29 rfl rfl ?_
  refine gmv_getI (v := nI 3) hG hf_RX11_193 rfl dX11_tell_30 rfl rfl rfl (rY_end hY2) ?_
  refine rx_iconst (v := nI 1) dX11_tell_33 rfl ?_
  refine rx_icmp_ne (tgt := 41) dX11_tell_34 (by decide) (fun h34 => ?_) (fun h34 => (absurd h34 (by decide))) 
  refine rx_lconst (v := lN 0) dX11_tell_41 rfl ?_
  refine gv_invV (as := [.long _]) hG okX11_push lk_RX11_221 rfl rfl dX11_tell_42 rfl (by simp [Value.category]) (cr_push hG hY2 (by omega) (by (try simp only [List.length_cons, List.length_nil]); omega) _) ?_
  rintro _ _ ⟨rfl, _, rfl, hY3⟩
  exact rx_vret rfl dX11_tell_45 ⟨rfl, _, rfl, hY3⟩
theorem cr_reckon {G : rx_E} {d : Nat} {C : rx_M} {S0 S : gs_T} {g : vg_T} {n : Nat → Int64} {e : List (Nat × Int64 × Int64)} {b m c a q s k : Nat} {v r : Int64} {l o : Bool} {t : List Int64} {w : (Nat → Int64) × Nat × Nat} {fs : List vf_T} (hG : rx_OK G) {op : Nat} {x y : Int64} (h6 : 6 ≤ op) (h17 : op ≤ 17) (hp : fs.length < 11) (hw : w.2.1 ≤ e.length) (hY : rm_Y S0 S g (n, e, b, ((c, a, q, s, k), (v, r), (l, o), (y :: (x :: t)), w) :: fs, m) 0) : rx_C G MX11_reckon (d + 2) [.ref 52, .int (nI op)] (gl C S) 0 0 (rq_on C S0 g (vm_do2 (n, e, b, ((c, a, q, s, k), (v, r), (l, o), (y :: (x :: t)), w) :: fs, m) op ((c, a, q, s, k), (v, r), (l, o), (y :: (x :: t)), w) fs)) := by
  refine rx_meth0 (by decide +kernel) rfl (Nat.le_of_ble_eq_true rfl) ?_
  have ht : t.length + 2 ≤ 24 := rY_n hY
  have hc : op = 6 ∨ op = 7 ∨ op = 8 ∨ op = 9 ∨ op = 10 ∨ op = 11 ∨ op = 12 ∨ op = 13 ∨ op = 14 ∨ op = 15 ∨ op = 16 ∨ op = 17 := by omega
  rcases hc with rfl | rfl | rfl | rfl | rfl | rfl | rfl | rfl | rfl | rfl | rfl | rfl
  · refine rx_aload_n dX11_reckon_0 rfl rfl ?_
    refine gv_invV (as := []) hG okX11_pop lk_RX11_262 rfl rfl dX11_reckon_1 rfl (by simp [Value.category]) (cr_pop hG hY (by omega)) ?_
    rintro _ _ ⟨rfl, _, rfl, hY1⟩
    refine rx_lstore_n dX11_reckon_4 (by decide) ?_
    refine rx_iload_n dX11_reckon_5 rfl ?_
    refine rx_bipush (v := nI 18) dX11_reckon_6 rfl ?_
    refine rx_icmp_ne (tgt := 27) dX11_reckon_8 (by decide) (fun h8 => ?_) (fun h8 => (absurd h8 (by decide))) 
    refine rx_aload_n dX11_reckon_27 rfl rfl ?_
    refine gv_invV (as := []) hG okX11_pop lk_RX11_262 rfl rfl dX11_reckon_28 rfl (by simp [Value.category]) (cr_pop hG hY1 (by omega)) ?_
    rintro _ _ ⟨rfl, _, rfl, hY2⟩
    refine rx_lstore dX11_reckon_31 (by decide) ?_
    refine rx_iload_n dX11_reckon_33 rfl ?_
    refine rx_bipush (v := nI 9) dX11_reckon_34 rfl ?_
    refine rx_icmp_eq (tgt := 45) dX11_reckon_36 (by decide) (fun h36 => (absurd h36 (by decide))) (fun h36 => ?_)
    refine rx_iload_n dX11_reckon_39 rfl ?_
    refine rx_bipush (v := nI 10) dX11_reckon_40 rfl ?_
    refine rx_icmp_ne (tgt := 58) dX11_reckon_42 (by decide) (fun h42 => ?_) (fun h42 => (absurd h42 (by decide))) 
    refine rx_iload_n dX11_reckon_58 rfl ?_
    refine rx_tabIn (tgt := 116) dX11_reckon_59 (by decide) (by decide) rfl (by decide) ?_
    refine rx_aload_n dX11_reckon_116 rfl rfl ?_
    refine rx_lload dX11_reckon_117 rfl ?_
    refine rx_lload_n dX11_reckon_119 rfl ?_
    refine rx_ladd dX11_reckon_120 ?_
    refine gv_invV (as := [.long _]) hG okX11_push lk_RX11_221 rfl rfl dX11_reckon_121 rfl (by simp [Value.category]) (cr_push hG hY2 (by omega) (by (try simp only [List.length_cons, List.length_nil]); omega) _) ?_
    rintro _ _ ⟨rfl, _, rfl, hY3⟩
    refine rx_goto (tgt := 271) dX11_reckon_124 (by decide) ?_
    exact rx_vret rfl dX11_reckon_271 ⟨rfl, _, rfl, Or.inl ⟨_, (if_neg (by decide)).trans ((if_neg (fun h => absurd h.1 (by decide))).trans rfl), hY3⟩⟩
  · refine rx_aload_n dX11_reckon_0 rfl rfl ?_
    refine gv_invV (as := []) hG okX11_pop lk_RX11_262 rfl rfl dX11_reckon_1 rfl (by simp [Value.category]) (cr_pop hG hY (by omega)) ?_
    rintro _ _ ⟨rfl, _, rfl, hY1⟩
    refine rx_lstore_n dX11_reckon_4 (by decide) ?_
    refine rx_iload_n dX11_reckon_5 rfl ?_
    refine rx_bipush (v := nI 18) dX11_reckon_6 rfl ?_
    refine rx_icmp_ne (tgt := 27) dX11_reckon_8 (by decide) (fun h8 => ?_) (fun h8 => (absurd h8 (by decide))) 
    refine rx_aload_n dX11_reckon_27 rfl rfl ?_
    refine gv_invV (as := []) hG okX11_pop lk_RX11_262 rfl rfl dX11_reckon_28 rfl (by simp [Value.category]) (cr_pop hG hY1 (by omega)) ?_
    rintro _ _ ⟨rfl, _, rfl, hY2⟩
    refine rx_lstore dX11_reckon_31 (by decide) ?_
    refine rx_iload_n dX11_reckon_33 rfl ?_
    refine rx_bipush (v := nI 9) dX11_reckon_34 rfl ?_
    refine rx_icmp_eq (tgt := 45) dX11_reckon_36 (by decide) (fun h36 => (absurd h36 (by decide))) (fun h36 => ?_)
    refine rx_iload_n dX11_reckon_39 rfl ?_
    refine rx_bipush (v := nI 10) dX11_reckon_40 rfl ?_
    refine rx_icmp_ne (tgt := 58) dX11_reckon_42 (by decide) (fun h42 => ?_) (fun h42 => (absurd h42 (by decide))) 
    refine rx_iload_n dX11_reckon_58 rfl ?_
    refine rx_tabIn (tgt := 127) dX11_reckon_59 (by decide) (by decide) rfl (by decide) ?_
    refine rx_aload_n dX11_reckon_127 rfl rfl ?_
    refine rx_lload dX11_reckon_128 rfl ?_
    refine rx_lload_n dX11_reckon_130 rfl ?_
    refine rx_lsub dX11_reckon_131 ?_
    refine gv_invV (as := [.long _]) hG okX11_push lk_RX11_221 rfl rfl dX11_reckon_132 rfl (by simp [Value.category]) (cr_push hG hY2 (by omega) (by (try simp only [List.length_cons, List.length_nil]); omega) _) ?_
    rintro _ _ ⟨rfl, _, rfl, hY3⟩
    refine rx_goto (tgt := 271) dX11_reckon_135 (by decide) ?_
    exact rx_vret rfl dX11_reckon_271 ⟨rfl, _, rfl, Or.inl ⟨_, (if_neg (by decide)).trans ((if_neg (fun h => absurd h.1 (by decide))).trans rfl), hY3⟩⟩
  · refine rx_aload_n dX11_reckon_0 rfl rfl ?_
    refine gv_invV (as := []) hG okX11_pop lk_RX11_262 rfl rfl dX11_reckon_1 rfl (by simp [Value.category]) (cr_pop hG hY (by omega)) ?_
    rintro _ _ ⟨rfl, _, rfl, hY1⟩
    refine rx_lstore_n dX11_reckon_4 (by decide) ?_
    refine rx_iload_n dX11_reckon_5 rfl ?_
    refine rx_bipush (v := nI 18) dX11_reckon_6 rfl ?_
    refine rx_icmp_ne (tgt := 27) dX11_reckon_8 (by decide) (fun h8 => ?_) (fun h8 => (absurd h8 (by decide))) 
    refine rx_aload_n dX11_reckon_27 rfl rfl ?_
    refine gv_invV (as := []) hG okX11_pop lk_RX11_262 rfl rfl dX11_reckon_28 rfl (by simp [Value.category]) (cr_pop hG hY1 (by omega)) ?_
    rintro _ _ ⟨rfl, _, rfl, hY2⟩
    refine rx_lstore dX11_reckon_31 (by decide) ?_
    refine rx_iload_n dX11_reckon_33 rfl ?_
    refine rx_bipush (v := nI 9) dX11_reckon_34 rfl ?_
    refine rx_icmp_eq (tgt := 45) dX11_reckon_36 (by decide) (fun h36 => (absurd h36 (by decide))) (fun h36 => ?_)
    refine rx_iload_n dX11_reckon_39 rfl ?_
    refine rx_bipush (v := nI 10) dX11_reckon_40 rfl ?_
    refine rx_icmp_ne (tgt := 58) dX11_reckon_42 (by decide) (fun h42 => ?_) (fun h42 => (absurd h42 (by decide))) 
    refine rx_iload_n dX11_reckon_58 rfl ?_
    refine rx_tabIn (tgt := 138) dX11_reckon_59 (by decide) (by decide) rfl (by decide) ?_
    refine rx_aload_n dX11_reckon_138 rfl rfl ?_
    refine rx_lload dX11_reckon_139 rfl ?_
    refine rx_lload_n dX11_reckon_141 rfl ?_
    refine rx_lmul dX11_reckon_142 ?_
    refine gv_invV (as := [.long _]) hG okX11_push lk_RX11_221 rfl rfl dX11_reckon_143 rfl (by simp [Value.category]) (cr_push hG hY2 (by omega) (by (try simp only [List.length_cons, List.length_nil]); omega) _) ?_
    rintro _ _ ⟨rfl, _, rfl, hY3⟩
    refine rx_goto (tgt := 271) dX11_reckon_146 (by decide) ?_
    exact rx_vret rfl dX11_reckon_271 ⟨rfl, _, rfl, Or.inl ⟨_, (if_neg (by decide)).trans ((if_neg (fun h => absurd h.1 (by decide))).trans rfl), hY3⟩⟩
  · refine rx_aload_n dX11_reckon_0 rfl rfl ?_
    refine gv_invV (as := []) hG okX11_pop lk_RX11_262 rfl rfl dX11_reckon_1 rfl (by simp [Value.category]) (cr_pop hG hY (by omega)) ?_
    rintro _ _ ⟨rfl, _, rfl, hY1⟩
    refine rx_lstore_n dX11_reckon_4 (by decide) ?_
    refine rx_iload_n dX11_reckon_5 rfl ?_
    refine rx_bipush (v := nI 18) dX11_reckon_6 rfl ?_
    refine rx_icmp_ne (tgt := 27) dX11_reckon_8 (by decide) (fun h8 => ?_) (fun h8 => (absurd h8 (by decide))) 
    refine rx_aload_n dX11_reckon_27 rfl rfl ?_
    refine gv_invV (as := []) hG okX11_pop lk_RX11_262 rfl rfl dX11_reckon_28 rfl (by simp [Value.category]) (cr_pop hG hY1 (by omega)) ?_
    rintro _ _ ⟨rfl, _, rfl, hY2⟩
    refine rx_lstore dX11_reckon_31 (by decide) ?_
    refine rx_iload_n dX11_reckon_33 rfl ?_
    refine rx_bipush (v := nI 9) dX11_reckon_34 rfl ?_
    refine rx_icmp_eq (tgt := 45) dX11_reckon_36 (by decide) (fun h36 => ?_) (fun h36 => (absurd h36 (by decide))) 
    refine rx_lload_n dX11_reckon_45 rfl ?_
    refine rx_lconst (v := lN 0) dX11_reckon_46 rfl ?_
    refine rx_lc_ne (tgt := 58) dX11_reckon_47 dX11_reckon_48 (by decide) (fun h47 => ?_) (fun h47 => ?_)
    · refine rx_iload_n dX11_reckon_58 rfl ?_
      refine rx_tabIn (tgt := 149) dX11_reckon_59 (by decide) (by decide) rfl (by decide) ?_
      refine rx_aload_n dX11_reckon_149 rfl rfl ?_
      refine rx_lload dX11_reckon_150 rfl ?_
      refine rx_lload_n dX11_reckon_152 rfl ?_
      refine rx_ldiv dX11_reckon_153 h47 ?_
      refine gv_invV (as := [.long _]) hG okX11_push lk_RX11_221 rfl rfl dX11_reckon_154 rfl (by simp [Value.category]) (cr_push hG hY2 (by omega) (by (try simp only [List.length_cons, List.length_nil]); omega) _) ?_
      rintro _ _ ⟨rfl, _, rfl, hY3⟩
      refine rx_goto (tgt := 271) dX11_reckon_157 (by decide) ?_
      exact rx_vret rfl dX11_reckon_271 ⟨rfl, _, rfl, Or.inl ⟨_, (if_neg (by decide)).trans ((if_neg (fun h => h47 h.2)).trans rfl), hY3⟩⟩
    · refine rx_aload_n dX11_reckon_51 rfl rfl ?_
      refine rx_iconst (v := nI 3) dX11_reckon_52 rfl ?_
      refine rx_lconst (v := lN 0) dX11_reckon_53 rfl ?_
      refine gv_invV (as := [.int _, .long _]) hG okX11_finish lk_RX11_231 rfl rfl dX11_reckon_54 rfl (by simp [Value.category]) (cr_fin3 hG hY2 (by omega) hw _) ?_
      rintro _ _ ⟨rfl, _, rfl, hF⟩
      exact rx_vret rfl dX11_reckon_57 ⟨rfl, _, rfl, rm_onE ((if_neg (by decide)).trans (if_pos ⟨by decide, h47⟩)) hF⟩
  · refine rx_aload_n dX11_reckon_0 rfl rfl ?_
    refine gv_invV (as := []) hG okX11_pop lk_RX11_262 rfl rfl dX11_reckon_1 rfl (by simp [Value.category]) (cr_pop hG hY (by omega)) ?_
    rintro _ _ ⟨rfl, _, rfl, hY1⟩
    refine rx_lstore_n dX11_reckon_4 (by decide) ?_
    refine rx_iload_n dX11_reckon_5 rfl ?_
    refine rx_bipush (v := nI 18) dX11_reckon_6 rfl ?_
    refine rx_icmp_ne (tgt := 27) dX11_reckon_8 (by decide) (fun h8 => ?_) (fun h8 => (absurd h8 (by decide))) 
    refine rx_aload_n dX11_reckon_27 rfl rfl ?_
    refine gv_invV (as := []) hG okX11_pop lk_RX11_262 rfl rfl dX11_reckon_28 rfl (by simp [Value.category]) (cr_pop hG hY1 (by omega)) ?_
    rintro _ _ ⟨rfl, _, rfl, hY2⟩
    refine rx_lstore dX11_reckon_31 (by decide) ?_
    refine rx_iload_n dX11_reckon_33 rfl ?_
    refine rx_bipush (v := nI 9) dX11_reckon_34 rfl ?_
    refine rx_icmp_eq (tgt := 45) dX11_reckon_36 (by decide) (fun h36 => (absurd h36 (by decide))) (fun h36 => ?_)
    refine rx_iload_n dX11_reckon_39 rfl ?_
    refine rx_bipush (v := nI 10) dX11_reckon_40 rfl ?_
    refine rx_icmp_ne (tgt := 58) dX11_reckon_42 (by decide) (fun h42 => (absurd h42 (by decide))) (fun h42 => ?_)
    refine rx_lload_n dX11_reckon_45 rfl ?_
    refine rx_lconst (v := lN 0) dX11_reckon_46 rfl ?_
    refine rx_lc_ne (tgt := 58) dX11_reckon_47 dX11_reckon_48 (by decide) (fun h47 => ?_) (fun h47 => ?_)
    · refine rx_iload_n dX11_reckon_58 rfl ?_
      refine rx_tabIn (tgt := 160) dX11_reckon_59 (by decide) (by decide) rfl (by decide) ?_
      refine rx_aload_n dX11_reckon_160 rfl rfl ?_
      refine rx_lload dX11_reckon_161 rfl ?_
      refine rx_lload_n dX11_reckon_163 rfl ?_
      refine rx_lrem dX11_reckon_164 h47 ?_
      refine gv_invV (as := [.long _]) hG okX11_push lk_RX11_221 rfl rfl dX11_reckon_165 rfl (by simp [Value.category]) (cr_push hG hY2 (by omega) (by (try simp only [List.length_cons, List.length_nil]); omega) _) ?_
      rintro _ _ ⟨rfl, _, rfl, hY3⟩
      refine rx_goto (tgt := 271) dX11_reckon_168 (by decide) ?_
      exact rx_vret rfl dX11_reckon_271 ⟨rfl, _, rfl, Or.inl ⟨_, (if_neg (by decide)).trans ((if_neg (fun h => h47 h.2)).trans rfl), hY3⟩⟩
    · refine rx_aload_n dX11_reckon_51 rfl rfl ?_
      refine rx_iconst (v := nI 3) dX11_reckon_52 rfl ?_
      refine rx_lconst (v := lN 0) dX11_reckon_53 rfl ?_
      refine gv_invV (as := [.int _, .long _]) hG okX11_finish lk_RX11_231 rfl rfl dX11_reckon_54 rfl (by simp [Value.category]) (cr_fin3 hG hY2 (by omega) hw _) ?_
      rintro _ _ ⟨rfl, _, rfl, hF⟩
      exact rx_vret rfl dX11_reckon_57 ⟨rfl, _, rfl, rm_onE ((if_neg (by decide)).trans (if_pos ⟨by decide, h47⟩)) hF⟩
  · refine rx_aload_n dX11_reckon_0 rfl rfl ?_
    refine gv_invV (as := []) hG okX11_pop lk_RX11_262 rfl rfl dX11_reckon_1 rfl (by simp [Value.category]) (cr_pop hG hY (by omega)) ?_
    rintro _ _ ⟨rfl, _, rfl, hY1⟩
    refine rx_lstore_n dX11_reckon_4 (by decide) ?_
    refine rx_iload_n dX11_reckon_5 rfl ?_
    refine rx_bipush (v := nI 18) dX11_reckon_6 rfl ?_
    refine rx_icmp_ne (tgt := 27) dX11_reckon_8 (by decide) (fun h8 => ?_) (fun h8 => (absurd h8 (by decide))) 
    refine rx_aload_n dX11_reckon_27 rfl rfl ?_
    refine gv_invV (as := []) hG okX11_pop lk_RX11_262 rfl rfl dX11_reckon_28 rfl (by simp [Value.category]) (cr_pop hG hY1 (by omega)) ?_
    rintro _ _ ⟨rfl, _, rfl, hY2⟩
    refine rx_lstore dX11_reckon_31 (by decide) ?_
    refine rx_iload_n dX11_reckon_33 rfl ?_
    refine rx_bipush (v := nI 9) dX11_reckon_34 rfl ?_
    refine rx_icmp_eq (tgt := 45) dX11_reckon_36 (by decide) (fun h36 => (absurd h36 (by decide))) (fun h36 => ?_)
    refine rx_iload_n dX11_reckon_39 rfl ?_
    refine rx_bipush (v := nI 10) dX11_reckon_40 rfl ?_
    refine rx_icmp_ne (tgt := 58) dX11_reckon_42 (by decide) (fun h42 => ?_) (fun h42 => (absurd h42 (by decide))) 
    refine rx_iload_n dX11_reckon_58 rfl ?_
    refine rx_tabIn (tgt := 171) dX11_reckon_59 (by decide) (by decide) rfl (by decide) ?_
    refine rx_aload_n dX11_reckon_171 rfl rfl ?_
    refine rx_lload dX11_reckon_172 rfl ?_
    refine rx_lload_n dX11_reckon_174 rfl ?_
    refine rx_land dX11_reckon_175 ?_
    refine gv_invV (as := [.long _]) hG okX11_push lk_RX11_221 rfl rfl dX11_reckon_176 rfl (by simp [Value.category]) (cr_push hG hY2 (by omega) (by (try simp only [List.length_cons, List.length_nil]); omega) _) ?_
    rintro _ _ ⟨rfl, _, rfl, hY3⟩
    refine rx_goto (tgt := 271) dX11_reckon_179 (by decide) ?_
    exact rx_vret rfl dX11_reckon_271 ⟨rfl, _, rfl, Or.inl ⟨_, (if_neg (by decide)).trans ((if_neg (fun h => absurd h.1 (by decide))).trans rfl), hY3⟩⟩
  · refine rx_aload_n dX11_reckon_0 rfl rfl ?_
    refine gv_invV (as := []) hG okX11_pop lk_RX11_262 rfl rfl dX11_reckon_1 rfl (by simp [Value.category]) (cr_pop hG hY (by omega)) ?_
    rintro _ _ ⟨rfl, _, rfl, hY1⟩
    refine rx_lstore_n dX11_reckon_4 (by decide) ?_
    refine rx_iload_n dX11_reckon_5 rfl ?_
    refine rx_bipush (v := nI 18) dX11_reckon_6 rfl ?_
    refine rx_icmp_ne (tgt := 27) dX11_reckon_8 (by decide) (fun h8 => ?_) (fun h8 => (absurd h8 (by decide))) 
    refine rx_aload_n dX11_reckon_27 rfl rfl ?_
    refine gv_invV (as := []) hG okX11_pop lk_RX11_262 rfl rfl dX11_reckon_28 rfl (by simp [Value.category]) (cr_pop hG hY1 (by omega)) ?_
    rintro _ _ ⟨rfl, _, rfl, hY2⟩
    refine rx_lstore dX11_reckon_31 (by decide) ?_
    refine rx_iload_n dX11_reckon_33 rfl ?_
    refine rx_bipush (v := nI 9) dX11_reckon_34 rfl ?_
    refine rx_icmp_eq (tgt := 45) dX11_reckon_36 (by decide) (fun h36 => (absurd h36 (by decide))) (fun h36 => ?_)
    refine rx_iload_n dX11_reckon_39 rfl ?_
    refine rx_bipush (v := nI 10) dX11_reckon_40 rfl ?_
    refine rx_icmp_ne (tgt := 58) dX11_reckon_42 (by decide) (fun h42 => ?_) (fun h42 => (absurd h42 (by decide))) 
    refine rx_iload_n dX11_reckon_58 rfl ?_
    refine rx_tabIn (tgt := 182) dX11_reckon_59 (by decide) (by decide) rfl (by decide) ?_
    refine rx_aload_n dX11_reckon_182 rfl rfl ?_
    refine rx_lload dX11_reckon_183 rfl ?_
    refine rx_lload_n dX11_reckon_185 rfl ?_
    refine rx_lor dX11_reckon_186 ?_
    refine gv_invV (as := [.long _]) hG okX11_push lk_RX11_221 rfl rfl dX11_reckon_187 rfl (by simp [Value.category]) (cr_push hG hY2 (by omega) (by (try simp only [List.length_cons, List.length_nil]); omega) _) ?_
    rintro _ _ ⟨rfl, _, rfl, hY3⟩
    refine rx_goto (tgt := 271) dX11_reckon_190 (by decide) ?_
    exact rx_vret rfl dX11_reckon_271 ⟨rfl, _, rfl, Or.inl ⟨_, (if_neg (by decide)).trans ((if_neg (fun h => absurd h.1 (by decide))).trans rfl), hY3⟩⟩
  · refine rx_aload_n dX11_reckon_0 rfl rfl ?_
    refine gv_invV (as := []) hG okX11_pop lk_RX11_262 rfl rfl dX11_reckon_1 rfl (by simp [Value.category]) (cr_pop hG hY (by omega)) ?_
    rintro _ _ ⟨rfl, _, rfl, hY1⟩
    refine rx_lstore_n dX11_reckon_4 (by decide) ?_
    refine rx_iload_n dX11_reckon_5 rfl ?_
    refine rx_bipush (v := nI 18) dX11_reckon_6 rfl ?_
    refine rx_icmp_ne (tgt := 27) dX11_reckon_8 (by decide) (fun h8 => ?_) (fun h8 => (absurd h8 (by decide))) 
    refine rx_aload_n dX11_reckon_27 rfl rfl ?_
    refine gv_invV (as := []) hG okX11_pop lk_RX11_262 rfl rfl dX11_reckon_28 rfl (by simp [Value.category]) (cr_pop hG hY1 (by omega)) ?_
    rintro _ _ ⟨rfl, _, rfl, hY2⟩
    refine rx_lstore dX11_reckon_31 (by decide) ?_
    refine rx_iload_n dX11_reckon_33 rfl ?_
    refine rx_bipush (v := nI 9) dX11_reckon_34 rfl ?_
    refine rx_icmp_eq (tgt := 45) dX11_reckon_36 (by decide) (fun h36 => (absurd h36 (by decide))) (fun h36 => ?_)
    refine rx_iload_n dX11_reckon_39 rfl ?_
    refine rx_bipush (v := nI 10) dX11_reckon_40 rfl ?_
    refine rx_icmp_ne (tgt := 58) dX11_reckon_42 (by decide) (fun h42 => ?_) (fun h42 => (absurd h42 (by decide))) 
    refine rx_iload_n dX11_reckon_58 rfl ?_
    refine rx_tabIn (tgt := 193) dX11_reckon_59 (by decide) (by decide) rfl (by decide) ?_
    refine rx_aload_n dX11_reckon_193 rfl rfl ?_
    refine rx_lload dX11_reckon_194 rfl ?_
    refine rx_lload_n dX11_reckon_196 rfl ?_
    refine rx_lxor dX11_reckon_197 ?_
    refine gv_invV (as := [.long _]) hG okX11_push lk_RX11_221 rfl rfl dX11_reckon_198 rfl (by simp [Value.category]) (cr_push hG hY2 (by omega) (by (try simp only [List.length_cons, List.length_nil]); omega) _) ?_
    rintro _ _ ⟨rfl, _, rfl, hY3⟩
    refine rx_goto (tgt := 271) dX11_reckon_201 (by decide) ?_
    exact rx_vret rfl dX11_reckon_271 ⟨rfl, _, rfl, Or.inl ⟨_, (if_neg (by decide)).trans ((if_neg (fun h => absurd h.1 (by decide))).trans rfl), hY3⟩⟩
  · refine rx_aload_n dX11_reckon_0 rfl rfl ?_
    refine gv_invV (as := []) hG okX11_pop lk_RX11_262 rfl rfl dX11_reckon_1 rfl (by simp [Value.category]) (cr_pop hG hY (by omega)) ?_
    rintro _ _ ⟨rfl, _, rfl, hY1⟩
    refine rx_lstore_n dX11_reckon_4 (by decide) ?_
    refine rx_iload_n dX11_reckon_5 rfl ?_
    refine rx_bipush (v := nI 18) dX11_reckon_6 rfl ?_
    refine rx_icmp_ne (tgt := 27) dX11_reckon_8 (by decide) (fun h8 => ?_) (fun h8 => (absurd h8 (by decide))) 
    refine rx_aload_n dX11_reckon_27 rfl rfl ?_
    refine gv_invV (as := []) hG okX11_pop lk_RX11_262 rfl rfl dX11_reckon_28 rfl (by simp [Value.category]) (cr_pop hG hY1 (by omega)) ?_
    rintro _ _ ⟨rfl, _, rfl, hY2⟩
    refine rx_lstore dX11_reckon_31 (by decide) ?_
    refine rx_iload_n dX11_reckon_33 rfl ?_
    refine rx_bipush (v := nI 9) dX11_reckon_34 rfl ?_
    refine rx_icmp_eq (tgt := 45) dX11_reckon_36 (by decide) (fun h36 => (absurd h36 (by decide))) (fun h36 => ?_)
    refine rx_iload_n dX11_reckon_39 rfl ?_
    refine rx_bipush (v := nI 10) dX11_reckon_40 rfl ?_
    refine rx_icmp_ne (tgt := 58) dX11_reckon_42 (by decide) (fun h42 => ?_) (fun h42 => (absurd h42 (by decide))) 
    refine rx_iload_n dX11_reckon_58 rfl ?_
    refine rx_tabIn (tgt := 204) dX11_reckon_59 (by decide) (by decide) rfl (by decide) ?_
    refine rx_aload_n dX11_reckon_204 rfl rfl ?_
    refine rx_lload dX11_reckon_205 rfl ?_
    refine rx_lload_n dX11_reckon_207 rfl ?_
    refine rx_ldc2 hG hw_890 dX11_reckon_208 ?_
    refine rx_tl (y := lN 63) rfl ?_
    refine rx_land dX11_reckon_211 ?_
    refine rx_l2i dX11_reckon_212 ?_
    refine rx_lshl dX11_reckon_213 ?_
    refine rx_tl (y := x <<< (y &&& 63)) (congrArg (x <<< ·) (sh63a y)) ?_
    refine gv_invV (as := [.long _]) hG okX11_push lk_RX11_221 rfl rfl dX11_reckon_214 rfl (by simp [Value.category]) (cr_push hG hY2 (by omega) (by (try simp only [List.length_cons, List.length_nil]); omega) _) ?_
    rintro _ _ ⟨rfl, _, rfl, hY3⟩
    refine rx_goto (tgt := 271) dX11_reckon_217 (by decide) ?_
    exact rx_vret rfl dX11_reckon_271 ⟨rfl, _, rfl, Or.inl ⟨_, (if_neg (by decide)).trans ((if_neg (fun h => absurd h.1 (by decide))).trans rfl), hY3⟩⟩
  · refine rx_aload_n dX11_reckon_0 rfl rfl ?_
    refine gv_invV (as := []) hG okX11_pop lk_RX11_262 rfl rfl dX11_reckon_1 rfl (by simp [Value.category]) (cr_pop hG hY (by omega)) ?_
    rintro _ _ ⟨rfl, _, rfl, hY1⟩
    refine rx_lstore_n dX11_reckon_4 (by decide) ?_
    refine rx_iload_n dX11_reckon_5 rfl ?_
    refine rx_bipush (v := nI 18) dX11_reckon_6 rfl ?_
    refine rx_icmp_ne (tgt := 27) dX11_reckon_8 (by decide) (fun h8 => ?_) (fun h8 => (absurd h8 (by decide))) 
    refine rx_aload_n dX11_reckon_27 rfl rfl ?_
    refine gv_invV (as := []) hG okX11_pop lk_RX11_262 rfl rfl dX11_reckon_28 rfl (by simp [Value.category]) (cr_pop hG hY1 (by omega)) ?_
    rintro _ _ ⟨rfl, _, rfl, hY2⟩
    refine rx_lstore dX11_reckon_31 (by decide) ?_
    refine rx_iload_n dX11_reckon_33 rfl ?_
    refine rx_bipush (v := nI 9) dX11_reckon_34 rfl ?_
    refine rx_icmp_eq (tgt := 45) dX11_reckon_36 (by decide) (fun h36 => (absurd h36 (by decide))) (fun h36 => ?_)
    refine rx_iload_n dX11_reckon_39 rfl ?_
    refine rx_bipush (v := nI 10) dX11_reckon_40 rfl ?_
    refine rx_icmp_ne (tgt := 58) dX11_reckon_42 (by decide) (fun h42 => ?_) (fun h42 => (absurd h42 (by decide))) 
    refine rx_iload_n dX11_reckon_58 rfl ?_
    refine rx_tabIn (tgt := 220) dX11_reckon_59 (by decide) (by decide) rfl (by decide) ?_
    refine rx_aload_n dX11_reckon_220 rfl rfl ?_
    refine rx_lload dX11_reckon_221 rfl ?_
    refine rx_lload_n dX11_reckon_223 rfl ?_
    refine rx_ldc2 hG hw_890 dX11_reckon_224 ?_
    refine rx_tl (y := lN 63) rfl ?_
    refine rx_land dX11_reckon_227 ?_
    refine rx_l2i dX11_reckon_228 ?_
    refine rx_lshr dX11_reckon_229 ?_
    refine rx_tl (y := x >>> (y &&& 63)) (congrArg (x >>> ·) (sh63a y)) ?_
    refine gv_invV (as := [.long _]) hG okX11_push lk_RX11_221 rfl rfl dX11_reckon_230 rfl (by simp [Value.category]) (cr_push hG hY2 (by omega) (by (try simp only [List.length_cons, List.length_nil]); omega) _) ?_
    rintro _ _ ⟨rfl, _, rfl, hY3⟩
    refine rx_goto (tgt := 271) dX11_reckon_233 (by decide) ?_
    exact rx_vret rfl dX11_reckon_271 ⟨rfl, _, rfl, Or.inl ⟨_, (if_neg (by decide)).trans ((if_neg (fun h => absurd h.1 (by decide))).trans rfl), hY3⟩⟩
  · refine rx_aload_n dX11_reckon_0 rfl rfl ?_
    refine gv_invV (as := []) hG okX11_pop lk_RX11_262 rfl rfl dX11_reckon_1 rfl (by simp [Value.category]) (cr_pop hG hY (by omega)) ?_
    rintro _ _ ⟨rfl, _, rfl, hY1⟩
    refine rx_lstore_n dX11_reckon_4 (by decide) ?_
    refine rx_iload_n dX11_reckon_5 rfl ?_
    refine rx_bipush (v := nI 18) dX11_reckon_6 rfl ?_
    refine rx_icmp_ne (tgt := 27) dX11_reckon_8 (by decide) (fun h8 => ?_) (fun h8 => (absurd h8 (by decide))) 
    refine rx_aload_n dX11_reckon_27 rfl rfl ?_
    refine gv_invV (as := []) hG okX11_pop lk_RX11_262 rfl rfl dX11_reckon_28 rfl (by simp [Value.category]) (cr_pop hG hY1 (by omega)) ?_
    rintro _ _ ⟨rfl, _, rfl, hY2⟩
    refine rx_lstore dX11_reckon_31 (by decide) ?_
    refine rx_iload_n dX11_reckon_33 rfl ?_
    refine rx_bipush (v := nI 9) dX11_reckon_34 rfl ?_
    refine rx_icmp_eq (tgt := 45) dX11_reckon_36 (by decide) (fun h36 => (absurd h36 (by decide))) (fun h36 => ?_)
    refine rx_iload_n dX11_reckon_39 rfl ?_
    refine rx_bipush (v := nI 10) dX11_reckon_40 rfl ?_
    refine rx_icmp_ne (tgt := 58) dX11_reckon_42 (by decide) (fun h42 => ?_) (fun h42 => (absurd h42 (by decide))) 
    refine rx_iload_n dX11_reckon_58 rfl ?_
    refine rx_tabIn (tgt := 236) dX11_reckon_59 (by decide) (by decide) rfl (by decide) ?_
    refine rx_aload_n dX11_reckon_236 rfl rfl ?_
    refine rx_lload dX11_reckon_237 rfl ?_
    refine rx_lload_n dX11_reckon_239 rfl ?_
    refine rx_lc_ge (tgt := 248) dX11_reckon_240 dX11_reckon_241 (by decide) (fun h240 => ?_) (fun h240 => ?_)
    · refine rx_lconst (v := lN 0) dX11_reckon_248 rfl ?_
      refine gv_invV (as := [.long _]) hG okX11_push lk_RX11_221 rfl rfl dX11_reckon_249 rfl (by simp [Value.category]) (cr_push hG hY2 (by omega) (by (try simp only [List.length_cons, List.length_nil]); omega) _) ?_
      rintro _ _ ⟨rfl, _, rfl, hY3⟩
      refine rx_goto (tgt := 271) dX11_reckon_252 (by decide) ?_
      exact rx_vret rfl dX11_reckon_271 ⟨rfl, _, rfl, Or.inl ⟨_, (if_neg (by decide)).trans ((if_neg (fun h => absurd h.1 (by decide))).trans (congrArg (fun z => ((n, e, b, ((c, a, q, s, k), (v, r), (l, o), (z :: t), w) :: fs, m), (none : Option (Nat × Int64 × Nat)))) (if_neg (Int64.not_lt.mpr h240) : (if x < y then (1 : Int64) else 0) = lN 0))), hY3⟩⟩
    · refine rx_lconst (v := lN 1) dX11_reckon_244 rfl ?_
      refine rx_goto (tgt := 249) dX11_reckon_245 (by decide) ?_
      refine gv_invV (as := [.long _]) hG okX11_push lk_RX11_221 rfl rfl dX11_reckon_249 rfl (by simp [Value.category]) (cr_push hG hY2 (by omega) (by (try simp only [List.length_cons, List.length_nil]); omega) _) ?_
      rintro _ _ ⟨rfl, _, rfl, hY3⟩
      refine rx_goto (tgt := 271) dX11_reckon_252 (by decide) ?_
      exact rx_vret rfl dX11_reckon_271 ⟨rfl, _, rfl, Or.inl ⟨_, (if_neg (by decide)).trans ((if_neg (fun h => absurd h.1 (by decide))).trans (congrArg (fun z => ((n, e, b, ((c, a, q, s, k), (v, r), (l, o), (z :: t), w) :: fs, m), (none : Option (Nat × Int64 × Nat)))) (if_pos (Int64.not_le.mp h240) : (if x < y then (1 : Int64) else 0) = lN 1))), hY3⟩⟩
  · refine rx_aload_n dX11_reckon_0 rfl rfl ?_
    refine gv_invV (as := []) hG okX11_pop lk_RX11_262 rfl rfl dX11_reckon_1 rfl (by simp [Value.category]) (cr_pop hG hY (by omega)) ?_
    rintro _ _ ⟨rfl, _, rfl, hY1⟩
    refine rx_lstore_n dX11_reckon_4 (by decide) ?_
    refine rx_iload_n dX11_reckon_5 rfl ?_
    refine rx_bipush (v := nI 18) dX11_reckon_6 rfl ?_
    refine rx_icmp_ne (tgt := 27) dX11_reckon_8 (by decide) (fun h8 => ?_) (fun h8 => (absurd h8 (by decide))) 
    refine rx_aload_n dX11_reckon_27 rfl rfl ?_
    refine gv_invV (as := []) hG okX11_pop lk_RX11_262 rfl rfl dX11_reckon_28 rfl (by simp [Value.category]) (cr_pop hG hY1 (by omega)) ?_
    rintro _ _ ⟨rfl, _, rfl, hY2⟩
    refine rx_lstore dX11_reckon_31 (by decide) ?_
    refine rx_iload_n dX11_reckon_33 rfl ?_
    refine rx_bipush (v := nI 9) dX11_reckon_34 rfl ?_
    refine rx_icmp_eq (tgt := 45) dX11_reckon_36 (by decide) (fun h36 => (absurd h36 (by decide))) (fun h36 => ?_)
    refine rx_iload_n dX11_reckon_39 rfl ?_
    refine rx_bipush (v := nI 10) dX11_reckon_40 rfl ?_
    refine rx_icmp_ne (tgt := 58) dX11_reckon_42 (by decide) (fun h42 => ?_) (fun h42 => (absurd h42 (by decide))) 
    refine rx_iload_n dX11_reckon_58 rfl ?_
    refine rx_tabOut (tgt := 255) dX11_reckon_59 (by decide) (by decide) ?_
    refine rx_aload_n dX11_reckon_255 rfl rfl ?_
    refine rx_lload dX11_reckon_256 rfl ?_
    refine rx_lload_n dX11_reckon_258 rfl ?_
    refine rx_lc_ne (tgt := 267) dX11_reckon_259 dX11_reckon_260 (by decide) (fun h259 => ?_) (fun h259 => ?_)
    · refine rx_lconst (v := lN 0) dX11_reckon_267 rfl ?_
      refine gv_invV (as := [.long _]) hG okX11_push lk_RX11_221 rfl rfl dX11_reckon_268 rfl (by simp [Value.category]) (cr_push hG hY2 (by omega) (by (try simp only [List.length_cons, List.length_nil]); omega) _) ?_
      rintro _ _ ⟨rfl, _, rfl, hY3⟩
      exact rx_vret rfl dX11_reckon_271 ⟨rfl, _, rfl, Or.inl ⟨_, (if_neg (by decide)).trans ((if_neg (fun h => absurd h.1 (by decide))).trans (congrArg (fun z => ((n, e, b, ((c, a, q, s, k), (v, r), (l, o), (z :: t), w) :: fs, m), (none : Option (Nat × Int64 × Nat)))) (if_neg h259 : (if x = y then (1 : Int64) else 0) = lN 0))), hY3⟩⟩
    · refine rx_lconst (v := lN 1) dX11_reckon_263 rfl ?_
      refine rx_goto (tgt := 268) dX11_reckon_264 (by decide) ?_
      refine gv_invV (as := [.long _]) hG okX11_push lk_RX11_221 rfl rfl dX11_reckon_268 rfl (by simp [Value.category]) (cr_push hG hY2 (by omega) (by (try simp only [List.length_cons, List.length_nil]); omega) _) ?_
      rintro _ _ ⟨rfl, _, rfl, hY3⟩
      exact rx_vret rfl dX11_reckon_271 ⟨rfl, _, rfl, Or.inl ⟨_, (if_neg (by decide)).trans ((if_neg (fun h => absurd h.1 (by decide))).trans (congrArg (fun z => ((n, e, b, ((c, a, q, s, k), (v, r), (l, o), (z :: t), w) :: fs, m), (none : Option (Nat × Int64 × Nat)))) (if_pos h259 : (if x = y then (1 : Int64) else 0) = lN 1))), hY3⟩⟩
theorem cr_not {G : rx_E} {d : Nat} {C : rx_M} {S0 S : gs_T} {g : vg_T} {n : Nat → Int64} {e : List (Nat × Int64 × Int64)} {b m c a q s k : Nat} {v r : Int64} {l o : Bool} {t : List Int64} {w : (Nat → Int64) × Nat × Nat} {fs : List vf_T} (hG : rx_OK G) {y : Int64} (hp : fs.length < 11) (hY : rm_Y S0 S g (n, e, b, ((c, a, q, s, k), (v, r), (l, o), (y :: t), w) :: fs, m) 0) : rx_C G MX11_reckon (d + 1) [.ref 52, .int (nI 18)] (gl C S) 0 0 (rq_on C S0 g (vm_do2 (n, e, b, ((c, a, q, s, k), (v, r), (l, o), (y :: t), w) :: fs, m) 18 ((c, a, q, s, k), (v, r), (l, o), (y :: t), w) fs)) := by
  refine rx_meth0 (by decide +kernel) rfl (Nat.le_of_ble_eq_true rfl) ?_
  have ht : t.length + 1 ≤ 24 := rY_n hY
  refine rx_aload_n dX11_reckon_0 rfl rfl ?_
  refine gv_invV (as := []) hG okX11_pop lk_RX11_262 rfl rfl dX11_reckon_1 rfl (by simp [Value.category]) (cr_pop hG hY (by omega)) ?_
  rintro _ _ ⟨rfl, _, rfl, hY1⟩
  refine rx_lstore_n dX11_reckon_4 (by decide) ?_
  refine rx_iload_n dX11_reckon_5 rfl ?_
  refine rx_bipush (v := nI 18) dX11_reckon_6 rfl ?_
  refine rx_icmp_ne (tgt := 27) dX11_reckon_8 (by decide) (fun h8 => (absurd h8 (by decide))) (fun h8 => ?_)
  refine rx_aload_n dX11_reckon_11 rfl rfl ?_
  refine rx_lload_n dX11_reckon_12 rfl ?_
  refine rx_lconst (v := lN 0) dX11_reckon_13 rfl ?_
  refine rx_lc_ne (tgt := 22) dX11_reckon_14 dX11_reckon_15 (by decide) (fun h14 => ?_) (fun h14 => ?_)
  · refine rx_lconst (v := lN 0) dX11_reckon_22 rfl ?_
    refine gv_invV (as := [.long _]) hG okX11_push lk_RX11_221 rfl rfl dX11_reckon_23 rfl (by simp [Value.category]) (cr_push hG hY1 (by omega) (by (try simp only [List.length_cons, List.length_nil]); omega) _) ?_
    rintro _ _ ⟨rfl, _, rfl, hY2⟩
    exact rx_vret rfl dX11_reckon_26 ⟨rfl, _, rfl, Or.inl ⟨_, (if_pos rfl).trans (congrArg (fun z => ((n, e, b, ((c, a, q, s, k), (v, r), (l, o), (z :: t), w) :: fs, m), (none : Option (Nat × Int64 × Nat)))) (if_neg h14 : (if y = 0 then (1 : Int64) else 0) = lN 0)), hY2⟩⟩
  · refine rx_lconst (v := lN 1) dX11_reckon_18 rfl ?_
    refine rx_goto (tgt := 23) dX11_reckon_19 (by decide) ?_
    refine gv_invV (as := [.long _]) hG okX11_push lk_RX11_221 rfl rfl dX11_reckon_23 rfl (by simp [Value.category]) (cr_push hG hY1 (by omega) (by (try simp only [List.length_cons, List.length_nil]); omega) _) ?_
    rintro _ _ ⟨rfl, _, rfl, hY2⟩
    exact rx_vret rfl dX11_reckon_26 ⟨rfl, _, rfl, Or.inl ⟨_, (if_pos rfl).trans (congrArg (fun z => ((n, e, b, ((c, a, q, s, k), (v, r), (l, o), (z :: t), w) :: fs, m), (none : Option (Nat × Int64 × Nat)))) (if_pos h14 : (if y = 0 then (1 : Int64) else 0) = lN 1)), hY2⟩⟩
theorem cr_stop {G : rx_E} {d : Nat} {C : rx_M} {S0 S : gs_T} {g : vg_T} {n : Nat → Int64} {e : List (Nat × Int64 × Int64)} {b m c a q s k : Nat} {v r : Int64} {l o : Bool} {t : List Int64} {w : (Nat → Int64) × Nat × Nat} {fs : List vf_T} (hG : rx_OK G) {mo at_ : Nat} {cd : List Nat} (hp : fs.length < 11)  (hY : rm_Y S0 S g (n, e, b, ((c, a, q, s, k), (v, r), (l, o), t, w) :: fs, m) 0) : rx_C G MX11_simple (d + 2) [.ref 52, .int (nI 0), .int (nI mo), .int (nI at_)] (gl C S) 0 0 (rq_on C S0 g (vm_do1 cd (n, e, b, ((c, a, q, s, k), (v, r), (l, o), t, w) :: fs, m) 0 mo ((c, a, q, s, k), (v, r), (l, o), t, w) fs)) := by
  refine rx_meth0 (by decide +kernel) rfl (Nat.le_of_ble_eq_true rfl) ?_
  refine rx_aload_n dX11_simple_0 rfl rfl ?_
  refine gmv_getI (v := nI (fs.length + 1)) hG hf_RX11_203 rfl dX11_simple_1 rfl rfl rfl (rY_dep hY) ?_
  refine rx_iconst (v := nI 1) dX11_simple_4 rfl ?_
  refine rx_isub dX11_simple_5 ?_
  refine rx_ti (y := nI fs.length) ((pk_sub (by omega)).trans (congrArg nI (by omega))) ?_
  refine rx_istore dX11_simple_6 (by decide) ?_
  refine rx_iload_n dX11_simple_8 rfl ?_
  refine rx_tabIn (tgt := 44) dX11_simple_9 (by decide) (by decide) rfl (by decide) ?_
  refine rx_aload_n dX11_simple_44 rfl rfl ?_
  refine rx_iconst (v := nI 1) dX11_simple_45 rfl ?_
  refine rx_lconst (v := lN 0) dX11_simple_46 rfl ?_
  refine gv_invV (as := [.int _, .long _]) hG okX11_finish lk_RX11_231 rfl rfl dX11_simple_47 rfl (by simp [Value.category]) (cr_fin1 hG hY (by omega) _) ?_
  rintro _ _ ⟨rfl, _, rfl, hF⟩
  refine rx_goto (tgt := 203) dX11_simple_50 (by decide) ?_
  exact rx_vret rfl dX11_simple_203 ⟨rfl, _, rfl, rm_onE rfl hF⟩
theorem cr_pushS {G : rx_E} {d : Nat} {C : rx_M} {S0 S : gs_T} {g : vg_T} {n : Nat → Int64} {e : List (Nat × Int64 × Int64)} {b m c a q s k : Nat} {v r : Int64} {l o : Bool} {t : List Int64} {w : (Nat → Int64) × Nat × Nat} {fs : List vf_T} (hG : rx_OK G) {mo at_ : Nat} {cd : List Nat} (hp : fs.length < 11) (ht : t.length < 24) (hY : rm_Y S0 S g (n, e, b, ((c, a, q, s, k), (v, r), (l, o), t, w) :: fs, m) 0) : rx_C G MX11_simple (d + 2) [.ref 52, .int (nI 1), .int (nI mo), .int (nI at_)] (gl C S) 0 0 (rq_on C S0 g (vm_do1 cd (n, e, b, ((c, a, q, s, k), (v, r), (l, o), t, w) :: fs, m) 1 mo ((c, a, q, s, k), (v, r), (l, o), t, w) fs)) := by
  refine rx_meth0 (by decide +kernel) rfl (Nat.le_of_ble_eq_true rfl) ?_
  refine rx_aload_n dX11_simple_0 rfl rfl ?_
  refine gmv_getI (v := nI (fs.length + 1)) hG hf_RX11_203 rfl dX11_simple_1 rfl rfl rfl (rY_dep hY) ?_
  refine rx_iconst (v := nI 1) dX11_simple_4 rfl ?_
  refine rx_isub dX11_simple_5 ?_
  refine rx_ti (y := nI fs.length) ((pk_sub (by omega)).trans (congrArg nI (by omega))) ?_
  refine rx_istore dX11_simple_6 (by decide) ?_
  refine rx_iload_n dX11_simple_8 rfl ?_
  refine rx_tabIn (tgt := 53) dX11_simple_9 (by decide) (by decide) rfl (by decide) ?_
  refine rx_aload_n dX11_simple_53 rfl rfl ?_
  refine rx_iload_n dX11_simple_54 rfl ?_
  refine rx_i2b dX11_simple_55 ?_
  refine rx_i2l dX11_simple_56 ?_
  refine rx_tl (y := (nI mo).toInt8.toInt32.toInt64) rfl ?_
  refine gv_invV (as := [.long _]) hG okX11_push lk_RX11_221 rfl rfl dX11_simple_57 rfl (by simp [Value.category]) (cr_push hG hY (by omega) (by (try simp only [List.length_cons, List.length_nil]); omega) _) ?_
  rintro _ _ ⟨rfl, _, rfl, hY1⟩
  refine rx_goto (tgt := 203) dX11_simple_60 (by decide) ?_
  exact rx_vret rfl dX11_simple_203 ⟨rfl, _, rfl, Or.inl ⟨_, rfl, hY1⟩⟩
theorem cr_popS {G : rx_E} {d : Nat} {C : rx_M} {S0 S : gs_T} {g : vg_T} {n : Nat → Int64} {e : List (Nat × Int64 × Int64)} {b m c a q s k : Nat} {v r : Int64} {l o : Bool} {t : List Int64} {w : (Nat → Int64) × Nat × Nat} {fs : List vf_T} (hG : rx_OK G) {mo at_ : Nat} {cd : List Nat} (hp : fs.length < 11) {y : Int64} (hY : rm_Y S0 S g (n, e, b, ((c, a, q, s, k), (v, r), (l, o), (y :: t), w) :: fs, m) 0) : rx_C G MX11_simple (d + 2) [.ref 52, .int (nI 3), .int (nI mo), .int (nI at_)] (gl C S) 0 0 (rq_on C S0 g (vm_do1 cd (n, e, b, ((c, a, q, s, k), (v, r), (l, o), (y :: t), w) :: fs, m) 3 mo ((c, a, q, s, k), (v, r), (l, o), (y :: t), w) fs)) := by
  refine rx_meth0 (by decide +kernel) rfl (Nat.le_of_ble_eq_true rfl) ?_
  refine rx_aload_n dX11_simple_0 rfl rfl ?_
  refine gmv_getI (v := nI (fs.length + 1)) hG hf_RX11_203 rfl dX11_simple_1 rfl rfl rfl (rY_dep hY) ?_
  refine rx_iconst (v := nI 1) dX11_simple_4 rfl ?_
  refine rx_isub dX11_simple_5 ?_
  refine rx_ti (y := nI fs.length) ((pk_sub (by omega)).trans (congrArg nI (by omega))) ?_
  refine rx_istore dX11_simple_6 (by decide) ?_
  refine rx_iload_n dX11_simple_8 rfl ?_
  refine rx_tabIn (tgt := 109) dX11_simple_9 (by decide) (by decide) rfl (by decide) ?_
  refine rx_aload_n dX11_simple_109 rfl rfl ?_
  refine gv_invV (as := []) hG okX11_pop lk_RX11_262 rfl rfl dX11_simple_110 rfl (by simp [Value.category]) (cr_pop hG hY (by omega)) ?_
  rintro _ _ ⟨rfl, _, rfl, hY1⟩
  refine rx_lstore dX11_simple_113 (by decide) ?_
  refine rx_goto (tgt := 203) dX11_simple_115 (by decide) ?_
  exact rx_vret rfl dX11_simple_203 ⟨rfl, _, rfl, Or.inl ⟨_, rfl, hY1⟩⟩
theorem cr_dup {G : rx_E} {d : Nat} {C : rx_M} {S0 S : gs_T} {g : vg_T} {n : Nat → Int64} {e : List (Nat × Int64 × Int64)} {b m c a q s k : Nat} {v r : Int64} {l o : Bool} {t : List Int64} {w : (Nat → Int64) × Nat × Nat} {fs : List vf_T} (hG : rx_OK G) {mo at_ : Nat} {cd : List Nat} (hp : fs.length < 11) {j : Nat} (hj : t.length = mo + 1 + j) (ht : t.length < 24) (hY : rm_Y S0 S g (n, e, b, ((c, a, q, s, k), (v, r), (l, o), t, w) :: fs, m) 0) : rx_C G MX11_simple (d + 2) [.ref 52, .int (nI 4), .int (nI mo), .int (nI at_)] (gl C S) 0 0 (rq_on C S0 g (vm_do1 cd (n, e, b, ((c, a, q, s, k), (v, r), (l, o), t, w) :: fs, m) 4 mo ((c, a, q, s, k), (v, r), (l, o), t, w) fs)) := by
  refine rx_meth0 (by decide +kernel) rfl (Nat.le_of_ble_eq_true rfl) ?_
  refine rx_aload_n dX11_simple_0 rfl rfl ?_
  refine gmv_getI (v := nI (fs.length + 1)) hG hf_RX11_203 rfl dX11_simple_1 rfl rfl rfl (rY_dep hY) ?_
  refine rx_iconst (v := nI 1) dX11_simple_4 rfl ?_
  refine rx_isub dX11_simple_5 ?_
  refine rx_ti (y := nI fs.length) ((pk_sub (by omega)).trans (congrArg nI (by omega))) ?_
  refine rx_istore dX11_simple_6 (by decide) ?_
  refine rx_iload_n dX11_simple_8 rfl ?_
  refine rx_tabIn (tgt := 118) dX11_simple_9 (by decide) (by decide) rfl (by decide) ?_
  refine rx_aload_n dX11_simple_118 rfl rfl ?_
  refine rx_aload_n dX11_simple_119 rfl rfl ?_
  refine g_getR hG hf_RX11_138 rfl dX11_simple_120 rfl rfl rfl ?_
  refine rx_bipush (v := nI 24) dX11_simple_123 rfl ?_
  refine rx_iload dX11_simple_125 rfl ?_
  refine rx_imul dX11_simple_127 ?_
  refine rx_ti (y := nI (24 * fs.length)) ((pk_mul _ _).trans (congrArg nI (by omega))) ?_
  refine rx_aload_n dX11_simple_128 rfl rfl ?_
  refine g_getR hG hf_RX11_141 rfl dX11_simple_129 rfl rfl rfl ?_
  refine rx_iload dX11_simple_132 rfl ?_
  refine gmv_iald (j := fs.length) (v := nI (j + mo + 1)) hG dX11_simple_134 rfl rfl rfl rfl (by omega) (by decide) ((rY_size hY).trans (congrArg nI (by omega))) ?_
  refine rx_iadd dX11_simple_135 ?_
  refine rx_ti (y := nI (24 * fs.length + j + mo + 1)) ((nI_add _ _).trans (congrArg nI (by omega))) ?_
  refine rx_iconst (v := nI 1) dX11_simple_136 rfl ?_
  refine rx_isub dX11_simple_137 ?_
  refine rx_ti (y := nI (24 * fs.length + j + mo)) ((pk_sub (by omega)).trans (congrArg nI (by omega))) ?_
  refine rx_iload_n dX11_simple_138 rfl ?_
  refine rx_isub dX11_simple_139 ?_
  refine rx_ti (y := nI (24 * fs.length + j)) ((pk_sub (by omega)).trans (congrArg nI (by omega))) ?_
  refine gmv_lald (j := 24 * fs.length + j) (v := t.getD mo 0) hG dX11_simple_140 rfl rfl rfl rfl (by omega) (by decide) ((by rw [show 24 * fs.length + j = 24 * fs.length + (t.length - 1 - mo) by omega]; exact rm_T_get (by omega) (rY_T hY))) ?_
  refine gv_invV (as := [.long _]) hG okX11_push lk_RX11_221 rfl rfl dX11_simple_141 rfl (by simp [Value.category]) (cr_push hG hY (by omega) (by (try simp only [List.length_cons, List.length_nil]); omega) _) ?_
  rintro _ _ ⟨rfl, _, rfl, hY1⟩
  refine rx_goto (tgt := 203) dX11_simple_144 (by decide) ?_
  exact rx_vret rfl dX11_simple_203 ⟨rfl, _, rfl, Or.inl ⟨_, rfl, hY1⟩⟩
theorem rm_T_mk {S : gs_T} {p : Nat} : ∀ {t : List Int64}, (∀ i, i < t.length → S.2 95 (24 * p + (t.length - 1 - i)) = t.getD i 0) → rm_T S p t
  | [], _ => trivial
  | v :: r, h => by
    refine ⟨by simpa using h 0 (by simp), rm_T_mk (fun i hi => ?_)⟩
    have h1 := h (i + 1) (by simp; omega)
    have h2 : (v :: r).length - 1 - (i + 1) = r.length - 1 - i := by simp; omega
    rw [h2] at h1
    simpa using h1
theorem rY_swap {S0 S : gs_T} {g : vg_T} {n : Nat → Int64} {e : List (Nat × Int64 × Int64)} {b m E c a q s k : Nat} {v r : Int64} {l o : Bool} {t : List Int64} {w : (Nat → Int64) × Nat × Nat} {fs : List vf_T} (h : rm_Y S0 S g (n, e, b, ((c, a, q, s, k), (v, r), (l, o), t, w) :: fs, m) E) {mo j : Nat} (hj : t.length = mo + 1 + j) : rm_Y S0 (S.1, rx_u (rx_u S.2 95 (24 * fs.length + j + mo) (t.getD mo 0)) 95 (24 * fs.length + j) (t.getD 0 0)) g (n, e, b, ((c, a, q, s, k), (v, r), (l, o), (t.set 0 (t.getD mo 0)).set mo (t.getD 0 0), w) :: fs, m) E := by
  refine rY_top h (rm_near_trans (rm_near_T (j := 24 * fs.length + j + mo) (by omega)) (rm_near_T (S := (S.1, rx_u S.2 95 (24 * fs.length + j + mo) (t.getD mo 0))) (by omega))) ?_
  obtain ⟨⟨h1, h2, h3, h4, h5⟩, ⟨h6, h7⟩, ⟨h8, h9⟩, ⟨h10, h11, h12⟩, ⟨h13, h14, h15⟩⟩ := rY_F h
  refine ⟨⟨h1, h2, by simpa [rx_ru] using h3, h4, h5⟩, ⟨by simpa [rx_ru] using h6, by simpa [rx_ru] using h7⟩, ⟨h8, h9⟩, ⟨by simpa [fT] using h10, by simpa [fT] using h11, rm_T_mk (fun i hi => ?_)⟩, ⟨fun j hj => by simpa [rx_ru] using h13 j hj, h14, h15⟩⟩
  have hl : ((t.set 0 (t.getD mo 0)).set mo (t.getD 0 0)).length = t.length := by simp
  have hi : i < t.length := by rw [← hl]; exact hi
  show rx_u (rx_u S.2 95 _ _) 95 _ _ 95 (24 * fs.length + (((t.set 0 (t.getD mo 0)).set mo (t.getD 0 0)).length - 1 - i)) = ((t.set 0 (t.getD mo 0)).set mo (t.getD 0 0)).getD i 0
  rw [hl, rx_ru, if_pos rfl, rx_ru, if_pos rfl]
  rw [List.getD_eq_getElem?_getD (l := List.set _ _ _), List.getElem?_set, List.getElem?_set, List.length_set]
  by_cases e1 : i = mo
  · rw [if_pos (by omega), if_pos e1.symm, if_pos (by omega)]; rfl
  · rw [if_neg (show ¬ 24 * fs.length + (t.length - 1 - i) = 24 * fs.length + j by omega), if_neg (show ¬ mo = i from fun h => e1 h.symm)]
    by_cases e2 : i = 0
    · rw [if_pos (show 24 * fs.length + (t.length - 1 - i) = 24 * fs.length + j + mo by omega), if_pos e2.symm, if_pos (by omega)]; rfl
    · rw [if_neg (show ¬ 24 * fs.length + (t.length - 1 - i) = 24 * fs.length + j + mo by omega), if_neg (show ¬ 0 = i from fun h => e2 h.symm), ← List.getD_eq_getElem?_getD]
      exact rm_T_get hi h12
theorem cr_swap {G : rx_E} {d : Nat} {C : rx_M} {S0 S : gs_T} {g : vg_T} {n : Nat → Int64} {e : List (Nat × Int64 × Int64)} {b m c a q s k : Nat} {v r : Int64} {l o : Bool} {t : List Int64} {w : (Nat → Int64) × Nat × Nat} {fs : List vf_T} (hG : rx_OK G) {mo at_ : Nat} {cd : List Nat} (hp : fs.length < 11) {j : Nat} (hj : t.length = mo + 1 + j) (hY : rm_Y S0 S g (n, e, b, ((c, a, q, s, k), (v, r), (l, o), t, w) :: fs, m) 0) : rx_C G MX11_simple (d + 2) [.ref 52, .int (nI 5), .int (nI mo), .int (nI at_)] (gl C S) 0 0 (rq_on C S0 g (vm_do1 cd (n, e, b, ((c, a, q, s, k), (v, r), (l, o), t, w) :: fs, m) 5 mo ((c, a, q, s, k), (v, r), (l, o), t, w) fs)) := by
  refine rx_meth0 (by decide +kernel) rfl (Nat.le_of_ble_eq_true rfl) ?_
  have ht : t.length ≤ 24 := rY_n hY
  refine rx_aload_n dX11_simple_0 rfl rfl ?_
  refine gmv_getI (v := nI (fs.length + 1)) hG hf_RX11_203 rfl dX11_simple_1 rfl rfl rfl (rY_dep hY) ?_
  refine rx_iconst (v := nI 1) dX11_simple_4 rfl ?_
  refine rx_isub dX11_simple_5 ?_
  refine rx_ti (y := nI fs.length) ((pk_sub (by omega)).trans (congrArg nI (by omega))) ?_
  refine rx_istore dX11_simple_6 (by decide) ?_
  refine rx_iload_n dX11_simple_8 rfl ?_
  refine rx_tabOut (tgt := 147) dX11_simple_9 (by decide) (by decide) ?_
  refine rx_bipush (v := nI 24) dX11_simple_147 rfl ?_
  refine rx_iload dX11_simple_149 rfl ?_
  refine rx_imul dX11_simple_151 ?_
  refine rx_ti (y := nI (24 * fs.length)) ((pk_mul _ _).trans (congrArg nI (by omega))) ?_
  refine rx_aload_n dX11_simple_152 rfl rfl ?_
  refine g_getR hG hf_RX11_141 rfl dX11_simple_153 rfl rfl rfl ?_
  refine rx_iload dX11_simple_156 rfl ?_
  refine gmv_iald (j := fs.length) (v := nI (j + mo + 1)) hG dX11_simple_158 rfl rfl rfl rfl (by omega) (by decide) ((rY_size hY).trans (congrArg nI (by omega))) ?_
  refine rx_iadd dX11_simple_159 ?_
  refine rx_ti (y := nI (24 * fs.length + j + mo + 1)) ((nI_add _ _).trans (congrArg nI (by omega))) ?_
  refine rx_iconst (v := nI 1) dX11_simple_160 rfl ?_
  refine rx_isub dX11_simple_161 ?_
  refine rx_ti (y := nI (24 * fs.length + j + mo)) ((pk_sub (by omega)).trans (congrArg nI (by omega))) ?_
  refine rx_istore dX11_simple_162 (by decide) ?_
  refine rx_aload_n dX11_simple_164 rfl rfl ?_
  refine g_getR hG hf_RX11_138 rfl dX11_simple_165 rfl rfl rfl ?_
  refine rx_iload dX11_simple_168 rfl ?_
  refine gmv_lald (j := 24 * fs.length + j + mo) (v := t.getD 0 0) hG dX11_simple_170 rfl rfl rfl rfl (by omega) (by decide) ((by rw [show 24 * fs.length + j + mo = 24 * fs.length + (t.length - 1 - 0) by omega]; exact rm_T_get (by omega) (rY_T hY))) ?_
  refine rx_lstore dX11_simple_171 (by decide) ?_
  refine rx_aload_n dX11_simple_173 rfl rfl ?_
  refine g_getR hG hf_RX11_138 rfl dX11_simple_174 rfl rfl rfl ?_
  refine rx_iload dX11_simple_177 rfl ?_
  refine rx_aload_n dX11_simple_179 rfl rfl ?_
  refine g_getR hG hf_RX11_138 rfl dX11_simple_180 rfl rfl rfl ?_
  refine rx_iload dX11_simple_183 rfl ?_
  refine rx_iload_n dX11_simple_185 rfl ?_
  refine rx_isub dX11_simple_186 ?_
  refine rx_ti (y := nI (24 * fs.length + j)) ((pk_sub (by omega)).trans (congrArg nI (by omega))) ?_
  refine gmv_lald (j := 24 * fs.length + j) (v := t.getD mo 0) hG dX11_simple_187 rfl rfl rfl rfl (by omega) (by decide) ((by rw [show 24 * fs.length + j = 24 * fs.length + (t.length - 1 - mo) by omega]; exact rm_T_get (by omega) (rY_T hY))) ?_
  refine gm_last (j := 24 * fs.length + j + mo) hG dX11_simple_188 rfl rfl rfl rfl (by omega) (by decide) ?_
  refine rx_aload_n dX11_simple_189 rfl rfl ?_
  refine g_getR hG hf_RX11_138 rfl dX11_simple_190 rfl rfl rfl ?_
  refine rx_iload dX11_simple_193 rfl ?_
  refine rx_iload_n dX11_simple_195 rfl ?_
  refine rx_isub dX11_simple_196 ?_
  refine rx_ti (y := nI (24 * fs.length + j)) ((pk_sub (by omega)).trans (congrArg nI (by omega))) ?_
  refine rx_lload dX11_simple_197 rfl ?_
  refine gm_last (j := 24 * fs.length + j) hG dX11_simple_199 rfl rfl rfl rfl (by omega) (by decide) ?_
  refine rY_ab (rY_swap hY hj) (fun _ hY1 => ?_)
  refine rx_goto (tgt := 203) dX11_simple_200 (by decide) ?_
  exact rx_vret rfl dX11_simple_203 ⟨rfl, _, rfl, Or.inl ⟨_, rfl, hY1⟩⟩
theorem cr_big {G : rx_E} {d : Nat} {C : rx_M} {S0 S : gs_T} {g : vg_T} {n : Nat → Int64} {e : List (Nat × Int64 × Int64)} {b m c a q s k : Nat} {v r : Int64} {l o : Bool} {t : List Int64} {w : (Nat → Int64) × Nat × Nat} {fs : List vf_T} (hG : rx_OK G) {mo a0 : Nat} {cd : List Nat} (hp : fs.length < 11) (ht : t.length < 24) (hcd : g.1 c = cd) (hc : c < g.2.1) (hg : g.2.1 ≤ 16) (hcl : cd.length ≤ 200) (hal : a0 + 9 ≤ cd.length) (hoct : ∀ k, k < cd.length → cd.getD k 0 < 256) (hY : rm_Y S0 S g (n, e, b, ((c, a0 + 9, q, s, k), (v, r), (l, o), t, w) :: fs, m) 0) : rx_C G MX11_simple (d + 1) [.ref 52, .int (nI 2), .int (nI mo), .int (nI (200 * c + a0))] (gl C S) 0 0 (rq_on C S0 g (vm_do1 cd (n, e, b, ((c, a0 + 9, q, s, k), (v, r), (l, o), t, w) :: fs, m) 2 mo ((c, a0 + 9, q, s, k), (v, r), (l, o), t, w) fs)) := by
  refine rx_meth0 (by decide +kernel) rfl (Nat.le_of_ble_eq_true rfl) ?_
  refine rx_aload_n dX11_simple_0 rfl rfl ?_
  refine gmv_getI (v := nI (fs.length + 1)) hG hf_RX11_203 rfl dX11_simple_1 rfl rfl rfl (rY_dep hY) ?_
  refine rx_iconst (v := nI 1) dX11_simple_4 rfl ?_
  refine rx_isub dX11_simple_5 ?_
  refine rx_ti (y := nI fs.length) ((pk_sub (by omega)).trans (congrArg nI (by omega))) ?_
  refine rx_istore dX11_simple_6 (by decide) ?_
  refine rx_iload_n dX11_simple_8 rfl ?_
  refine rx_tabIn (tgt := 63) dX11_simple_9 (by decide) (by decide) rfl (by decide) ?_
  refine rx_lconst (v := lN 0) dX11_simple_63 rfl ?_
  refine rx_lstore dX11_simple_64 (by decide) ?_
  refine rx_iconst (v := nI 1) dX11_simple_66 rfl ?_
  refine rx_istore dX11_simple_67 (by decide) ?_
  refine rx_lv (lv' := [(7, .int (nI 1)), (5, .long (vm_big cd a0 0)), (3, .int (nI (200 * c + a0))), (0, .ref 52)]) ⟨rfl, rfl, rfl, rfl, trivial⟩ ?_
  refine rx_iload dX11_simple_69 rfl ?_
  refine rx_bipush (v := nI 8) dX11_simple_71 rfl ?_
  refine rx_icmp_gt (tgt := 100) dX11_simple_73 (by decide) (fun h => absurd h (by decide)) (fun _ => ?_)
  refine rx_lload dX11_simple_76 rfl ?_
  refine rx_bipush (v := nI 8) dX11_simple_78 rfl ?_
  refine rx_lshl dX11_simple_80 ?_
  refine rx_tl (y := vm_big cd a0 0 <<< (8 : Int64)) rfl ?_
  refine rx_aload_n dX11_simple_81 rfl rfl ?_
  refine g_getR hG hf_RX11_7 rfl dX11_simple_82 rfl rfl rfl ?_
  refine rx_iload_n dX11_simple_85 rfl ?_
  refine rx_iload dX11_simple_86 rfl ?_
  refine rx_iadd dX11_simple_88 ?_
  refine rx_ti (y := nI (a0 + 200 * c + 1)) ((nI_add _ _).trans (congrArg nI (by omega))) ?_
  obtain ⟨oc, hoc⟩ : ∃ oc, cd.getD (a0 + 1) 0 = oc := ⟨_, rfl⟩
  have hoc1 := hoct (a0 + 1) (by omega)
  rw [hoc] at hoc1
  refine gmv_iald (j := 200 * c + (a0 + 1)) (v := nI oc) hG dX11_simple_89 rfl rfl rfl (congrArg nI (by omega)) (by omega) (by decide) ((rY_octet hY hc (i := a0 + 1) (by rw [hcd]; omega)).trans (by rw [hcd, hoc])) ?_
  refine rx_i2l dX11_simple_90 ?_
  refine rx_tl (y := lN oc) (nI_l (by omega)) ?_
  refine rx_lor dX11_simple_91 ?_
  refine rx_tl (y := vm_big cd a0 1) (by rw [← hoc, show a0 + 1 = a0 + 1 + 0 by omega]; rfl) ?_
  refine rx_lstore dX11_simple_92 (by decide) ?_
  refine rx_iinc (v := nI 2) dX11_simple_94 rfl ((nI_add _ 1).trans (congrArg nI (by omega))) ?_
  refine rx_goto (tgt := 69) dX11_simple_97 (by decide) ?_
  refine rx_lv (lv' := [(7, .int (nI 2)), (5, .long (vm_big cd a0 1)), (3, .int (nI (200 * c + a0))), (0, .ref 52)]) ⟨rfl, rfl, rfl, rfl, trivial⟩ ?_
  refine rx_iload dX11_simple_69 rfl ?_
  refine rx_bipush (v := nI 8) dX11_simple_71 rfl ?_
  refine rx_icmp_gt (tgt := 100) dX11_simple_73 (by decide) (fun h => absurd h (by decide)) (fun _ => ?_)
  refine rx_lload dX11_simple_76 rfl ?_
  refine rx_bipush (v := nI 8) dX11_simple_78 rfl ?_
  refine rx_lshl dX11_simple_80 ?_
  refine rx_tl (y := vm_big cd a0 1 <<< (8 : Int64)) rfl ?_
  refine rx_aload_n dX11_simple_81 rfl rfl ?_
  refine g_getR hG hf_RX11_7 rfl dX11_simple_82 rfl rfl rfl ?_
  refine rx_iload_n dX11_simple_85 rfl ?_
  refine rx_iload dX11_simple_86 rfl ?_
  refine rx_iadd dX11_simple_88 ?_
  refine rx_ti (y := nI (a0 + 200 * c + 2)) ((nI_add _ _).trans (congrArg nI (by omega))) ?_
  obtain ⟨oc, hoc⟩ : ∃ oc, cd.getD (a0 + 2) 0 = oc := ⟨_, rfl⟩
  have hoc1 := hoct (a0 + 2) (by omega)
  rw [hoc] at hoc1
  refine gmv_iald (j := 200 * c + (a0 + 2)) (v := nI oc) hG dX11_simple_89 rfl rfl rfl (congrArg nI (by omega)) (by omega) (by decide) ((rY_octet hY hc (i := a0 + 2) (by rw [hcd]; omega)).trans (by rw [hcd, hoc])) ?_
  refine rx_i2l dX11_simple_90 ?_
  refine rx_tl (y := lN oc) (nI_l (by omega)) ?_
  refine rx_lor dX11_simple_91 ?_
  refine rx_tl (y := vm_big cd a0 2) (by rw [← hoc, show a0 + 2 = a0 + 1 + 1 by omega]; rfl) ?_
  refine rx_lstore dX11_simple_92 (by decide) ?_
  refine rx_iinc (v := nI 3) dX11_simple_94 rfl ((nI_add _ 1).trans (congrArg nI (by omega))) ?_
  refine rx_goto (tgt := 69) dX11_simple_97 (by decide) ?_
  refine rx_lv (lv' := [(7, .int (nI 3)), (5, .long (vm_big cd a0 2)), (3, .int (nI (200 * c + a0))), (0, .ref 52)]) ⟨rfl, rfl, rfl, rfl, trivial⟩ ?_
  refine rx_iload dX11_simple_69 rfl ?_
  refine rx_bipush (v := nI 8) dX11_simple_71 rfl ?_
  refine rx_icmp_gt (tgt := 100) dX11_simple_73 (by decide) (fun h => absurd h (by decide)) (fun _ => ?_)
  refine rx_lload dX11_simple_76 rfl ?_
  refine rx_bipush (v := nI 8) dX11_simple_78 rfl ?_
  refine rx_lshl dX11_simple_80 ?_
  refine rx_tl (y := vm_big cd a0 2 <<< (8 : Int64)) rfl ?_
  refine rx_aload_n dX11_simple_81 rfl rfl ?_
  refine g_getR hG hf_RX11_7 rfl dX11_simple_82 rfl rfl rfl ?_
  refine rx_iload_n dX11_simple_85 rfl ?_
  refine rx_iload dX11_simple_86 rfl ?_
  refine rx_iadd dX11_simple_88 ?_
  refine rx_ti (y := nI (a0 + 200 * c + 3)) ((nI_add _ _).trans (congrArg nI (by omega))) ?_
  obtain ⟨oc, hoc⟩ : ∃ oc, cd.getD (a0 + 3) 0 = oc := ⟨_, rfl⟩
  have hoc1 := hoct (a0 + 3) (by omega)
  rw [hoc] at hoc1
  refine gmv_iald (j := 200 * c + (a0 + 3)) (v := nI oc) hG dX11_simple_89 rfl rfl rfl (congrArg nI (by omega)) (by omega) (by decide) ((rY_octet hY hc (i := a0 + 3) (by rw [hcd]; omega)).trans (by rw [hcd, hoc])) ?_
  refine rx_i2l dX11_simple_90 ?_
  refine rx_tl (y := lN oc) (nI_l (by omega)) ?_
  refine rx_lor dX11_simple_91 ?_
  refine rx_tl (y := vm_big cd a0 3) (by rw [← hoc, show a0 + 3 = a0 + 1 + 2 by omega]; rfl) ?_
  refine rx_lstore dX11_simple_92 (by decide) ?_
  refine rx_iinc (v := nI 4) dX11_simple_94 rfl ((nI_add _ 1).trans (congrArg nI (by omega))) ?_
  refine rx_goto (tgt := 69) dX11_simple_97 (by decide) ?_
  refine rx_lv (lv' := [(7, .int (nI 4)), (5, .long (vm_big cd a0 3)), (3, .int (nI (200 * c + a0))), (0, .ref 52)]) ⟨rfl, rfl, rfl, rfl, trivial⟩ ?_
  refine rx_iload dX11_simple_69 rfl ?_
  refine rx_bipush (v := nI 8) dX11_simple_71 rfl ?_
  refine rx_icmp_gt (tgt := 100) dX11_simple_73 (by decide) (fun h => absurd h (by decide)) (fun _ => ?_)
  refine rx_lload dX11_simple_76 rfl ?_
  refine rx_bipush (v := nI 8) dX11_simple_78 rfl ?_
  refine rx_lshl dX11_simple_80 ?_
  refine rx_tl (y := vm_big cd a0 3 <<< (8 : Int64)) rfl ?_
  refine rx_aload_n dX11_simple_81 rfl rfl ?_
  refine g_getR hG hf_RX11_7 rfl dX11_simple_82 rfl rfl rfl ?_
  refine rx_iload_n dX11_simple_85 rfl ?_
  refine rx_iload dX11_simple_86 rfl ?_
  refine rx_iadd dX11_simple_88 ?_
  refine rx_ti (y := nI (a0 + 200 * c + 4)) ((nI_add _ _).trans (congrArg nI (by omega))) ?_
  obtain ⟨oc, hoc⟩ : ∃ oc, cd.getD (a0 + 4) 0 = oc := ⟨_, rfl⟩
  have hoc1 := hoct (a0 + 4) (by omega)
  rw [hoc] at hoc1
  refine gmv_iald (j := 200 * c + (a0 + 4)) (v := nI oc) hG dX11_simple_89 rfl rfl rfl (congrArg nI (by omega)) (by omega) (by decide) ((rY_octet hY hc (i := a0 + 4) (by rw [hcd]; omega)).trans (by rw [hcd, hoc])) ?_
  refine rx_i2l dX11_simple_90 ?_
  refine rx_tl (y := lN oc) (nI_l (by omega)) ?_
  refine rx_lor dX11_simple_91 ?_
  refine rx_tl (y := vm_big cd a0 4) (by rw [← hoc, show a0 + 4 = a0 + 1 + 3 by omega]; rfl) ?_
  refine rx_lstore dX11_simple_92 (by decide) ?_
  refine rx_iinc (v := nI 5) dX11_simple_94 rfl ((nI_add _ 1).trans (congrArg nI (by omega))) ?_
  refine rx_goto (tgt := 69) dX11_simple_97 (by decide) ?_
  refine rx_lv (lv' := [(7, .int (nI 5)), (5, .long (vm_big cd a0 4)), (3, .int (nI (200 * c + a0))), (0, .ref 52)]) ⟨rfl, rfl, rfl, rfl, trivial⟩ ?_
  refine rx_iload dX11_simple_69 rfl ?_
  refine rx_bipush (v := nI 8) dX11_simple_71 rfl ?_
  refine rx_icmp_gt (tgt := 100) dX11_simple_73 (by decide) (fun h => absurd h (by decide)) (fun _ => ?_)
  refine rx_lload dX11_simple_76 rfl ?_
  refine rx_bipush (v := nI 8) dX11_simple_78 rfl ?_
  refine rx_lshl dX11_simple_80 ?_
  refine rx_tl (y := vm_big cd a0 4 <<< (8 : Int64)) rfl ?_
  refine rx_aload_n dX11_simple_81 rfl rfl ?_
  refine g_getR hG hf_RX11_7 rfl dX11_simple_82 rfl rfl rfl ?_
  refine rx_iload_n dX11_simple_85 rfl ?_
  refine rx_iload dX11_simple_86 rfl ?_
  refine rx_iadd dX11_simple_88 ?_
  refine rx_ti (y := nI (a0 + 200 * c + 5)) ((nI_add _ _).trans (congrArg nI (by omega))) ?_
  obtain ⟨oc, hoc⟩ : ∃ oc, cd.getD (a0 + 5) 0 = oc := ⟨_, rfl⟩
  have hoc1 := hoct (a0 + 5) (by omega)
  rw [hoc] at hoc1
  refine gmv_iald (j := 200 * c + (a0 + 5)) (v := nI oc) hG dX11_simple_89 rfl rfl rfl (congrArg nI (by omega)) (by omega) (by decide) ((rY_octet hY hc (i := a0 + 5) (by rw [hcd]; omega)).trans (by rw [hcd, hoc])) ?_
  refine rx_i2l dX11_simple_90 ?_
  refine rx_tl (y := lN oc) (nI_l (by omega)) ?_
  refine rx_lor dX11_simple_91 ?_
  refine rx_tl (y := vm_big cd a0 5) (by rw [← hoc, show a0 + 5 = a0 + 1 + 4 by omega]; rfl) ?_
  refine rx_lstore dX11_simple_92 (by decide) ?_
  refine rx_iinc (v := nI 6) dX11_simple_94 rfl ((nI_add _ 1).trans (congrArg nI (by omega))) ?_
  refine rx_goto (tgt := 69) dX11_simple_97 (by decide) ?_
  refine rx_lv (lv' := [(7, .int (nI 6)), (5, .long (vm_big cd a0 5)), (3, .int (nI (200 * c + a0))), (0, .ref 52)]) ⟨rfl, rfl, rfl, rfl, trivial⟩ ?_
  refine rx_iload dX11_simple_69 rfl ?_
  refine rx_bipush (v := nI 8) dX11_simple_71 rfl ?_
  refine rx_icmp_gt (tgt := 100) dX11_simple_73 (by decide) (fun h => absurd h (by decide)) (fun _ => ?_)
  refine rx_lload dX11_simple_76 rfl ?_
  refine rx_bipush (v := nI 8) dX11_simple_78 rfl ?_
  refine rx_lshl dX11_simple_80 ?_
  refine rx_tl (y := vm_big cd a0 5 <<< (8 : Int64)) rfl ?_
  refine rx_aload_n dX11_simple_81 rfl rfl ?_
  refine g_getR hG hf_RX11_7 rfl dX11_simple_82 rfl rfl rfl ?_
  refine rx_iload_n dX11_simple_85 rfl ?_
  refine rx_iload dX11_simple_86 rfl ?_
  refine rx_iadd dX11_simple_88 ?_
  refine rx_ti (y := nI (a0 + 200 * c + 6)) ((nI_add _ _).trans (congrArg nI (by omega))) ?_
  obtain ⟨oc, hoc⟩ : ∃ oc, cd.getD (a0 + 6) 0 = oc := ⟨_, rfl⟩
  have hoc1 := hoct (a0 + 6) (by omega)
  rw [hoc] at hoc1
  refine gmv_iald (j := 200 * c + (a0 + 6)) (v := nI oc) hG dX11_simple_89 rfl rfl rfl (congrArg nI (by omega)) (by omega) (by decide) ((rY_octet hY hc (i := a0 + 6) (by rw [hcd]; omega)).trans (by rw [hcd, hoc])) ?_
  refine rx_i2l dX11_simple_90 ?_
  refine rx_tl (y := lN oc) (nI_l (by omega)) ?_
  refine rx_lor dX11_simple_91 ?_
  refine rx_tl (y := vm_big cd a0 6) (by rw [← hoc, show a0 + 6 = a0 + 1 + 5 by omega]; rfl) ?_
  refine rx_lstore dX11_simple_92 (by decide) ?_
  refine rx_iinc (v := nI 7) dX11_simple_94 rfl ((nI_add _ 1).trans (congrArg nI (by omega))) ?_
  refine rx_goto (tgt := 69) dX11_simple_97 (by decide) ?_
  refine rx_lv (lv' := [(7, .int (nI 7)), (5, .long (vm_big cd a0 6)), (3, .int (nI (200 * c + a0))), (0, .ref 52)]) ⟨rfl, rfl, rfl, rfl, trivial⟩ ?_
  refine rx_iload dX11_simple_69 rfl ?_
  refine rx_bipush (v := nI 8) dX11_simple_71 rfl ?_
  refine rx_icmp_gt (tgt := 100) dX11_simple_73 (by decide) (fun h => absurd h (by decide)) (fun _ => ?_)
  refine rx_lload dX11_simple_76 rfl ?_
  refine rx_bipush (v := nI 8) dX11_simple_78 rfl ?_
  refine rx_lshl dX11_simple_80 ?_
  refine rx_tl (y := vm_big cd a0 6 <<< (8 : Int64)) rfl ?_
  refine rx_aload_n dX11_simple_81 rfl rfl ?_
  refine g_getR hG hf_RX11_7 rfl dX11_simple_82 rfl rfl rfl ?_
  refine rx_iload_n dX11_simple_85 rfl ?_
  refine rx_iload dX11_simple_86 rfl ?_
  refine rx_iadd dX11_simple_88 ?_
  refine rx_ti (y := nI (a0 + 200 * c + 7)) ((nI_add _ _).trans (congrArg nI (by omega))) ?_
  obtain ⟨oc, hoc⟩ : ∃ oc, cd.getD (a0 + 7) 0 = oc := ⟨_, rfl⟩
  have hoc1 := hoct (a0 + 7) (by omega)
  rw [hoc] at hoc1
  refine gmv_iald (j := 200 * c + (a0 + 7)) (v := nI oc) hG dX11_simple_89 rfl rfl rfl (congrArg nI (by omega)) (by omega) (by decide) ((rY_octet hY hc (i := a0 + 7) (by rw [hcd]; omega)).trans (by rw [hcd, hoc])) ?_
  refine rx_i2l dX11_simple_90 ?_
  refine rx_tl (y := lN oc) (nI_l (by omega)) ?_
  refine rx_lor dX11_simple_91 ?_
  refine rx_tl (y := vm_big cd a0 7) (by rw [← hoc, show a0 + 7 = a0 + 1 + 6 by omega]; rfl) ?_
  refine rx_lstore dX11_simple_92 (by decide) ?_
  refine rx_iinc (v := nI 8) dX11_simple_94 rfl ((nI_add _ 1).trans (congrArg nI (by omega))) ?_
  refine rx_goto (tgt := 69) dX11_simple_97 (by decide) ?_
  refine rx_lv (lv' := [(7, .int (nI 8)), (5, .long (vm_big cd a0 7)), (3, .int (nI (200 * c + a0))), (0, .ref 52)]) ⟨rfl, rfl, rfl, rfl, trivial⟩ ?_
  refine rx_iload dX11_simple_69 rfl ?_
  refine rx_bipush (v := nI 8) dX11_simple_71 rfl ?_
  refine rx_icmp_gt (tgt := 100) dX11_simple_73 (by decide) (fun h => absurd h (by decide)) (fun _ => ?_)
  refine rx_lload dX11_simple_76 rfl ?_
  refine rx_bipush (v := nI 8) dX11_simple_78 rfl ?_
  refine rx_lshl dX11_simple_80 ?_
  refine rx_tl (y := vm_big cd a0 7 <<< (8 : Int64)) rfl ?_
  refine rx_aload_n dX11_simple_81 rfl rfl ?_
  refine g_getR hG hf_RX11_7 rfl dX11_simple_82 rfl rfl rfl ?_
  refine rx_iload_n dX11_simple_85 rfl ?_
  refine rx_iload dX11_simple_86 rfl ?_
  refine rx_iadd dX11_simple_88 ?_
  refine rx_ti (y := nI (a0 + 200 * c + 8)) ((nI_add _ _).trans (congrArg nI (by omega))) ?_
  obtain ⟨oc, hoc⟩ : ∃ oc, cd.getD (a0 + 8) 0 = oc := ⟨_, rfl⟩
  have hoc1 := hoct (a0 + 8) (by omega)
  rw [hoc] at hoc1
  refine gmv_iald (j := 200 * c + (a0 + 8)) (v := nI oc) hG dX11_simple_89 rfl rfl rfl (congrArg nI (by omega)) (by omega) (by decide) ((rY_octet hY hc (i := a0 + 8) (by rw [hcd]; omega)).trans (by rw [hcd, hoc])) ?_
  refine rx_i2l dX11_simple_90 ?_
  refine rx_tl (y := lN oc) (nI_l (by omega)) ?_
  refine rx_lor dX11_simple_91 ?_
  refine rx_tl (y := vm_big cd a0 8) (by rw [← hoc, show a0 + 8 = a0 + 1 + 7 by omega]; rfl) ?_
  refine rx_lstore dX11_simple_92 (by decide) ?_
  refine rx_iinc (v := nI 9) dX11_simple_94 rfl ((nI_add _ 1).trans (congrArg nI (by omega))) ?_
  refine rx_goto (tgt := 69) dX11_simple_97 (by decide) ?_
  refine rx_lv (lv' := [(7, .int (nI 9)), (5, .long (vm_big cd a0 8)), (3, .int (nI (200 * c + a0))), (0, .ref 52)]) ⟨rfl, rfl, rfl, rfl, trivial⟩ ?_
  refine rx_iload dX11_simple_69 rfl ?_
  refine rx_bipush (v := nI 8) dX11_simple_71 rfl ?_
  refine rx_icmp_gt (tgt := 100) dX11_simple_73 (by decide) (fun _ => ?_) (fun h => absurd (by decide) h)
  refine rx_aload_n dX11_simple_100 rfl rfl ?_
  refine rx_lload dX11_simple_101 rfl ?_
  refine gv_invV (as := [.long _]) hG okX11_push lk_RX11_221 rfl rfl dX11_simple_103 rfl (by simp [Value.category]) (cr_push hG hY (by omega) (by (try simp only [List.length_cons, List.length_nil]); omega) _) ?_
  rintro _ _ ⟨rfl, _, rfl, hY1⟩
  refine rx_goto (tgt := 203) dX11_simple_106 (by decide) ?_
  exact rx_vret rfl dX11_simple_203 ⟨rfl, _, rfl, Or.inl ⟨_, rfl, hY1⟩⟩
end

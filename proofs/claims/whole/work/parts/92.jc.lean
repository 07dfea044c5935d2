theorem dX3_isFull_0 : decode cX3_isFull 0 = .ok (.aload_n 0, 1) := by decide +kernel
theorem dX3_isFull_1 : decode cX3_isFull 1 = .ok (.getfield 17, 3) := by decide +kernel
theorem dX3_isFull_4 : decode cX3_isFull 4 = .ok (.bipush 16, 2) := by decide +kernel
theorem dX3_isFull_6 : decode cX3_isFull 6 = .ok (.if_icmp .lt 7, 3) := by decide +kernel
theorem dX3_isFull_9 : decode cX3_isFull 9 = .ok (.iconst 1, 1) := by decide +kernel
theorem dX3_isFull_10 : decode cX3_isFull 10 = .ok (.goto 4, 3) := by decide +kernel
theorem dX3_isFull_13 : decode cX3_isFull 13 = .ok (.iconst 0, 1) := by decide +kernel
theorem dX3_isFull_14 : decode cX3_isFull 14 = .ok (.ireturn, 1) := by decide +kernel
theorem dX3_add_0 : decode cX3_add 0 = .ok (.aload_n 0, 1) := by decide +kernel
theorem dX3_add_1 : decode cX3_add 1 = .ok (.getfield 11, 3) := by decide +kernel
theorem dX3_add_4 : decode cX3_add 4 = .ok (.aload_n 0, 1) := by decide +kernel
theorem dX3_add_5 : decode cX3_add 5 = .ok (.getfield 17, 3) := by decide +kernel
theorem dX3_add_8 : decode cX3_add 8 = .ok (.aload_n 1, 1) := by decide +kernel
theorem dX3_add_9 : decode cX3_add 9 = .ok (.aastore, 1) := by decide +kernel
theorem dX3_add_10 : decode cX3_add 10 = .ok (.aload_n 0, 1) := by decide +kernel
theorem dX3_add_11 : decode cX3_add 11 = .ok (.dup, 1) := by decide +kernel
theorem dX3_add_12 : decode cX3_add 12 = .ok (.getfield 17, 3) := by decide +kernel
theorem dX3_add_15 : decode cX3_add 15 = .ok (.iconst 1, 1) := by decide +kernel
theorem dX3_add_16 : decode cX3_add 16 = .ok (.iadd, 1) := by decide +kernel
theorem dX3_add_17 : decode cX3_add 17 = .ok (.putfield 17, 3) := by decide +kernel
theorem dX3_add_20 : decode cX3_add 20 = .ok (.aload_n 0, 1) := by decide +kernel
theorem dX3_add_21 : decode cX3_add 21 = .ok (.getfield 17, 3) := by decide +kernel
theorem dX3_add_24 : decode cX3_add 24 = .ok (.iconst 1, 1) := by decide +kernel
theorem dX3_add_25 : decode cX3_add 25 = .ok (.isub, 1) := by decide +kernel
theorem dX3_add_26 : decode cX3_add 26 = .ok (.ireturn, 1) := by decide +kernel
theorem dX4_take_0 : decode cX4_take 0 = .ok (.aload_n 0, 1) := by decide +kernel
theorem dX4_take_1 : decode cX4_take 1 = .ok (.getfield 9, 3) := by decide +kernel
theorem dX4_take_4 : decode cX4_take 4 = .ok (.aload_n 0, 1) := by decide +kernel
theorem dX4_take_5 : decode cX4_take 5 = .ok (.getfield 19, 3) := by decide +kernel
theorem dX4_take_8 : decode cX4_take 8 = .ok (.invokestatic 23, 3) := by decide +kernel
theorem dX4_take_11 : decode cX4_take 11 = .ok (.astore_n 1, 1) := by decide +kernel
theorem dX4_take_12 : decode cX4_take 12 = .ok (.aload_n 0, 1) := by decide +kernel
theorem dX4_take_13 : decode cX4_take 13 = .ok (.iconst 0, 1) := by decide +kernel
theorem dX4_take_14 : decode cX4_take 14 = .ok (.putfield 19, 3) := by decide +kernel
theorem dX4_take_17 : decode cX4_take 17 = .ok (.aload_n 1, 1) := by decide +kernel
theorem dX4_take_18 : decode cX4_take 18 = .ok (.areturn, 1) := by decide +kernel
theorem dX4_fault_0 : decode cX4_fault 0 = .ok (.aload_n 0, 1) := by decide +kernel
theorem dX4_fault_1 : decode cX4_fault 1 = .ok (.invokevirtual 29, 3) := by decide +kernel
theorem dX4_fault_4 : decode cX4_fault 4 = .ok (.istore_n 1, 1) := by decide +kernel
theorem dX4_fault_5 : decode cX4_fault 5 = .ok (.iload_n 1, 1) := by decide +kernel
theorem dX4_fault_6 : decode cX4_fault 6 = .ok (.iconst (-1), 1) := by decide +kernel
theorem dX4_fault_7 : decode cX4_fault 7 = .ok (.if_icmp .ne 10, 3) := by decide +kernel
theorem dX4_fault_10 : decode cX4_fault 10 = .ok (.aload_n 0, 1) := by decide +kernel
theorem dX4_fault_11 : decode cX4_fault 11 = .ok (.invokevirtual 33, 3) := by decide +kernel
theorem dX4_fault_14 : decode cX4_fault 14 = .ok (.goto 4, 3) := by decide +kernel
theorem dX4_fault_17 : decode cX4_fault 17 = .ok (.iload_n 1, 1) := by decide +kernel
theorem dX4_fault_18 : decode cX4_fault 18 = .ok (.ireturn, 1) := by decide +kernel
theorem dX4_firstActThatIsNone_0 : decode cX4_firstActThatIsNone 0 = .ok (.iconst 0, 1) := by decide +kernel
theorem dX4_firstActThatIsNone_1 : decode cX4_firstActThatIsNone 1 = .ok (.istore_n 1, 1) := by decide +kernel
theorem dX4_firstActThatIsNone_2 : decode cX4_firstActThatIsNone 2 = .ok (.iload_n 1, 1) := by decide +kernel
theorem dX4_firstActThatIsNone_3 : decode cX4_firstActThatIsNone 3 = .ok (.aload_n 0, 1) := by decide +kernel
theorem dX4_firstActThatIsNone_4 : decode cX4_firstActThatIsNone 4 = .ok (.getfield 19, 3) := by decide +kernel
theorem dX4_firstActThatIsNone_7 : decode cX4_firstActThatIsNone 7 = .ok (.if_icmp .ge 16, 3) := by decide +kernel
theorem dX4_firstActThatIsNone_10 : decode cX4_firstActThatIsNone 10 = .ok (.aload_n 0, 1) := by decide +kernel
theorem dX4_firstActThatIsNone_11 : decode cX4_firstActThatIsNone 11 = .ok (.getfield 15, 3) := by decide +kernel
theorem dX4_firstActThatIsNone_14 : decode cX4_firstActThatIsNone 14 = .ok (.iload_n 1, 1) := by decide +kernel
theorem dX4_firstActThatIsNone_15 : decode cX4_firstActThatIsNone 15 = .ok (.iconst 0, 1) := by decide +kernel
theorem dX4_firstActThatIsNone_16 : decode cX4_firstActThatIsNone 16 = .ok (.bastore, 1) := by decide +kernel
theorem dX4_firstActThatIsNone_17 : decode cX4_firstActThatIsNone 17 = .ok (.iinc 1 1, 3) := by decide +kernel
theorem dX4_firstActThatIsNone_20 : decode cX4_firstActThatIsNone 20 = .ok (.goto (-18), 3) := by decide +kernel
theorem dX4_firstActThatIsNone_23 : decode cX4_firstActThatIsNone 23 = .ok (.iconst 0, 1) := by decide +kernel
theorem dX4_firstActThatIsNone_24 : decode cX4_firstActThatIsNone 24 = .ok (.istore_n 1, 1) := by decide +kernel
theorem dX4_firstActThatIsNone_25 : decode cX4_firstActThatIsNone 25 = .ok (.iload_n 1, 1) := by decide +kernel
theorem dX4_firstActThatIsNone_26 : decode cX4_firstActThatIsNone 26 = .ok (.aload_n 0, 1) := by decide +kernel
theorem dX4_firstActThatIsNone_27 : decode cX4_firstActThatIsNone 27 = .ok (.getfield 19, 3) := by decide +kernel
theorem dX4_firstActThatIsNone_30 : decode cX4_firstActThatIsNone 30 = .ok (.if_icmp .ge 52, 3) := by decide +kernel
theorem dX4_firstActThatIsNone_33 : decode cX4_firstActThatIsNone 33 = .ok (.aload_n 0, 1) := by decide +kernel
theorem dX4_firstActThatIsNone_34 : decode cX4_firstActThatIsNone 34 = .ok (.getfield 9, 3) := by decide +kernel
theorem dX4_firstActThatIsNone_37 : decode cX4_firstActThatIsNone 37 = .ok (.iload_n 1, 1) := by decide +kernel
theorem dX4_firstActThatIsNone_38 : decode cX4_firstActThatIsNone 38 = .ok (.baload, 1) := by decide +kernel
theorem dX4_firstActThatIsNone_39 : decode cX4_firstActThatIsNone 39 = .ok (.sipush 255, 3) := by decide +kernel
theorem dX4_firstActThatIsNone_42 : decode cX4_firstActThatIsNone 42 = .ok (.iand, 1) := by decide +kernel
theorem dX4_firstActThatIsNone_43 : decode cX4_firstActThatIsNone 43 = .ok (.bipush 40, 2) := by decide +kernel
theorem dX4_firstActThatIsNone_45 : decode cX4_firstActThatIsNone 45 = .ok (.if_icmp .ge 17, 3) := by decide +kernel
theorem dX4_firstActThatIsNone_48 : decode cX4_firstActThatIsNone 48 = .ok (.iload_n 1, 1) := by decide +kernel
theorem dX4_firstActThatIsNone_49 : decode cX4_firstActThatIsNone 49 = .ok (.aload_n 0, 1) := by decide +kernel
theorem dX4_firstActThatIsNone_50 : decode cX4_firstActThatIsNone 50 = .ok (.iload_n 1, 1) := by decide +kernel
theorem dX4_firstActThatIsNone_51 : decode cX4_firstActThatIsNone 51 = .ok (.invokevirtual 36, 3) := by decide +kernel
theorem dX4_firstActThatIsNone_54 : decode cX4_firstActThatIsNone 54 = .ok (.iadd, 1) := by decide +kernel
theorem dX4_firstActThatIsNone_55 : decode cX4_firstActThatIsNone 55 = .ok (.aload_n 0, 1) := by decide +kernel
theorem dX4_firstActThatIsNone_56 : decode cX4_firstActThatIsNone 56 = .ok (.getfield 19, 3) := by decide +kernel
theorem dX4_firstActThatIsNone_59 : decode cX4_firstActThatIsNone 59 = .ok (.if_icmp .le 5, 3) := by decide +kernel
theorem dX4_firstActThatIsNone_62 : decode cX4_firstActThatIsNone 62 = .ok (.iload_n 1, 1) := by decide +kernel
theorem dX4_firstActThatIsNone_63 : decode cX4_firstActThatIsNone 63 = .ok (.ireturn, 1) := by decide +kernel
theorem dX4_firstActThatIsNone_64 : decode cX4_firstActThatIsNone 64 = .ok (.aload_n 0, 1) := by decide +kernel
theorem dX4_firstActThatIsNone_65 : decode cX4_firstActThatIsNone 65 = .ok (.getfield 15, 3) := by decide +kernel
theorem dX4_firstActThatIsNone_68 : decode cX4_firstActThatIsNone 68 = .ok (.iload_n 1, 1) := by decide +kernel
theorem dX4_firstActThatIsNone_69 : decode cX4_firstActThatIsNone 69 = .ok (.iconst 1, 1) := by decide +kernel
theorem dX4_firstActThatIsNone_70 : decode cX4_firstActThatIsNone 70 = .ok (.bastore, 1) := by decide +kernel
theorem dX4_firstActThatIsNone_71 : decode cX4_firstActThatIsNone 71 = .ok (.iload_n 1, 1) := by decide +kernel
theorem dX4_firstActThatIsNone_72 : decode cX4_firstActThatIsNone 72 = .ok (.aload_n 0, 1) := by decide +kernel
theorem dX4_firstActThatIsNone_73 : decode cX4_firstActThatIsNone 73 = .ok (.iload_n 1, 1) := by decide +kernel
theorem dX4_firstActThatIsNone_74 : decode cX4_firstActThatIsNone 74 = .ok (.invokevirtual 36, 3) := by decide +kernel
theorem dX4_firstActThatIsNone_77 : decode cX4_firstActThatIsNone 77 = .ok (.iadd, 1) := by decide +kernel
theorem dX4_firstActThatIsNone_78 : decode cX4_firstActThatIsNone 78 = .ok (.istore_n 1, 1) := by decide +kernel
theorem dX4_firstActThatIsNone_79 : decode cX4_firstActThatIsNone 79 = .ok (.goto (-54), 3) := by decide +kernel
theorem dX4_firstActThatIsNone_82 : decode cX4_firstActThatIsNone 82 = .ok (.aload_n 0, 1) := by decide +kernel
theorem dX4_firstActThatIsNone_83 : decode cX4_firstActThatIsNone 83 = .ok (.getfield 19, 3) := by decide +kernel
theorem dX4_firstActThatIsNone_86 : decode cX4_firstActThatIsNone 86 = .ok (.ifCond .ne 7, 3) := by decide +kernel
theorem dX4_firstActThatIsNone_89 : decode cX4_firstActThatIsNone 89 = .ok (.iconst 0, 1) := by decide +kernel
theorem dX4_firstActThatIsNone_90 : decode cX4_firstActThatIsNone 90 = .ok (.goto 4, 3) := by decide +kernel
theorem dX4_firstActThatIsNone_93 : decode cX4_firstActThatIsNone 93 = .ok (.iconst (-1), 1) := by decide +kernel
theorem dX4_firstActThatIsNone_94 : decode cX4_firstActThatIsNone 94 = .ok (.ireturn, 1) := by decide +kernel
theorem dX4_actSize_0 : decode cX4_actSize 0 = .ok (.iconst 1, 1) := by decide +kernel
theorem dX4_actSize_1 : decode cX4_actSize 1 = .ok (.aload_n 0, 1) := by decide +kernel
theorem dX4_actSize_2 : decode cX4_actSize 2 = .ok (.getfield 9, 3) := by decide +kernel
theorem dX4_actSize_5 : decode cX4_actSize 5 = .ok (.iload_n 1, 1) := by decide +kernel
theorem dX4_actSize_6 : decode cX4_actSize 6 = .ok (.baload, 1) := by decide +kernel
theorem dX4_actSize_7 : decode cX4_actSize 7 = .ok (.sipush 255, 3) := by decide +kernel
theorem dX4_actSize_10 : decode cX4_actSize 10 = .ok (.iand, 1) := by decide +kernel
theorem dX4_actSize_11 : decode cX4_actSize 11 = .ok (.invokestatic 40, 3) := by decide +kernel
theorem dX4_actSize_14 : decode cX4_actSize 14 = .ok (.iadd, 1) := by decide +kernel
theorem dX4_actSize_15 : decode cX4_actSize 15 = .ok (.ireturn, 1) := by decide +kernel
theorem dX4_firstLostJump_0 : decode cX4_firstLostJump 0 = .ok (.iconst 0, 1) := by decide +kernel
theorem dX4_firstLostJump_1 : decode cX4_firstLostJump 1 = .ok (.istore_n 1, 1) := by decide +kernel
theorem dX4_firstLostJump_2 : decode cX4_firstLostJump 2 = .ok (.iload_n 1, 1) := by decide +kernel
theorem dX4_firstLostJump_3 : decode cX4_firstLostJump 3 = .ok (.aload_n 0, 1) := by decide +kernel
theorem dX4_firstLostJump_4 : decode cX4_firstLostJump 4 = .ok (.getfield 19, 3) := by decide +kernel
theorem dX4_firstLostJump_7 : decode cX4_firstLostJump 7 = .ok (.iconst 1, 1) := by decide +kernel
theorem dX4_firstLostJump_8 : decode cX4_firstLostJump 8 = .ok (.isub, 1) := by decide +kernel
theorem dX4_firstLostJump_9 : decode cX4_firstLostJump 9 = .ok (.if_icmp .ge 71, 3) := by decide +kernel
theorem dX4_firstLostJump_12 : decode cX4_firstLostJump 12 = .ok (.aload_n 0, 1) := by decide +kernel
theorem dX4_firstLostJump_13 : decode cX4_firstLostJump 13 = .ok (.getfield 9, 3) := by decide +kernel
theorem dX4_firstLostJump_16 : decode cX4_firstLostJump 16 = .ok (.iload_n 1, 1) := by decide +kernel
theorem dX4_firstLostJump_17 : decode cX4_firstLostJump 17 = .ok (.baload, 1) := by decide +kernel
theorem dX4_firstLostJump_18 : decode cX4_firstLostJump 18 = .ok (.bipush 19, 2) := by decide +kernel
theorem dX4_firstLostJump_20 : decode cX4_firstLostJump 20 = .ok (.if_icmp .eq 14, 3) := by decide +kernel
theorem dX4_firstLostJump_23 : decode cX4_firstLostJump 23 = .ok (.aload_n 0, 1) := by decide +kernel
theorem dX4_firstLostJump_24 : decode cX4_firstLostJump 24 = .ok (.getfield 9, 3) := by decide +kernel
theorem dX4_firstLostJump_27 : decode cX4_firstLostJump 27 = .ok (.iload_n 1, 1) := by decide +kernel
theorem dX4_firstLostJump_28 : decode cX4_firstLostJump 28 = .ok (.baload, 1) := by decide +kernel
theorem dX4_firstLostJump_29 : decode cX4_firstLostJump 29 = .ok (.bipush 20, 2) := by decide +kernel
theorem dX4_firstLostJump_31 : decode cX4_firstLostJump 31 = .ok (.if_icmp .ne 7, 3) := by decide +kernel
theorem dX4_firstLostJump_34 : decode cX4_firstLostJump 34 = .ok (.iconst 1, 1) := by decide +kernel
theorem dX4_firstLostJump_35 : decode cX4_firstLostJump 35 = .ok (.goto 4, 3) := by decide +kernel
theorem dX4_firstLostJump_38 : decode cX4_firstLostJump 38 = .ok (.iconst 0, 1) := by decide +kernel
theorem dX4_firstLostJump_39 : decode cX4_firstLostJump 39 = .ok (.istore_n 2, 1) := by decide +kernel
theorem dX4_firstLostJump_40 : decode cX4_firstLostJump 40 = .ok (.aload_n 0, 1) := by decide +kernel
theorem dX4_firstLostJump_41 : decode cX4_firstLostJump 41 = .ok (.getfield 15, 3) := by decide +kernel
theorem dX4_firstLostJump_44 : decode cX4_firstLostJump 44 = .ok (.iload_n 1, 1) := by decide +kernel
theorem dX4_firstLostJump_45 : decode cX4_firstLostJump 45 = .ok (.baload, 1) := by decide +kernel
theorem dX4_firstLostJump_46 : decode cX4_firstLostJump 46 = .ok (.ifCond .eq 28, 3) := by decide +kernel
theorem dX4_firstLostJump_49 : decode cX4_firstLostJump 49 = .ok (.iload_n 2, 1) := by decide +kernel
theorem dX4_firstLostJump_50 : decode cX4_firstLostJump 50 = .ok (.ifCond .eq 24, 3) := by decide +kernel
theorem dX4_firstLostJump_53 : decode cX4_firstLostJump 53 = .ok (.aload_n 0, 1) := by decide +kernel
theorem dX4_firstLostJump_54 : decode cX4_firstLostJump 54 = .ok (.aload_n 0, 1) := by decide +kernel
theorem dX4_firstLostJump_55 : decode cX4_firstLostJump 55 = .ok (.getfield 9, 3) := by decide +kernel
theorem dX4_firstLostJump_58 : decode cX4_firstLostJump 58 = .ok (.iload_n 1, 1) := by decide +kernel
theorem dX4_firstLostJump_59 : decode cX4_firstLostJump 59 = .ok (.iconst 1, 1) := by decide +kernel
theorem dX4_firstLostJump_60 : decode cX4_firstLostJump 60 = .ok (.iadd, 1) := by decide +kernel
theorem dX4_firstLostJump_61 : decode cX4_firstLostJump 61 = .ok (.baload, 1) := by decide +kernel
theorem dX4_firstLostJump_62 : decode cX4_firstLostJump 62 = .ok (.sipush 255, 3) := by decide +kernel
theorem dX4_firstLostJump_65 : decode cX4_firstLostJump 65 = .ok (.iand, 1) := by decide +kernel
theorem dX4_firstLostJump_66 : decode cX4_firstLostJump 66 = .ok (.invokevirtual 45, 3) := by decide +kernel
theorem dX4_firstLostJump_69 : decode cX4_firstLostJump 69 = .ok (.ifCond .ne 5, 3) := by decide +kernel
theorem dX4_firstLostJump_72 : decode cX4_firstLostJump 72 = .ok (.iload_n 1, 1) := by decide +kernel
theorem dX4_firstLostJump_73 : decode cX4_firstLostJump 73 = .ok (.ireturn, 1) := by decide +kernel
theorem dX4_firstLostJump_74 : decode cX4_firstLostJump 74 = .ok (.iinc 1 1, 3) := by decide +kernel
theorem dX4_firstLostJump_77 : decode cX4_firstLostJump 77 = .ok (.goto (-75), 3) := by decide +kernel
theorem dX4_firstLostJump_80 : decode cX4_firstLostJump 80 = .ok (.iconst (-1), 1) := by decide +kernel
theorem dX4_firstLostJump_81 : decode cX4_firstLostJump 81 = .ok (.ireturn, 1) := by decide +kernel
theorem dX4_isBegun_0 : decode cX4_isBegun 0 = .ok (.iload_n 1, 1) := by decide +kernel
theorem dX4_isBegun_1 : decode cX4_isBegun 1 = .ok (.aload_n 0, 1) := by decide +kernel
theorem dX4_isBegun_2 : decode cX4_isBegun 2 = .ok (.getfield 19, 3) := by decide +kernel
theorem dX4_isBegun_5 : decode cX4_isBegun 5 = .ok (.if_icmp .ge 16, 3) := by decide +kernel
theorem dX4_isBegun_8 : decode cX4_isBegun 8 = .ok (.aload_n 0, 1) := by decide +kernel
theorem dX4_isBegun_9 : decode cX4_isBegun 9 = .ok (.getfield 15, 3) := by decide +kernel
theorem dX4_isBegun_12 : decode cX4_isBegun 12 = .ok (.iload_n 1, 1) := by decide +kernel
theorem dX4_isBegun_13 : decode cX4_isBegun 13 = .ok (.baload, 1) := by decide +kernel
theorem dX4_isBegun_14 : decode cX4_isBegun 14 = .ok (.ifCond .eq 7, 3) := by decide +kernel
theorem dX4_isBegun_17 : decode cX4_isBegun 17 = .ok (.iconst 1, 1) := by decide +kernel
theorem dX4_isBegun_18 : decode cX4_isBegun 18 = .ok (.goto 4, 3) := by decide +kernel
theorem dX4_isBegun_21 : decode cX4_isBegun 21 = .ok (.iconst 0, 1) := by decide +kernel
theorem dX4_isBegun_22 : decode cX4_isBegun 22 = .ok (.ireturn, 1) := by decide +kernel
theorem dJ7_copyOf_9075b_0 : decode cJ7_copyOf_9075b 0 = .ok (.iload_n 1, 1) := by decide +kernel
theorem dJ7_copyOf_9075b_1 : decode cJ7_copyOf_9075b 1 = .ok (.aload_n 0, 1) := by decide +kernel
theorem dJ7_copyOf_9075b_2 : decode cJ7_copyOf_9075b 2 = .ok (.arraylength, 1) := by decide +kernel
theorem dJ7_copyOf_9075b_3 : decode cJ7_copyOf_9075b 3 = .ok (.if_icmp .ne 11, 3) := by decide +kernel
theorem dJ7_copyOf_9075b_6 : decode cJ7_copyOf_9075b 6 = .ok (.aload_n 0, 1) := by decide +kernel
theorem dJ7_copyOf_9075b_7 : decode cJ7_copyOf_9075b 7 = .ok (.invokevirtual 310, 3) := by decide +kernel
theorem dJ7_copyOf_9075b_10 : decode cJ7_copyOf_9075b 10 = .ok (.checkcast 311, 3) := by decide +kernel
theorem dJ7_copyOf_9075b_13 : decode cJ7_copyOf_9075b 13 = .ok (.areturn, 1) := by decide +kernel
theorem dJ7_copyOf_9075b_14 : decode cJ7_copyOf_9075b 14 = .ok (.iload_n 1, 1) := by decide +kernel
theorem dJ7_copyOf_9075b_15 : decode cJ7_copyOf_9075b 15 = .ok (.newarray .byte, 2) := by decide +kernel
theorem dJ7_copyOf_9075b_17 : decode cJ7_copyOf_9075b 17 = .ok (.astore_n 2, 1) := by decide +kernel
theorem dJ7_copyOf_9075b_18 : decode cJ7_copyOf_9075b 18 = .ok (.aload_n 0, 1) := by decide +kernel
theorem dJ7_copyOf_9075b_19 : decode cJ7_copyOf_9075b 19 = .ok (.iconst 0, 1) := by decide +kernel
theorem dJ7_copyOf_9075b_20 : decode cJ7_copyOf_9075b 20 = .ok (.aload_n 2, 1) := by decide +kernel
theorem dJ7_copyOf_9075b_21 : decode cJ7_copyOf_9075b 21 = .ok (.iconst 0, 1) := by decide +kernel
theorem dJ7_copyOf_9075b_22 : decode cJ7_copyOf_9075b 22 = .ok (.aload_n 0, 1) := by decide +kernel
theorem dJ7_copyOf_9075b_23 : decode cJ7_copyOf_9075b 23 = .ok (.arraylength, 1) := by decide +kernel
theorem dJ7_copyOf_9075b_24 : decode cJ7_copyOf_9075b 24 = .ok (.iload_n 1, 1) := by decide +kernel
theorem dJ7_copyOf_9075b_25 : decode cJ7_copyOf_9075b 25 = .ok (.invokestatic 304, 3) := by decide +kernel
theorem dJ7_copyOf_9075b_28 : decode cJ7_copyOf_9075b 28 = .ok (.invokestatic 150, 3) := by decide +kernel
theorem dJ7_copyOf_9075b_31 : decode cJ7_copyOf_9075b 31 = .ok (.aload_n 2, 1) := by decide +kernel
theorem dJ7_copyOf_9075b_32 : decode cJ7_copyOf_9075b 32 = .ok (.areturn, 1) := by decide +kernel
theorem dX10_code_0 : decode cX10_code 0 = .ok (.aload_n 0, 1) := by decide +kernel
theorem dX10_code_1 : decode cX10_code 1 = .ok (.getfield 19, 3) := by decide +kernel
theorem dX10_code_4 : decode cX10_code 4 = .ok (.getfield 74, 3) := by decide +kernel
theorem dX10_code_7 : decode cX10_code 7 = .ok (.invokevirtual 78, 3) := by decide +kernel
theorem dX10_code_10 : decode cX10_code 10 = .ok (.ifCond .eq 13, 3) := by decide +kernel
theorem dX10_code_13 : decode cX10_code 13 = .ok (.new 84, 3) := by decide +kernel
theorem dX10_code_16 : decode cX10_code 16 = .ok (.dup, 1) := by decide +kernel
theorem dX10_code_17 : decode cX10_code 17 = .ok (.ldc 86, 2) := by decide +kernel
theorem dX10_code_19 : decode cX10_code 19 = .ok (.invokespecial 88, 3) := by decide +kernel
theorem dX10_code_22 : decode cX10_code 22 = .ok (.athrow, 1) := by decide +kernel
theorem dX10_code_23 : decode cX10_code 23 = .ok (.aload_n 0, 1) := by decide +kernel
theorem dX10_code_24 : decode cX10_code 24 = .ok (.getfield 10, 3) := by decide +kernel
theorem dX10_code_27 : decode cX10_code 27 = .ok (.invokevirtual 89, 3) := by decide +kernel
theorem dX10_code_30 : decode cX10_code 30 = .ok (.istore_n 1, 1) := by decide +kernel
theorem dX10_code_31 : decode cX10_code 31 = .ok (.aload_n 0, 1) := by decide +kernel
theorem dX10_code_32 : decode cX10_code 32 = .ok (.getfield 10, 3) := by decide +kernel
theorem dX10_code_35 : decode cX10_code 35 = .ok (.invokevirtual 93, 3) := by decide +kernel
theorem dX10_code_38 : decode cX10_code 38 = .ok (.astore_n 2, 1) := by decide +kernel
theorem dX10_code_39 : decode cX10_code 39 = .ok (.iload_n 1, 1) := by decide +kernel
theorem dX10_code_40 : decode cX10_code 40 = .ok (.iconst (-1), 1) := by decide +kernel
theorem dX10_code_41 : decode cX10_code 41 = .ok (.if_icmp .ne 24, 3) := by decide +kernel
theorem dX10_code_44 : decode cX10_code 44 = .ok (.aload_n 0, 1) := by decide +kernel
theorem dX10_code_45 : decode cX10_code 45 = .ok (.getfield 19, 3) := by decide +kernel
theorem dX10_code_48 : decode cX10_code 48 = .ok (.getfield 74, 3) := by decide +kernel
theorem dX10_code_51 : decode cX10_code 51 = .ok (.new 97, 3) := by decide +kernel
theorem dX10_code_54 : decode cX10_code 54 = .ok (.dup, 1) := by decide +kernel
theorem dX10_code_55 : decode cX10_code 55 = .ok (.aload_n 2, 1) := by decide +kernel
theorem dX10_code_56 : decode cX10_code 56 = .ok (.invokespecial 99, 3) := by decide +kernel
theorem dX10_code_59 : decode cX10_code 59 = .ok (.invokevirtual 102, 3) := by decide +kernel
theorem dX10_code_62 : decode cX10_code 62 = .ok (.goto 7, 3) := by decide +kernel
theorem dX10_code_65 : decode cX10_code 65 = .ok (.bipush (-2), 2) := by decide +kernel
theorem dX10_code_67 : decode cX10_code 67 = .ok (.iload_n 1, 1) := by decide +kernel
theorem dX10_code_68 : decode cX10_code 68 = .ok (.isub, 1) := by decide +kernel
theorem dX10_code_69 : decode cX10_code 69 = .ok (.ireturn, 1) := by decide +kernel
theorem cf_fullN {G : rx_E} {d : Nat} {C : rx_M} {S : gs_T} (hG : rx_OK G) {n : Nat} (h5 : C.1 5 1 = nI n) (hn : n < 16) : rx_C G MX3_isFull d [.ref 5] (gl C S) 0 0 (fun v mu => v = some (.int (nI 0)) ∧ mu = gl C S) := by
  refine rx_meth0 (by decide +kernel) rfl (Nat.le_of_ble_eq_true rfl) ?_
  refine rx_aload_n dX3_isFull_0 rfl rfl ?_
  refine gcv_getI (v := nI n) hG hf_RX3_17 rfl dX3_isFull_1 rfl rfl rfl h5 ?_
  refine rx_bipush (v := nI 16) dX3_isFull_4 rfl ?_
  refine rx_icmp_lt (tgt := 13) dX3_isFull_6 (by decide) (fun h6 => ?_) (fun h6 => (absurd (by rw [nI_ltI (by omega) (by omega)]; omega) h6)) 
  refine rx_iconst (v := nI 0) dX3_isFull_13 rfl ?_
  exact rx_zret rfl rfl dX3_isFull_14 ⟨rfl, rfl⟩
theorem cf_fullT {G : rx_E} {d : Nat} {C : rx_M} {S : gs_T} (hG : rx_OK G) {n : Nat} (h5 : C.1 5 1 = nI n) (hn : n = 16) : rx_C G MX3_isFull d [.ref 5] (gl C S) 0 0 (fun v mu => v = some (.int (nI 1)) ∧ mu = gl C S) := by
  refine rx_meth0 (by decide +kernel) rfl (Nat.le_of_ble_eq_true rfl) ?_
  refine rx_aload_n dX3_isFull_0 rfl rfl ?_
  refine gcv_getI (v := nI n) hG hf_RX3_17 rfl dX3_isFull_1 rfl rfl rfl h5 ?_
  refine rx_bipush (v := nI 16) dX3_isFull_4 rfl ?_
  refine rx_icmp_lt (tgt := 13) dX3_isFull_6 (by decide) (fun h6 => (absurd h6 (by rw [nI_ltI (by omega) (by omega)]; omega))) (fun h6 => ?_)
  refine rx_iconst (v := nI 1) dX3_isFull_9 rfl ?_
  refine rx_goto (tgt := 14) dX3_isFull_10 (by decide) ?_
  exact rx_zret rfl rfl dX3_isFull_14 ⟨rfl, rfl⟩
theorem cf_actSize {G : rx_E} {d : Nat} {C : rx_M} {S : gs_T} (hG : rx_OK G) {k op : Nat} (hk : k < 200) (hop : op < 40) (ho : C.1 2 k = (nI op).toInt8.toInt32) : rx_C G MX4_actSize (d + 1) [.ref 1, .int (nI k)] (gl C S) 0 0 (fun v mu => v = some (.int (nI (vm_size op))) ∧ mu = gl C S) := by
  refine rx_meth0 (by decide +kernel) rfl (Nat.le_of_ble_eq_true rfl) ?_
  refine rx_iconst (v := nI 1) dX4_actSize_0 rfl ?_
  refine rx_aload_n dX4_actSize_1 rfl rfl ?_
  refine g_getR hG hf_RX4_9 rfl dX4_actSize_2 rfl rfl rfl ?_
  refine rx_iload_n dX4_actSize_5 rfl ?_
  refine gcv_bald (j := k) (v := (nI op).toInt8.toInt32) hG dX4_actSize_6 rfl rfl rfl rfl (by omega) (by decide) ho ?_
  refine rx_sipush (v := nI 255) dX4_actSize_7 rfl ?_
  refine rx_iand dX4_actSize_10 ?_
  refine rx_ti (y := nI op) (oc_and _ (by omega)) ?_
  refine rx_invS0 (as := [.int _]) hG okX2_octetsBehind lk_RX4_40 dX4_actSize_11 rfl (by simp [Value.category]) (cc_behind hG hop) ?_
  rintro _ _ ⟨rfl, rfl⟩
  refine rx_iadd dX4_actSize_14 ?_
  refine rx_ti (y := nI ((vm_size op - 1) + 1)) ((nI_add _ _).trans (congrArg nI (by omega))) ?_
  refine rx_ti (y := nI (vm_size op)) (congrArg nI (by have := vb_size1 (op := op); omega)) ?_
  exact rx_iret rfl dX4_actSize_15 ⟨rfl, rfl⟩
theorem lc_jz {G : rx_E} {d mc ms : Nat} {C : rx_M} {S : gs_T} {ds : List Nat} {Q : Option Value → rx_M → Prop} {Z : String → rx_M → Prop} (hG : rx_OK G) (hcn : C.1 1 2 = nI ds.length) (hl : ds.length ≤ 200) (kk : ∀ R : Nat → Int32, (∀ j, j < ds.length → R j = nI 0) → rx_W G MX4_firstActThatIsNone d 23 [(1, .int (nI ds.length)), (0, .ref 1)] [] (gl (rx_k1 C.1 3 R, C.2) S) mc ms Q Z) : ∀ (m i : Nat) (R : Nat → Int32), i + m = ds.length → (∀ j, j < i → R j = nI 0) → rx_W G MX4_firstActThatIsNone d 2 [(1, .int (nI i)), (0, .ref 1)] [] (gl (rx_k1 C.1 3 R, C.2) S) mc ms Q Z := by
  intro m
  induction m with
  | zero =>
    intro i R hi hR
    have hi : i = ds.length := by omega
    subst hi
    have hcR : (rx_k1 C.1 3 R, C.2).1 1 2 = nI ds.length := by show rx_k1 C.1 3 R 1 2 = _; rw [k1_ne _ (by decide)]; exact hcn
    refine rx_iload_n dX4_firstActThatIsNone_2 rfl ?_
    refine rx_aload_n dX4_firstActThatIsNone_3 rfl rfl ?_
    refine gcv_getI (v := nI ds.length) hG hf_RX4_19 rfl dX4_firstActThatIsNone_4 rfl rfl rfl hcR ?_
    refine rx_icmp_ge (tgt := 23) dX4_firstActThatIsNone_7 (by decide) (fun _ => ?_) (fun q => absurd (by rw [nI_leI (by omega) (by omega)]; omega) q)
    exact kk R hR
  | succ m ih =>
    intro i R hi hR
    have hcR : (rx_k1 C.1 3 R, C.2).1 1 2 = nI ds.length := by show rx_k1 C.1 3 R 1 2 = _; rw [k1_ne _ (by decide)]; exact hcn
    refine rx_iload_n dX4_firstActThatIsNone_2 rfl ?_
    refine rx_aload_n dX4_firstActThatIsNone_3 rfl rfl ?_
    refine gcv_getI (v := nI ds.length) hG hf_RX4_19 rfl dX4_firstActThatIsNone_4 rfl rfl rfl hcR ?_
    refine rx_icmp_ge (tgt := 23) dX4_firstActThatIsNone_7 (by decide) (fun h7 => (absurd h7 (by rw [nI_leI (by omega) (by omega)]; omega))) (fun h7 => ?_)
    refine rx_aload_n dX4_firstActThatIsNone_10 rfl rfl ?_
    refine g_getR hG hf_RX4_15 rfl dX4_firstActThatIsNone_11 rfl rfl rfl ?_
    refine rx_iload_n dX4_firstActThatIsNone_14 rfl ?_
    refine rx_iconst (v := nI 0) dX4_firstActThatIsNone_15 rfl ?_
    refine gc_zast (j := i) hG dX4_firstActThatIsNone_16 rfl rfl rfl rfl (by omega) (by decide) rfl ?_
    refine rx_iinc (v := nI (i + 1)) dX4_firstActThatIsNone_17 rfl ((nI_add _ 1).trans (congrArg nI (by omega))) ?_
    refine rx_goto (tgt := 2) dX4_firstActThatIsNone_20 (by decide) ?_
    refine rx_me (mu' := gl (rx_k1 C.1 3 (fun t => if t = i then nI 0 else R t), C.2) S) (by show gl (rx_u (rx_k1 C.1 3 R) 3 i (nI 0), C.2) S = _; rw [u_k1]) ?_
    refine rx_lv (lv' := [(1, .int (nI (i + 1))), (0, .ref 1)]) ⟨rfl, rfl, trivial⟩ ?_
    refine ih (i + 1) _ (by omega) (fun j hj => ?_)
    show (if j = i then nI 0 else R j) = _
    split
    · rfl
    · exact hR j (by omega)
theorem lc_jf {G : rx_E} {d mc ms : Nat} {C : rx_M} {S : gs_T} {ds : List Nat} {Q : Option Value → rx_M → Prop} {Z : String → rx_M → Prop} (hG : rx_OK G) (hcn : C.1 1 2 = nI ds.length) (hl : ds.length ≤ 200) (hoc : ∀ k, k < ds.length → ds.getD k 0 < 256 ∧ C.1 2 k = (nI (ds.getD k 0)).toInt8.toInt32) {J : Option Nat} {Bf : Nat → Bool} (kk1 : ∀ (p : Nat) (R : Nat → Int32), J = some p → Q (some (.int (nI p))) (gl (rx_k1 C.1 3 R, C.2) S)) (kk2 : ∀ (k : Nat) (R : Nat → Int32), J = none → (∀ j, j < ds.length → R j = bI (Bf j)) → rx_W G MX4_firstActThatIsNone (d + 2) 82 [(1, .int (nI k)), (0, .ref 1)] [] (gl (rx_k1 C.1 3 R, C.2) S) mc ms Q Z) : ∀ (m k : Nat) (B : Nat → Bool) (R : Nat → Int32), k ≤ ds.length → ds.length ≤ k + m → jf ds m k = J → (∀ j, (B j || jb ds m k j) = Bf j) → (∀ j, j < ds.length → R j = bI (B j)) → rx_W G MX4_firstActThatIsNone (d + 2) 25 [(1, .int (nI k)), (0, .ref 1)] [] (gl (rx_k1 C.1 3 R, C.2) S) mc ms Q Z := by
  intro m
  induction m with
  | zero =>
    intro k B R hk2 hk hJ hB hR
    have hcR : (rx_k1 C.1 3 R, C.2).1 1 2 = nI ds.length := by show rx_k1 C.1 3 R 1 2 = _; rw [k1_ne _ (by decide)]; exact hcn
    refine rx_iload_n dX4_firstActThatIsNone_25 rfl ?_
    refine rx_aload_n dX4_firstActThatIsNone_26 rfl rfl ?_
    refine gcv_getI (v := nI ds.length) hG hf_RX4_19 rfl dX4_firstActThatIsNone_27 rfl rfl rfl hcR ?_
    refine rx_icmp_ge (tgt := 82) dX4_firstActThatIsNone_30 (by decide) (fun _ => ?_) (fun q => absurd (by rw [nI_leI (by omega) (by omega)]; omega) q)
    have e := hJ
    rw [jf_out (by omega)] at e
    refine kk2 k R e.symm (fun j hj => ?_)
    rw [hR j hj]
    have := hB j
    rw [jb_out (by omega), Bool.or_false] at this
    rw [this]
  | succ m ih =>
    intro k B R hk2 hk hJ hB hR
    have hcR : (rx_k1 C.1 3 R, C.2).1 1 2 = nI ds.length := by show rx_k1 C.1 3 R 1 2 = _; rw [k1_ne _ (by decide)]; exact hcn
    by_cases hkl : k < ds.length
    · obtain ⟨hoc, hok0⟩ := hoc k hkl
      have hok : (rx_k1 C.1 3 R, C.2).1 2 k = (nI (ds.getD k 0)).toInt8.toInt32 := by show rx_k1 C.1 3 R 2 k = _; rw [k1_ne _ (by decide)]; exact hok0
      by_cases hop : ds.getD k 0 < 40
      · have hs9 : vm_size (ds.getD k 0) ≤ 9 := by unfold vm_size; (repeat' split) <;> omega
        by_cases hsz : k + vm_size (ds.getD k 0) ≤ ds.length
        · skip
          refine rx_iload_n dX4_firstActThatIsNone_25 rfl ?_
          refine rx_aload_n dX4_firstActThatIsNone_26 rfl rfl ?_
          refine gcv_getI (v := nI ds.length) hG hf_RX4_19 rfl dX4_firstActThatIsNone_27 rfl rfl rfl hcR ?_
          refine rx_icmp_ge (tgt := 82) dX4_firstActThatIsNone_30 (by decide) (fun h30 => (absurd h30 (by rw [nI_leI (by omega) (by omega)]; omega))) (fun h30 => ?_)
          refine rx_aload_n dX4_firstActThatIsNone_33 rfl rfl ?_
          refine g_getR hG hf_RX4_9 rfl dX4_firstActThatIsNone_34 rfl rfl rfl ?_
          refine rx_iload_n dX4_firstActThatIsNone_37 rfl ?_
          refine gcv_bald (j := k) (v := (nI (ds.getD k 0)).toInt8.toInt32) hG dX4_firstActThatIsNone_38 rfl rfl rfl rfl (by omega) (by decide) hok ?_
          refine rx_sipush (v := nI 255) dX4_firstActThatIsNone_39 rfl ?_
          refine rx_iand dX4_firstActThatIsNone_42 ?_
          refine rx_ti (y := nI (ds.getD k 0)) (oc_and _ hoc) ?_
          refine rx_bipush (v := nI 40) dX4_firstActThatIsNone_43 rfl ?_
          refine rx_icmp_ge (tgt := 62) dX4_firstActThatIsNone_45 (by decide) (fun h45 => (absurd h45 (by rw [nI_leI (by omega) (by omega)]; omega))) (fun h45 => ?_)
          refine rx_iload_n dX4_firstActThatIsNone_48 rfl ?_
          refine rx_aload_n dX4_firstActThatIsNone_49 rfl rfl ?_
          refine rx_iload_n dX4_firstActThatIsNone_50 rfl ?_
          refine gv_invV (as := [.int _]) hG okX4_actSize lk_RX4_36 rfl rfl dX4_firstActThatIsNone_51 rfl (by simp [Value.category]) (cf_actSize (C := (rx_k1 C.1 3 R, C.2)) hG (by omega) hop hok) ?_
          rintro _ _ ⟨rfl, rfl⟩
          refine rx_iadd dX4_firstActThatIsNone_54 ?_
          refine rx_ti (y := nI ((vm_size (ds.getD k 0)) + k)) ((nI_add _ _).trans (congrArg nI (by omega))) ?_
          refine rx_aload_n dX4_firstActThatIsNone_55 rfl rfl ?_
          refine gcv_getI (v := nI ds.length) hG hf_RX4_19 rfl dX4_firstActThatIsNone_56 rfl rfl rfl hcR ?_
          refine rx_icmp_le (tgt := 64) dX4_firstActThatIsNone_59 (by decide) (fun h59 => ?_) (fun h59 => (absurd (by rw [nI_leI (by omega) (by omega)]; omega) h59)) 
          refine rx_aload_n dX4_firstActThatIsNone_64 rfl rfl ?_
          refine g_getR hG hf_RX4_15 rfl dX4_firstActThatIsNone_65 rfl rfl rfl ?_
          refine rx_iload_n dX4_firstActThatIsNone_68 rfl ?_
          refine rx_iconst (v := nI 1) dX4_firstActThatIsNone_69 rfl ?_
          refine gc_zast (j := k) hG dX4_firstActThatIsNone_70 rfl rfl rfl rfl (by omega) (by decide) rfl ?_
          refine rx_iload_n dX4_firstActThatIsNone_71 rfl ?_
          refine rx_aload_n dX4_firstActThatIsNone_72 rfl rfl ?_
          refine rx_iload_n dX4_firstActThatIsNone_73 rfl ?_
          refine gv_invV (as := [.int _]) hG okX4_actSize lk_RX4_36 rfl rfl dX4_firstActThatIsNone_74 rfl (by simp [Value.category]) (cf_actSize (C := _) hG (by omega) hop (by simpa [rx_ru] using hok)) ?_
          rintro _ _ ⟨rfl, rfl⟩
          refine rx_iadd dX4_firstActThatIsNone_77 ?_
          refine rx_ti (y := nI (k + vm_size (ds.getD k 0))) (nI_add _ _) ?_
          refine rx_istore_n dX4_firstActThatIsNone_78 (by decide) ?_
          refine rx_goto (tgt := 25) dX4_firstActThatIsNone_79 (by decide) ?_
          refine rx_me (mu' := gl (rx_k1 C.1 3 (fun t => if t = k then nI 1 else R t), C.2) S) (by show gl (rx_u (rx_k1 C.1 3 R) 3 k (nI 1), C.2) S = _; rw [u_k1]) ?_
          refine rx_lv (lv' := [(1, .int (nI (k + vm_size (ds.getD k 0)))), (0, .ref 1)]) ⟨rfl, rfl, trivial⟩ ?_
          refine ih (k + vm_size (ds.getD k 0)) (fun t => if t = k then true else B t) _ hsz (by have := vb_size1 (op := ds.getD k 0); omega) ?_ (jb_go hB hkl) (jR_up (Bf := Bf) hR)
          rw [← hJ, jf, if_pos hkl, if_pos ⟨hop, hsz⟩]
        · skip
          refine rx_iload_n dX4_firstActThatIsNone_25 rfl ?_
          refine rx_aload_n dX4_firstActThatIsNone_26 rfl rfl ?_
          refine gcv_getI (v := nI ds.length) hG hf_RX4_19 rfl dX4_firstActThatIsNone_27 rfl rfl rfl hcR ?_
          refine rx_icmp_ge (tgt := 82) dX4_firstActThatIsNone_30 (by decide) (fun h30 => (absurd h30 (by rw [nI_leI (by omega) (by omega)]; omega))) (fun h30 => ?_)
          refine rx_aload_n dX4_firstActThatIsNone_33 rfl rfl ?_
          refine g_getR hG hf_RX4_9 rfl dX4_firstActThatIsNone_34 rfl rfl rfl ?_
          refine rx_iload_n dX4_firstActThatIsNone_37 rfl ?_
          refine gcv_bald (j := k) (v := (nI (ds.getD k 0)).toInt8.toInt32) hG dX4_firstActThatIsNone_38 rfl rfl rfl rfl (by omega) (by decide) hok ?_
          refine rx_sipush (v := nI 255) dX4_firstActThatIsNone_39 rfl ?_
          refine rx_iand dX4_firstActThatIsNone_42 ?_
          refine rx_ti (y := nI (ds.getD k 0)) (oc_and _ hoc) ?_
          refine rx_bipush (v := nI 40) dX4_firstActThatIsNone_43 rfl ?_
          refine rx_icmp_ge (tgt := 62) dX4_firstActThatIsNone_45 (by decide) (fun h45 => (absurd h45 (by rw [nI_leI (by omega) (by omega)]; omega))) (fun h45 => ?_)
          refine rx_iload_n dX4_firstActThatIsNone_48 rfl ?_
          refine rx_aload_n dX4_firstActThatIsNone_49 rfl rfl ?_
          refine rx_iload_n dX4_firstActThatIsNone_50 rfl ?_
          refine gv_invV (as := [.int _]) hG okX4_actSize lk_RX4_36 rfl rfl dX4_firstActThatIsNone_51 rfl (by simp [Value.category]) (cf_actSize (C := (rx_k1 C.1 3 R, C.2)) hG (by omega) hop hok) ?_
          rintro _ _ ⟨rfl, rfl⟩
          refine rx_iadd dX4_firstActThatIsNone_54 ?_
          refine rx_ti (y := nI ((vm_size (ds.getD k 0)) + k)) ((nI_add _ _).trans (congrArg nI (by omega))) ?_
          refine rx_aload_n dX4_firstActThatIsNone_55 rfl rfl ?_
          refine gcv_getI (v := nI ds.length) hG hf_RX4_19 rfl dX4_firstActThatIsNone_56 rfl rfl rfl hcR ?_
          refine rx_icmp_le (tgt := 64) dX4_firstActThatIsNone_59 (by decide) (fun h59 => (absurd h59 (by rw [nI_leI (by omega) (by omega)]; omega))) (fun h59 => ?_)
          refine rx_iload_n dX4_firstActThatIsNone_62 rfl ?_
          exact rx_iret rfl dX4_firstActThatIsNone_63 (kk1 k R (by rw [← hJ, jf, if_pos hkl, if_neg (fun q => hsz q.2)]))
      · skip
        refine rx_iload_n dX4_firstActThatIsNone_25 rfl ?_
        refine rx_aload_n dX4_firstActThatIsNone_26 rfl rfl ?_
        refine gcv_getI (v := nI ds.length) hG hf_RX4_19 rfl dX4_firstActThatIsNone_27 rfl rfl rfl hcR ?_
        refine rx_icmp_ge (tgt := 82) dX4_firstActThatIsNone_30 (by decide) (fun h30 => (absurd h30 (by rw [nI_leI (by omega) (by omega)]; omega))) (fun h30 => ?_)
        refine rx_aload_n dX4_firstActThatIsNone_33 rfl rfl ?_
        refine g_getR hG hf_RX4_9 rfl dX4_firstActThatIsNone_34 rfl rfl rfl ?_
        refine rx_iload_n dX4_firstActThatIsNone_37 rfl ?_
        refine gcv_bald (j := k) (v := (nI (ds.getD k 0)).toInt8.toInt32) hG dX4_firstActThatIsNone_38 rfl rfl rfl rfl (by omega) (by decide) hok ?_
        refine rx_sipush (v := nI 255) dX4_firstActThatIsNone_39 rfl ?_
        refine rx_iand dX4_firstActThatIsNone_42 ?_
        refine rx_ti (y := nI (ds.getD k 0)) (oc_and _ hoc) ?_
        refine rx_bipush (v := nI 40) dX4_firstActThatIsNone_43 rfl ?_
        refine rx_icmp_ge (tgt := 62) dX4_firstActThatIsNone_45 (by decide) (fun h45 => ?_) (fun h45 => (absurd (by rw [nI_leI (by omega) (by omega)]; omega) h45)) 
        refine rx_iload_n dX4_firstActThatIsNone_62 rfl ?_
        exact rx_iret rfl dX4_firstActThatIsNone_63 (kk1 k R (by rw [← hJ, jf, if_pos hkl, if_neg (fun q => hop q.1)]))
    · have hkk : ds.length ≤ k := by omega
      refine rx_iload_n dX4_firstActThatIsNone_25 rfl ?_
      refine rx_aload_n dX4_firstActThatIsNone_26 rfl rfl ?_
      refine gcv_getI (v := nI ds.length) hG hf_RX4_19 rfl dX4_firstActThatIsNone_27 rfl rfl rfl hcR ?_
      refine rx_icmp_ge (tgt := 82) dX4_firstActThatIsNone_30 (by decide) (fun _ => ?_) (fun q => absurd (by rw [nI_leI (by omega) (by omega)]; omega) q)
      have e := hJ
      rw [jf_out (by omega)] at e
      refine kk2 k R e.symm (fun j hj => ?_)
      rw [hR j hj]
      have := hB j
      rw [jb_out (by omega), Bool.or_false] at this
      rw [this]

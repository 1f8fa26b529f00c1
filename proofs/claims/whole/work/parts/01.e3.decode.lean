theorem dX8_answer_10 : decode cX8_answer 10 = .ok (.ireturn, 1) := by decide +kernel
theorem dX8_answer_11 : decode cX8_answer 11 = .ok (.aload_n 0, 1) := by decide +kernel
theorem dX8_answer_12 : decode cX8_answer 12 = .ok (.getfield 105, 3) := by decide +kernel
theorem dX8_answer_15 : decode cX8_answer 15 = .ok (.ifCond .ne 6, 3) := by decide +kernel
theorem dX8_answer_18 : decode cX8_answer 18 = .ok (.bipush (-2), 2) := by decide +kernel
theorem dX8_answer_20 : decode cX8_answer 20 = .ok (.ireturn, 1) := by decide +kernel
theorem dX8_answer_21 : decode cX8_answer 21 = .ok (.aload_n 0, 1) := by decide +kernel
theorem dX8_answer_22 : decode cX8_answer 22 = .ok (.iconst 0, 1) := by decide +kernel
theorem dX8_answer_23 : decode cX8_answer 23 = .ok (.putfield 105, 3) := by decide +kernel
theorem dX8_answer_26 : decode cX8_answer 26 = .ok (.iload_n 1, 1) := by decide +kernel
theorem dX8_answer_27 : decode cX8_answer 27 = .ok (.ifCond .ne 9, 3) := by decide +kernel
theorem dX8_answer_30 : decode cX8_answer 30 = .ok (.aload_n 0, 1) := by decide +kernel
theorem dX8_answer_31 : decode cX8_answer 31 = .ok (.iconst 0, 1) := by decide +kernel
theorem dX8_answer_32 : decode cX8_answer 32 = .ok (.invokevirtual 146, 3) := by decide +kernel
theorem dX8_answer_35 : decode cX8_answer 35 = .ok (.ireturn, 1) := by decide +kernel
theorem dX8_answer_36 : decode cX8_answer 36 = .ok (.iload_n 1, 1) := by decide +kernel
theorem dX8_answer_37 : decode cX8_answer 37 = .ok (.iconst 1, 1) := by decide +kernel
theorem dX8_answer_38 : decode cX8_answer 38 = .ok (.if_icmp .ne 19, 3) := by decide +kernel
theorem dX8_answer_41 : decode cX8_answer 41 = .ok (.aload_n 0, 1) := by decide +kernel
theorem dX8_answer_42 : decode cX8_answer 42 = .ok (.iconst 0, 1) := by decide +kernel
theorem dX8_answer_43 : decode cX8_answer 43 = .ok (.putfield 117, 3) := by decide +kernel
theorem dX8_answer_46 : decode cX8_answer 46 = .ok (.aload_n 0, 1) := by decide +kernel
theorem dX8_answer_47 : decode cX8_answer 47 = .ok (.iconst 0, 1) := by decide +kernel
theorem dX8_answer_48 : decode cX8_answer 48 = .ok (.putfield 43, 3) := by decide +kernel
theorem dX8_answer_51 : decode cX8_answer 51 = .ok (.aload_n 0, 1) := by decide +kernel
theorem dX8_answer_52 : decode cX8_answer 52 = .ok (.iconst 2, 1) := by decide +kernel
theorem dX8_answer_53 : decode cX8_answer 53 = .ok (.invokevirtual 146, 3) := by decide +kernel
theorem dX8_answer_56 : decode cX8_answer 56 = .ok (.ireturn, 1) := by decide +kernel
theorem dX8_answer_57 : decode cX8_answer 57 = .ok (.aload_n 0, 1) := by decide +kernel
theorem dX8_answer_58 : decode cX8_answer 58 = .ok (.dup, 1) := by decide +kernel
theorem dX8_answer_59 : decode cX8_answer 59 = .ok (.getfield 143, 3) := by decide +kernel
theorem dX8_answer_62 : decode cX8_answer 62 = .ok (.bipush 64, 2) := by decide +kernel
theorem dX8_answer_64 : decode cX8_answer 64 = .ok (.ior, 1) := by decide +kernel
theorem dX8_answer_65 : decode cX8_answer 65 = .ok (.putfield 143, 3) := by decide +kernel
theorem dX8_answer_68 : decode cX8_answer 68 = .ok (.aload_n 0, 1) := by decide +kernel
theorem dX8_answer_69 : decode cX8_answer 69 = .ok (.getfield 75, 3) := by decide +kernel
theorem dX8_answer_72 : decode cX8_answer 72 = .ok (.aload_n 0, 1) := by decide +kernel
theorem dX8_answer_73 : decode cX8_answer 73 = .ok (.getfield 151, 3) := by decide +kernel
theorem dX8_answer_76 : decode cX8_answer 76 = .ok (.aload_n 0, 1) := by decide +kernel
theorem dX8_answer_77 : decode cX8_answer 77 = .ok (.getfield 148, 3) := by decide +kernel
theorem dX8_answer_80 : decode cX8_answer 80 = .ok (.iconst 1, 1) := by decide +kernel
theorem dX8_answer_81 : decode cX8_answer 81 = .ok (.isub, 1) := by decide +kernel
theorem dX8_answer_82 : decode cX8_answer 82 = .ok (.iastore, 1) := by decide +kernel
theorem dX8_answer_83 : decode cX8_answer 83 = .ok (.aload_n 0, 1) := by decide +kernel
theorem dX8_answer_84 : decode cX8_answer 84 = .ok (.dup, 1) := by decide +kernel
theorem dX8_answer_85 : decode cX8_answer 85 = .ok (.getfield 151, 3) := by decide +kernel
theorem dX8_answer_88 : decode cX8_answer 88 = .ok (.iconst 1, 1) := by decide +kernel
theorem dX8_answer_89 : decode cX8_answer 89 = .ok (.iadd, 1) := by decide +kernel
theorem dX8_answer_90 : decode cX8_answer 90 = .ok (.putfield 151, 3) := by decide +kernel
theorem dX8_answer_93 : decode cX8_answer 93 = .ok (.aload_n 0, 1) := by decide +kernel
theorem dX8_answer_94 : decode cX8_answer 94 = .ok (.invokevirtual 154, 3) := by decide +kernel
theorem dX8_answer_97 : decode cX8_answer 97 = .ok (.ireturn, 1) := by decide +kernel
theorem dX8_sendReversal_0 : decode cX8_sendReversal 0 = .ok (.aload_n 0, 1) := by decide +kernel
theorem dX8_sendReversal_1 : decode cX8_sendReversal 1 = .ok (.getfield 151, 3) := by decide +kernel
theorem dX8_sendReversal_4 : decode cX8_sendReversal 4 = .ok (.ifCond .ne 6, 3) := by decide +kernel
theorem dX8_sendReversal_7 : decode cX8_sendReversal 7 = .ok (.bipush (-2), 2) := by decide +kernel
theorem dX8_sendReversal_9 : decode cX8_sendReversal 9 = .ok (.ireturn, 1) := by decide +kernel
theorem dX8_sendReversal_10 : decode cX8_sendReversal 10 = .ok (.aload_n 0, 1) := by decide +kernel
theorem dX8_sendReversal_11 : decode cX8_sendReversal 11 = .ok (.getfield 75, 3) := by decide +kernel
theorem dX8_sendReversal_14 : decode cX8_sendReversal 14 = .ok (.iconst 0, 1) := by decide +kernel
theorem dX8_sendReversal_15 : decode cX8_sendReversal 15 = .ok (.iaload, 1) := by decide +kernel
theorem dX8_sendReversal_16 : decode cX8_sendReversal 16 = .ok (.istore_n 2, 1) := by decide +kernel
theorem dX8_sendReversal_17 : decode cX8_sendReversal 17 = .ok (.iload_n 1, 1) := by decide +kernel
theorem dX8_sendReversal_18 : decode cX8_sendReversal 18 = .ok (.ifCond .eq 43, 3) := by decide +kernel
theorem dX8_sendReversal_21 : decode cX8_sendReversal 21 = .ok (.aload_n 0, 1) := by decide +kernel
theorem dX8_sendReversal_22 : decode cX8_sendReversal 22 = .ok (.dup, 1) := by decide +kernel
theorem dX8_sendReversal_23 : decode cX8_sendReversal 23 = .ok (.getfield 151, 3) := by decide +kernel
theorem dX8_sendReversal_26 : decode cX8_sendReversal 26 = .ok (.iconst 1, 1) := by decide +kernel
theorem dX8_sendReversal_27 : decode cX8_sendReversal 27 = .ok (.isub, 1) := by decide +kernel
theorem dX8_sendReversal_28 : decode cX8_sendReversal 28 = .ok (.putfield 151, 3) := by decide +kernel
theorem dX8_sendReversal_31 : decode cX8_sendReversal 31 = .ok (.iconst 0, 1) := by decide +kernel
theorem dX8_sendReversal_32 : decode cX8_sendReversal 32 = .ok (.istore_n 3, 1) := by decide +kernel
theorem dX8_sendReversal_33 : decode cX8_sendReversal 33 = .ok (.iload_n 3, 1) := by decide +kernel
theorem dX8_sendReversal_34 : decode cX8_sendReversal 34 = .ok (.aload_n 0, 1) := by decide +kernel
theorem dX8_sendReversal_35 : decode cX8_sendReversal 35 = .ok (.getfield 151, 3) := by decide +kernel
theorem dX8_sendReversal_38 : decode cX8_sendReversal 38 = .ok (.if_icmp .ge 23, 3) := by decide +kernel
theorem dX8_sendReversal_41 : decode cX8_sendReversal 41 = .ok (.aload_n 0, 1) := by decide +kernel
theorem dX8_sendReversal_42 : decode cX8_sendReversal 42 = .ok (.getfield 75, 3) := by decide +kernel
theorem dX8_sendReversal_45 : decode cX8_sendReversal 45 = .ok (.iload_n 3, 1) := by decide +kernel
theorem dX8_sendReversal_46 : decode cX8_sendReversal 46 = .ok (.aload_n 0, 1) := by decide +kernel
theorem dX8_sendReversal_47 : decode cX8_sendReversal 47 = .ok (.getfield 75, 3) := by decide +kernel
theorem dX8_sendReversal_50 : decode cX8_sendReversal 50 = .ok (.iload_n 3, 1) := by decide +kernel
theorem dX8_sendReversal_51 : decode cX8_sendReversal 51 = .ok (.iconst 1, 1) := by decide +kernel
theorem dX8_sendReversal_52 : decode cX8_sendReversal 52 = .ok (.iadd, 1) := by decide +kernel
theorem dX8_sendReversal_53 : decode cX8_sendReversal 53 = .ok (.iaload, 1) := by decide +kernel
theorem dX8_sendReversal_54 : decode cX8_sendReversal 54 = .ok (.iastore, 1) := by decide +kernel
theorem dX8_sendReversal_55 : decode cX8_sendReversal 55 = .ok (.iinc 3 1, 3) := by decide +kernel
theorem dX8_sendReversal_58 : decode cX8_sendReversal 58 = .ok (.goto (-25), 3) := by decide +kernel
theorem dX8_sendReversal_61 : decode cX8_sendReversal 61 = .ok (.iload_n 2, 1) := by decide +kernel
theorem dX8_sendReversal_62 : decode cX8_sendReversal 62 = .ok (.ireturn, 1) := by decide +kernel
theorem dX8_reversalCount_0 : decode cX8_reversalCount 0 = .ok (.aload_n 0, 1) := by decide +kernel
theorem dX8_reversalCount_1 : decode cX8_reversalCount 1 = .ok (.getfield 151, 3) := by decide +kernel
theorem dX8_reversalCount_4 : decode cX8_reversalCount 4 = .ok (.ireturn, 1) := by decide +kernel
theorem dX8_verificationResults_0 : decode cX8_verificationResults 0 = .ok (.aload_n 0, 1) := by decide +kernel
theorem dX8_verificationResults_1 : decode cX8_verificationResults 1 = .ok (.getfield 148, 3) := by decide +kernel
theorem dX8_verificationResults_4 : decode cX8_verificationResults 4 = .ok (.ifCond .ne 8, 3) := by decide +kernel
theorem dX8_verificationResults_7 : decode cX8_verificationResults 7 = .ok (.bipush (-4), 2) := by decide +kernel
theorem dX8_verificationResults_9 : decode cX8_verificationResults 9 = .ok (.goto 7, 3) := by decide +kernel
theorem dX8_verificationResults_12 : decode cX8_verificationResults 12 = .ok (.aload_n 0, 1) := by decide +kernel
theorem dX8_verificationResults_13 : decode cX8_verificationResults 13 = .ok (.getfield 143, 3) := by decide +kernel
theorem dX8_verificationResults_16 : decode cX8_verificationResults 16 = .ok (.ireturn, 1) := by decide +kernel
theorem dX8_outcomeCount_0 : decode cX8_outcomeCount 0 = .ok (.iload_n 1, 1) := by decide +kernel
theorem dX8_outcomeCount_1 : decode cX8_outcomeCount 1 = .ok (.iconst 0, 1) := by decide +kernel
theorem dX8_outcomeCount_2 : decode cX8_outcomeCount 2 = .ok (.iconst 3, 1) := by decide +kernel
theorem dX8_outcomeCount_3 : decode cX8_outcomeCount 3 = .ok (.invokestatic 87, 3) := by decide +kernel
theorem dX8_outcomeCount_6 : decode cX8_outcomeCount 6 = .ok (.ifCond .ne 5, 3) := by decide +kernel
theorem dX8_outcomeCount_9 : decode cX8_outcomeCount 9 = .ok (.iconst (-1), 1) := by decide +kernel
theorem dX8_outcomeCount_10 : decode cX8_outcomeCount 10 = .ok (.ireturn, 1) := by decide +kernel
theorem dX8_outcomeCount_11 : decode cX8_outcomeCount 11 = .ok (.iload_n 1, 1) := by decide +kernel
theorem dX8_outcomeCount_12 : decode cX8_outcomeCount 12 = .ok (.iconst 3, 1) := by decide +kernel
theorem dX8_outcomeCount_13 : decode cX8_outcomeCount 13 = .ok (.if_icmp .ne 18, 3) := by decide +kernel
theorem dX8_outcomeCount_16 : decode cX8_outcomeCount 16 = .ok (.aload_n 0, 1) := by decide +kernel
theorem dX8_outcomeCount_17 : decode cX8_outcomeCount 17 = .ok (.getfield 105, 3) := by decide +kernel
theorem dX8_outcomeCount_20 : decode cX8_outcomeCount 20 = .ok (.ifCond .eq 7, 3) := by decide +kernel
theorem dX8_outcomeCount_23 : decode cX8_outcomeCount 23 = .ok (.iconst 1, 1) := by decide +kernel
theorem dX8_outcomeCount_24 : decode cX8_outcomeCount 24 = .ok (.goto 13, 3) := by decide +kernel
theorem dX8_outcomeCount_27 : decode cX8_outcomeCount 27 = .ok (.iconst 0, 1) := by decide +kernel
theorem dX8_outcomeCount_28 : decode cX8_outcomeCount 28 = .ok (.goto 9, 3) := by decide +kernel
theorem dX8_outcomeCount_31 : decode cX8_outcomeCount 31 = .ok (.aload_n 0, 1) := by decide +kernel
theorem dX8_outcomeCount_32 : decode cX8_outcomeCount 32 = .ok (.getfield 78, 3) := by decide +kernel
theorem dX8_outcomeCount_35 : decode cX8_outcomeCount 35 = .ok (.iload_n 1, 1) := by decide +kernel
theorem dX8_outcomeCount_36 : decode cX8_outcomeCount 36 = .ok (.iaload, 1) := by decide +kernel
theorem dX8_outcomeCount_37 : decode cX8_outcomeCount 37 = .ok (.ireturn, 1) := by decide +kernel
theorem dX8_outcomeAmount_0 : decode cX8_outcomeAmount 0 = .ok (.iload_n 1, 1) := by decide +kernel
theorem dX8_outcomeAmount_1 : decode cX8_outcomeAmount 1 = .ok (.iconst 0, 1) := by decide +kernel
theorem dX8_outcomeAmount_2 : decode cX8_outcomeAmount 2 = .ok (.iconst 3, 1) := by decide +kernel
theorem dX8_outcomeAmount_3 : decode cX8_outcomeAmount 3 = .ok (.invokestatic 87, 3) := by decide +kernel
theorem dX8_outcomeAmount_6 : decode cX8_outcomeAmount 6 = .ok (.ifCond .ne 5, 3) := by decide +kernel
theorem dX8_outcomeAmount_9 : decode cX8_outcomeAmount 9 = .ok (.iconst (-1), 1) := by decide +kernel
theorem dX8_outcomeAmount_10 : decode cX8_outcomeAmount 10 = .ok (.ireturn, 1) := by decide +kernel
theorem dX8_outcomeAmount_11 : decode cX8_outcomeAmount 11 = .ok (.iload_n 1, 1) := by decide +kernel
theorem dX8_outcomeAmount_12 : decode cX8_outcomeAmount 12 = .ok (.iconst 3, 1) := by decide +kernel
theorem dX8_outcomeAmount_13 : decode cX8_outcomeAmount 13 = .ok (.if_icmp .ne 21, 3) := by decide +kernel
theorem dX8_outcomeAmount_16 : decode cX8_outcomeAmount 16 = .ok (.aload_n 0, 1) := by decide +kernel
theorem dX8_outcomeAmount_17 : decode cX8_outcomeAmount 17 = .ok (.getfield 105, 3) := by decide +kernel
theorem dX8_outcomeAmount_20 : decode cX8_outcomeAmount 20 = .ok (.ifCond .eq 10, 3) := by decide +kernel
theorem dX8_outcomeAmount_23 : decode cX8_outcomeAmount 23 = .ok (.aload_n 0, 1) := by decide +kernel
theorem dX8_outcomeAmount_24 : decode cX8_outcomeAmount 24 = .ok (.getfield 140, 3) := by decide +kernel
theorem dX8_outcomeAmount_27 : decode cX8_outcomeAmount 27 = .ok (.goto 13, 3) := by decide +kernel
theorem dX8_outcomeAmount_30 : decode cX8_outcomeAmount 30 = .ok (.iconst 0, 1) := by decide +kernel
theorem dX8_outcomeAmount_31 : decode cX8_outcomeAmount 31 = .ok (.goto 9, 3) := by decide +kernel
theorem dX8_outcomeAmount_34 : decode cX8_outcomeAmount 34 = .ok (.aload_n 0, 1) := by decide +kernel
theorem dX8_outcomeAmount_35 : decode cX8_outcomeAmount 35 = .ok (.getfield 81, 3) := by decide +kernel
theorem dX8_outcomeAmount_38 : decode cX8_outcomeAmount 38 = .ok (.iload_n 1, 1) := by decide +kernel
theorem dX8_outcomeAmount_39 : decode cX8_outcomeAmount 39 = .ok (.iaload, 1) := by decide +kernel
theorem dX8_outcomeAmount_40 : decode cX8_outcomeAmount 40 = .ok (.ireturn, 1) := by decide +kernel
theorem dX8_offlineCounter_0 : decode cX8_offlineCounter 0 = .ok (.aload_n 0, 1) := by decide +kernel
theorem dX8_offlineCounter_1 : decode cX8_offlineCounter 1 = .ok (.getfield 117, 3) := by decide +kernel
theorem dX8_offlineCounter_4 : decode cX8_offlineCounter 4 = .ok (.ireturn, 1) := by decide +kernel

theorem dX7_select_0 : decode cX7_select 0 = .ok (.aload_n 0, 1) := by decide +kernel
theorem dX7_select_1 : decode cX7_select 1 = .ok (.getfield 26, 3) := by decide +kernel
theorem dX7_select_4 : decode cX7_select 4 = .ok (.iload_n 1, 1) := by decide +kernel
theorem dX7_select_5 : decode cX7_select 5 = .ok (.invokevirtual 116, 3) := by decide +kernel
theorem dX7_select_8 : decode cX7_select 8 = .ok (.ifCond .ne 5, 3) := by decide +kernel
theorem dX7_select_11 : decode cX7_select 11 = .ok (.iconst (-1), 1) := by decide +kernel
theorem dX7_select_12 : decode cX7_select 12 = .ok (.ireturn, 1) := by decide +kernel
theorem dX7_select_13 : decode cX7_select 13 = .ok (.aload_n 0, 1) := by decide +kernel
theorem dX7_select_14 : decode cX7_select 14 = .ok (.getfield 40, 3) := by decide +kernel
theorem dX7_select_17 : decode cX7_select 17 = .ok (.invokevirtual 95, 3) := by decide +kernel
theorem dX7_select_20 : decode cX7_select 20 = .ok (.ifCond .ne 18, 3) := by decide +kernel
theorem dX7_select_23 : decode cX7_select 23 = .ok (.aload_n 0, 1) := by decide +kernel
theorem dX7_select_24 : decode cX7_select 24 = .ok (.getfield 26, 3) := by decide +kernel
theorem dX7_select_27 : decode cX7_select 27 = .ok (.iload_n 1, 1) := by decide +kernel
theorem dX7_select_28 : decode cX7_select 28 = .ok (.invokevirtual 166, 3) := by decide +kernel
theorem dX7_select_31 : decode cX7_select 31 = .ok (.ifCond .eq 10, 3) := by decide +kernel
theorem dX7_select_34 : decode cX7_select 34 = .ok (.iload_n 2, 1) := by decide +kernel
theorem dX7_select_35 : decode cX7_select 35 = .ok (.ifCond .ne 6, 3) := by decide +kernel
theorem dX7_select_38 : decode cX7_select 38 = .ok (.bipush (-2), 2) := by decide +kernel
theorem dX7_select_40 : decode cX7_select 40 = .ok (.ireturn, 1) := by decide +kernel
theorem dX7_select_41 : decode cX7_select 41 = .ok (.aload_n 0, 1) := by decide +kernel
theorem dX7_select_42 : decode cX7_select 42 = .ok (.iload_n 1, 1) := by decide +kernel
theorem dX7_select_43 : decode cX7_select 43 = .ok (.invokevirtual 160, 3) := by decide +kernel
theorem dX7_select_46 : decode cX7_select 46 = .ok (.ifCond .ne 6, 3) := by decide +kernel
theorem dX7_select_49 : decode cX7_select 49 = .ok (.bipush (-4), 2) := by decide +kernel
theorem dX7_select_51 : decode cX7_select 51 = .ok (.ireturn, 1) := by decide +kernel
theorem dX7_select_52 : decode cX7_select 52 = .ok (.aload_n 0, 1) := by decide +kernel
theorem dX7_select_53 : decode cX7_select 53 = .ok (.getfield 26, 3) := by decide +kernel
theorem dX7_select_56 : decode cX7_select 56 = .ok (.iload_n 1, 1) := by decide +kernel
theorem dX7_select_57 : decode cX7_select 57 = .ok (.putfield 169, 3) := by decide +kernel
theorem dX7_select_60 : decode cX7_select 60 = .ok (.aload_n 0, 1) := by decide +kernel
theorem dX7_select_61 : decode cX7_select 61 = .ok (.iload_n 1, 1) := by decide +kernel
theorem dX7_select_62 : decode cX7_select 62 = .ok (.invokevirtual 163, 3) := by decide +kernel
theorem dX7_select_65 : decode cX7_select 65 = .ok (.ireturn, 1) := by decide +kernel
theorem dX7_isCandidate_0 : decode cX7_isCandidate 0 = .ok (.aload_n 0, 1) := by decide +kernel
theorem dX7_isCandidate_1 : decode cX7_isCandidate 1 = .ok (.getfield 33, 3) := by decide +kernel
theorem dX7_isCandidate_4 : decode cX7_isCandidate 4 = .ok (.aload_n 0, 1) := by decide +kernel
theorem dX7_isCandidate_5 : decode cX7_isCandidate 5 = .ok (.getfield 26, 3) := by decide +kernel
theorem dX7_isCandidate_8 : decode cX7_isCandidate 8 = .ok (.getfield 109, 3) := by decide +kernel
theorem dX7_isCandidate_11 : decode cX7_isCandidate 11 = .ok (.iload_n 1, 1) := by decide +kernel
theorem dX7_isCandidate_12 : decode cX7_isCandidate 12 = .ok (.invokevirtual 172, 3) := by decide +kernel
theorem dX7_isCandidate_15 : decode cX7_isCandidate 15 = .ok (.ireturn, 1) := by decide +kernel
theorem dX7_candidatesBefore_0 : decode cX7_candidatesBefore 0 = .ok (.iconst 0, 1) := by decide +kernel
theorem dX7_candidatesBefore_1 : decode cX7_candidatesBefore 1 = .ok (.istore_n 2, 1) := by decide +kernel
theorem dX7_candidatesBefore_2 : decode cX7_candidatesBefore 2 = .ok (.iconst 0, 1) := by decide +kernel
theorem dX7_candidatesBefore_3 : decode cX7_candidatesBefore 3 = .ok (.istore_n 3, 1) := by decide +kernel
theorem dX7_candidatesBefore_4 : decode cX7_candidatesBefore 4 = .ok (.iload_n 3, 1) := by decide +kernel
theorem dX7_candidatesBefore_5 : decode cX7_candidatesBefore 5 = .ok (.aload_n 0, 1) := by decide +kernel
theorem dX7_candidatesBefore_6 : decode cX7_candidatesBefore 6 = .ok (.getfield 26, 3) := by decide +kernel
theorem dX7_candidatesBefore_9 : decode cX7_candidatesBefore 9 = .ok (.getfield 109, 3) := by decide +kernel
theorem dX7_candidatesBefore_12 : decode cX7_candidatesBefore 12 = .ok (.getfield 113, 3) := by decide +kernel
theorem dX7_candidatesBefore_15 : decode cX7_candidatesBefore 15 = .ok (.if_icmp .ge 32, 3) := by decide +kernel
theorem dX7_candidatesBefore_18 : decode cX7_candidatesBefore 18 = .ok (.aload_n 0, 1) := by decide +kernel
theorem dX7_candidatesBefore_19 : decode cX7_candidatesBefore 19 = .ok (.iload_n 3, 1) := by decide +kernel
theorem dX7_candidatesBefore_20 : decode cX7_candidatesBefore 20 = .ok (.invokevirtual 160, 3) := by decide +kernel
theorem dX7_candidatesBefore_23 : decode cX7_candidatesBefore 23 = .ok (.ifCond .eq 18, 3) := by decide +kernel
theorem dX7_candidatesBefore_26 : decode cX7_candidatesBefore 26 = .ok (.aload_n 0, 1) := by decide +kernel
theorem dX7_candidatesBefore_27 : decode cX7_candidatesBefore 27 = .ok (.getfield 26, 3) := by decide +kernel
theorem dX7_candidatesBefore_30 : decode cX7_candidatesBefore 30 = .ok (.iload_n 3, 1) := by decide +kernel
theorem dX7_candidatesBefore_31 : decode cX7_candidatesBefore 31 = .ok (.iload_n 1, 1) := by decide +kernel
theorem dX7_candidatesBefore_32 : decode cX7_candidatesBefore 32 = .ok (.invokevirtual 176, 3) := by decide +kernel
theorem dX7_candidatesBefore_35 : decode cX7_candidatesBefore 35 = .ok (.ifCond .eq 6, 3) := by decide +kernel
theorem dX7_candidatesBefore_38 : decode cX7_candidatesBefore 38 = .ok (.iinc 2 1, 3) := by decide +kernel
theorem dX7_candidatesBefore_41 : decode cX7_candidatesBefore 41 = .ok (.iinc 3 1, 3) := by decide +kernel
theorem dX7_candidatesBefore_44 : decode cX7_candidatesBefore 44 = .ok (.goto (-40), 3) := by decide +kernel
theorem dX7_candidatesBefore_47 : decode cX7_candidatesBefore 47 = .ok (.iload_n 2, 1) := by decide +kernel
theorem dX7_candidatesBefore_48 : decode cX7_candidatesBefore 48 = .ok (.ireturn, 1) := by decide +kernel
theorem dX7_start_0 : decode cX7_start 0 = .ok (.iload_n 1, 1) := by decide +kernel
theorem dX7_start_1 : decode cX7_start 1 = .ok (.iconst 1, 1) := by decide +kernel
theorem dX7_start_2 : decode cX7_start 2 = .ok (.if_icmp .lt 19, 3) := by decide +kernel
theorem dX7_start_5 : decode cX7_start 5 = .ok (.iload_n 1, 1) := by decide +kernel
theorem dX7_start_6 : decode cX7_start 6 = .ok (.ldc 139, 2) := by decide +kernel
theorem dX7_start_8 : decode cX7_start 8 = .ok (.if_icmp .gt 13, 3) := by decide +kernel
theorem dX7_start_11 : decode cX7_start 11 = .ok (.iload_n 2, 1) := by decide +kernel
theorem dX7_start_12 : decode cX7_start 12 = .ok (.ifCond .lt 9, 3) := by decide +kernel
theorem dX7_start_15 : decode cX7_start 15 = .ok (.iload_n 2, 1) := by decide +kernel
theorem dX7_start_16 : decode cX7_start 16 = .ok (.bipush 99, 2) := by decide +kernel
theorem dX7_start_18 : decode cX7_start 18 = .ok (.if_icmp .le 5, 3) := by decide +kernel
theorem dX7_start_21 : decode cX7_start 21 = .ok (.iconst (-1), 1) := by decide +kernel
theorem dX7_start_22 : decode cX7_start 22 = .ok (.ireturn, 1) := by decide +kernel
theorem dX7_start_23 : decode cX7_start 23 = .ok (.aload_n 0, 1) := by decide +kernel
theorem dX7_start_24 : decode cX7_start 24 = .ok (.getfield 26, 3) := by decide +kernel
theorem dX7_start_27 : decode cX7_start 27 = .ok (.getfield 169, 3) := by decide +kernel
theorem dX7_start_30 : decode cX7_start 30 = .ok (.iconst (-1), 1) := by decide +kernel
theorem dX7_start_31 : decode cX7_start 31 = .ok (.if_icmp .eq 13, 3) := by decide +kernel
theorem dX7_start_34 : decode cX7_start 34 = .ok (.aload_n 0, 1) := by decide +kernel
theorem dX7_start_35 : decode cX7_start 35 = .ok (.getfield 40, 3) := by decide +kernel
theorem dX7_start_38 : decode cX7_start 38 = .ok (.invokevirtual 95, 3) := by decide +kernel
theorem dX7_start_41 : decode cX7_start 41 = .ok (.ifCond .eq 6, 3) := by decide +kernel
theorem dX7_start_44 : decode cX7_start 44 = .ok (.bipush (-2), 2) := by decide +kernel
theorem dX7_start_46 : decode cX7_start 46 = .ok (.ireturn, 1) := by decide +kernel
theorem dX7_start_47 : decode cX7_start 47 = .ok (.aload_n 0, 1) := by decide +kernel
theorem dX7_start_48 : decode cX7_start 48 = .ok (.getfield 40, 3) := by decide +kernel
theorem dX7_start_51 : decode cX7_start 51 = .ok (.getfield 180, 3) := by decide +kernel
theorem dX7_start_54 : decode cX7_start 54 = .ok (.sipush 999, 3) := by decide +kernel
theorem dX7_start_57 : decode cX7_start 57 = .ok (.if_icmp .lt 6, 3) := by decide +kernel
theorem dX7_start_60 : decode cX7_start 60 = .ok (.bipush (-3), 2) := by decide +kernel
theorem dX7_start_62 : decode cX7_start 62 = .ok (.ireturn, 1) := by decide +kernel
theorem dX7_start_63 : decode cX7_start 63 = .ok (.aload_n 0, 1) := by decide +kernel
theorem dX7_start_64 : decode cX7_start 64 = .ok (.iload_n 1, 1) := by decide +kernel
theorem dX7_start_65 : decode cX7_start 65 = .ok (.iload_n 2, 1) := by decide +kernel
theorem dX7_start_66 : decode cX7_start 66 = .ok (.invokevirtual 181, 3) := by decide +kernel
theorem dX7_start_69 : decode cX7_start 69 = .ok (.istore_n 3, 1) := by decide +kernel
theorem dX7_start_70 : decode cX7_start 70 = .ok (.aload_n 0, 1) := by decide +kernel
theorem dX7_start_71 : decode cX7_start 71 = .ok (.iload_n 3, 1) := by decide +kernel
theorem dX7_start_72 : decode cX7_start 72 = .ok (.invokevirtual 184, 3) := by decide +kernel
theorem dX7_start_75 : decode cX7_start 75 = .ok (.istore 4, 2) := by decide +kernel
theorem dX7_start_77 : decode cX7_start 77 = .ok (.aload_n 0, 1) := by decide +kernel
theorem dX7_start_78 : decode cX7_start 78 = .ok (.getfield 40, 3) := by decide +kernel
theorem dX7_start_81 : decode cX7_start 81 = .ok (.iload_n 1, 1) := by decide +kernel
theorem dX7_start_82 : decode cX7_start 82 = .ok (.iload_n 3, 1) := by decide +kernel
theorem dX7_start_83 : decode cX7_start 83 = .ok (.iload 4, 2) := by decide +kernel
theorem dX7_start_85 : decode cX7_start 85 = .ok (.invokevirtual 187, 3) := by decide +kernel
theorem dX7_start_88 : decode cX7_start 88 = .ok (.aload_n 0, 1) := by decide +kernel
theorem dX7_start_89 : decode cX7_start 89 = .ok (.iload 4, 2) := by decide +kernel
theorem dX7_start_91 : decode cX7_start 91 = .ok (.invokevirtual 191, 3) := by decide +kernel
theorem dX7_start_94 : decode cX7_start 94 = .ok (.iload 4, 2) := by decide +kernel
theorem dX7_start_96 : decode cX7_start 96 = .ok (.ireturn, 1) := by decide +kernel
theorem dX7_answer_0 : decode cX7_answer 0 = .ok (.iload_n 1, 1) := by decide +kernel
theorem dX7_answer_1 : decode cX7_answer 1 = .ok (.ifCond .lt 8, 3) := by decide +kernel
theorem dX7_answer_4 : decode cX7_answer 4 = .ok (.iload_n 1, 1) := by decide +kernel
theorem dX7_answer_5 : decode cX7_answer 5 = .ok (.iconst 2, 1) := by decide +kernel
theorem dX7_answer_6 : decode cX7_answer 6 = .ok (.if_icmp .le 5, 3) := by decide +kernel
theorem dX7_answer_9 : decode cX7_answer 9 = .ok (.iconst (-1), 1) := by decide +kernel
theorem dX7_answer_10 : decode cX7_answer 10 = .ok (.ireturn, 1) := by decide +kernel
theorem dX7_answer_11 : decode cX7_answer 11 = .ok (.aload_n 0, 1) := by decide +kernel
theorem dX7_answer_12 : decode cX7_answer 12 = .ok (.getfield 40, 3) := by decide +kernel
theorem dX7_answer_15 : decode cX7_answer 15 = .ok (.invokevirtual 95, 3) := by decide +kernel
theorem dX7_answer_18 : decode cX7_answer 18 = .ok (.ifCond .ne 6, 3) := by decide +kernel
theorem dX7_answer_21 : decode cX7_answer 21 = .ok (.bipush (-2), 2) := by decide +kernel
theorem dX7_answer_23 : decode cX7_answer 23 = .ok (.ireturn, 1) := by decide +kernel
theorem dX7_answer_24 : decode cX7_answer 24 = .ok (.iconst 0, 1) := by decide +kernel
theorem dX7_answer_25 : decode cX7_answer 25 = .ok (.istore_n 2, 1) := by decide +kernel
theorem dX7_answer_26 : decode cX7_answer 26 = .ok (.iload_n 1, 1) := by decide +kernel
theorem dX7_answer_27 : decode cX7_answer 27 = .ok (.iconst 1, 1) := by decide +kernel
theorem dX7_answer_28 : decode cX7_answer 28 = .ok (.if_icmp .ne 15, 3) := by decide +kernel
theorem dX7_answer_31 : decode cX7_answer 31 = .ok (.aload_n 0, 1) := by decide +kernel
theorem dX7_answer_32 : decode cX7_answer 32 = .ok (.getfield 26, 3) := by decide +kernel
theorem dX7_answer_35 : decode cX7_answer 35 = .ok (.invokevirtual 194, 3) := by decide +kernel
theorem dX7_answer_38 : decode cX7_answer 38 = .ok (.iconst 2, 1) := by decide +kernel
theorem dX7_answer_39 : decode cX7_answer 39 = .ok (.istore_n 2, 1) := by decide +kernel
theorem dX7_answer_40 : decode cX7_answer 40 = .ok (.goto 50, 3) := by decide +kernel
theorem dX7_answer_43 : decode cX7_answer 43 = .ok (.iload_n 1, 1) := by decide +kernel
theorem dX7_answer_44 : decode cX7_answer 44 = .ok (.iconst 2, 1) := by decide +kernel
theorem dX7_answer_45 : decode cX7_answer 45 = .ok (.if_icmp .ne 45, 3) := by decide +kernel
theorem dX7_answer_48 : decode cX7_answer 48 = .ok (.aload_n 0, 1) := by decide +kernel
theorem dX7_answer_49 : decode cX7_answer 49 = .ok (.getfield 40, 3) := by decide +kernel
theorem dX7_answer_52 : decode cX7_answer 52 = .ok (.dup, 1) := by decide +kernel
theorem dX7_answer_53 : decode cX7_answer 53 = .ok (.getfield 197, 3) := by decide +kernel
theorem dX7_answer_56 : decode cX7_answer 56 = .ok (.bipush 64, 2) := by decide +kernel
theorem dX7_answer_58 : decode cX7_answer 58 = .ok (.ior, 1) := by decide +kernel
theorem dX7_answer_59 : decode cX7_answer 59 = .ok (.putfield 197, 3) := by decide +kernel
theorem dX7_answer_62 : decode cX7_answer 62 = .ok (.aload_n 0, 1) := by decide +kernel
theorem dX7_answer_63 : decode cX7_answer 63 = .ok (.getfield 47, 3) := by decide +kernel
theorem dX7_answer_66 : decode cX7_answer 66 = .ok (.aload_n 0, 1) := by decide +kernel
theorem dX7_answer_67 : decode cX7_answer 67 = .ok (.getfield 40, 3) := by decide +kernel
theorem dX7_answer_70 : decode cX7_answer 70 = .ok (.getfield 180, 3) := by decide +kernel
theorem dX7_answer_73 : decode cX7_answer 73 = .ok (.iconst 1, 1) := by decide +kernel
theorem dX7_answer_74 : decode cX7_answer 74 = .ok (.isub, 1) := by decide +kernel
theorem dX7_answer_75 : decode cX7_answer 75 = .ok (.invokevirtual 200, 3) := by decide +kernel
theorem dX7_answer_78 : decode cX7_answer 78 = .ok (.aload_n 0, 1) := by decide +kernel
theorem dX7_answer_79 : decode cX7_answer 79 = .ok (.aload_n 0, 1) := by decide +kernel
theorem dX7_answer_80 : decode cX7_answer 80 = .ok (.getfield 40, 3) := by decide +kernel
theorem dX7_answer_83 : decode cX7_answer 83 = .ok (.getfield 197, 3) := by decide +kernel
theorem dX7_answer_86 : decode cX7_answer 86 = .ok (.invokevirtual 201, 3) := by decide +kernel
theorem dX7_answer_89 : decode cX7_answer 89 = .ok (.istore_n 2, 1) := by decide +kernel
theorem dX7_answer_90 : decode cX7_answer 90 = .ok (.aload_n 0, 1) := by decide +kernel
theorem dX7_answer_91 : decode cX7_answer 91 = .ok (.getfield 40, 3) := by decide +kernel
theorem dX7_answer_94 : decode cX7_answer 94 = .ok (.iload_n 2, 1) := by decide +kernel
theorem dX7_answer_95 : decode cX7_answer 95 = .ok (.invokevirtual 204, 3) := by decide +kernel
theorem dX7_answer_98 : decode cX7_answer 98 = .ok (.aload_n 0, 1) := by decide +kernel
theorem dX7_answer_99 : decode cX7_answer 99 = .ok (.iload_n 2, 1) := by decide +kernel
theorem dX7_answer_100 : decode cX7_answer 100 = .ok (.invokevirtual 191, 3) := by decide +kernel
theorem dX7_answer_103 : decode cX7_answer 103 = .ok (.iload_n 2, 1) := by decide +kernel
theorem dX7_answer_104 : decode cX7_answer 104 = .ok (.ireturn, 1) := by decide +kernel
theorem dX7_sendReversal_0 : decode cX7_sendReversal 0 = .ok (.aload_n 0, 1) := by decide +kernel
theorem dX7_sendReversal_1 : decode cX7_sendReversal 1 = .ok (.getfield 47, 3) := by decide +kernel
theorem dX7_sendReversal_4 : decode cX7_sendReversal 4 = .ok (.getfield 207, 3) := by decide +kernel
theorem dX7_sendReversal_7 : decode cX7_sendReversal 7 = .ok (.ifCond .ne 6, 3) := by decide +kernel
theorem dX7_sendReversal_10 : decode cX7_sendReversal 10 = .ok (.bipush (-2), 2) := by decide +kernel
theorem dX7_sendReversal_12 : decode cX7_sendReversal 12 = .ok (.ireturn, 1) := by decide +kernel
theorem dX7_sendReversal_13 : decode cX7_sendReversal 13 = .ok (.aload_n 0, 1) := by decide +kernel
theorem dX7_sendReversal_14 : decode cX7_sendReversal 14 = .ok (.getfield 47, 3) := by decide +kernel
theorem dX7_sendReversal_17 : decode cX7_sendReversal 17 = .ok (.invokevirtual 208, 3) := by decide +kernel
theorem dX7_sendReversal_20 : decode cX7_sendReversal 20 = .ok (.istore_n 2, 1) := by decide +kernel
theorem dX7_sendReversal_21 : decode cX7_sendReversal 21 = .ok (.iload_n 1, 1) := by decide +kernel
theorem dX7_sendReversal_22 : decode cX7_sendReversal 22 = .ok (.ifCond .eq 10, 3) := by decide +kernel
theorem dX7_sendReversal_25 : decode cX7_sendReversal 25 = .ok (.aload_n 0, 1) := by decide +kernel
theorem dX7_sendReversal_26 : decode cX7_sendReversal 26 = .ok (.getfield 47, 3) := by decide +kernel
theorem dX7_sendReversal_29 : decode cX7_sendReversal 29 = .ok (.invokevirtual 211, 3) := by decide +kernel
theorem dX7_sendReversal_32 : decode cX7_sendReversal 32 = .ok (.iload_n 2, 1) := by decide +kernel
theorem dX7_sendReversal_33 : decode cX7_sendReversal 33 = .ok (.ireturn, 1) := by decide +kernel
theorem dX7_reversalCount_0 : decode cX7_reversalCount 0 = .ok (.aload_n 0, 1) := by decide +kernel
theorem dX7_reversalCount_1 : decode cX7_reversalCount 1 = .ok (.getfield 47, 3) := by decide +kernel
theorem dX7_reversalCount_4 : decode cX7_reversalCount 4 = .ok (.getfield 207, 3) := by decide +kernel
theorem dX7_reversalCount_7 : decode cX7_reversalCount 7 = .ok (.ireturn, 1) := by decide +kernel
theorem dX7_verificationResults_0 : decode cX7_verificationResults 0 = .ok (.aload_n 0, 1) := by decide +kernel
theorem dX7_verificationResults_1 : decode cX7_verificationResults 1 = .ok (.getfield 40, 3) := by decide +kernel
theorem dX7_verificationResults_4 : decode cX7_verificationResults 4 = .ok (.getfield 180, 3) := by decide +kernel
theorem dX7_verificationResults_7 : decode cX7_verificationResults 7 = .ok (.ifCond .ne 8, 3) := by decide +kernel
theorem dX7_verificationResults_10 : decode cX7_verificationResults 10 = .ok (.bipush (-4), 2) := by decide +kernel
theorem dX7_verificationResults_12 : decode cX7_verificationResults 12 = .ok (.goto 10, 3) := by decide +kernel
theorem dX7_verificationResults_15 : decode cX7_verificationResults 15 = .ok (.aload_n 0, 1) := by decide +kernel
theorem dX7_verificationResults_16 : decode cX7_verificationResults 16 = .ok (.getfield 40, 3) := by decide +kernel
theorem dX7_verificationResults_19 : decode cX7_verificationResults 19 = .ok (.getfield 197, 3) := by decide +kernel
theorem dX7_verificationResults_22 : decode cX7_verificationResults 22 = .ok (.ireturn, 1) := by decide +kernel
theorem dX7_outcomeCount_0 : decode cX7_outcomeCount 0 = .ok (.iload_n 1, 1) := by decide +kernel
theorem dX7_outcomeCount_1 : decode cX7_outcomeCount 1 = .ok (.invokestatic 214, 3) := by decide +kernel
theorem dX7_outcomeCount_4 : decode cX7_outcomeCount 4 = .ok (.ifCond .eq 17, 3) := by decide +kernel
theorem dX7_outcomeCount_7 : decode cX7_outcomeCount 7 = .ok (.aload_n 0, 1) := by decide +kernel
theorem dX7_outcomeCount_8 : decode cX7_outcomeCount 8 = .ok (.getfield 40, 3) := by decide +kernel
theorem dX7_outcomeCount_11 : decode cX7_outcomeCount 11 = .ok (.getfield 217, 3) := by decide +kernel
theorem dX7_outcomeCount_14 : decode cX7_outcomeCount 14 = .ok (.iload_n 1, 1) := by decide +kernel
theorem dX7_outcomeCount_15 : decode cX7_outcomeCount 15 = .ok (.invokestatic 81, 3) := by decide +kernel
theorem dX7_outcomeCount_18 : decode cX7_outcomeCount 18 = .ok (.goto 4, 3) := by decide +kernel
theorem dX7_outcomeCount_21 : decode cX7_outcomeCount 21 = .ok (.iconst (-1), 1) := by decide +kernel
theorem dX7_outcomeCount_22 : decode cX7_outcomeCount 22 = .ok (.ireturn, 1) := by decide +kernel
theorem dX7_outcomeAmount_0 : decode cX7_outcomeAmount 0 = .ok (.iload_n 1, 1) := by decide +kernel
theorem dX7_outcomeAmount_1 : decode cX7_outcomeAmount 1 = .ok (.invokestatic 214, 3) := by decide +kernel
theorem dX7_outcomeAmount_4 : decode cX7_outcomeAmount 4 = .ok (.ifCond .eq 17, 3) := by decide +kernel
theorem dX7_outcomeAmount_7 : decode cX7_outcomeAmount 7 = .ok (.aload_n 0, 1) := by decide +kernel
theorem dX7_outcomeAmount_8 : decode cX7_outcomeAmount 8 = .ok (.getfield 40, 3) := by decide +kernel
theorem dX7_outcomeAmount_11 : decode cX7_outcomeAmount 11 = .ok (.getfield 220, 3) := by decide +kernel
theorem dX7_outcomeAmount_14 : decode cX7_outcomeAmount 14 = .ok (.iload_n 1, 1) := by decide +kernel
theorem dX7_outcomeAmount_15 : decode cX7_outcomeAmount 15 = .ok (.invokestatic 81, 3) := by decide +kernel
theorem dX7_outcomeAmount_18 : decode cX7_outcomeAmount 18 = .ok (.goto 4, 3) := by decide +kernel
theorem dX7_outcomeAmount_21 : decode cX7_outcomeAmount 21 = .ok (.iconst (-1), 1) := by decide +kernel
theorem dX7_outcomeAmount_22 : decode cX7_outcomeAmount 22 = .ok (.ireturn, 1) := by decide +kernel
theorem dX7_offlineCounter_0 : decode cX7_offlineCounter 0 = .ok (.aload_n 0, 1) := by decide +kernel
theorem dX7_offlineCounter_1 : decode cX7_offlineCounter 1 = .ok (.getfield 26, 3) := by decide +kernel
theorem dX7_offlineCounter_4 : decode cX7_offlineCounter 4 = .ok (.getfield 223, 3) := by decide +kernel
theorem dX7_offlineCounter_7 : decode cX7_offlineCounter 7 = .ok (.ireturn, 1) := by decide +kernel
theorem dX7_isOutcome_0 : decode cX7_isOutcome 0 = .ok (.iload_n 0, 1) := by decide +kernel
theorem dX7_isOutcome_1 : decode cX7_isOutcome 1 = .ok (.ifCond .lt 12, 3) := by decide +kernel
theorem dX7_isOutcome_4 : decode cX7_isOutcome 4 = .ok (.iload_n 0, 1) := by decide +kernel
theorem dX7_isOutcome_5 : decode cX7_isOutcome 5 = .ok (.iconst 3, 1) := by decide +kernel
theorem dX7_isOutcome_6 : decode cX7_isOutcome 6 = .ok (.if_icmp .gt 7, 3) := by decide +kernel
theorem dX7_isOutcome_9 : decode cX7_isOutcome 9 = .ok (.iconst 1, 1) := by decide +kernel
theorem dX7_isOutcome_10 : decode cX7_isOutcome 10 = .ok (.goto 4, 3) := by decide +kernel
theorem dX7_isOutcome_13 : decode cX7_isOutcome 13 = .ok (.iconst 0, 1) := by decide +kernel
theorem dX7_isOutcome_14 : decode cX7_isOutcome 14 = .ok (.ireturn, 1) := by decide +kernel
theorem dX7_verify_0 : decode cX7_verify 0 = .ok (.iconst 0, 1) := by decide +kernel
theorem dX7_verify_1 : decode cX7_verify 1 = .ok (.istore_n 3, 1) := by decide +kernel
theorem dX7_verify_2 : decode cX7_verify 2 = .ok (.iload_n 1, 1) := by decide +kernel
theorem dX7_verify_3 : decode cX7_verify 3 = .ok (.aload_n 0, 1) := by decide +kernel
theorem dX7_verify_4 : decode cX7_verify 4 = .ok (.getfield 33, 3) := by decide +kernel
theorem dX7_verify_7 : decode cX7_verify 7 = .ok (.getfield 140, 3) := by decide +kernel
theorem dX7_verify_10 : decode cX7_verify 10 = .ok (.if_icmp .lt 7, 3) := by decide +kernel
theorem dX7_verify_13 : decode cX7_verify 13 = .ok (.iload_n 3, 1) := by decide +kernel
theorem dX7_verify_14 : decode cX7_verify 14 = .ok (.iconst 1, 1) := by decide +kernel
theorem dX7_verify_15 : decode cX7_verify 15 = .ok (.ior, 1) := by decide +kernel
theorem dX7_verify_16 : decode cX7_verify 16 = .ok (.istore_n 3, 1) := by decide +kernel
theorem dX7_verify_17 : decode cX7_verify 17 = .ok (.iload_n 2, 1) := by decide +kernel
theorem dX7_verify_18 : decode cX7_verify 18 = .ok (.aload_n 0, 1) := by decide +kernel
theorem dX7_verify_19 : decode cX7_verify 19 = .ok (.getfield 33, 3) := by decide +kernel
theorem dX7_verify_22 : decode cX7_verify 22 = .ok (.getfield 149, 3) := by decide +kernel
theorem dX7_verify_25 : decode cX7_verify 25 = .ok (.if_icmp .ge 7, 3) := by decide +kernel
theorem dX7_verify_28 : decode cX7_verify 28 = .ok (.iload_n 3, 1) := by decide +kernel
theorem dX7_verify_29 : decode cX7_verify 29 = .ok (.iconst 2, 1) := by decide +kernel
theorem dX7_verify_30 : decode cX7_verify 30 = .ok (.ior, 1) := by decide +kernel
theorem dX7_verify_31 : decode cX7_verify 31 = .ok (.istore_n 3, 1) := by decide +kernel
theorem dX7_verify_32 : decode cX7_verify 32 = .ok (.aload_n 0, 1) := by decide +kernel
theorem dX7_verify_33 : decode cX7_verify 33 = .ok (.getfield 26, 3) := by decide +kernel
theorem dX7_verify_36 : decode cX7_verify 36 = .ok (.getfield 223, 3) := by decide +kernel
theorem dX7_verify_39 : decode cX7_verify 39 = .ok (.aload_n 0, 1) := by decide +kernel
theorem dX7_verify_40 : decode cX7_verify 40 = .ok (.getfield 33, 3) := by decide +kernel
theorem dX7_verify_43 : decode cX7_verify 43 = .ok (.getfield 143, 3) := by decide +kernel
theorem dX7_verify_46 : decode cX7_verify 46 = .ok (.if_icmp .lt 7, 3) := by decide +kernel
theorem dX7_verify_49 : decode cX7_verify 49 = .ok (.iload_n 3, 1) := by decide +kernel
theorem dX7_verify_50 : decode cX7_verify 50 = .ok (.iconst 4, 1) := by decide +kernel
theorem dX7_verify_51 : decode cX7_verify 51 = .ok (.ior, 1) := by decide +kernel
theorem dX7_verify_52 : decode cX7_verify 52 = .ok (.istore_n 3, 1) := by decide +kernel
theorem dX7_verify_53 : decode cX7_verify 53 = .ok (.aload_n 0, 1) := by decide +kernel
theorem dX7_verify_54 : decode cX7_verify 54 = .ok (.getfield 26, 3) := by decide +kernel
theorem dX7_verify_57 : decode cX7_verify 57 = .ok (.getfield 223, 3) := by decide +kernel
theorem dX7_verify_60 : decode cX7_verify 60 = .ok (.aload_n 0, 1) := by decide +kernel
theorem dX7_verify_61 : decode cX7_verify 61 = .ok (.getfield 33, 3) := by decide +kernel
theorem dX7_verify_64 : decode cX7_verify 64 = .ok (.getfield 146, 3) := by decide +kernel
theorem dX7_verify_67 : decode cX7_verify 67 = .ok (.if_icmp .lt 8, 3) := by decide +kernel
theorem dX7_verify_70 : decode cX7_verify 70 = .ok (.iload_n 3, 1) := by decide +kernel
theorem dX7_verify_71 : decode cX7_verify 71 = .ok (.bipush 8, 2) := by decide +kernel
theorem dX7_verify_73 : decode cX7_verify 73 = .ok (.ior, 1) := by decide +kernel
theorem dX7_verify_74 : decode cX7_verify 74 = .ok (.istore_n 3, 1) := by decide +kernel
theorem dX7_verify_75 : decode cX7_verify 75 = .ok (.aload_n 0, 1) := by decide +kernel
theorem dX7_verify_76 : decode cX7_verify 76 = .ok (.getfield 26, 3) := by decide +kernel
theorem dX7_verify_79 : decode cX7_verify 79 = .ok (.getfield 226, 3) := by decide +kernel
theorem dX7_verify_82 : decode cX7_verify 82 = .ok (.ifCond .eq 8, 3) := by decide +kernel
theorem dX7_verify_85 : decode cX7_verify 85 = .ok (.iload_n 3, 1) := by decide +kernel
theorem dX7_verify_86 : decode cX7_verify 86 = .ok (.bipush 16, 2) := by decide +kernel
theorem dX7_verify_88 : decode cX7_verify 88 = .ok (.ior, 1) := by decide +kernel
theorem dX7_verify_89 : decode cX7_verify 89 = .ok (.istore_n 3, 1) := by decide +kernel
theorem dX7_verify_90 : decode cX7_verify 90 = .ok (.aload_n 0, 1) := by decide +kernel
theorem dX7_verify_91 : decode cX7_verify 91 = .ok (.getfield 47, 3) := by decide +kernel
theorem dX7_verify_94 : decode cX7_verify 94 = .ok (.getfield 207, 3) := by decide +kernel
theorem dX7_verify_97 : decode cX7_verify 97 = .ok (.ifCond .le 8, 3) := by decide +kernel
theorem dX7_verify_100 : decode cX7_verify 100 = .ok (.iload_n 3, 1) := by decide +kernel
theorem dX7_verify_101 : decode cX7_verify 101 = .ok (.bipush 32, 2) := by decide +kernel
theorem dX7_verify_103 : decode cX7_verify 103 = .ok (.ior, 1) := by decide +kernel
theorem dX7_verify_104 : decode cX7_verify 104 = .ok (.istore_n 3, 1) := by decide +kernel
theorem dX7_verify_105 : decode cX7_verify 105 = .ok (.iload_n 3, 1) := by decide +kernel
theorem dX7_verify_106 : decode cX7_verify 106 = .ok (.ireturn, 1) := by decide +kernel
theorem dX7_decide_0 : decode cX7_decide 0 = .ok (.aload_n 0, 1) := by decide +kernel
theorem dX7_decide_1 : decode cX7_decide 1 = .ok (.iconst 0, 1) := by decide +kernel
theorem dX7_decide_2 : decode cX7_decide 2 = .ok (.iload_n 1, 1) := by decide +kernel
theorem dX7_decide_3 : decode cX7_decide 3 = .ok (.invokevirtual 229, 3) := by decide +kernel
theorem dX7_decide_6 : decode cX7_decide 6 = .ok (.ifCond .eq 5, 3) := by decide +kernel
theorem dX7_decide_9 : decode cX7_decide 9 = .ok (.iconst 0, 1) := by decide +kernel
theorem dX7_decide_10 : decode cX7_decide 10 = .ok (.ireturn, 1) := by decide +kernel
theorem dX7_decide_11 : decode cX7_decide 11 = .ok (.aload_n 0, 1) := by decide +kernel
theorem dX7_decide_12 : decode cX7_decide 12 = .ok (.getfield 33, 3) := by decide +kernel
theorem dX7_decide_15 : decode cX7_decide 15 = .ok (.getfield 152, 3) := by decide +kernel
theorem dX7_decide_18 : decode cX7_decide 18 = .ok (.ifCond .eq 29, 3) := by decide +kernel
theorem dX7_decide_21 : decode cX7_decide 21 = .ok (.aload_n 0, 1) := by decide +kernel
theorem dX7_decide_22 : decode cX7_decide 22 = .ok (.getfield 47, 3) := by decide +kernel
theorem dX7_decide_25 : decode cX7_decide 25 = .ok (.getfield 207, 3) := by decide +kernel
theorem dX7_decide_28 : decode cX7_decide 28 = .ok (.iconst 3, 1) := by decide +kernel
theorem dX7_decide_29 : decode cX7_decide 29 = .ok (.if_icmp .ge 18, 3) := by decide +kernel
theorem dX7_decide_32 : decode cX7_decide 32 = .ok (.aload_n 0, 1) := by decide +kernel
theorem dX7_decide_33 : decode cX7_decide 33 = .ok (.iconst 1, 1) := by decide +kernel
theorem dX7_decide_34 : decode cX7_decide 34 = .ok (.iload_n 1, 1) := by decide +kernel
theorem dX7_decide_35 : decode cX7_decide 35 = .ok (.invokevirtual 229, 3) := by decide +kernel
theorem dX7_decide_38 : decode cX7_decide 38 = .ok (.ifCond .eq 7, 3) := by decide +kernel
theorem dX7_decide_41 : decode cX7_decide 41 = .ok (.iconst 3, 1) := by decide +kernel
theorem dX7_decide_42 : decode cX7_decide 42 = .ok (.goto 4, 3) := by decide +kernel
theorem dX7_decide_45 : decode cX7_decide 45 = .ok (.iconst 1, 1) := by decide +kernel
theorem dX7_decide_46 : decode cX7_decide 46 = .ok (.ireturn, 1) := by decide +kernel
theorem dX7_decide_47 : decode cX7_decide 47 = .ok (.aload_n 0, 1) := by decide +kernel
theorem dX7_decide_48 : decode cX7_decide 48 = .ok (.iload_n 1, 1) := by decide +kernel
theorem dX7_decide_49 : decode cX7_decide 49 = .ok (.invokevirtual 201, 3) := by decide +kernel
theorem dX7_decide_52 : decode cX7_decide 52 = .ok (.ireturn, 1) := by decide +kernel
theorem dX7_decideWithoutHost_0 : decode cX7_decideWithoutHost 0 = .ok (.aload_n 0, 1) := by decide +kernel
theorem dX7_decideWithoutHost_1 : decode cX7_decideWithoutHost 1 = .ok (.iconst 2, 1) := by decide +kernel
theorem dX7_decideWithoutHost_2 : decode cX7_decideWithoutHost 2 = .ok (.iload_n 1, 1) := by decide +kernel
theorem dX7_decideWithoutHost_3 : decode cX7_decideWithoutHost 3 = .ok (.invokevirtual 229, 3) := by decide +kernel
theorem dX7_decideWithoutHost_6 : decode cX7_decideWithoutHost 6 = .ok (.ifCond .eq 7, 3) := by decide +kernel
theorem dX7_decideWithoutHost_9 : decode cX7_decideWithoutHost 9 = .ok (.iconst 0, 1) := by decide +kernel
theorem dX7_decideWithoutHost_10 : decode cX7_decideWithoutHost 10 = .ok (.goto 4, 3) := by decide +kernel
theorem dX7_decideWithoutHost_13 : decode cX7_decideWithoutHost 13 = .ok (.iconst 1, 1) := by decide +kernel
theorem dX7_decideWithoutHost_14 : decode cX7_decideWithoutHost 14 = .ok (.ireturn, 1) := by decide +kernel
theorem dX7_isHitBy_0 : decode cX7_isHitBy 0 = .ok (.aload_n 0, 1) := by decide +kernel
theorem dX7_isHitBy_1 : decode cX7_isHitBy 1 = .ok (.getfield 33, 3) := by decide +kernel
theorem dX7_isHitBy_4 : decode cX7_isHitBy 4 = .ok (.getfield 138, 3) := by decide +kernel
theorem dX7_isHitBy_7 : decode cX7_isHitBy 7 = .ok (.iload_n 1, 1) := by decide +kernel
theorem dX7_isHitBy_8 : decode cX7_isHitBy 8 = .ok (.invokestatic 81, 3) := by decide +kernel
theorem dX7_isHitBy_11 : decode cX7_isHitBy 11 = .ok (.aload_n 0, 1) := by decide +kernel
theorem dX7_isHitBy_12 : decode cX7_isHitBy 12 = .ok (.getfield 26, 3) := by decide +kernel
theorem dX7_isHitBy_15 : decode cX7_isHitBy 15 = .ok (.getfield 123, 3) := by decide +kernel
theorem dX7_isHitBy_18 : decode cX7_isHitBy 18 = .ok (.iload_n 1, 1) := by decide +kernel
theorem dX7_isHitBy_19 : decode cX7_isHitBy 19 = .ok (.invokestatic 81, 3) := by decide +kernel
theorem dX7_isHitBy_22 : decode cX7_isHitBy 22 = .ok (.ior, 1) := by decide +kernel
theorem dX7_isHitBy_23 : decode cX7_isHitBy 23 = .ok (.istore_n 3, 1) := by decide +kernel
theorem dX7_isHitBy_24 : decode cX7_isHitBy 24 = .ok (.iload_n 2, 1) := by decide +kernel
theorem dX7_isHitBy_25 : decode cX7_isHitBy 25 = .ok (.iload_n 3, 1) := by decide +kernel
theorem dX7_isHitBy_26 : decode cX7_isHitBy 26 = .ok (.iand, 1) := by decide +kernel
theorem dX7_isHitBy_27 : decode cX7_isHitBy 27 = .ok (.ifCond .eq 7, 3) := by decide +kernel
theorem dX7_isHitBy_30 : decode cX7_isHitBy 30 = .ok (.iconst 1, 1) := by decide +kernel
theorem dX7_isHitBy_31 : decode cX7_isHitBy 31 = .ok (.goto 4, 3) := by decide +kernel
theorem dX7_isHitBy_34 : decode cX7_isHitBy 34 = .ok (.iconst 0, 1) := by decide +kernel
theorem dX7_isHitBy_35 : decode cX7_isHitBy 35 = .ok (.ireturn, 1) := by decide +kernel
theorem dX7_countIfOffline_0 : decode cX7_countIfOffline 0 = .ok (.iload_n 1, 1) := by decide +kernel
theorem dX7_countIfOffline_1 : decode cX7_countIfOffline 1 = .ok (.iconst 1, 1) := by decide +kernel
theorem dX7_countIfOffline_2 : decode cX7_countIfOffline 2 = .ok (.if_icmp .ne 10, 3) := by decide +kernel
theorem dX7_countIfOffline_5 : decode cX7_countIfOffline 5 = .ok (.aload_n 0, 1) := by decide +kernel
theorem dX7_countIfOffline_6 : decode cX7_countIfOffline 6 = .ok (.getfield 26, 3) := by decide +kernel
theorem dX7_countIfOffline_9 : decode cX7_countIfOffline 9 = .ok (.invokevirtual 232, 3) := by decide +kernel
theorem dX7_countIfOffline_12 : decode cX7_countIfOffline 12 = .ok (.return_, 1) := by decide +kernel
theorem dX7_at_0 : decode cX7_at 0 = .ok (.iload_n 1, 1) := by decide +kernel
theorem dX7_at_1 : decode cX7_at 1 = .ok (.ifCond .lt 15, 3) := by decide +kernel
theorem dX7_at_4 : decode cX7_at 4 = .ok (.iload_n 1, 1) := by decide +kernel
theorem dX7_at_5 : decode cX7_at 5 = .ok (.aload_n 0, 1) := by decide +kernel
theorem dX7_at_6 : decode cX7_at 6 = .ok (.arraylength, 1) := by decide +kernel
theorem dX7_at_7 : decode cX7_at 7 = .ok (.if_icmp .ge 9, 3) := by decide +kernel
theorem dX7_at_10 : decode cX7_at 10 = .ok (.aload_n 0, 1) := by decide +kernel
theorem dX7_at_11 : decode cX7_at 11 = .ok (.iload_n 1, 1) := by decide +kernel
theorem dX7_at_12 : decode cX7_at 12 = .ok (.iaload, 1) := by decide +kernel
theorem dX7_at_13 : decode cX7_at 13 = .ok (.goto 4, 3) := by decide +kernel
theorem dX7_at_16 : decode cX7_at 16 = .ok (.iconst 0, 1) := by decide +kernel
theorem dX7_at_17 : decode cX7_at 17 = .ok (.ireturn, 1) := by decide +kernel
theorem dX7_put_0 : decode cX7_put 0 = .ok (.iload_n 1, 1) := by decide +kernel
theorem dX7_put_1 : decode cX7_put 1 = .ok (.ifCond .lt 13, 3) := by decide +kernel
theorem dX7_put_4 : decode cX7_put 4 = .ok (.iload_n 1, 1) := by decide +kernel
theorem dX7_put_5 : decode cX7_put 5 = .ok (.aload_n 0, 1) := by decide +kernel
theorem dX7_put_6 : decode cX7_put 6 = .ok (.arraylength, 1) := by decide +kernel
theorem dX7_put_7 : decode cX7_put 7 = .ok (.if_icmp .ge 7, 3) := by decide +kernel
theorem dX7_put_10 : decode cX7_put 10 = .ok (.aload_n 0, 1) := by decide +kernel
theorem dX7_put_11 : decode cX7_put 11 = .ok (.iload_n 1, 1) := by decide +kernel
theorem dX7_put_12 : decode cX7_put 12 = .ok (.iload_n 2, 1) := by decide +kernel
theorem dX7_put_13 : decode cX7_put 13 = .ok (.iastore, 1) := by decide +kernel
theorem dX7_put_14 : decode cX7_put 14 = .ok (.return_, 1) := by decide +kernel

theorem dX2_readTag_79 : decode cX2_readTag 79 = .ok (.imul, 1) := by decide +kernel
theorem dX2_readTag_80 : decode cX2_readTag 80 = .ok (.iload 4, 2) := by decide +kernel
theorem dX2_readTag_82 : decode cX2_readTag 82 = .ok (.iadd, 1) := by decide +kernel
theorem dX2_readTag_83 : decode cX2_readTag 83 = .ok (.istore_n 3, 1) := by decide +kernel
theorem dX2_readTag_84 : decode cX2_readTag 84 = .ok (.aload_n 0, 1) := by decide +kernel
theorem dX2_readTag_85 : decode cX2_readTag 85 = .ok (.dup, 1) := by decide +kernel
theorem dX2_readTag_86 : decode cX2_readTag 86 = .ok (.getfield 34, 3) := by decide +kernel
theorem dX2_readTag_89 : decode cX2_readTag 89 = .ok (.iconst 1, 1) := by decide +kernel
theorem dX2_readTag_90 : decode cX2_readTag 90 = .ok (.iadd, 1) := by decide +kernel
theorem dX2_readTag_91 : decode cX2_readTag 91 = .ok (.putfield 34, 3) := by decide +kernel
theorem dX2_readTag_94 : decode cX2_readTag 94 = .ok (.aload_n 0, 1) := by decide +kernel
theorem dX2_readTag_95 : decode cX2_readTag 95 = .ok (.getfield 9, 3) := by decide +kernel
theorem dX2_readTag_98 : decode cX2_readTag 98 = .ok (.aload_n 0, 1) := by decide +kernel
theorem dX2_readTag_99 : decode cX2_readTag 99 = .ok (.getfield 27, 3) := by decide +kernel
theorem dX2_readTag_102 : decode cX2_readTag 102 = .ok (.iload_n 3, 1) := by decide +kernel
theorem dX2_readTag_103 : decode cX2_readTag 103 = .ok (.invokestatic 63, 3) := by decide +kernel
theorem dX2_readTag_106 : decode cX2_readTag 106 = .ok (.iconst 1, 1) := by decide +kernel
theorem dX2_readTag_107 : decode cX2_readTag 107 = .ok (.ireturn, 1) := by decide +kernel
theorem dX2_readLength_0 : decode cX2_readLength 0 = .ok (.aload_n 0, 1) := by decide +kernel
theorem dX2_readLength_1 : decode cX2_readLength 1 = .ok (.getfield 34, 3) := by decide +kernel
theorem dX2_readLength_4 : decode cX2_readLength 4 = .ok (.istore_n 3, 1) := by decide +kernel
theorem dX2_readLength_5 : decode cX2_readLength 5 = .ok (.aload_n 0, 1) := by decide +kernel
theorem dX2_readLength_6 : decode cX2_readLength 6 = .ok (.getfield 34, 3) := by decide +kernel
theorem dX2_readLength_9 : decode cX2_readLength 9 = .ok (.iload_n 2, 1) := by decide +kernel
theorem dX2_readLength_10 : decode cX2_readLength 10 = .ok (.if_icmp .lt 9, 3) := by decide +kernel
theorem dX2_readLength_13 : decode cX2_readLength 13 = .ok (.aload_n 0, 1) := by decide +kernel
theorem dX2_readLength_14 : decode cX2_readLength 14 = .ok (.iload_n 2, 1) := by decide +kernel
theorem dX2_readLength_15 : decode cX2_readLength 15 = .ok (.invokevirtual 67, 3) := by decide +kernel
theorem dX2_readLength_18 : decode cX2_readLength 18 = .ok (.ireturn, 1) := by decide +kernel
theorem dX2_readLength_19 : decode cX2_readLength 19 = .ok (.aload_n 1, 1) := by decide +kernel
theorem dX2_readLength_20 : decode cX2_readLength 20 = .ok (.getfield 49, 3) := by decide +kernel
theorem dX2_readLength_23 : decode cX2_readLength 23 = .ok (.aload_n 0, 1) := by decide +kernel
theorem dX2_readLength_24 : decode cX2_readLength 24 = .ok (.getfield 34, 3) := by decide +kernel
theorem dX2_readLength_27 : decode cX2_readLength 27 = .ok (.invokestatic 52, 3) := by decide +kernel
theorem dX2_readLength_30 : decode cX2_readLength 30 = .ok (.istore 4, 2) := by decide +kernel
theorem dX2_readLength_32 : decode cX2_readLength 32 = .ok (.aload_n 0, 1) := by decide +kernel
theorem dX2_readLength_33 : decode cX2_readLength 33 = .ok (.dup, 1) := by decide +kernel
theorem dX2_readLength_34 : decode cX2_readLength 34 = .ok (.getfield 34, 3) := by decide +kernel
theorem dX2_readLength_37 : decode cX2_readLength 37 = .ok (.iconst 1, 1) := by decide +kernel
theorem dX2_readLength_38 : decode cX2_readLength 38 = .ok (.iadd, 1) := by decide +kernel
theorem dX2_readLength_39 : decode cX2_readLength 39 = .ok (.putfield 34, 3) := by decide +kernel
theorem dX2_readLength_42 : decode cX2_readLength 42 = .ok (.iload 4, 2) := by decide +kernel
theorem dX2_readLength_44 : decode cX2_readLength 44 = .ok (.sipush 129, 3) := by decide +kernel
theorem dX2_readLength_47 : decode cX2_readLength 47 = .ok (.if_icmp .ne 43, 3) := by decide +kernel
theorem dX2_readLength_50 : decode cX2_readLength 50 = .ok (.aload_n 0, 1) := by decide +kernel
theorem dX2_readLength_51 : decode cX2_readLength 51 = .ok (.getfield 34, 3) := by decide +kernel
theorem dX2_readLength_54 : decode cX2_readLength 54 = .ok (.iload_n 2, 1) := by decide +kernel
theorem dX2_readLength_55 : decode cX2_readLength 55 = .ok (.if_icmp .lt 9, 3) := by decide +kernel
theorem dX2_readLength_58 : decode cX2_readLength 58 = .ok (.aload_n 0, 1) := by decide +kernel
theorem dX2_readLength_59 : decode cX2_readLength 59 = .ok (.iload_n 2, 1) := by decide +kernel
theorem dX2_readLength_60 : decode cX2_readLength 60 = .ok (.invokevirtual 67, 3) := by decide +kernel
theorem dX2_readLength_63 : decode cX2_readLength 63 = .ok (.ireturn, 1) := by decide +kernel
theorem dX2_readLength_64 : decode cX2_readLength 64 = .ok (.aload_n 1, 1) := by decide +kernel
theorem dX2_readLength_65 : decode cX2_readLength 65 = .ok (.getfield 49, 3) := by decide +kernel
theorem dX2_readLength_68 : decode cX2_readLength 68 = .ok (.aload_n 0, 1) := by decide +kernel
theorem dX2_readLength_69 : decode cX2_readLength 69 = .ok (.getfield 34, 3) := by decide +kernel
theorem dX2_readLength_72 : decode cX2_readLength 72 = .ok (.invokestatic 52, 3) := by decide +kernel
theorem dX2_readLength_75 : decode cX2_readLength 75 = .ok (.istore 4, 2) := by decide +kernel
theorem dX2_readLength_77 : decode cX2_readLength 77 = .ok (.aload_n 0, 1) := by decide +kernel
theorem dX2_readLength_78 : decode cX2_readLength 78 = .ok (.dup, 1) := by decide +kernel
theorem dX2_readLength_79 : decode cX2_readLength 79 = .ok (.getfield 34, 3) := by decide +kernel
theorem dX2_readLength_82 : decode cX2_readLength 82 = .ok (.iconst 1, 1) := by decide +kernel
theorem dX2_readLength_83 : decode cX2_readLength 83 = .ok (.iadd, 1) := by decide +kernel
theorem dX2_readLength_84 : decode cX2_readLength 84 = .ok (.putfield 34, 3) := by decide +kernel
theorem dX2_readLength_87 : decode cX2_readLength 87 = .ok (.goto 16, 3) := by decide +kernel
theorem dX2_readLength_90 : decode cX2_readLength 90 = .ok (.iload 4, 2) := by decide +kernel
theorem dX2_readLength_92 : decode cX2_readLength 92 = .ok (.bipush 127, 2) := by decide +kernel
theorem dX2_readLength_94 : decode cX2_readLength 94 = .ok (.if_icmp .le 9, 3) := by decide +kernel
theorem dX2_readLength_97 : decode cX2_readLength 97 = .ok (.aload_n 0, 1) := by decide +kernel
theorem dX2_readLength_98 : decode cX2_readLength 98 = .ok (.iload_n 3, 1) := by decide +kernel
theorem dX2_readLength_99 : decode cX2_readLength 99 = .ok (.invokevirtual 67, 3) := by decide +kernel
theorem dX2_readLength_102 : decode cX2_readLength 102 = .ok (.ireturn, 1) := by decide +kernel
theorem dX2_readLength_103 : decode cX2_readLength 103 = .ok (.iload 4, 2) := by decide +kernel
theorem dX2_readLength_105 : decode cX2_readLength 105 = .ok (.iload_n 2, 1) := by decide +kernel
theorem dX2_readLength_106 : decode cX2_readLength 106 = .ok (.aload_n 0, 1) := by decide +kernel
theorem dX2_readLength_107 : decode cX2_readLength 107 = .ok (.getfield 34, 3) := by decide +kernel
theorem dX2_readLength_110 : decode cX2_readLength 110 = .ok (.isub, 1) := by decide +kernel
theorem dX2_readLength_111 : decode cX2_readLength 111 = .ok (.if_icmp .le 9, 3) := by decide +kernel
theorem dX2_readLength_114 : decode cX2_readLength 114 = .ok (.aload_n 0, 1) := by decide +kernel
theorem dX2_readLength_115 : decode cX2_readLength 115 = .ok (.iload_n 3, 1) := by decide +kernel
theorem dX2_readLength_116 : decode cX2_readLength 116 = .ok (.invokevirtual 67, 3) := by decide +kernel
theorem dX2_readLength_119 : decode cX2_readLength 119 = .ok (.ireturn, 1) := by decide +kernel
theorem dX2_readLength_120 : decode cX2_readLength 120 = .ok (.aload_n 0, 1) := by decide +kernel
theorem dX2_readLength_121 : decode cX2_readLength 121 = .ok (.getfield 15, 3) := by decide +kernel
theorem dX2_readLength_124 : decode cX2_readLength 124 = .ok (.aload_n 0, 1) := by decide +kernel
theorem dX2_readLength_125 : decode cX2_readLength 125 = .ok (.getfield 27, 3) := by decide +kernel
theorem dX2_readLength_128 : decode cX2_readLength 128 = .ok (.iload 4, 2) := by decide +kernel
theorem dX2_readLength_130 : decode cX2_readLength 130 = .ok (.invokestatic 63, 3) := by decide +kernel
theorem dX2_readLength_133 : decode cX2_readLength 133 = .ok (.iconst 1, 1) := by decide +kernel
theorem dX2_readLength_134 : decode cX2_readLength 134 = .ok (.ireturn, 1) := by decide +kernel
theorem dX2_breakAt_0 : decode cX2_breakAt 0 = .ok (.aload_n 0, 1) := by decide +kernel
theorem dX2_breakAt_1 : decode cX2_breakAt 1 = .ok (.iload_n 1, 1) := by decide +kernel
theorem dX2_breakAt_2 : decode cX2_breakAt 2 = .ok (.putfield 31, 3) := by decide +kernel
theorem dX2_breakAt_5 : decode cX2_breakAt 5 = .ok (.iconst 0, 1) := by decide +kernel
theorem dX2_breakAt_6 : decode cX2_breakAt 6 = .ok (.ireturn, 1) := by decide +kernel
theorem dX2_firstWithTag_0 : decode cX2_firstWithTag 0 = .ok (.iload_n 2, 1) := by decide +kernel
theorem dX2_firstWithTag_1 : decode cX2_firstWithTag 1 = .ok (.istore_n 3, 1) := by decide +kernel
theorem dX2_firstWithTag_2 : decode cX2_firstWithTag 2 = .ok (.iload_n 3, 1) := by decide +kernel
theorem dX2_firstWithTag_3 : decode cX2_firstWithTag 3 = .ok (.aload_n 0, 1) := by decide +kernel
theorem dX2_firstWithTag_4 : decode cX2_firstWithTag 4 = .ok (.getfield 27, 3) := by decide +kernel
theorem dX2_firstWithTag_7 : decode cX2_firstWithTag 7 = .ok (.if_icmp .ge 23, 3) := by decide +kernel
theorem dX2_firstWithTag_10 : decode cX2_firstWithTag 10 = .ok (.aload_n 0, 1) := by decide +kernel
theorem dX2_firstWithTag_11 : decode cX2_firstWithTag 11 = .ok (.getfield 9, 3) := by decide +kernel
theorem dX2_firstWithTag_14 : decode cX2_firstWithTag 14 = .ok (.iload_n 3, 1) := by decide +kernel
theorem dX2_firstWithTag_15 : decode cX2_firstWithTag 15 = .ok (.invokestatic 52, 3) := by decide +kernel
theorem dX2_firstWithTag_18 : decode cX2_firstWithTag 18 = .ok (.iload_n 1, 1) := by decide +kernel
theorem dX2_firstWithTag_19 : decode cX2_firstWithTag 19 = .ok (.if_icmp .ne 5, 3) := by decide +kernel
theorem dX2_firstWithTag_22 : decode cX2_firstWithTag 22 = .ok (.iload_n 3, 1) := by decide +kernel
theorem dX2_firstWithTag_23 : decode cX2_firstWithTag 23 = .ok (.ireturn, 1) := by decide +kernel
theorem dX2_firstWithTag_24 : decode cX2_firstWithTag 24 = .ok (.iinc 3 1, 3) := by decide +kernel
theorem dX2_firstWithTag_27 : decode cX2_firstWithTag 27 = .ok (.goto (-25), 3) := by decide +kernel
theorem dX2_firstWithTag_30 : decode cX2_firstWithTag 30 = .ok (.iconst (-1), 1) := by decide +kernel
theorem dX2_firstWithTag_31 : decode cX2_firstWithTag 31 = .ok (.ireturn, 1) := by decide +kernel
theorem dX2_applicationCount_0 : decode cX2_applicationCount 0 = .ok (.iconst 0, 1) := by decide +kernel
theorem dX2_applicationCount_1 : decode cX2_applicationCount 1 = .ok (.istore_n 1, 1) := by decide +kernel
theorem dX2_applicationCount_2 : decode cX2_applicationCount 2 = .ok (.iconst 0, 1) := by decide +kernel
theorem dX2_applicationCount_3 : decode cX2_applicationCount 3 = .ok (.istore_n 2, 1) := by decide +kernel
theorem dX2_applicationCount_4 : decode cX2_applicationCount 4 = .ok (.iload_n 2, 1) := by decide +kernel
theorem dX2_applicationCount_5 : decode cX2_applicationCount 5 = .ok (.aload_n 0, 1) := by decide +kernel
theorem dX2_applicationCount_6 : decode cX2_applicationCount 6 = .ok (.getfield 27, 3) := by decide +kernel
theorem dX2_applicationCount_9 : decode cX2_applicationCount 9 = .ok (.if_icmp .ge 21, 3) := by decide +kernel
theorem dX2_applicationCount_12 : decode cX2_applicationCount 12 = .ok (.aload_n 0, 1) := by decide +kernel
theorem dX2_applicationCount_13 : decode cX2_applicationCount 13 = .ok (.iload_n 2, 1) := by decide +kernel
theorem dX2_applicationCount_14 : decode cX2_applicationCount 14 = .ok (.invokevirtual 71, 3) := by decide +kernel
theorem dX2_applicationCount_17 : decode cX2_applicationCount 17 = .ok (.iconst (-1), 1) := by decide +kernel
theorem dX2_applicationCount_18 : decode cX2_applicationCount 18 = .ok (.if_icmp .eq 6, 3) := by decide +kernel
theorem dX2_applicationCount_21 : decode cX2_applicationCount 21 = .ok (.iinc 1 1, 3) := by decide +kernel
theorem dX2_applicationCount_24 : decode cX2_applicationCount 24 = .ok (.iinc 2 1, 3) := by decide +kernel
theorem dX2_applicationCount_27 : decode cX2_applicationCount 27 = .ok (.goto (-23), 3) := by decide +kernel
theorem dX2_applicationCount_30 : decode cX2_applicationCount 30 = .ok (.iload_n 1, 1) := by decide +kernel
theorem dX2_applicationCount_31 : decode cX2_applicationCount 31 = .ok (.ireturn, 1) := by decide +kernel
theorem dX2_identifierIn_0 : decode cX2_identifierIn 0 = .ok (.aload_n 0, 1) := by decide +kernel
theorem dX2_identifierIn_1 : decode cX2_identifierIn 1 = .ok (.getfield 9, 3) := by decide +kernel
theorem dX2_identifierIn_4 : decode cX2_identifierIn 4 = .ok (.iload_n 1, 1) := by decide +kernel
theorem dX2_identifierIn_5 : decode cX2_identifierIn 5 = .ok (.invokestatic 52, 3) := by decide +kernel
theorem dX2_identifierIn_8 : decode cX2_identifierIn 8 = .ok (.bipush 97, 2) := by decide +kernel
theorem dX2_identifierIn_10 : decode cX2_identifierIn 10 = .ok (.if_icmp .eq 5, 3) := by decide +kernel
theorem dX2_identifierIn_13 : decode cX2_identifierIn 13 = .ok (.iconst (-1), 1) := by decide +kernel
theorem dX2_identifierIn_14 : decode cX2_identifierIn 14 = .ok (.ireturn, 1) := by decide +kernel
theorem dX2_identifierIn_15 : decode cX2_identifierIn 15 = .ok (.aload_n 0, 1) := by decide +kernel
theorem dX2_identifierIn_16 : decode cX2_identifierIn 16 = .ok (.iload_n 1, 1) := by decide +kernel
theorem dX2_identifierIn_17 : decode cX2_identifierIn 17 = .ok (.iconst 1, 1) := by decide +kernel
theorem dX2_identifierIn_18 : decode cX2_identifierIn 18 = .ok (.iadd, 1) := by decide +kernel
theorem dX2_identifierIn_19 : decode cX2_identifierIn 19 = .ok (.iload_n 1, 1) := by decide +kernel
theorem dX2_identifierIn_20 : decode cX2_identifierIn 20 = .ok (.bipush 79, 2) := by decide +kernel
theorem dX2_identifierIn_22 : decode cX2_identifierIn 22 = .ok (.iconst 5, 1) := by decide +kernel
theorem dX2_identifierIn_23 : decode cX2_identifierIn 23 = .ok (.bipush 16, 2) := by decide +kernel
theorem dX2_identifierIn_25 : decode cX2_identifierIn 25 = .ok (.invokevirtual 74, 3) := by decide +kernel
theorem dX2_identifierIn_28 : decode cX2_identifierIn 28 = .ok (.istore_n 2, 1) := by decide +kernel
theorem dX2_identifierIn_29 : decode cX2_identifierIn 29 = .ok (.iload_n 2, 1) := by decide +kernel
theorem dX2_identifierIn_30 : decode cX2_identifierIn 30 = .ok (.iconst (-1), 1) := by decide +kernel
theorem dX2_identifierIn_31 : decode cX2_identifierIn 31 = .ok (.if_icmp .ne 5, 3) := by decide +kernel
theorem dX2_identifierIn_34 : decode cX2_identifierIn 34 = .ok (.iconst (-1), 1) := by decide +kernel
theorem dX2_identifierIn_35 : decode cX2_identifierIn 35 = .ok (.ireturn, 1) := by decide +kernel
theorem dX2_identifierIn_36 : decode cX2_identifierIn 36 = .ok (.aload_n 0, 1) := by decide +kernel
theorem dX2_identifierIn_37 : decode cX2_identifierIn 37 = .ok (.iload_n 2, 1) := by decide +kernel
theorem dX2_identifierIn_38 : decode cX2_identifierIn 38 = .ok (.iconst 1, 1) := by decide +kernel
theorem dX2_identifierIn_39 : decode cX2_identifierIn 39 = .ok (.iadd, 1) := by decide +kernel
theorem dX2_identifierIn_40 : decode cX2_identifierIn 40 = .ok (.iload_n 1, 1) := by decide +kernel
theorem dX2_identifierIn_41 : decode cX2_identifierIn 41 = .ok (.bipush 79, 2) := by decide +kernel
theorem dX2_identifierIn_43 : decode cX2_identifierIn 43 = .ok (.iconst 5, 1) := by decide +kernel
theorem dX2_identifierIn_44 : decode cX2_identifierIn 44 = .ok (.bipush 16, 2) := by decide +kernel
theorem dX2_identifierIn_46 : decode cX2_identifierIn 46 = .ok (.invokevirtual 74, 3) := by decide +kernel
theorem dX2_identifierIn_49 : decode cX2_identifierIn 49 = .ok (.istore_n 3, 1) := by decide +kernel
theorem dX2_identifierIn_50 : decode cX2_identifierIn 50 = .ok (.iload_n 3, 1) := by decide +kernel
theorem dX2_identifierIn_51 : decode cX2_identifierIn 51 = .ok (.iconst (-1), 1) := by decide +kernel
theorem dX2_identifierIn_52 : decode cX2_identifierIn 52 = .ok (.if_icmp .ne 7, 3) := by decide +kernel
theorem dX2_identifierIn_55 : decode cX2_identifierIn 55 = .ok (.iload_n 2, 1) := by decide +kernel
theorem dX2_identifierIn_56 : decode cX2_identifierIn 56 = .ok (.goto 4, 3) := by decide +kernel
theorem dX2_identifierIn_59 : decode cX2_identifierIn 59 = .ok (.iconst (-1), 1) := by decide +kernel
theorem dX2_identifierIn_60 : decode cX2_identifierIn 60 = .ok (.ireturn, 1) := by decide +kernel
theorem dX2_priorityIn_0 : decode cX2_priorityIn 0 = .ok (.aload_n 0, 1) := by decide +kernel
theorem dX2_priorityIn_1 : decode cX2_priorityIn 1 = .ok (.iload_n 1, 1) := by decide +kernel
theorem dX2_priorityIn_2 : decode cX2_priorityIn 2 = .ok (.iconst 1, 1) := by decide +kernel
theorem dX2_priorityIn_3 : decode cX2_priorityIn 3 = .ok (.iadd, 1) := by decide +kernel
theorem dX2_priorityIn_4 : decode cX2_priorityIn 4 = .ok (.iload_n 1, 1) := by decide +kernel
theorem dX2_priorityIn_5 : decode cX2_priorityIn 5 = .ok (.sipush 135, 3) := by decide +kernel
theorem dX2_priorityIn_8 : decode cX2_priorityIn 8 = .ok (.iconst 1, 1) := by decide +kernel
theorem dX2_priorityIn_9 : decode cX2_priorityIn 9 = .ok (.iconst 1, 1) := by decide +kernel
theorem dX2_priorityIn_10 : decode cX2_priorityIn 10 = .ok (.invokevirtual 74, 3) := by decide +kernel
theorem dX2_priorityIn_13 : decode cX2_priorityIn 13 = .ok (.ireturn, 1) := by decide +kernel
theorem dX2_childFrom_0 : decode cX2_childFrom 0 = .ok (.iload_n 1, 1) := by decide +kernel
theorem dX2_childFrom_1 : decode cX2_childFrom 1 = .ok (.istore 6, 2) := by decide +kernel
theorem dX2_childFrom_3 : decode cX2_childFrom 3 = .ok (.iload 6, 2) := by decide +kernel
theorem dX2_childFrom_5 : decode cX2_childFrom 5 = .ok (.aload_n 0, 1) := by decide +kernel
theorem dX2_childFrom_6 : decode cX2_childFrom 6 = .ok (.getfield 27, 3) := by decide +kernel
theorem dX2_childFrom_9 : decode cX2_childFrom 9 = .ok (.if_icmp .ge 63, 3) := by decide +kernel
theorem dX2_childFrom_12 : decode cX2_childFrom 12 = .ok (.aload_n 0, 1) := by decide +kernel
theorem dX2_childFrom_13 : decode cX2_childFrom 13 = .ok (.getfield 15, 3) := by decide +kernel
theorem dX2_childFrom_16 : decode cX2_childFrom 16 = .ok (.iload 6, 2) := by decide +kernel
theorem dX2_childFrom_18 : decode cX2_childFrom 18 = .ok (.invokestatic 52, 3) := by decide +kernel
theorem dX2_childFrom_21 : decode cX2_childFrom 21 = .ok (.istore 7, 2) := by decide +kernel
theorem dX2_childFrom_23 : decode cX2_childFrom 23 = .ok (.aload_n 0, 1) := by decide +kernel
theorem dX2_childFrom_24 : decode cX2_childFrom 24 = .ok (.getfield 21, 3) := by decide +kernel
theorem dX2_childFrom_27 : decode cX2_childFrom 27 = .ok (.iload 6, 2) := by decide +kernel
theorem dX2_childFrom_29 : decode cX2_childFrom 29 = .ok (.invokestatic 52, 3) := by decide +kernel
theorem dX2_childFrom_32 : decode cX2_childFrom 32 = .ok (.iload_n 2, 1) := by decide +kernel
theorem dX2_childFrom_33 : decode cX2_childFrom 33 = .ok (.if_icmp .ne 33, 3) := by decide +kernel
theorem dX2_childFrom_36 : decode cX2_childFrom 36 = .ok (.aload_n 0, 1) := by decide +kernel
theorem dX2_childFrom_37 : decode cX2_childFrom 37 = .ok (.getfield 9, 3) := by decide +kernel
theorem dX2_childFrom_40 : decode cX2_childFrom 40 = .ok (.iload 6, 2) := by decide +kernel
theorem dX2_childFrom_42 : decode cX2_childFrom 42 = .ok (.invokestatic 52, 3) := by decide +kernel
theorem dX2_childFrom_45 : decode cX2_childFrom 45 = .ok (.iload_n 3, 1) := by decide +kernel
theorem dX2_childFrom_46 : decode cX2_childFrom 46 = .ok (.if_icmp .ne 20, 3) := by decide +kernel
theorem dX2_childFrom_49 : decode cX2_childFrom 49 = .ok (.iload 7, 2) := by decide +kernel
theorem dX2_childFrom_51 : decode cX2_childFrom 51 = .ok (.iload 4, 2) := by decide +kernel
theorem dX2_childFrom_53 : decode cX2_childFrom 53 = .ok (.if_icmp .lt 13, 3) := by decide +kernel
theorem dX2_childFrom_56 : decode cX2_childFrom 56 = .ok (.iload 7, 2) := by decide +kernel
theorem dX2_childFrom_58 : decode cX2_childFrom 58 = .ok (.iload 5, 2) := by decide +kernel
theorem dX2_childFrom_60 : decode cX2_childFrom 60 = .ok (.if_icmp .gt 6, 3) := by decide +kernel
theorem dX2_childFrom_63 : decode cX2_childFrom 63 = .ok (.iload 6, 2) := by decide +kernel
theorem dX2_childFrom_65 : decode cX2_childFrom 65 = .ok (.ireturn, 1) := by decide +kernel
theorem dX2_childFrom_66 : decode cX2_childFrom 66 = .ok (.iinc 6 1, 3) := by decide +kernel
theorem dX2_childFrom_69 : decode cX2_childFrom 69 = .ok (.goto (-66), 3) := by decide +kernel
theorem dX2_childFrom_72 : decode cX2_childFrom 72 = .ok (.iconst (-1), 1) := by decide +kernel
theorem dX2_childFrom_73 : decode cX2_childFrom 73 = .ok (.ireturn, 1) := by decide +kernel
theorem dX3_init_0 : decode cX3_init 0 = .ok (.aload_n 0, 1) := by decide +kernel
theorem dX3_init_1 : decode cX3_init 1 = .ok (.invokespecial 3, 3) := by decide +kernel
theorem dX3_init_4 : decode cX3_init 4 = .ok (.aload_n 0, 1) := by decide +kernel
theorem dX3_init_5 : decode cX3_init 5 = .ok (.bipush 6, 2) := by decide +kernel
theorem dX3_init_7 : decode cX3_init 7 = .ok (.newarray .int, 2) := by decide +kernel
theorem dX3_init_9 : decode cX3_init 9 = .ok (.putfield 11, 3) := by decide +kernel
theorem dX3_init_12 : decode cX3_init 12 = .ok (.aload_n 0, 1) := by decide +kernel
theorem dX3_init_13 : decode cX3_init 13 = .ok (.iconst 0, 1) := by decide +kernel
theorem dX3_init_14 : decode cX3_init 14 = .ok (.putfield 15, 3) := by decide +kernel
theorem dX3_init_17 : decode cX3_init 17 = .ok (.aload_n 0, 1) := by decide +kernel
theorem dX3_init_18 : decode cX3_init 18 = .ok (.bipush 96, 2) := by decide +kernel
theorem dX3_init_20 : decode cX3_init 20 = .ok (.newarray .int, 2) := by decide +kernel
theorem dX3_init_22 : decode cX3_init 22 = .ok (.putfield 19, 3) := by decide +kernel
theorem dX3_init_25 : decode cX3_init 25 = .ok (.return_, 1) := by decide +kernel
theorem dX3_add_0 : decode cX3_add 0 = .ok (.aload_n 0, 1) := by decide +kernel
theorem dX3_add_1 : decode cX3_add 1 = .ok (.getfield 15, 3) := by decide +kernel
theorem dX3_add_4 : decode cX3_add 4 = .ok (.bipush 6, 2) := by decide +kernel
theorem dX3_add_6 : decode cX3_add 6 = .ok (.if_icmp .ge 9, 3) := by decide +kernel
theorem dX3_add_9 : decode cX3_add 9 = .ok (.iload_n 3, 1) := by decide +kernel
theorem dX3_add_10 : decode cX3_add 10 = .ok (.bipush 16, 2) := by decide +kernel
theorem dX3_add_12 : decode cX3_add 12 = .ok (.if_icmp .le 4, 3) := by decide +kernel
theorem dX3_add_15 : decode cX3_add 15 = .ok (.return_, 1) := by decide +kernel
theorem dX3_add_16 : decode cX3_add 16 = .ok (.iconst 0, 1) := by decide +kernel
theorem dX3_add_17 : decode cX3_add 17 = .ok (.istore 4, 2) := by decide +kernel
theorem dX3_add_19 : decode cX3_add 19 = .ok (.iload 4, 2) := by decide +kernel
theorem dX3_add_21 : decode cX3_add 21 = .ok (.iload_n 3, 1) := by decide +kernel
theorem dX3_add_22 : decode cX3_add 22 = .ok (.if_icmp .ge 37, 3) := by decide +kernel
theorem dX3_add_25 : decode cX3_add 25 = .ok (.aload_n 0, 1) := by decide +kernel
theorem dX3_add_26 : decode cX3_add 26 = .ok (.getfield 19, 3) := by decide +kernel
theorem dX3_add_29 : decode cX3_add 29 = .ok (.aload_n 0, 1) := by decide +kernel
theorem dX3_add_30 : decode cX3_add 30 = .ok (.getfield 15, 3) := by decide +kernel
theorem dX3_add_33 : decode cX3_add 33 = .ok (.bipush 16, 2) := by decide +kernel
theorem dX3_add_35 : decode cX3_add 35 = .ok (.imul, 1) := by decide +kernel
theorem dX3_add_36 : decode cX3_add 36 = .ok (.iload 4, 2) := by decide +kernel
theorem dX3_add_38 : decode cX3_add 38 = .ok (.iadd, 1) := by decide +kernel
theorem dX3_add_39 : decode cX3_add 39 = .ok (.aload_n 1, 1) := by decide +kernel
theorem dX3_add_40 : decode cX3_add 40 = .ok (.getfield 22, 3) := by decide +kernel
theorem dX3_add_43 : decode cX3_add 43 = .ok (.iload_n 2, 1) := by decide +kernel
theorem dX3_add_44 : decode cX3_add 44 = .ok (.iload 4, 2) := by decide +kernel
theorem dX3_add_46 : decode cX3_add 46 = .ok (.iadd, 1) := by decide +kernel
theorem dX3_add_47 : decode cX3_add 47 = .ok (.invokestatic 25, 3) := by decide +kernel
theorem dX3_add_50 : decode cX3_add 50 = .ok (.invokestatic 29, 3) := by decide +kernel
theorem dX3_add_53 : decode cX3_add 53 = .ok (.iinc 4 1, 3) := by decide +kernel
theorem dX3_add_56 : decode cX3_add 56 = .ok (.goto (-37), 3) := by decide +kernel
theorem dX3_add_59 : decode cX3_add 59 = .ok (.aload_n 0, 1) := by decide +kernel
theorem dX3_add_60 : decode cX3_add 60 = .ok (.getfield 11, 3) := by decide +kernel
theorem dX3_add_63 : decode cX3_add 63 = .ok (.aload_n 0, 1) := by decide +kernel
theorem dX3_add_64 : decode cX3_add 64 = .ok (.getfield 15, 3) := by decide +kernel
theorem dX3_add_67 : decode cX3_add 67 = .ok (.iload_n 3, 1) := by decide +kernel
theorem dX3_add_68 : decode cX3_add 68 = .ok (.invokestatic 29, 3) := by decide +kernel
theorem dX3_add_71 : decode cX3_add 71 = .ok (.aload_n 0, 1) := by decide +kernel
theorem dX3_add_72 : decode cX3_add 72 = .ok (.dup, 1) := by decide +kernel
theorem dX3_add_73 : decode cX3_add 73 = .ok (.getfield 15, 3) := by decide +kernel
theorem dX3_add_76 : decode cX3_add 76 = .ok (.iconst 1, 1) := by decide +kernel
theorem dX3_add_77 : decode cX3_add 77 = .ok (.iadd, 1) := by decide +kernel
theorem dX3_add_78 : decode cX3_add 78 = .ok (.putfield 15, 3) := by decide +kernel
theorem dX3_add_81 : decode cX3_add 81 = .ok (.return_, 1) := by decide +kernel
theorem dX3_drop_0 : decode cX3_drop 0 = .ok (.iload_n 1, 1) := by decide +kernel
theorem dX3_drop_1 : decode cX3_drop 1 = .ok (.ifCond .lt 11, 3) := by decide +kernel
theorem dX3_drop_4 : decode cX3_drop 4 = .ok (.iload_n 1, 1) := by decide +kernel
theorem dX3_drop_5 : decode cX3_drop 5 = .ok (.aload_n 0, 1) := by decide +kernel
theorem dX3_drop_6 : decode cX3_drop 6 = .ok (.getfield 15, 3) := by decide +kernel
theorem dX3_drop_9 : decode cX3_drop 9 = .ok (.if_icmp .lt 4, 3) := by decide +kernel
theorem dX3_drop_12 : decode cX3_drop 12 = .ok (.return_, 1) := by decide +kernel
theorem dX3_drop_13 : decode cX3_drop 13 = .ok (.iload_n 1, 1) := by decide +kernel
theorem dX3_drop_14 : decode cX3_drop 14 = .ok (.istore_n 2, 1) := by decide +kernel
theorem dX3_drop_15 : decode cX3_drop 15 = .ok (.iload_n 2, 1) := by decide +kernel
theorem dX3_drop_16 : decode cX3_drop 16 = .ok (.aload_n 0, 1) := by decide +kernel
theorem dX3_drop_17 : decode cX3_drop 17 = .ok (.getfield 15, 3) := by decide +kernel
theorem dX3_drop_20 : decode cX3_drop 20 = .ok (.iconst 1, 1) := by decide +kernel
theorem dX3_drop_21 : decode cX3_drop 21 = .ok (.isub, 1) := by decide +kernel
theorem dX3_drop_22 : decode cX3_drop 22 = .ok (.if_icmp .ge 14, 3) := by decide +kernel
theorem dX3_drop_25 : decode cX3_drop 25 = .ok (.aload_n 0, 1) := by decide +kernel
theorem dX3_drop_26 : decode cX3_drop 26 = .ok (.iload_n 2, 1) := by decide +kernel
theorem dX3_drop_27 : decode cX3_drop 27 = .ok (.invokevirtual 33, 3) := by decide +kernel
theorem dX3_drop_30 : decode cX3_drop 30 = .ok (.iinc 2 1, 3) := by decide +kernel
theorem dX3_drop_33 : decode cX3_drop 33 = .ok (.goto (-18), 3) := by decide +kernel
theorem dX3_drop_36 : decode cX3_drop 36 = .ok (.aload_n 0, 1) := by decide +kernel
theorem dX3_drop_37 : decode cX3_drop 37 = .ok (.dup, 1) := by decide +kernel
theorem dX3_drop_38 : decode cX3_drop 38 = .ok (.getfield 15, 3) := by decide +kernel
theorem dX3_drop_41 : decode cX3_drop 41 = .ok (.iconst 1, 1) := by decide +kernel
theorem dX3_drop_42 : decode cX3_drop 42 = .ok (.isub, 1) := by decide +kernel
theorem dX3_drop_43 : decode cX3_drop 43 = .ok (.putfield 15, 3) := by decide +kernel
theorem dX3_drop_46 : decode cX3_drop 46 = .ok (.return_, 1) := by decide +kernel
theorem dX3_copyDown_0 : decode cX3_copyDown 0 = .ok (.aload_n 0, 1) := by decide +kernel
theorem dX3_copyDown_1 : decode cX3_copyDown 1 = .ok (.getfield 11, 3) := by decide +kernel
theorem dX3_copyDown_4 : decode cX3_copyDown 4 = .ok (.iload_n 1, 1) := by decide +kernel
theorem dX3_copyDown_5 : decode cX3_copyDown 5 = .ok (.aload_n 0, 1) := by decide +kernel
theorem dX3_copyDown_6 : decode cX3_copyDown 6 = .ok (.getfield 11, 3) := by decide +kernel
theorem dX3_copyDown_9 : decode cX3_copyDown 9 = .ok (.iload_n 1, 1) := by decide +kernel
theorem dX3_copyDown_10 : decode cX3_copyDown 10 = .ok (.iconst 1, 1) := by decide +kernel
theorem dX3_copyDown_11 : decode cX3_copyDown 11 = .ok (.iadd, 1) := by decide +kernel
theorem dX3_copyDown_12 : decode cX3_copyDown 12 = .ok (.invokestatic 25, 3) := by decide +kernel
theorem dX3_copyDown_15 : decode cX3_copyDown 15 = .ok (.invokestatic 29, 3) := by decide +kernel
theorem dX3_copyDown_18 : decode cX3_copyDown 18 = .ok (.iconst 0, 1) := by decide +kernel
theorem dX3_copyDown_19 : decode cX3_copyDown 19 = .ok (.istore_n 2, 1) := by decide +kernel
theorem dX3_copyDown_20 : decode cX3_copyDown 20 = .ok (.iload_n 2, 1) := by decide +kernel
theorem dX3_copyDown_21 : decode cX3_copyDown 21 = .ok (.bipush 16, 2) := by decide +kernel
theorem dX3_copyDown_23 : decode cX3_copyDown 23 = .ok (.if_icmp .ge 30, 3) := by decide +kernel
theorem dX3_copyDown_26 : decode cX3_copyDown 26 = .ok (.aload_n 0, 1) := by decide +kernel
theorem dX3_copyDown_27 : decode cX3_copyDown 27 = .ok (.getfield 19, 3) := by decide +kernel
theorem dX3_copyDown_30 : decode cX3_copyDown 30 = .ok (.iload_n 1, 1) := by decide +kernel
theorem dX3_copyDown_31 : decode cX3_copyDown 31 = .ok (.bipush 16, 2) := by decide +kernel
theorem dX3_copyDown_33 : decode cX3_copyDown 33 = .ok (.imul, 1) := by decide +kernel
theorem dX3_copyDown_34 : decode cX3_copyDown 34 = .ok (.iload_n 2, 1) := by decide +kernel
theorem dX3_copyDown_35 : decode cX3_copyDown 35 = .ok (.iadd, 1) := by decide +kernel
theorem dX3_copyDown_36 : decode cX3_copyDown 36 = .ok (.aload_n 0, 1) := by decide +kernel
theorem dX3_copyDown_37 : decode cX3_copyDown 37 = .ok (.iload_n 1, 1) := by decide +kernel
theorem dX3_copyDown_38 : decode cX3_copyDown 38 = .ok (.iconst 1, 1) := by decide +kernel
theorem dX3_copyDown_39 : decode cX3_copyDown 39 = .ok (.iadd, 1) := by decide +kernel
theorem dX3_copyDown_40 : decode cX3_copyDown 40 = .ok (.iload_n 2, 1) := by decide +kernel
theorem dX3_copyDown_41 : decode cX3_copyDown 41 = .ok (.invokevirtual 37, 3) := by decide +kernel
theorem dX3_copyDown_44 : decode cX3_copyDown 44 = .ok (.invokestatic 29, 3) := by decide +kernel
theorem dX3_copyDown_47 : decode cX3_copyDown 47 = .ok (.iinc 2 1, 3) := by decide +kernel
theorem dX3_copyDown_50 : decode cX3_copyDown 50 = .ok (.goto (-30), 3) := by decide +kernel
theorem dX3_copyDown_53 : decode cX3_copyDown 53 = .ok (.return_, 1) := by decide +kernel
theorem dX3_valueAt_0 : decode cX3_valueAt 0 = .ok (.aload_n 0, 1) := by decide +kernel
theorem dX3_valueAt_1 : decode cX3_valueAt 1 = .ok (.getfield 19, 3) := by decide +kernel
theorem dX3_valueAt_4 : decode cX3_valueAt 4 = .ok (.iload_n 1, 1) := by decide +kernel
theorem dX3_valueAt_5 : decode cX3_valueAt 5 = .ok (.bipush 16, 2) := by decide +kernel
theorem dX3_valueAt_7 : decode cX3_valueAt 7 = .ok (.imul, 1) := by decide +kernel
theorem dX3_valueAt_8 : decode cX3_valueAt 8 = .ok (.iload_n 2, 1) := by decide +kernel
theorem dX3_valueAt_9 : decode cX3_valueAt 9 = .ok (.iadd, 1) := by decide +kernel
theorem dX3_valueAt_10 : decode cX3_valueAt 10 = .ok (.invokestatic 25, 3) := by decide +kernel
theorem dX3_valueAt_13 : decode cX3_valueAt 13 = .ok (.ireturn, 1) := by decide +kernel
theorem dX3_beginsWith_0 : decode cX3_beginsWith 0 = .ok (.aload_n 2, 1) := by decide +kernel
theorem dX3_beginsWith_1 : decode cX3_beginsWith 1 = .ok (.getfield 11, 3) := by decide +kernel
theorem dX3_beginsWith_4 : decode cX3_beginsWith 4 = .ok (.iload_n 3, 1) := by decide +kernel
theorem dX3_beginsWith_5 : decode cX3_beginsWith 5 = .ok (.invokestatic 25, 3) := by decide +kernel
theorem dX3_beginsWith_8 : decode cX3_beginsWith 8 = .ok (.istore 4, 2) := by decide +kernel
theorem dX3_beginsWith_10 : decode cX3_beginsWith 10 = .ok (.iload 4, 2) := by decide +kernel
theorem dX3_beginsWith_12 : decode cX3_beginsWith 12 = .ok (.aload_n 0, 1) := by decide +kernel
theorem dX3_beginsWith_13 : decode cX3_beginsWith 13 = .ok (.getfield 11, 3) := by decide +kernel
theorem dX3_beginsWith_16 : decode cX3_beginsWith 16 = .ok (.iload_n 1, 1) := by decide +kernel
theorem dX3_beginsWith_17 : decode cX3_beginsWith 17 = .ok (.invokestatic 25, 3) := by decide +kernel
theorem dX3_beginsWith_20 : decode cX3_beginsWith 20 = .ok (.if_icmp .le 5, 3) := by decide +kernel
theorem dX3_beginsWith_23 : decode cX3_beginsWith 23 = .ok (.iconst 0, 1) := by decide +kernel
theorem dX3_beginsWith_24 : decode cX3_beginsWith 24 = .ok (.ireturn, 1) := by decide +kernel
theorem dX3_beginsWith_25 : decode cX3_beginsWith 25 = .ok (.iconst 0, 1) := by decide +kernel
theorem dX3_beginsWith_26 : decode cX3_beginsWith 26 = .ok (.istore 5, 2) := by decide +kernel
theorem dX3_beginsWith_28 : decode cX3_beginsWith 28 = .ok (.iload 5, 2) := by decide +kernel
theorem dX3_beginsWith_30 : decode cX3_beginsWith 30 = .ok (.iload 4, 2) := by decide +kernel
theorem dX3_beginsWith_32 : decode cX3_beginsWith 32 = .ok (.if_icmp .ge 28, 3) := by decide +kernel
theorem dX3_beginsWith_35 : decode cX3_beginsWith 35 = .ok (.aload_n 0, 1) := by decide +kernel
theorem dX3_beginsWith_36 : decode cX3_beginsWith 36 = .ok (.iload_n 1, 1) := by decide +kernel
theorem dX3_beginsWith_37 : decode cX3_beginsWith 37 = .ok (.iload 5, 2) := by decide +kernel
theorem dX3_beginsWith_39 : decode cX3_beginsWith 39 = .ok (.invokevirtual 37, 3) := by decide +kernel
theorem dX3_beginsWith_42 : decode cX3_beginsWith 42 = .ok (.aload_n 2, 1) := by decide +kernel
theorem dX3_beginsWith_43 : decode cX3_beginsWith 43 = .ok (.iload_n 3, 1) := by decide +kernel
theorem dX3_beginsWith_44 : decode cX3_beginsWith 44 = .ok (.iload 5, 2) := by decide +kernel
theorem dX3_beginsWith_46 : decode cX3_beginsWith 46 = .ok (.invokevirtual 37, 3) := by decide +kernel
theorem dX3_beginsWith_49 : decode cX3_beginsWith 49 = .ok (.if_icmp .eq 5, 3) := by decide +kernel
theorem dX3_beginsWith_52 : decode cX3_beginsWith 52 = .ok (.iconst 0, 1) := by decide +kernel
theorem dX3_beginsWith_53 : decode cX3_beginsWith 53 = .ok (.ireturn, 1) := by decide +kernel
theorem dX3_beginsWith_54 : decode cX3_beginsWith 54 = .ok (.iinc 5 1, 3) := by decide +kernel
theorem dX3_beginsWith_57 : decode cX3_beginsWith 57 = .ok (.goto (-29), 3) := by decide +kernel
theorem dX3_beginsWith_60 : decode cX3_beginsWith 60 = .ok (.iconst 1, 1) := by decide +kernel
theorem dX3_beginsWith_61 : decode cX3_beginsWith 61 = .ok (.ireturn, 1) := by decide +kernel

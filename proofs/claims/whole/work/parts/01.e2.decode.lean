theorem dX8_setTerminalCode_36 : decode cX8_setTerminalCode 36 = .ok (.ireturn, 1) := by decide +kernel
theorem dX8_setFloorLimit_0 : decode cX8_setFloorLimit 0 = .ok (.iload_n 1, 1) := by decide +kernel
theorem dX8_setFloorLimit_1 : decode cX8_setFloorLimit 1 = .ok (.iconst 0, 1) := by decide +kernel
theorem dX8_setFloorLimit_2 : decode cX8_setFloorLimit 2 = .ok (.ldc 127, 2) := by decide +kernel
theorem dX8_setFloorLimit_4 : decode cX8_setFloorLimit 4 = .ok (.invokestatic 87, 3) := by decide +kernel
theorem dX8_setFloorLimit_7 : decode cX8_setFloorLimit 7 = .ok (.ifCond .ne 5, 3) := by decide +kernel
theorem dX8_setFloorLimit_10 : decode cX8_setFloorLimit 10 = .ok (.iconst (-1), 1) := by decide +kernel
theorem dX8_setFloorLimit_11 : decode cX8_setFloorLimit 11 = .ok (.ireturn, 1) := by decide +kernel
theorem dX8_setFloorLimit_12 : decode cX8_setFloorLimit 12 = .ok (.aload_n 0, 1) := by decide +kernel
theorem dX8_setFloorLimit_13 : decode cX8_setFloorLimit 13 = .ok (.getfield 59, 3) := by decide +kernel
theorem dX8_setFloorLimit_16 : decode cX8_setFloorLimit 16 = .ok (.istore_n 2, 1) := by decide +kernel
theorem dX8_setFloorLimit_17 : decode cX8_setFloorLimit 17 = .ok (.aload_n 0, 1) := by decide +kernel
theorem dX8_setFloorLimit_18 : decode cX8_setFloorLimit 18 = .ok (.iload_n 1, 1) := by decide +kernel
theorem dX8_setFloorLimit_19 : decode cX8_setFloorLimit 19 = .ok (.putfield 59, 3) := by decide +kernel
theorem dX8_setFloorLimit_22 : decode cX8_setFloorLimit 22 = .ok (.iload_n 2, 1) := by decide +kernel
theorem dX8_setFloorLimit_23 : decode cX8_setFloorLimit 23 = .ok (.ireturn, 1) := by decide +kernel
theorem dX8_setOfflineLimits_0 : decode cX8_setOfflineLimits 0 = .ok (.iload_n 1, 1) := by decide +kernel
theorem dX8_setOfflineLimits_1 : decode cX8_setOfflineLimits 1 = .ok (.iconst 0, 1) := by decide +kernel
theorem dX8_setOfflineLimits_2 : decode cX8_setOfflineLimits 2 = .ok (.bipush 15, 2) := by decide +kernel
theorem dX8_setOfflineLimits_4 : decode cX8_setOfflineLimits 4 = .ok (.invokestatic 87, 3) := by decide +kernel
theorem dX8_setOfflineLimits_7 : decode cX8_setOfflineLimits 7 = .ok (.ifCond .eq 13, 3) := by decide +kernel
theorem dX8_setOfflineLimits_10 : decode cX8_setOfflineLimits 10 = .ok (.iload_n 2, 1) := by decide +kernel
theorem dX8_setOfflineLimits_11 : decode cX8_setOfflineLimits 11 = .ok (.iload_n 1, 1) := by decide +kernel
theorem dX8_setOfflineLimits_12 : decode cX8_setOfflineLimits 12 = .ok (.bipush 15, 2) := by decide +kernel
theorem dX8_setOfflineLimits_14 : decode cX8_setOfflineLimits 14 = .ok (.invokestatic 87, 3) := by decide +kernel
theorem dX8_setOfflineLimits_17 : decode cX8_setOfflineLimits 17 = .ok (.ifCond .ne 5, 3) := by decide +kernel
theorem dX8_setOfflineLimits_20 : decode cX8_setOfflineLimits 20 = .ok (.iconst (-1), 1) := by decide +kernel
theorem dX8_setOfflineLimits_21 : decode cX8_setOfflineLimits 21 = .ok (.ireturn, 1) := by decide +kernel
theorem dX8_setOfflineLimits_22 : decode cX8_setOfflineLimits 22 = .ok (.bipush 16, 2) := by decide +kernel
theorem dX8_setOfflineLimits_24 : decode cX8_setOfflineLimits 24 = .ok (.aload_n 0, 1) := by decide +kernel
theorem dX8_setOfflineLimits_25 : decode cX8_setOfflineLimits 25 = .ok (.getfield 63, 3) := by decide +kernel
theorem dX8_setOfflineLimits_28 : decode cX8_setOfflineLimits 28 = .ok (.imul, 1) := by decide +kernel
theorem dX8_setOfflineLimits_29 : decode cX8_setOfflineLimits 29 = .ok (.aload_n 0, 1) := by decide +kernel
theorem dX8_setOfflineLimits_30 : decode cX8_setOfflineLimits 30 = .ok (.getfield 66, 3) := by decide +kernel
theorem dX8_setOfflineLimits_33 : decode cX8_setOfflineLimits 33 = .ok (.iadd, 1) := by decide +kernel
theorem dX8_setOfflineLimits_34 : decode cX8_setOfflineLimits 34 = .ok (.istore_n 3, 1) := by decide +kernel
theorem dX8_setOfflineLimits_35 : decode cX8_setOfflineLimits 35 = .ok (.aload_n 0, 1) := by decide +kernel
theorem dX8_setOfflineLimits_36 : decode cX8_setOfflineLimits 36 = .ok (.iload_n 1, 1) := by decide +kernel
theorem dX8_setOfflineLimits_37 : decode cX8_setOfflineLimits 37 = .ok (.putfield 63, 3) := by decide +kernel
theorem dX8_setOfflineLimits_40 : decode cX8_setOfflineLimits 40 = .ok (.aload_n 0, 1) := by decide +kernel
theorem dX8_setOfflineLimits_41 : decode cX8_setOfflineLimits 41 = .ok (.iload_n 2, 1) := by decide +kernel
theorem dX8_setOfflineLimits_42 : decode cX8_setOfflineLimits 42 = .ok (.putfield 66, 3) := by decide +kernel
theorem dX8_setOfflineLimits_45 : decode cX8_setOfflineLimits 45 = .ok (.iload_n 3, 1) := by decide +kernel
theorem dX8_setOfflineLimits_46 : decode cX8_setOfflineLimits 46 = .ok (.ireturn, 1) := by decide +kernel
theorem dX8_setRandomTarget_0 : decode cX8_setRandomTarget 0 = .ok (.iload_n 1, 1) := by decide +kernel
theorem dX8_setRandomTarget_1 : decode cX8_setRandomTarget 1 = .ok (.iconst 0, 1) := by decide +kernel
theorem dX8_setRandomTarget_2 : decode cX8_setRandomTarget 2 = .ok (.bipush 100, 2) := by decide +kernel
theorem dX8_setRandomTarget_4 : decode cX8_setRandomTarget 4 = .ok (.invokestatic 87, 3) := by decide +kernel
theorem dX8_setRandomTarget_7 : decode cX8_setRandomTarget 7 = .ok (.ifCond .ne 5, 3) := by decide +kernel
theorem dX8_setRandomTarget_10 : decode cX8_setRandomTarget 10 = .ok (.iconst (-1), 1) := by decide +kernel
theorem dX8_setRandomTarget_11 : decode cX8_setRandomTarget 11 = .ok (.ireturn, 1) := by decide +kernel
theorem dX8_setRandomTarget_12 : decode cX8_setRandomTarget 12 = .ok (.aload_n 0, 1) := by decide +kernel
theorem dX8_setRandomTarget_13 : decode cX8_setRandomTarget 13 = .ok (.getfield 128, 3) := by decide +kernel
theorem dX8_setRandomTarget_16 : decode cX8_setRandomTarget 16 = .ok (.istore_n 2, 1) := by decide +kernel
theorem dX8_setRandomTarget_17 : decode cX8_setRandomTarget 17 = .ok (.aload_n 0, 1) := by decide +kernel
theorem dX8_setRandomTarget_18 : decode cX8_setRandomTarget 18 = .ok (.iload_n 1, 1) := by decide +kernel
theorem dX8_setRandomTarget_19 : decode cX8_setRandomTarget 19 = .ok (.putfield 128, 3) := by decide +kernel
theorem dX8_setRandomTarget_22 : decode cX8_setRandomTarget 22 = .ok (.iload_n 2, 1) := by decide +kernel
theorem dX8_setRandomTarget_23 : decode cX8_setRandomTarget 23 = .ok (.ireturn, 1) := by decide +kernel
theorem dX8_setOnline_0 : decode cX8_setOnline 0 = .ok (.aload_n 0, 1) := by decide +kernel
theorem dX8_setOnline_1 : decode cX8_setOnline 1 = .ok (.getfield 69, 3) := by decide +kernel
theorem dX8_setOnline_4 : decode cX8_setOnline 4 = .ok (.ifCond .eq 7, 3) := by decide +kernel
theorem dX8_setOnline_7 : decode cX8_setOnline 7 = .ok (.iconst 1, 1) := by decide +kernel
theorem dX8_setOnline_8 : decode cX8_setOnline 8 = .ok (.goto 4, 3) := by decide +kernel
theorem dX8_setOnline_11 : decode cX8_setOnline 11 = .ok (.iconst 0, 1) := by decide +kernel
theorem dX8_setOnline_12 : decode cX8_setOnline 12 = .ok (.istore_n 2, 1) := by decide +kernel
theorem dX8_setOnline_13 : decode cX8_setOnline 13 = .ok (.aload_n 0, 1) := by decide +kernel
theorem dX8_setOnline_14 : decode cX8_setOnline 14 = .ok (.iload_n 1, 1) := by decide +kernel
theorem dX8_setOnline_15 : decode cX8_setOnline 15 = .ok (.putfield 69, 3) := by decide +kernel
theorem dX8_setOnline_18 : decode cX8_setOnline 18 = .ok (.iload_n 2, 1) := by decide +kernel
theorem dX8_setOnline_19 : decode cX8_setOnline 19 = .ok (.ireturn, 1) := by decide +kernel
theorem dX8_isSupported_0 : decode cX8_isSupported 0 = .ok (.iconst 0, 1) := by decide +kernel
theorem dX8_isSupported_1 : decode cX8_isSupported 1 = .ok (.istore_n 2, 1) := by decide +kernel
theorem dX8_isSupported_2 : decode cX8_isSupported 2 = .ok (.iload_n 2, 1) := by decide +kernel
theorem dX8_isSupported_3 : decode cX8_isSupported 3 = .ok (.aload_n 0, 1) := by decide +kernel
theorem dX8_isSupported_4 : decode cX8_isSupported 4 = .ok (.getfield 124, 3) := by decide +kernel
theorem dX8_isSupported_7 : decode cX8_isSupported 7 = .ok (.if_icmp .ge 126, 3) := by decide +kernel
theorem dX8_isSupported_10 : decode cX8_isSupported 10 = .ok (.aload_n 0, 1) := by decide +kernel
theorem dX8_isSupported_11 : decode cX8_isSupported 11 = .ok (.getfield 53, 3) := by decide +kernel
theorem dX8_isSupported_14 : decode cX8_isSupported 14 = .ok (.iload_n 2, 1) := by decide +kernel
theorem dX8_isSupported_15 : decode cX8_isSupported 15 = .ok (.iaload, 1) := by decide +kernel
theorem dX8_isSupported_16 : decode cX8_isSupported 16 = .ok (.iconst 1, 1) := by decide +kernel
theorem dX8_isSupported_17 : decode cX8_isSupported 17 = .ok (.if_icmp .ne 26, 3) := by decide +kernel
theorem dX8_isSupported_20 : decode cX8_isSupported 20 = .ok (.aload_n 0, 1) := by decide +kernel
theorem dX8_isSupported_21 : decode cX8_isSupported 21 = .ok (.getfield 31, 3) := by decide +kernel
theorem dX8_isSupported_24 : decode cX8_isSupported 24 = .ok (.iload_n 1, 1) := by decide +kernel
theorem dX8_isSupported_25 : decode cX8_isSupported 25 = .ok (.iaload, 1) := by decide +kernel
theorem dX8_isSupported_26 : decode cX8_isSupported 26 = .ok (.aload_n 0, 1) := by decide +kernel
theorem dX8_isSupported_27 : decode cX8_isSupported 27 = .ok (.getfield 50, 3) := by decide +kernel
theorem dX8_isSupported_30 : decode cX8_isSupported 30 = .ok (.iload_n 2, 1) := by decide +kernel
theorem dX8_isSupported_31 : decode cX8_isSupported 31 = .ok (.iaload, 1) := by decide +kernel
theorem dX8_isSupported_32 : decode cX8_isSupported 32 = .ok (.if_icmp .lt 7, 3) := by decide +kernel
theorem dX8_isSupported_35 : decode cX8_isSupported 35 = .ok (.iconst 1, 1) := by decide +kernel
theorem dX8_isSupported_36 : decode cX8_isSupported 36 = .ok (.goto 27, 3) := by decide +kernel
theorem dX8_isSupported_39 : decode cX8_isSupported 39 = .ok (.iconst 0, 1) := by decide +kernel
theorem dX8_isSupported_40 : decode cX8_isSupported 40 = .ok (.goto 23, 3) := by decide +kernel
theorem dX8_isSupported_43 : decode cX8_isSupported 43 = .ok (.aload_n 0, 1) := by decide +kernel
theorem dX8_isSupported_44 : decode cX8_isSupported 44 = .ok (.getfield 31, 3) := by decide +kernel
theorem dX8_isSupported_47 : decode cX8_isSupported 47 = .ok (.iload_n 1, 1) := by decide +kernel
theorem dX8_isSupported_48 : decode cX8_isSupported 48 = .ok (.iaload, 1) := by decide +kernel
theorem dX8_isSupported_49 : decode cX8_isSupported 49 = .ok (.aload_n 0, 1) := by decide +kernel
theorem dX8_isSupported_50 : decode cX8_isSupported 50 = .ok (.getfield 50, 3) := by decide +kernel
theorem dX8_isSupported_53 : decode cX8_isSupported 53 = .ok (.iload_n 2, 1) := by decide +kernel
theorem dX8_isSupported_54 : decode cX8_isSupported 54 = .ok (.iaload, 1) := by decide +kernel
theorem dX8_isSupported_55 : decode cX8_isSupported 55 = .ok (.if_icmp .ne 7, 3) := by decide +kernel
theorem dX8_isSupported_58 : decode cX8_isSupported 58 = .ok (.iconst 1, 1) := by decide +kernel
theorem dX8_isSupported_59 : decode cX8_isSupported 59 = .ok (.goto 4, 3) := by decide +kernel
theorem dX8_isSupported_62 : decode cX8_isSupported 62 = .ok (.iconst 0, 1) := by decide +kernel
theorem dX8_isSupported_63 : decode cX8_isSupported 63 = .ok (.istore_n 3, 1) := by decide +kernel
theorem dX8_isSupported_64 : decode cX8_isSupported 64 = .ok (.iconst 0, 1) := by decide +kernel
theorem dX8_isSupported_65 : decode cX8_isSupported 65 = .ok (.istore 4, 2) := by decide +kernel
theorem dX8_isSupported_67 : decode cX8_isSupported 67 = .ok (.iload 4, 2) := by decide +kernel
theorem dX8_isSupported_69 : decode cX8_isSupported 69 = .ok (.aload_n 0, 1) := by decide +kernel
theorem dX8_isSupported_70 : decode cX8_isSupported 70 = .ok (.getfield 50, 3) := by decide +kernel
theorem dX8_isSupported_73 : decode cX8_isSupported 73 = .ok (.iload_n 2, 1) := by decide +kernel
theorem dX8_isSupported_74 : decode cX8_isSupported 74 = .ok (.iaload, 1) := by decide +kernel
theorem dX8_isSupported_75 : decode cX8_isSupported 75 = .ok (.if_icmp .ge 46, 3) := by decide +kernel
theorem dX8_isSupported_78 : decode cX8_isSupported 78 = .ok (.iload_n 3, 1) := by decide +kernel
theorem dX8_isSupported_79 : decode cX8_isSupported 79 = .ok (.ifCond .eq 42, 3) := by decide +kernel
theorem dX8_isSupported_82 : decode cX8_isSupported 82 = .ok (.aload_n 0, 1) := by decide +kernel
theorem dX8_isSupported_83 : decode cX8_isSupported 83 = .ok (.getfield 28, 3) := by decide +kernel
theorem dX8_isSupported_86 : decode cX8_isSupported 86 = .ok (.bipush 16, 2) := by decide +kernel
theorem dX8_isSupported_88 : decode cX8_isSupported 88 = .ok (.iload_n 1, 1) := by decide +kernel
theorem dX8_isSupported_89 : decode cX8_isSupported 89 = .ok (.imul, 1) := by decide +kernel
theorem dX8_isSupported_90 : decode cX8_isSupported 90 = .ok (.iload 4, 2) := by decide +kernel
theorem dX8_isSupported_92 : decode cX8_isSupported 92 = .ok (.iadd, 1) := by decide +kernel
theorem dX8_isSupported_93 : decode cX8_isSupported 93 = .ok (.iaload, 1) := by decide +kernel
theorem dX8_isSupported_94 : decode cX8_isSupported 94 = .ok (.aload_n 0, 1) := by decide +kernel
theorem dX8_isSupported_95 : decode cX8_isSupported 95 = .ok (.getfield 47, 3) := by decide +kernel
theorem dX8_isSupported_98 : decode cX8_isSupported 98 = .ok (.bipush 16, 2) := by decide +kernel
theorem dX8_isSupported_100 : decode cX8_isSupported 100 = .ok (.iload_n 2, 1) := by decide +kernel
theorem dX8_isSupported_101 : decode cX8_isSupported 101 = .ok (.imul, 1) := by decide +kernel
theorem dX8_isSupported_102 : decode cX8_isSupported 102 = .ok (.iload 4, 2) := by decide +kernel
theorem dX8_isSupported_104 : decode cX8_isSupported 104 = .ok (.iadd, 1) := by decide +kernel
theorem dX8_isSupported_105 : decode cX8_isSupported 105 = .ok (.iaload, 1) := by decide +kernel
theorem dX8_isSupported_106 : decode cX8_isSupported 106 = .ok (.if_icmp .ne 7, 3) := by decide +kernel
theorem dX8_isSupported_109 : decode cX8_isSupported 109 = .ok (.iconst 1, 1) := by decide +kernel
theorem dX8_isSupported_110 : decode cX8_isSupported 110 = .ok (.goto 4, 3) := by decide +kernel
theorem dX8_isSupported_113 : decode cX8_isSupported 113 = .ok (.iconst 0, 1) := by decide +kernel
theorem dX8_isSupported_114 : decode cX8_isSupported 114 = .ok (.istore_n 3, 1) := by decide +kernel
theorem dX8_isSupported_115 : decode cX8_isSupported 115 = .ok (.iinc 4 1, 3) := by decide +kernel
theorem dX8_isSupported_118 : decode cX8_isSupported 118 = .ok (.goto (-51), 3) := by decide +kernel
theorem dX8_isSupported_121 : decode cX8_isSupported 121 = .ok (.iload_n 3, 1) := by decide +kernel
theorem dX8_isSupported_122 : decode cX8_isSupported 122 = .ok (.ifCond .eq 5, 3) := by decide +kernel
theorem dX8_isSupported_125 : decode cX8_isSupported 125 = .ok (.iconst 1, 1) := by decide +kernel
theorem dX8_isSupported_126 : decode cX8_isSupported 126 = .ok (.ireturn, 1) := by decide +kernel
theorem dX8_isSupported_127 : decode cX8_isSupported 127 = .ok (.iinc 2 1, 3) := by decide +kernel
theorem dX8_isSupported_130 : decode cX8_isSupported 130 = .ok (.goto (-128), 3) := by decide +kernel
theorem dX8_isSupported_133 : decode cX8_isSupported 133 = .ok (.iconst 0, 1) := by decide +kernel
theorem dX8_isSupported_134 : decode cX8_isSupported 134 = .ok (.ireturn, 1) := by decide +kernel
theorem dX8_lists_0 : decode cX8_lists 0 = .ok (.aload_n 0, 1) := by decide +kernel
theorem dX8_lists_1 : decode cX8_lists 1 = .ok (.iconst 0, 1) := by decide +kernel
theorem dX8_lists_2 : decode cX8_lists 2 = .ok (.putfield 131, 3) := by decide +kernel
theorem dX8_lists_5 : decode cX8_lists 5 = .ok (.iconst 1, 1) := by decide +kernel
theorem dX8_lists_6 : decode cX8_lists 6 = .ok (.istore_n 1, 1) := by decide +kernel
theorem dX8_lists_7 : decode cX8_lists 7 = .ok (.iload_n 1, 1) := by decide +kernel
theorem dX8_lists_8 : decode cX8_lists 8 = .ok (.bipush 17, 2) := by decide +kernel
theorem dX8_lists_10 : decode cX8_lists 10 = .ok (.if_icmp .ge 66, 3) := by decide +kernel
theorem dX8_lists_13 : decode cX8_lists 13 = .ok (.iconst 0, 1) := by decide +kernel
theorem dX8_lists_14 : decode cX8_lists 14 = .ok (.istore_n 2, 1) := by decide +kernel
theorem dX8_lists_15 : decode cX8_lists 15 = .ok (.iload_n 2, 1) := by decide +kernel
theorem dX8_lists_16 : decode cX8_lists 16 = .ok (.aload_n 0, 1) := by decide +kernel
theorem dX8_lists_17 : decode cX8_lists 17 = .ok (.getfield 111, 3) := by decide +kernel
theorem dX8_lists_20 : decode cX8_lists 20 = .ok (.if_icmp .ge 50, 3) := by decide +kernel
theorem dX8_lists_23 : decode cX8_lists 23 = .ok (.aload_n 0, 1) := by decide +kernel
theorem dX8_lists_24 : decode cX8_lists 24 = .ok (.getfield 34, 3) := by decide +kernel
theorem dX8_lists_27 : decode cX8_lists 27 = .ok (.iload_n 2, 1) := by decide +kernel
theorem dX8_lists_28 : decode cX8_lists 28 = .ok (.iaload, 1) := by decide +kernel
theorem dX8_lists_29 : decode cX8_lists 29 = .ok (.iload_n 1, 1) := by decide +kernel
theorem dX8_lists_30 : decode cX8_lists 30 = .ok (.bipush 16, 2) := by decide +kernel
theorem dX8_lists_32 : decode cX8_lists 32 = .ok (.irem, 1) := by decide +kernel
theorem dX8_lists_33 : decode cX8_lists 33 = .ok (.if_icmp .ne 31, 3) := by decide +kernel
theorem dX8_lists_36 : decode cX8_lists 36 = .ok (.aload_n 0, 1) := by decide +kernel
theorem dX8_lists_37 : decode cX8_lists 37 = .ok (.iload_n 2, 1) := by decide +kernel
theorem dX8_lists_38 : decode cX8_lists 38 = .ok (.invokevirtual 134, 3) := by decide +kernel
theorem dX8_lists_41 : decode cX8_lists 41 = .ok (.ifCond .eq 23, 3) := by decide +kernel
theorem dX8_lists_44 : decode cX8_lists 44 = .ok (.aload_n 0, 1) := by decide +kernel
theorem dX8_lists_45 : decode cX8_lists 45 = .ok (.getfield 84, 3) := by decide +kernel
theorem dX8_lists_48 : decode cX8_lists 48 = .ok (.aload_n 0, 1) := by decide +kernel
theorem dX8_lists_49 : decode cX8_lists 49 = .ok (.getfield 131, 3) := by decide +kernel
theorem dX8_lists_52 : decode cX8_lists 52 = .ok (.iload_n 2, 1) := by decide +kernel
theorem dX8_lists_53 : decode cX8_lists 53 = .ok (.iastore, 1) := by decide +kernel
theorem dX8_lists_54 : decode cX8_lists 54 = .ok (.aload_n 0, 1) := by decide +kernel
theorem dX8_lists_55 : decode cX8_lists 55 = .ok (.dup, 1) := by decide +kernel
theorem dX8_lists_56 : decode cX8_lists 56 = .ok (.getfield 131, 3) := by decide +kernel
theorem dX8_lists_59 : decode cX8_lists 59 = .ok (.iconst 1, 1) := by decide +kernel
theorem dX8_lists_60 : decode cX8_lists 60 = .ok (.iadd, 1) := by decide +kernel
theorem dX8_lists_61 : decode cX8_lists 61 = .ok (.putfield 131, 3) := by decide +kernel
theorem dX8_lists_64 : decode cX8_lists 64 = .ok (.iinc 2 1, 3) := by decide +kernel
theorem dX8_lists_67 : decode cX8_lists 67 = .ok (.goto (-52), 3) := by decide +kernel
theorem dX8_lists_70 : decode cX8_lists 70 = .ok (.iinc 1 1, 3) := by decide +kernel
theorem dX8_lists_73 : decode cX8_lists 73 = .ok (.goto (-66), 3) := by decide +kernel
theorem dX8_lists_76 : decode cX8_lists 76 = .ok (.return_, 1) := by decide +kernel
theorem dX8_candidateCount_0 : decode cX8_candidateCount 0 = .ok (.aload_n 0, 1) := by decide +kernel
theorem dX8_candidateCount_1 : decode cX8_candidateCount 1 = .ok (.invokevirtual 137, 3) := by decide +kernel
theorem dX8_candidateCount_4 : decode cX8_candidateCount 4 = .ok (.aload_n 0, 1) := by decide +kernel
theorem dX8_candidateCount_5 : decode cX8_candidateCount 5 = .ok (.getfield 131, 3) := by decide +kernel
theorem dX8_candidateCount_8 : decode cX8_candidateCount 8 = .ok (.ireturn, 1) := by decide +kernel
theorem dX8_candidateAt_0 : decode cX8_candidateAt 0 = .ok (.iload_n 1, 1) := by decide +kernel
theorem dX8_candidateAt_1 : decode cX8_candidateAt 1 = .ok (.ifCond .ge 5, 3) := by decide +kernel
theorem dX8_candidateAt_4 : decode cX8_candidateAt 4 = .ok (.iconst (-1), 1) := by decide +kernel
theorem dX8_candidateAt_5 : decode cX8_candidateAt 5 = .ok (.ireturn, 1) := by decide +kernel
theorem dX8_candidateAt_6 : decode cX8_candidateAt 6 = .ok (.aload_n 0, 1) := by decide +kernel
theorem dX8_candidateAt_7 : decode cX8_candidateAt 7 = .ok (.invokevirtual 137, 3) := by decide +kernel
theorem dX8_candidateAt_10 : decode cX8_candidateAt 10 = .ok (.iload_n 1, 1) := by decide +kernel
theorem dX8_candidateAt_11 : decode cX8_candidateAt 11 = .ok (.aload_n 0, 1) := by decide +kernel
theorem dX8_candidateAt_12 : decode cX8_candidateAt 12 = .ok (.getfield 131, 3) := by decide +kernel
theorem dX8_candidateAt_15 : decode cX8_candidateAt 15 = .ok (.if_icmp .ge 12, 3) := by decide +kernel
theorem dX8_candidateAt_18 : decode cX8_candidateAt 18 = .ok (.aload_n 0, 1) := by decide +kernel
theorem dX8_candidateAt_19 : decode cX8_candidateAt 19 = .ok (.getfield 84, 3) := by decide +kernel
theorem dX8_candidateAt_22 : decode cX8_candidateAt 22 = .ok (.iload_n 1, 1) := by decide +kernel
theorem dX8_candidateAt_23 : decode cX8_candidateAt 23 = .ok (.iaload, 1) := by decide +kernel
theorem dX8_candidateAt_24 : decode cX8_candidateAt 24 = .ok (.goto 5, 3) := by decide +kernel
theorem dX8_candidateAt_27 : decode cX8_candidateAt 27 = .ok (.bipush (-4), 2) := by decide +kernel
theorem dX8_candidateAt_29 : decode cX8_candidateAt 29 = .ok (.ireturn, 1) := by decide +kernel
theorem dX8_select_0 : decode cX8_select 0 = .ok (.aload_n 0, 1) := by decide +kernel
theorem dX8_select_1 : decode cX8_select 1 = .ok (.iload_n 1, 1) := by decide +kernel
theorem dX8_select_2 : decode cX8_select 2 = .ok (.invokevirtual 120, 3) := by decide +kernel
theorem dX8_select_5 : decode cX8_select 5 = .ok (.ifCond .ne 5, 3) := by decide +kernel
theorem dX8_select_8 : decode cX8_select 8 = .ok (.iconst (-1), 1) := by decide +kernel
theorem dX8_select_9 : decode cX8_select 9 = .ok (.ireturn, 1) := by decide +kernel
theorem dX8_select_10 : decode cX8_select 10 = .ok (.aload_n 0, 1) := by decide +kernel
theorem dX8_select_11 : decode cX8_select 11 = .ok (.getfield 105, 3) := by decide +kernel
theorem dX8_select_14 : decode cX8_select 14 = .ok (.ifCond .ne 17, 3) := by decide +kernel
theorem dX8_select_17 : decode cX8_select 17 = .ok (.aload_n 0, 1) := by decide +kernel
theorem dX8_select_18 : decode cX8_select 18 = .ok (.getfield 37, 3) := by decide +kernel
theorem dX8_select_21 : decode cX8_select 21 = .ok (.iload_n 1, 1) := by decide +kernel
theorem dX8_select_22 : decode cX8_select 22 = .ok (.iaload, 1) := by decide +kernel
theorem dX8_select_23 : decode cX8_select 23 = .ok (.iconst 1, 1) := by decide +kernel
theorem dX8_select_24 : decode cX8_select 24 = .ok (.if_icmp .ne 10, 3) := by decide +kernel
theorem dX8_select_27 : decode cX8_select 27 = .ok (.iload_n 2, 1) := by decide +kernel
theorem dX8_select_28 : decode cX8_select 28 = .ok (.ifCond .ne 6, 3) := by decide +kernel
theorem dX8_select_31 : decode cX8_select 31 = .ok (.bipush (-2), 2) := by decide +kernel
theorem dX8_select_33 : decode cX8_select 33 = .ok (.ireturn, 1) := by decide +kernel
theorem dX8_select_34 : decode cX8_select 34 = .ok (.aload_n 0, 1) := by decide +kernel
theorem dX8_select_35 : decode cX8_select 35 = .ok (.invokevirtual 137, 3) := by decide +kernel
theorem dX8_select_38 : decode cX8_select 38 = .ok (.iconst 0, 1) := by decide +kernel
theorem dX8_select_39 : decode cX8_select 39 = .ok (.istore_n 3, 1) := by decide +kernel
theorem dX8_select_40 : decode cX8_select 40 = .ok (.iload_n 3, 1) := by decide +kernel
theorem dX8_select_41 : decode cX8_select 41 = .ok (.aload_n 0, 1) := by decide +kernel
theorem dX8_select_42 : decode cX8_select 42 = .ok (.getfield 131, 3) := by decide +kernel
theorem dX8_select_45 : decode cX8_select 45 = .ok (.if_icmp .ge 26, 3) := by decide +kernel
theorem dX8_select_48 : decode cX8_select 48 = .ok (.aload_n 0, 1) := by decide +kernel
theorem dX8_select_49 : decode cX8_select 49 = .ok (.getfield 84, 3) := by decide +kernel
theorem dX8_select_52 : decode cX8_select 52 = .ok (.iload_n 3, 1) := by decide +kernel
theorem dX8_select_53 : decode cX8_select 53 = .ok (.iaload, 1) := by decide +kernel
theorem dX8_select_54 : decode cX8_select 54 = .ok (.iload_n 1, 1) := by decide +kernel
theorem dX8_select_55 : decode cX8_select 55 = .ok (.if_icmp .ne 10, 3) := by decide +kernel
theorem dX8_select_58 : decode cX8_select 58 = .ok (.aload_n 0, 1) := by decide +kernel
theorem dX8_select_59 : decode cX8_select 59 = .ok (.iload_n 1, 1) := by decide +kernel
theorem dX8_select_60 : decode cX8_select 60 = .ok (.putfield 72, 3) := by decide +kernel
theorem dX8_select_63 : decode cX8_select 63 = .ok (.iload_n 3, 1) := by decide +kernel
theorem dX8_select_64 : decode cX8_select 64 = .ok (.ireturn, 1) := by decide +kernel
theorem dX8_select_65 : decode cX8_select 65 = .ok (.iinc 3 1, 3) := by decide +kernel
theorem dX8_select_68 : decode cX8_select 68 = .ok (.goto (-28), 3) := by decide +kernel
theorem dX8_select_71 : decode cX8_select 71 = .ok (.bipush (-4), 2) := by decide +kernel
theorem dX8_select_73 : decode cX8_select 73 = .ok (.ireturn, 1) := by decide +kernel
theorem dX8_ends_0 : decode cX8_ends 0 = .ok (.aload_n 0, 1) := by decide +kernel
theorem dX8_ends_1 : decode cX8_ends 1 = .ok (.getfield 78, 3) := by decide +kernel
theorem dX8_ends_4 : decode cX8_ends 4 = .ok (.iload_n 1, 1) := by decide +kernel
theorem dX8_ends_5 : decode cX8_ends 5 = .ok (.dup2, 1) := by decide +kernel
theorem dX8_ends_6 : decode cX8_ends 6 = .ok (.iaload, 1) := by decide +kernel
theorem dX8_ends_7 : decode cX8_ends 7 = .ok (.iconst 1, 1) := by decide +kernel
theorem dX8_ends_8 : decode cX8_ends 8 = .ok (.iadd, 1) := by decide +kernel
theorem dX8_ends_9 : decode cX8_ends 9 = .ok (.iastore, 1) := by decide +kernel
theorem dX8_ends_10 : decode cX8_ends 10 = .ok (.aload_n 0, 1) := by decide +kernel
theorem dX8_ends_11 : decode cX8_ends 11 = .ok (.getfield 81, 3) := by decide +kernel
theorem dX8_ends_14 : decode cX8_ends 14 = .ok (.iload_n 1, 1) := by decide +kernel
theorem dX8_ends_15 : decode cX8_ends 15 = .ok (.dup2, 1) := by decide +kernel
theorem dX8_ends_16 : decode cX8_ends 16 = .ok (.iaload, 1) := by decide +kernel
theorem dX8_ends_17 : decode cX8_ends 17 = .ok (.aload_n 0, 1) := by decide +kernel
theorem dX8_ends_18 : decode cX8_ends 18 = .ok (.getfield 140, 3) := by decide +kernel
theorem dX8_ends_21 : decode cX8_ends 21 = .ok (.iadd, 1) := by decide +kernel
theorem dX8_ends_22 : decode cX8_ends 22 = .ok (.iastore, 1) := by decide +kernel
theorem dX8_ends_23 : decode cX8_ends 23 = .ok (.aload_n 0, 1) := by decide +kernel
theorem dX8_ends_24 : decode cX8_ends 24 = .ok (.dup, 1) := by decide +kernel
theorem dX8_ends_25 : decode cX8_ends 25 = .ok (.getfield 117, 3) := by decide +kernel
theorem dX8_ends_28 : decode cX8_ends 28 = .ok (.iload_n 1, 1) := by decide +kernel
theorem dX8_ends_29 : decode cX8_ends 29 = .ok (.iconst 1, 1) := by decide +kernel
theorem dX8_ends_30 : decode cX8_ends 30 = .ok (.if_icmp .ne 16, 3) := by decide +kernel
theorem dX8_ends_33 : decode cX8_ends 33 = .ok (.aload_n 0, 1) := by decide +kernel
theorem dX8_ends_34 : decode cX8_ends 34 = .ok (.getfield 117, 3) := by decide +kernel
theorem dX8_ends_37 : decode cX8_ends 37 = .ok (.bipush 15, 2) := by decide +kernel
theorem dX8_ends_39 : decode cX8_ends 39 = .ok (.if_icmp .ge 7, 3) := by decide +kernel
theorem dX8_ends_42 : decode cX8_ends 42 = .ok (.iconst 1, 1) := by decide +kernel
theorem dX8_ends_43 : decode cX8_ends 43 = .ok (.goto 4, 3) := by decide +kernel
theorem dX8_ends_46 : decode cX8_ends 46 = .ok (.iconst 0, 1) := by decide +kernel
theorem dX8_ends_47 : decode cX8_ends 47 = .ok (.iadd, 1) := by decide +kernel
theorem dX8_ends_48 : decode cX8_ends 48 = .ok (.putfield 117, 3) := by decide +kernel
theorem dX8_ends_51 : decode cX8_ends 51 = .ok (.iload_n 1, 1) := by decide +kernel
theorem dX8_ends_52 : decode cX8_ends 52 = .ok (.ireturn, 1) := by decide +kernel
theorem dX8_byDefault_0 : decode cX8_byDefault 0 = .ok (.aload_n 0, 1) := by decide +kernel
theorem dX8_byDefault_1 : decode cX8_byDefault 1 = .ok (.aload_n 0, 1) := by decide +kernel
theorem dX8_byDefault_2 : decode cX8_byDefault 2 = .ok (.getfield 143, 3) := by decide +kernel
theorem dX8_byDefault_5 : decode cX8_byDefault 5 = .ok (.aload_n 0, 1) := by decide +kernel
theorem dX8_byDefault_6 : decode cX8_byDefault 6 = .ok (.getfield 56, 3) := by decide +kernel
theorem dX8_byDefault_9 : decode cX8_byDefault 9 = .ok (.iconst 2, 1) := by decide +kernel
theorem dX8_byDefault_10 : decode cX8_byDefault 10 = .ok (.iaload, 1) := by decide +kernel
theorem dX8_byDefault_11 : decode cX8_byDefault 11 = .ok (.aload_n 0, 1) := by decide +kernel
theorem dX8_byDefault_12 : decode cX8_byDefault 12 = .ok (.getfield 40, 3) := by decide +kernel
theorem dX8_byDefault_15 : decode cX8_byDefault 15 = .ok (.iconst 2, 1) := by decide +kernel
theorem dX8_byDefault_16 : decode cX8_byDefault 16 = .ok (.iaload, 1) := by decide +kernel
theorem dX8_byDefault_17 : decode cX8_byDefault 17 = .ok (.ior, 1) := by decide +kernel
theorem dX8_byDefault_18 : decode cX8_byDefault 18 = .ok (.iand, 1) := by decide +kernel
theorem dX8_byDefault_19 : decode cX8_byDefault 19 = .ok (.ifCond .eq 7, 3) := by decide +kernel
theorem dX8_byDefault_22 : decode cX8_byDefault 22 = .ok (.iconst 0, 1) := by decide +kernel
theorem dX8_byDefault_23 : decode cX8_byDefault 23 = .ok (.goto 4, 3) := by decide +kernel
theorem dX8_byDefault_26 : decode cX8_byDefault 26 = .ok (.iconst 1, 1) := by decide +kernel
theorem dX8_byDefault_27 : decode cX8_byDefault 27 = .ok (.invokevirtual 146, 3) := by decide +kernel
theorem dX8_byDefault_30 : decode cX8_byDefault 30 = .ok (.ireturn, 1) := by decide +kernel
theorem dX8_start_0 : decode cX8_start 0 = .ok (.iload_n 1, 1) := by decide +kernel
theorem dX8_start_1 : decode cX8_start 1 = .ok (.iconst 1, 1) := by decide +kernel
theorem dX8_start_2 : decode cX8_start 2 = .ok (.ldc 127, 2) := by decide +kernel
theorem dX8_start_4 : decode cX8_start 4 = .ok (.invokestatic 87, 3) := by decide +kernel
theorem dX8_start_7 : decode cX8_start 7 = .ok (.ifCond .eq 13, 3) := by decide +kernel
theorem dX8_start_10 : decode cX8_start 10 = .ok (.iload_n 2, 1) := by decide +kernel
theorem dX8_start_11 : decode cX8_start 11 = .ok (.iconst 0, 1) := by decide +kernel
theorem dX8_start_12 : decode cX8_start 12 = .ok (.bipush 99, 2) := by decide +kernel
theorem dX8_start_14 : decode cX8_start 14 = .ok (.invokestatic 87, 3) := by decide +kernel
theorem dX8_start_17 : decode cX8_start 17 = .ok (.ifCond .ne 5, 3) := by decide +kernel
theorem dX8_start_20 : decode cX8_start 20 = .ok (.iconst (-1), 1) := by decide +kernel
theorem dX8_start_21 : decode cX8_start 21 = .ok (.ireturn, 1) := by decide +kernel
theorem dX8_start_22 : decode cX8_start 22 = .ok (.aload_n 0, 1) := by decide +kernel
theorem dX8_start_23 : decode cX8_start 23 = .ok (.getfield 72, 3) := by decide +kernel
theorem dX8_start_26 : decode cX8_start 26 = .ok (.bipush (-4), 2) := by decide +kernel
theorem dX8_start_28 : decode cX8_start 28 = .ok (.if_icmp .eq 10, 3) := by decide +kernel
theorem dX8_start_31 : decode cX8_start 31 = .ok (.aload_n 0, 1) := by decide +kernel
theorem dX8_start_32 : decode cX8_start 32 = .ok (.getfield 105, 3) := by decide +kernel
theorem dX8_start_35 : decode cX8_start 35 = .ok (.ifCond .eq 6, 3) := by decide +kernel
theorem dX8_start_38 : decode cX8_start 38 = .ok (.bipush (-2), 2) := by decide +kernel
theorem dX8_start_40 : decode cX8_start 40 = .ok (.ireturn, 1) := by decide +kernel
theorem dX8_start_41 : decode cX8_start 41 = .ok (.aload_n 0, 1) := by decide +kernel
theorem dX8_start_42 : decode cX8_start 42 = .ok (.getfield 148, 3) := by decide +kernel
theorem dX8_start_45 : decode cX8_start 45 = .ok (.sipush 999, 3) := by decide +kernel
theorem dX8_start_48 : decode cX8_start 48 = .ok (.if_icmp .ne 6, 3) := by decide +kernel
theorem dX8_start_51 : decode cX8_start 51 = .ok (.bipush (-3), 2) := by decide +kernel
theorem dX8_start_53 : decode cX8_start 53 = .ok (.ireturn, 1) := by decide +kernel
theorem dX8_start_54 : decode cX8_start 54 = .ok (.aload_n 0, 1) := by decide +kernel
theorem dX8_start_55 : decode cX8_start 55 = .ok (.dup, 1) := by decide +kernel
theorem dX8_start_56 : decode cX8_start 56 = .ok (.getfield 148, 3) := by decide +kernel
theorem dX8_start_59 : decode cX8_start 59 = .ok (.iconst 1, 1) := by decide +kernel
theorem dX8_start_60 : decode cX8_start 60 = .ok (.iadd, 1) := by decide +kernel
theorem dX8_start_61 : decode cX8_start 61 = .ok (.putfield 148, 3) := by decide +kernel
theorem dX8_start_64 : decode cX8_start 64 = .ok (.aload_n 0, 1) := by decide +kernel
theorem dX8_start_65 : decode cX8_start 65 = .ok (.iload_n 1, 1) := by decide +kernel
theorem dX8_start_66 : decode cX8_start 66 = .ok (.putfield 140, 3) := by decide +kernel
theorem dX8_start_69 : decode cX8_start 69 = .ok (.aload_n 0, 1) := by decide +kernel
theorem dX8_start_70 : decode cX8_start 70 = .ok (.iload_n 1, 1) := by decide +kernel
theorem dX8_start_71 : decode cX8_start 71 = .ok (.aload_n 0, 1) := by decide +kernel
theorem dX8_start_72 : decode cX8_start 72 = .ok (.getfield 59, 3) := by decide +kernel
theorem dX8_start_75 : decode cX8_start 75 = .ok (.if_icmp .lt 7, 3) := by decide +kernel
theorem dX8_start_78 : decode cX8_start 78 = .ok (.iconst 1, 1) := by decide +kernel
theorem dX8_start_79 : decode cX8_start 79 = .ok (.goto 4, 3) := by decide +kernel
theorem dX8_start_82 : decode cX8_start 82 = .ok (.iconst 0, 1) := by decide +kernel
theorem dX8_start_83 : decode cX8_start 83 = .ok (.iload_n 2, 1) := by decide +kernel
theorem dX8_start_84 : decode cX8_start 84 = .ok (.aload_n 0, 1) := by decide +kernel
theorem dX8_start_85 : decode cX8_start 85 = .ok (.getfield 128, 3) := by decide +kernel
theorem dX8_start_88 : decode cX8_start 88 = .ok (.if_icmp .ge 7, 3) := by decide +kernel
theorem dX8_start_91 : decode cX8_start 91 = .ok (.iconst 2, 1) := by decide +kernel
theorem dX8_start_92 : decode cX8_start 92 = .ok (.goto 4, 3) := by decide +kernel
theorem dX8_start_95 : decode cX8_start 95 = .ok (.iconst 0, 1) := by decide +kernel
theorem dX8_start_96 : decode cX8_start 96 = .ok (.ior, 1) := by decide +kernel
theorem dX8_start_97 : decode cX8_start 97 = .ok (.aload_n 0, 1) := by decide +kernel
theorem dX8_start_98 : decode cX8_start 98 = .ok (.getfield 117, 3) := by decide +kernel
theorem dX8_start_101 : decode cX8_start 101 = .ok (.aload_n 0, 1) := by decide +kernel
theorem dX8_start_102 : decode cX8_start 102 = .ok (.getfield 63, 3) := by decide +kernel
theorem dX8_start_105 : decode cX8_start 105 = .ok (.if_icmp .lt 7, 3) := by decide +kernel
theorem dX8_start_108 : decode cX8_start 108 = .ok (.iconst 4, 1) := by decide +kernel
theorem dX8_start_109 : decode cX8_start 109 = .ok (.goto 4, 3) := by decide +kernel
theorem dX8_start_112 : decode cX8_start 112 = .ok (.iconst 0, 1) := by decide +kernel
theorem dX8_start_113 : decode cX8_start 113 = .ok (.ior, 1) := by decide +kernel
theorem dX8_start_114 : decode cX8_start 114 = .ok (.aload_n 0, 1) := by decide +kernel
theorem dX8_start_115 : decode cX8_start 115 = .ok (.getfield 117, 3) := by decide +kernel
theorem dX8_start_118 : decode cX8_start 118 = .ok (.aload_n 0, 1) := by decide +kernel
theorem dX8_start_119 : decode cX8_start 119 = .ok (.getfield 66, 3) := by decide +kernel
theorem dX8_start_122 : decode cX8_start 122 = .ok (.if_icmp .lt 8, 3) := by decide +kernel
theorem dX8_start_125 : decode cX8_start 125 = .ok (.bipush 8, 2) := by decide +kernel
theorem dX8_start_127 : decode cX8_start 127 = .ok (.goto 4, 3) := by decide +kernel
theorem dX8_start_130 : decode cX8_start 130 = .ok (.iconst 0, 1) := by decide +kernel
theorem dX8_start_131 : decode cX8_start 131 = .ok (.ior, 1) := by decide +kernel
theorem dX8_start_132 : decode cX8_start 132 = .ok (.aload_n 0, 1) := by decide +kernel
theorem dX8_start_133 : decode cX8_start 133 = .ok (.getfield 43, 3) := by decide +kernel
theorem dX8_start_136 : decode cX8_start 136 = .ok (.ifCond .eq 8, 3) := by decide +kernel
theorem dX8_start_139 : decode cX8_start 139 = .ok (.bipush 16, 2) := by decide +kernel
theorem dX8_start_141 : decode cX8_start 141 = .ok (.goto 4, 3) := by decide +kernel
theorem dX8_start_144 : decode cX8_start 144 = .ok (.iconst 0, 1) := by decide +kernel
theorem dX8_start_145 : decode cX8_start 145 = .ok (.ior, 1) := by decide +kernel
theorem dX8_start_146 : decode cX8_start 146 = .ok (.aload_n 0, 1) := by decide +kernel
theorem dX8_start_147 : decode cX8_start 147 = .ok (.getfield 151, 3) := by decide +kernel
theorem dX8_start_150 : decode cX8_start 150 = .ok (.ifCond .le 8, 3) := by decide +kernel
theorem dX8_start_153 : decode cX8_start 153 = .ok (.bipush 32, 2) := by decide +kernel
theorem dX8_start_155 : decode cX8_start 155 = .ok (.goto 4, 3) := by decide +kernel
theorem dX8_start_158 : decode cX8_start 158 = .ok (.iconst 0, 1) := by decide +kernel
theorem dX8_start_159 : decode cX8_start 159 = .ok (.ior, 1) := by decide +kernel
theorem dX8_start_160 : decode cX8_start 160 = .ok (.putfield 143, 3) := by decide +kernel
theorem dX8_start_163 : decode cX8_start 163 = .ok (.aload_n 0, 1) := by decide +kernel
theorem dX8_start_164 : decode cX8_start 164 = .ok (.getfield 143, 3) := by decide +kernel
theorem dX8_start_167 : decode cX8_start 167 = .ok (.aload_n 0, 1) := by decide +kernel
theorem dX8_start_168 : decode cX8_start 168 = .ok (.getfield 56, 3) := by decide +kernel
theorem dX8_start_171 : decode cX8_start 171 = .ok (.iconst 0, 1) := by decide +kernel
theorem dX8_start_172 : decode cX8_start 172 = .ok (.iaload, 1) := by decide +kernel
theorem dX8_start_173 : decode cX8_start 173 = .ok (.aload_n 0, 1) := by decide +kernel
theorem dX8_start_174 : decode cX8_start 174 = .ok (.getfield 40, 3) := by decide +kernel
theorem dX8_start_177 : decode cX8_start 177 = .ok (.iconst 0, 1) := by decide +kernel
theorem dX8_start_178 : decode cX8_start 178 = .ok (.iaload, 1) := by decide +kernel
theorem dX8_start_179 : decode cX8_start 179 = .ok (.ior, 1) := by decide +kernel
theorem dX8_start_180 : decode cX8_start 180 = .ok (.iand, 1) := by decide +kernel
theorem dX8_start_181 : decode cX8_start 181 = .ok (.ifCond .eq 9, 3) := by decide +kernel
theorem dX8_start_184 : decode cX8_start 184 = .ok (.aload_n 0, 1) := by decide +kernel
theorem dX8_start_185 : decode cX8_start 185 = .ok (.iconst 0, 1) := by decide +kernel
theorem dX8_start_186 : decode cX8_start 186 = .ok (.invokevirtual 146, 3) := by decide +kernel
theorem dX8_start_189 : decode cX8_start 189 = .ok (.ireturn, 1) := by decide +kernel
theorem dX8_start_190 : decode cX8_start 190 = .ok (.aload_n 0, 1) := by decide +kernel
theorem dX8_start_191 : decode cX8_start 191 = .ok (.getfield 69, 3) := by decide +kernel
theorem dX8_start_194 : decode cX8_start 194 = .ok (.ifCond .eq 11, 3) := by decide +kernel
theorem dX8_start_197 : decode cX8_start 197 = .ok (.aload_n 0, 1) := by decide +kernel
theorem dX8_start_198 : decode cX8_start 198 = .ok (.getfield 151, 3) := by decide +kernel
theorem dX8_start_201 : decode cX8_start 201 = .ok (.iconst 3, 1) := by decide +kernel
theorem dX8_start_202 : decode cX8_start 202 = .ok (.if_icmp .ne 8, 3) := by decide +kernel
theorem dX8_start_205 : decode cX8_start 205 = .ok (.aload_n 0, 1) := by decide +kernel
theorem dX8_start_206 : decode cX8_start 206 = .ok (.invokevirtual 154, 3) := by decide +kernel
theorem dX8_start_209 : decode cX8_start 209 = .ok (.ireturn, 1) := by decide +kernel
theorem dX8_start_210 : decode cX8_start 210 = .ok (.aload_n 0, 1) := by decide +kernel
theorem dX8_start_211 : decode cX8_start 211 = .ok (.getfield 143, 3) := by decide +kernel
theorem dX8_start_214 : decode cX8_start 214 = .ok (.aload_n 0, 1) := by decide +kernel
theorem dX8_start_215 : decode cX8_start 215 = .ok (.getfield 56, 3) := by decide +kernel
theorem dX8_start_218 : decode cX8_start 218 = .ok (.iconst 1, 1) := by decide +kernel
theorem dX8_start_219 : decode cX8_start 219 = .ok (.iaload, 1) := by decide +kernel
theorem dX8_start_220 : decode cX8_start 220 = .ok (.aload_n 0, 1) := by decide +kernel
theorem dX8_start_221 : decode cX8_start 221 = .ok (.getfield 40, 3) := by decide +kernel
theorem dX8_start_224 : decode cX8_start 224 = .ok (.iconst 1, 1) := by decide +kernel
theorem dX8_start_225 : decode cX8_start 225 = .ok (.iaload, 1) := by decide +kernel
theorem dX8_start_226 : decode cX8_start 226 = .ok (.ior, 1) := by decide +kernel
theorem dX8_start_227 : decode cX8_start 227 = .ok (.iand, 1) := by decide +kernel
theorem dX8_start_228 : decode cX8_start 228 = .ok (.ifCond .ne 9, 3) := by decide +kernel
theorem dX8_start_231 : decode cX8_start 231 = .ok (.aload_n 0, 1) := by decide +kernel
theorem dX8_start_232 : decode cX8_start 232 = .ok (.iconst 1, 1) := by decide +kernel
theorem dX8_start_233 : decode cX8_start 233 = .ok (.invokevirtual 146, 3) := by decide +kernel
theorem dX8_start_236 : decode cX8_start 236 = .ok (.ireturn, 1) := by decide +kernel
theorem dX8_start_237 : decode cX8_start 237 = .ok (.aload_n 0, 1) := by decide +kernel
theorem dX8_start_238 : decode cX8_start 238 = .ok (.iconst 1, 1) := by decide +kernel
theorem dX8_start_239 : decode cX8_start 239 = .ok (.putfield 105, 3) := by decide +kernel
theorem dX8_start_242 : decode cX8_start 242 = .ok (.iconst 3, 1) := by decide +kernel
theorem dX8_start_243 : decode cX8_start 243 = .ok (.ireturn, 1) := by decide +kernel
theorem dX8_answer_0 : decode cX8_answer 0 = .ok (.iload_n 1, 1) := by decide +kernel
theorem dX8_answer_1 : decode cX8_answer 1 = .ok (.iconst 0, 1) := by decide +kernel
theorem dX8_answer_2 : decode cX8_answer 2 = .ok (.iconst 2, 1) := by decide +kernel
theorem dX8_answer_3 : decode cX8_answer 3 = .ok (.invokestatic 87, 3) := by decide +kernel
theorem dX8_answer_6 : decode cX8_answer 6 = .ok (.ifCond .ne 5, 3) := by decide +kernel
theorem dX8_answer_9 : decode cX8_answer 9 = .ok (.iconst (-1), 1) := by decide +kernel

theorem dX8_nameOf_47 : decode cX8_nameOf 47 = .ok (.iaload, 1) := by decide +kernel
theorem dX8_nameOf_48 : decode cX8_nameOf 48 = .ok (.iconst 1, 1) := by decide +kernel
theorem dX8_nameOf_49 : decode cX8_nameOf 49 = .ok (.iadd, 1) := by decide +kernel
theorem dX8_nameOf_50 : decode cX8_nameOf 50 = .ok (.if_icmp .ne 35, 3) := by decide +kernel
theorem dX8_nameOf_53 : decode cX8_nameOf 53 = .ok (.aload_n 0, 1) := by decide +kernel
theorem dX8_nameOf_54 : decode cX8_nameOf 54 = .ok (.getfield 13, 3) := by decide +kernel
theorem dX8_nameOf_57 : decode cX8_nameOf 57 = .ok (.iload 4, 2) := by decide +kernel
theorem dX8_nameOf_59 : decode cX8_nameOf 59 = .ok (.iaload, 1) := by decide +kernel
theorem dX8_nameOf_60 : decode cX8_nameOf 60 = .ok (.bipush 79, 2) := by decide +kernel
theorem dX8_nameOf_62 : decode cX8_nameOf 62 = .ok (.if_icmp .ne 23, 3) := by decide +kernel
theorem dX8_nameOf_65 : decode cX8_nameOf 65 = .ok (.aload_n 0, 1) := by decide +kernel
theorem dX8_nameOf_66 : decode cX8_nameOf 66 = .ok (.getfield 19, 3) := by decide +kernel
theorem dX8_nameOf_69 : decode cX8_nameOf 69 = .ok (.iload 4, 2) := by decide +kernel
theorem dX8_nameOf_71 : decode cX8_nameOf 71 = .ok (.iaload, 1) := by decide +kernel
theorem dX8_nameOf_72 : decode cX8_nameOf 72 = .ok (.iconst 5, 1) := by decide +kernel
theorem dX8_nameOf_73 : decode cX8_nameOf 73 = .ok (.bipush 16, 2) := by decide +kernel
theorem dX8_nameOf_75 : decode cX8_nameOf 75 = .ok (.invokestatic 87, 3) := by decide +kernel
theorem dX8_nameOf_78 : decode cX8_nameOf 78 = .ok (.ifCond .eq 7, 3) := by decide +kernel
theorem dX8_nameOf_81 : decode cX8_nameOf 81 = .ok (.iconst 1, 1) := by decide +kernel
theorem dX8_nameOf_82 : decode cX8_nameOf 82 = .ok (.goto 4, 3) := by decide +kernel
theorem dX8_nameOf_85 : decode cX8_nameOf 85 = .ok (.iconst 0, 1) := by decide +kernel
theorem dX8_nameOf_86 : decode cX8_nameOf 86 = .ok (.istore 5, 2) := by decide +kernel
theorem dX8_nameOf_88 : decode cX8_nameOf 88 = .ok (.iload 5, 2) := by decide +kernel
theorem dX8_nameOf_90 : decode cX8_nameOf 90 = .ok (.ifCond .eq 8, 3) := by decide +kernel
theorem dX8_nameOf_93 : decode cX8_nameOf 93 = .ok (.iload 4, 2) := by decide +kernel
theorem dX8_nameOf_95 : decode cX8_nameOf 95 = .ok (.goto 4, 3) := by decide +kernel
theorem dX8_nameOf_98 : decode cX8_nameOf 98 = .ok (.iload_n 2, 1) := by decide +kernel
theorem dX8_nameOf_99 : decode cX8_nameOf 99 = .ok (.istore_n 2, 1) := by decide +kernel
theorem dX8_nameOf_100 : decode cX8_nameOf 100 = .ok (.iload_n 3, 1) := by decide +kernel
theorem dX8_nameOf_101 : decode cX8_nameOf 101 = .ok (.iload 5, 2) := by decide +kernel
theorem dX8_nameOf_103 : decode cX8_nameOf 103 = .ok (.ifCond .eq 7, 3) := by decide +kernel
theorem dX8_nameOf_106 : decode cX8_nameOf 106 = .ok (.iconst 1, 1) := by decide +kernel
theorem dX8_nameOf_107 : decode cX8_nameOf 107 = .ok (.goto 4, 3) := by decide +kernel
theorem dX8_nameOf_110 : decode cX8_nameOf 110 = .ok (.iconst 0, 1) := by decide +kernel
theorem dX8_nameOf_111 : decode cX8_nameOf 111 = .ok (.iadd, 1) := by decide +kernel
theorem dX8_nameOf_112 : decode cX8_nameOf 112 = .ok (.istore_n 3, 1) := by decide +kernel
theorem dX8_nameOf_113 : decode cX8_nameOf 113 = .ok (.iinc 4 1, 3) := by decide +kernel
theorem dX8_nameOf_116 : decode cX8_nameOf 116 = .ok (.goto (-106), 3) := by decide +kernel
theorem dX8_nameOf_119 : decode cX8_nameOf 119 = .ok (.iload_n 3, 1) := by decide +kernel
theorem dX8_nameOf_120 : decode cX8_nameOf 120 = .ok (.iconst 1, 1) := by decide +kernel
theorem dX8_nameOf_121 : decode cX8_nameOf 121 = .ok (.if_icmp .ne 7, 3) := by decide +kernel
theorem dX8_nameOf_124 : decode cX8_nameOf 124 = .ok (.iload_n 2, 1) := by decide +kernel
theorem dX8_nameOf_125 : decode cX8_nameOf 125 = .ok (.goto 5, 3) := by decide +kernel
theorem dX8_nameOf_128 : decode cX8_nameOf 128 = .ok (.bipush (-4), 2) := by decide +kernel
theorem dX8_nameOf_130 : decode cX8_nameOf 130 = .ok (.ireturn, 1) := by decide +kernel
theorem dX8_priorityByte_0 : decode cX8_priorityByte 0 = .ok (.iload_n 1, 1) := by decide +kernel
theorem dX8_priorityByte_1 : decode cX8_priorityByte 1 = .ok (.iconst 1, 1) := by decide +kernel
theorem dX8_priorityByte_2 : decode cX8_priorityByte 2 = .ok (.iadd, 1) := by decide +kernel
theorem dX8_priorityByte_3 : decode cX8_priorityByte 3 = .ok (.istore_n 2, 1) := by decide +kernel
theorem dX8_priorityByte_4 : decode cX8_priorityByte 4 = .ok (.iload_n 2, 1) := by decide +kernel
theorem dX8_priorityByte_5 : decode cX8_priorityByte 5 = .ok (.aload_n 0, 1) := by decide +kernel
theorem dX8_priorityByte_6 : decode cX8_priorityByte 6 = .ok (.getfield 94, 3) := by decide +kernel
theorem dX8_priorityByte_9 : decode cX8_priorityByte 9 = .ok (.if_icmp .ge 75, 3) := by decide +kernel
theorem dX8_priorityByte_12 : decode cX8_priorityByte 12 = .ok (.aload_n 0, 1) := by decide +kernel
theorem dX8_priorityByte_13 : decode cX8_priorityByte 13 = .ok (.getfield 16, 3) := by decide +kernel
theorem dX8_priorityByte_16 : decode cX8_priorityByte 16 = .ok (.iload_n 2, 1) := by decide +kernel
theorem dX8_priorityByte_17 : decode cX8_priorityByte 17 = .ok (.iaload, 1) := by decide +kernel
theorem dX8_priorityByte_18 : decode cX8_priorityByte 18 = .ok (.aload_n 0, 1) := by decide +kernel
theorem dX8_priorityByte_19 : decode cX8_priorityByte 19 = .ok (.getfield 16, 3) := by decide +kernel
theorem dX8_priorityByte_22 : decode cX8_priorityByte 22 = .ok (.iload_n 1, 1) := by decide +kernel
theorem dX8_priorityByte_23 : decode cX8_priorityByte 23 = .ok (.iaload, 1) := by decide +kernel
theorem dX8_priorityByte_24 : decode cX8_priorityByte 24 = .ok (.if_icmp .le 60, 3) := by decide +kernel
theorem dX8_priorityByte_27 : decode cX8_priorityByte 27 = .ok (.aload_n 0, 1) := by decide +kernel
theorem dX8_priorityByte_28 : decode cX8_priorityByte 28 = .ok (.getfield 16, 3) := by decide +kernel
theorem dX8_priorityByte_31 : decode cX8_priorityByte 31 = .ok (.iload_n 2, 1) := by decide +kernel
theorem dX8_priorityByte_32 : decode cX8_priorityByte 32 = .ok (.iaload, 1) := by decide +kernel
theorem dX8_priorityByte_33 : decode cX8_priorityByte 33 = .ok (.aload_n 0, 1) := by decide +kernel
theorem dX8_priorityByte_34 : decode cX8_priorityByte 34 = .ok (.getfield 16, 3) := by decide +kernel
theorem dX8_priorityByte_37 : decode cX8_priorityByte 37 = .ok (.iload_n 1, 1) := by decide +kernel
theorem dX8_priorityByte_38 : decode cX8_priorityByte 38 = .ok (.iaload, 1) := by decide +kernel
theorem dX8_priorityByte_39 : decode cX8_priorityByte 39 = .ok (.iconst 1, 1) := by decide +kernel
theorem dX8_priorityByte_40 : decode cX8_priorityByte 40 = .ok (.iadd, 1) := by decide +kernel
theorem dX8_priorityByte_41 : decode cX8_priorityByte 41 = .ok (.if_icmp .ne 37, 3) := by decide +kernel
theorem dX8_priorityByte_44 : decode cX8_priorityByte 44 = .ok (.aload_n 0, 1) := by decide +kernel
theorem dX8_priorityByte_45 : decode cX8_priorityByte 45 = .ok (.getfield 13, 3) := by decide +kernel
theorem dX8_priorityByte_48 : decode cX8_priorityByte 48 = .ok (.iload_n 2, 1) := by decide +kernel
theorem dX8_priorityByte_49 : decode cX8_priorityByte 49 = .ok (.iaload, 1) := by decide +kernel
theorem dX8_priorityByte_50 : decode cX8_priorityByte 50 = .ok (.sipush 135, 3) := by decide +kernel
theorem dX8_priorityByte_53 : decode cX8_priorityByte 53 = .ok (.if_icmp .ne 25, 3) := by decide +kernel
theorem dX8_priorityByte_56 : decode cX8_priorityByte 56 = .ok (.aload_n 0, 1) := by decide +kernel
theorem dX8_priorityByte_57 : decode cX8_priorityByte 57 = .ok (.getfield 19, 3) := by decide +kernel
theorem dX8_priorityByte_60 : decode cX8_priorityByte 60 = .ok (.iload_n 2, 1) := by decide +kernel
theorem dX8_priorityByte_61 : decode cX8_priorityByte 61 = .ok (.iaload, 1) := by decide +kernel
theorem dX8_priorityByte_62 : decode cX8_priorityByte 62 = .ok (.iconst 1, 1) := by decide +kernel
theorem dX8_priorityByte_63 : decode cX8_priorityByte 63 = .ok (.if_icmp .ne 15, 3) := by decide +kernel
theorem dX8_priorityByte_66 : decode cX8_priorityByte 66 = .ok (.aload_n 0, 1) := by decide +kernel
theorem dX8_priorityByte_67 : decode cX8_priorityByte 67 = .ok (.getfield 7, 3) := by decide +kernel
theorem dX8_priorityByte_70 : decode cX8_priorityByte 70 = .ok (.aload_n 0, 1) := by decide +kernel
theorem dX8_priorityByte_71 : decode cX8_priorityByte 71 = .ok (.getfield 22, 3) := by decide +kernel
theorem dX8_priorityByte_74 : decode cX8_priorityByte 74 = .ok (.iload_n 2, 1) := by decide +kernel
theorem dX8_priorityByte_75 : decode cX8_priorityByte 75 = .ok (.iaload, 1) := by decide +kernel
theorem dX8_priorityByte_76 : decode cX8_priorityByte 76 = .ok (.iaload, 1) := by decide +kernel
theorem dX8_priorityByte_77 : decode cX8_priorityByte 77 = .ok (.ireturn, 1) := by decide +kernel
theorem dX8_priorityByte_78 : decode cX8_priorityByte 78 = .ok (.iinc 2 1, 3) := by decide +kernel
theorem dX8_priorityByte_81 : decode cX8_priorityByte 81 = .ok (.goto (-77), 3) := by decide +kernel
theorem dX8_priorityByte_84 : decode cX8_priorityByte 84 = .ok (.iconst 0, 1) := by decide +kernel
theorem dX8_priorityByte_85 : decode cX8_priorityByte 85 = .ok (.ireturn, 1) := by decide +kernel
theorem dX8_insertCard_0 : decode cX8_insertCard 0 = .ok (.aload_n 0, 1) := by decide +kernel
theorem dX8_insertCard_1 : decode cX8_insertCard 1 = .ok (.invokevirtual 97, 3) := by decide +kernel
theorem dX8_insertCard_4 : decode cX8_insertCard 4 = .ok (.bipush (-4), 2) := by decide +kernel
theorem dX8_insertCard_6 : decode cX8_insertCard 6 = .ok (.if_icmp .ne 10, 3) := by decide +kernel
theorem dX8_insertCard_9 : decode cX8_insertCard 9 = .ok (.aload_n 0, 1) := by decide +kernel
theorem dX8_insertCard_10 : decode cX8_insertCard 10 = .ok (.getfield 105, 3) := by decide +kernel
theorem dX8_insertCard_13 : decode cX8_insertCard 13 = .ok (.ifCond .eq 6, 3) := by decide +kernel
theorem dX8_insertCard_16 : decode cX8_insertCard 16 = .ok (.bipush (-2), 2) := by decide +kernel
theorem dX8_insertCard_18 : decode cX8_insertCard 18 = .ok (.ireturn, 1) := by decide +kernel
theorem dX8_insertCard_19 : decode cX8_insertCard 19 = .ok (.iconst 0, 1) := by decide +kernel
theorem dX8_insertCard_20 : decode cX8_insertCard 20 = .ok (.istore_n 1, 1) := by decide +kernel
theorem dX8_insertCard_21 : decode cX8_insertCard 21 = .ok (.iconst 0, 1) := by decide +kernel
theorem dX8_insertCard_22 : decode cX8_insertCard 22 = .ok (.istore_n 2, 1) := by decide +kernel
theorem dX8_insertCard_23 : decode cX8_insertCard 23 = .ok (.iload_n 2, 1) := by decide +kernel
theorem dX8_insertCard_24 : decode cX8_insertCard 24 = .ok (.aload_n 0, 1) := by decide +kernel
theorem dX8_insertCard_25 : decode cX8_insertCard 25 = .ok (.getfield 94, 3) := by decide +kernel
theorem dX8_insertCard_28 : decode cX8_insertCard 28 = .ok (.if_icmp .ge 38, 3) := by decide +kernel
theorem dX8_insertCard_31 : decode cX8_insertCard 31 = .ok (.iload_n 1, 1) := by decide +kernel
theorem dX8_insertCard_32 : decode cX8_insertCard 32 = .ok (.aload_n 0, 1) := by decide +kernel
theorem dX8_insertCard_33 : decode cX8_insertCard 33 = .ok (.getfield 13, 3) := by decide +kernel
theorem dX8_insertCard_36 : decode cX8_insertCard 36 = .ok (.iload_n 2, 1) := by decide +kernel
theorem dX8_insertCard_37 : decode cX8_insertCard 37 = .ok (.iaload, 1) := by decide +kernel
theorem dX8_insertCard_38 : decode cX8_insertCard 38 = .ok (.bipush 97, 2) := by decide +kernel
theorem dX8_insertCard_40 : decode cX8_insertCard 40 = .ok (.if_icmp .ne 17, 3) := by decide +kernel
theorem dX8_insertCard_43 : decode cX8_insertCard 43 = .ok (.aload_n 0, 1) := by decide +kernel
theorem dX8_insertCard_44 : decode cX8_insertCard 44 = .ok (.iload_n 2, 1) := by decide +kernel
theorem dX8_insertCard_45 : decode cX8_insertCard 45 = .ok (.invokevirtual 108, 3) := by decide +kernel
theorem dX8_insertCard_48 : decode cX8_insertCard 48 = .ok (.bipush (-4), 2) := by decide +kernel
theorem dX8_insertCard_50 : decode cX8_insertCard 50 = .ok (.if_icmp .eq 7, 3) := by decide +kernel
theorem dX8_insertCard_53 : decode cX8_insertCard 53 = .ok (.iconst 1, 1) := by decide +kernel
theorem dX8_insertCard_54 : decode cX8_insertCard 54 = .ok (.goto 4, 3) := by decide +kernel
theorem dX8_insertCard_57 : decode cX8_insertCard 57 = .ok (.iconst 0, 1) := by decide +kernel
theorem dX8_insertCard_58 : decode cX8_insertCard 58 = .ok (.iadd, 1) := by decide +kernel
theorem dX8_insertCard_59 : decode cX8_insertCard 59 = .ok (.istore_n 1, 1) := by decide +kernel
theorem dX8_insertCard_60 : decode cX8_insertCard 60 = .ok (.iinc 2 1, 3) := by decide +kernel
theorem dX8_insertCard_63 : decode cX8_insertCard 63 = .ok (.goto (-40), 3) := by decide +kernel
theorem dX8_insertCard_66 : decode cX8_insertCard 66 = .ok (.iload_n 1, 1) := by decide +kernel
theorem dX8_insertCard_67 : decode cX8_insertCard 67 = .ok (.bipush 6, 2) := by decide +kernel
theorem dX8_insertCard_69 : decode cX8_insertCard 69 = .ok (.if_icmp .le 6, 3) := by decide +kernel
theorem dX8_insertCard_72 : decode cX8_insertCard 72 = .ok (.bipush (-3), 2) := by decide +kernel
theorem dX8_insertCard_74 : decode cX8_insertCard 74 = .ok (.ireturn, 1) := by decide +kernel
theorem dX8_insertCard_75 : decode cX8_insertCard 75 = .ok (.aload_n 0, 1) := by decide +kernel
theorem dX8_insertCard_76 : decode cX8_insertCard 76 = .ok (.iconst 0, 1) := by decide +kernel
theorem dX8_insertCard_77 : decode cX8_insertCard 77 = .ok (.putfield 111, 3) := by decide +kernel
theorem dX8_insertCard_80 : decode cX8_insertCard 80 = .ok (.iconst 0, 1) := by decide +kernel
theorem dX8_insertCard_81 : decode cX8_insertCard 81 = .ok (.istore_n 2, 1) := by decide +kernel
theorem dX8_insertCard_82 : decode cX8_insertCard 82 = .ok (.iload_n 2, 1) := by decide +kernel
theorem dX8_insertCard_83 : decode cX8_insertCard 83 = .ok (.aload_n 0, 1) := by decide +kernel
theorem dX8_insertCard_84 : decode cX8_insertCard 84 = .ok (.getfield 94, 3) := by decide +kernel
theorem dX8_insertCard_87 : decode cX8_insertCard 87 = .ok (.if_icmp .ge 146, 3) := by decide +kernel
theorem dX8_insertCard_90 : decode cX8_insertCard 90 = .ok (.aload_n 0, 1) := by decide +kernel
theorem dX8_insertCard_91 : decode cX8_insertCard 91 = .ok (.getfield 13, 3) := by decide +kernel
theorem dX8_insertCard_94 : decode cX8_insertCard 94 = .ok (.iload_n 2, 1) := by decide +kernel
theorem dX8_insertCard_95 : decode cX8_insertCard 95 = .ok (.iaload, 1) := by decide +kernel
theorem dX8_insertCard_96 : decode cX8_insertCard 96 = .ok (.bipush 97, 2) := by decide +kernel
theorem dX8_insertCard_98 : decode cX8_insertCard 98 = .ok (.if_icmp .ne 11, 3) := by decide +kernel
theorem dX8_insertCard_101 : decode cX8_insertCard 101 = .ok (.aload_n 0, 1) := by decide +kernel
theorem dX8_insertCard_102 : decode cX8_insertCard 102 = .ok (.iload_n 2, 1) := by decide +kernel
theorem dX8_insertCard_103 : decode cX8_insertCard 103 = .ok (.invokevirtual 108, 3) := by decide +kernel
theorem dX8_insertCard_106 : decode cX8_insertCard 106 = .ok (.goto 5, 3) := by decide +kernel
theorem dX8_insertCard_109 : decode cX8_insertCard 109 = .ok (.bipush (-4), 2) := by decide +kernel
theorem dX8_insertCard_111 : decode cX8_insertCard 111 = .ok (.istore_n 3, 1) := by decide +kernel
theorem dX8_insertCard_112 : decode cX8_insertCard 112 = .ok (.iload_n 3, 1) := by decide +kernel
theorem dX8_insertCard_113 : decode cX8_insertCard 113 = .ok (.bipush (-4), 2) := by decide +kernel
theorem dX8_insertCard_115 : decode cX8_insertCard 115 = .ok (.if_icmp .eq 112, 3) := by decide +kernel
theorem dX8_insertCard_118 : decode cX8_insertCard 118 = .ok (.iconst 0, 1) := by decide +kernel
theorem dX8_insertCard_119 : decode cX8_insertCard 119 = .ok (.istore 4, 2) := by decide +kernel
theorem dX8_insertCard_121 : decode cX8_insertCard 121 = .ok (.iload 4, 2) := by decide +kernel
theorem dX8_insertCard_123 : decode cX8_insertCard 123 = .ok (.aload_n 0, 1) := by decide +kernel
theorem dX8_insertCard_124 : decode cX8_insertCard 124 = .ok (.getfield 19, 3) := by decide +kernel
theorem dX8_insertCard_127 : decode cX8_insertCard 127 = .ok (.iload_n 3, 1) := by decide +kernel
theorem dX8_insertCard_128 : decode cX8_insertCard 128 = .ok (.iaload, 1) := by decide +kernel
theorem dX8_insertCard_129 : decode cX8_insertCard 129 = .ok (.if_icmp .ge 38, 3) := by decide +kernel
theorem dX8_insertCard_132 : decode cX8_insertCard 132 = .ok (.aload_n 0, 1) := by decide +kernel
theorem dX8_insertCard_133 : decode cX8_insertCard 133 = .ok (.getfield 28, 3) := by decide +kernel
theorem dX8_insertCard_136 : decode cX8_insertCard 136 = .ok (.bipush 16, 2) := by decide +kernel
theorem dX8_insertCard_138 : decode cX8_insertCard 138 = .ok (.aload_n 0, 1) := by decide +kernel
theorem dX8_insertCard_139 : decode cX8_insertCard 139 = .ok (.getfield 111, 3) := by decide +kernel
theorem dX8_insertCard_142 : decode cX8_insertCard 142 = .ok (.imul, 1) := by decide +kernel
theorem dX8_insertCard_143 : decode cX8_insertCard 143 = .ok (.iload 4, 2) := by decide +kernel
theorem dX8_insertCard_145 : decode cX8_insertCard 145 = .ok (.iadd, 1) := by decide +kernel
theorem dX8_insertCard_146 : decode cX8_insertCard 146 = .ok (.aload_n 0, 1) := by decide +kernel
theorem dX8_insertCard_147 : decode cX8_insertCard 147 = .ok (.getfield 7, 3) := by decide +kernel
theorem dX8_insertCard_150 : decode cX8_insertCard 150 = .ok (.aload_n 0, 1) := by decide +kernel
theorem dX8_insertCard_151 : decode cX8_insertCard 151 = .ok (.getfield 22, 3) := by decide +kernel
theorem dX8_insertCard_154 : decode cX8_insertCard 154 = .ok (.iload_n 3, 1) := by decide +kernel
theorem dX8_insertCard_155 : decode cX8_insertCard 155 = .ok (.iaload, 1) := by decide +kernel
theorem dX8_insertCard_156 : decode cX8_insertCard 156 = .ok (.iload 4, 2) := by decide +kernel
theorem dX8_insertCard_158 : decode cX8_insertCard 158 = .ok (.iadd, 1) := by decide +kernel
theorem dX8_insertCard_159 : decode cX8_insertCard 159 = .ok (.iaload, 1) := by decide +kernel
theorem dX8_insertCard_160 : decode cX8_insertCard 160 = .ok (.iastore, 1) := by decide +kernel
theorem dX8_insertCard_161 : decode cX8_insertCard 161 = .ok (.iinc 4 1, 3) := by decide +kernel
theorem dX8_insertCard_164 : decode cX8_insertCard 164 = .ok (.goto (-43), 3) := by decide +kernel
theorem dX8_insertCard_167 : decode cX8_insertCard 167 = .ok (.aload_n 0, 1) := by decide +kernel
theorem dX8_insertCard_168 : decode cX8_insertCard 168 = .ok (.getfield 31, 3) := by decide +kernel
theorem dX8_insertCard_171 : decode cX8_insertCard 171 = .ok (.aload_n 0, 1) := by decide +kernel
theorem dX8_insertCard_172 : decode cX8_insertCard 172 = .ok (.getfield 111, 3) := by decide +kernel
theorem dX8_insertCard_175 : decode cX8_insertCard 175 = .ok (.aload_n 0, 1) := by decide +kernel
theorem dX8_insertCard_176 : decode cX8_insertCard 176 = .ok (.getfield 19, 3) := by decide +kernel
theorem dX8_insertCard_179 : decode cX8_insertCard 179 = .ok (.iload_n 3, 1) := by decide +kernel
theorem dX8_insertCard_180 : decode cX8_insertCard 180 = .ok (.iaload, 1) := by decide +kernel
theorem dX8_insertCard_181 : decode cX8_insertCard 181 = .ok (.iastore, 1) := by decide +kernel
theorem dX8_insertCard_182 : decode cX8_insertCard 182 = .ok (.aload_n 0, 1) := by decide +kernel
theorem dX8_insertCard_183 : decode cX8_insertCard 183 = .ok (.iload_n 2, 1) := by decide +kernel
theorem dX8_insertCard_184 : decode cX8_insertCard 184 = .ok (.invokevirtual 114, 3) := by decide +kernel
theorem dX8_insertCard_187 : decode cX8_insertCard 187 = .ok (.istore 4, 2) := by decide +kernel
theorem dX8_insertCard_189 : decode cX8_insertCard 189 = .ok (.aload_n 0, 1) := by decide +kernel
theorem dX8_insertCard_190 : decode cX8_insertCard 190 = .ok (.getfield 34, 3) := by decide +kernel
theorem dX8_insertCard_193 : decode cX8_insertCard 193 = .ok (.aload_n 0, 1) := by decide +kernel
theorem dX8_insertCard_194 : decode cX8_insertCard 194 = .ok (.getfield 111, 3) := by decide +kernel
theorem dX8_insertCard_197 : decode cX8_insertCard 197 = .ok (.iload 4, 2) := by decide +kernel
theorem dX8_insertCard_199 : decode cX8_insertCard 199 = .ok (.bipush 15, 2) := by decide +kernel
theorem dX8_insertCard_201 : decode cX8_insertCard 201 = .ok (.iand, 1) := by decide +kernel
theorem dX8_insertCard_202 : decode cX8_insertCard 202 = .ok (.iastore, 1) := by decide +kernel
theorem dX8_insertCard_203 : decode cX8_insertCard 203 = .ok (.aload_n 0, 1) := by decide +kernel
theorem dX8_insertCard_204 : decode cX8_insertCard 204 = .ok (.getfield 37, 3) := by decide +kernel
theorem dX8_insertCard_207 : decode cX8_insertCard 207 = .ok (.aload_n 0, 1) := by decide +kernel
theorem dX8_insertCard_208 : decode cX8_insertCard 208 = .ok (.getfield 111, 3) := by decide +kernel
theorem dX8_insertCard_211 : decode cX8_insertCard 211 = .ok (.iload 4, 2) := by decide +kernel
theorem dX8_insertCard_213 : decode cX8_insertCard 213 = .ok (.bipush 7, 2) := by decide +kernel
theorem dX8_insertCard_215 : decode cX8_insertCard 215 = .ok (.ishr, 1) := by decide +kernel
theorem dX8_insertCard_216 : decode cX8_insertCard 216 = .ok (.iastore, 1) := by decide +kernel
theorem dX8_insertCard_217 : decode cX8_insertCard 217 = .ok (.aload_n 0, 1) := by decide +kernel
theorem dX8_insertCard_218 : decode cX8_insertCard 218 = .ok (.dup, 1) := by decide +kernel
theorem dX8_insertCard_219 : decode cX8_insertCard 219 = .ok (.getfield 111, 3) := by decide +kernel
theorem dX8_insertCard_222 : decode cX8_insertCard 222 = .ok (.iconst 1, 1) := by decide +kernel
theorem dX8_insertCard_223 : decode cX8_insertCard 223 = .ok (.iadd, 1) := by decide +kernel
theorem dX8_insertCard_224 : decode cX8_insertCard 224 = .ok (.putfield 111, 3) := by decide +kernel
theorem dX8_insertCard_227 : decode cX8_insertCard 227 = .ok (.iinc 2 1, 3) := by decide +kernel
theorem dX8_insertCard_230 : decode cX8_insertCard 230 = .ok (.goto (-148), 3) := by decide +kernel
theorem dX8_insertCard_233 : decode cX8_insertCard 233 = .ok (.iconst 0, 1) := by decide +kernel
theorem dX8_insertCard_234 : decode cX8_insertCard 234 = .ok (.istore_n 2, 1) := by decide +kernel
theorem dX8_insertCard_235 : decode cX8_insertCard 235 = .ok (.iload_n 2, 1) := by decide +kernel
theorem dX8_insertCard_236 : decode cX8_insertCard 236 = .ok (.iconst 3, 1) := by decide +kernel
theorem dX8_insertCard_237 : decode cX8_insertCard 237 = .ok (.if_icmp .ge 16, 3) := by decide +kernel
theorem dX8_insertCard_240 : decode cX8_insertCard 240 = .ok (.aload_n 0, 1) := by decide +kernel
theorem dX8_insertCard_241 : decode cX8_insertCard 241 = .ok (.getfield 40, 3) := by decide +kernel
theorem dX8_insertCard_244 : decode cX8_insertCard 244 = .ok (.iload_n 2, 1) := by decide +kernel
theorem dX8_insertCard_245 : decode cX8_insertCard 245 = .ok (.iconst 0, 1) := by decide +kernel
theorem dX8_insertCard_246 : decode cX8_insertCard 246 = .ok (.iastore, 1) := by decide +kernel
theorem dX8_insertCard_247 : decode cX8_insertCard 247 = .ok (.iinc 2 1, 3) := by decide +kernel
theorem dX8_insertCard_250 : decode cX8_insertCard 250 = .ok (.goto (-15), 3) := by decide +kernel
theorem dX8_insertCard_253 : decode cX8_insertCard 253 = .ok (.aload_n 0, 1) := by decide +kernel
theorem dX8_insertCard_254 : decode cX8_insertCard 254 = .ok (.iconst 0, 1) := by decide +kernel
theorem dX8_insertCard_255 : decode cX8_insertCard 255 = .ok (.putfield 117, 3) := by decide +kernel
theorem dX8_insertCard_258 : decode cX8_insertCard 258 = .ok (.aload_n 0, 1) := by decide +kernel
theorem dX8_insertCard_259 : decode cX8_insertCard 259 = .ok (.iconst 1, 1) := by decide +kernel
theorem dX8_insertCard_260 : decode cX8_insertCard 260 = .ok (.putfield 43, 3) := by decide +kernel
theorem dX8_insertCard_263 : decode cX8_insertCard 263 = .ok (.aload_n 0, 1) := by decide +kernel
theorem dX8_insertCard_264 : decode cX8_insertCard 264 = .ok (.bipush (-4), 2) := by decide +kernel
theorem dX8_insertCard_266 : decode cX8_insertCard 266 = .ok (.putfield 72, 3) := by decide +kernel
theorem dX8_insertCard_269 : decode cX8_insertCard 269 = .ok (.aload_n 0, 1) := by decide +kernel
theorem dX8_insertCard_270 : decode cX8_insertCard 270 = .ok (.getfield 111, 3) := by decide +kernel
theorem dX8_insertCard_273 : decode cX8_insertCard 273 = .ok (.ireturn, 1) := by decide +kernel
theorem dX8_isApplication_0 : decode cX8_isApplication 0 = .ok (.iload_n 1, 1) := by decide +kernel
theorem dX8_isApplication_1 : decode cX8_isApplication 1 = .ok (.iconst 0, 1) := by decide +kernel
theorem dX8_isApplication_2 : decode cX8_isApplication 2 = .ok (.aload_n 0, 1) := by decide +kernel
theorem dX8_isApplication_3 : decode cX8_isApplication 3 = .ok (.getfield 111, 3) := by decide +kernel
theorem dX8_isApplication_6 : decode cX8_isApplication 6 = .ok (.iconst 1, 1) := by decide +kernel
theorem dX8_isApplication_7 : decode cX8_isApplication 7 = .ok (.isub, 1) := by decide +kernel
theorem dX8_isApplication_8 : decode cX8_isApplication 8 = .ok (.invokestatic 87, 3) := by decide +kernel
theorem dX8_isApplication_11 : decode cX8_isApplication 11 = .ok (.ireturn, 1) := by decide +kernel
theorem dX8_priorityOf_0 : decode cX8_priorityOf 0 = .ok (.aload_n 0, 1) := by decide +kernel
theorem dX8_priorityOf_1 : decode cX8_priorityOf 1 = .ok (.iload_n 1, 1) := by decide +kernel
theorem dX8_priorityOf_2 : decode cX8_priorityOf 2 = .ok (.invokevirtual 120, 3) := by decide +kernel
theorem dX8_priorityOf_5 : decode cX8_priorityOf 5 = .ok (.ifCond .eq 12, 3) := by decide +kernel
theorem dX8_priorityOf_8 : decode cX8_priorityOf 8 = .ok (.aload_n 0, 1) := by decide +kernel
theorem dX8_priorityOf_9 : decode cX8_priorityOf 9 = .ok (.getfield 34, 3) := by decide +kernel
theorem dX8_priorityOf_12 : decode cX8_priorityOf 12 = .ok (.iload_n 1, 1) := by decide +kernel
theorem dX8_priorityOf_13 : decode cX8_priorityOf 13 = .ok (.iaload, 1) := by decide +kernel
theorem dX8_priorityOf_14 : decode cX8_priorityOf 14 = .ok (.goto 4, 3) := by decide +kernel
theorem dX8_priorityOf_17 : decode cX8_priorityOf 17 = .ok (.iconst (-1), 1) := by decide +kernel
theorem dX8_priorityOf_18 : decode cX8_priorityOf 18 = .ok (.ireturn, 1) := by decide +kernel
theorem dX8_setIssuerCode_0 : decode cX8_setIssuerCode 0 = .ok (.iload_n 1, 1) := by decide +kernel
theorem dX8_setIssuerCode_1 : decode cX8_setIssuerCode 1 = .ok (.iconst 0, 1) := by decide +kernel
theorem dX8_setIssuerCode_2 : decode cX8_setIssuerCode 2 = .ok (.iconst 2, 1) := by decide +kernel
theorem dX8_setIssuerCode_3 : decode cX8_setIssuerCode 3 = .ok (.invokestatic 87, 3) := by decide +kernel
theorem dX8_setIssuerCode_6 : decode cX8_setIssuerCode 6 = .ok (.ifCond .eq 13, 3) := by decide +kernel
theorem dX8_setIssuerCode_9 : decode cX8_setIssuerCode 9 = .ok (.iload_n 2, 1) := by decide +kernel
theorem dX8_setIssuerCode_10 : decode cX8_setIssuerCode 10 = .ok (.iconst 0, 1) := by decide +kernel
theorem dX8_setIssuerCode_11 : decode cX8_setIssuerCode 11 = .ok (.bipush 127, 2) := by decide +kernel
theorem dX8_setIssuerCode_13 : decode cX8_setIssuerCode 13 = .ok (.invokestatic 87, 3) := by decide +kernel
theorem dX8_setIssuerCode_16 : decode cX8_setIssuerCode 16 = .ok (.ifCond .ne 5, 3) := by decide +kernel
theorem dX8_setIssuerCode_19 : decode cX8_setIssuerCode 19 = .ok (.iconst (-1), 1) := by decide +kernel
theorem dX8_setIssuerCode_20 : decode cX8_setIssuerCode 20 = .ok (.ireturn, 1) := by decide +kernel
theorem dX8_setIssuerCode_21 : decode cX8_setIssuerCode 21 = .ok (.aload_n 0, 1) := by decide +kernel
theorem dX8_setIssuerCode_22 : decode cX8_setIssuerCode 22 = .ok (.getfield 40, 3) := by decide +kernel
theorem dX8_setIssuerCode_25 : decode cX8_setIssuerCode 25 = .ok (.iload_n 1, 1) := by decide +kernel
theorem dX8_setIssuerCode_26 : decode cX8_setIssuerCode 26 = .ok (.iaload, 1) := by decide +kernel
theorem dX8_setIssuerCode_27 : decode cX8_setIssuerCode 27 = .ok (.istore_n 3, 1) := by decide +kernel
theorem dX8_setIssuerCode_28 : decode cX8_setIssuerCode 28 = .ok (.aload_n 0, 1) := by decide +kernel
theorem dX8_setIssuerCode_29 : decode cX8_setIssuerCode 29 = .ok (.getfield 40, 3) := by decide +kernel
theorem dX8_setIssuerCode_32 : decode cX8_setIssuerCode 32 = .ok (.iload_n 1, 1) := by decide +kernel
theorem dX8_setIssuerCode_33 : decode cX8_setIssuerCode 33 = .ok (.iload_n 2, 1) := by decide +kernel
theorem dX8_setIssuerCode_34 : decode cX8_setIssuerCode 34 = .ok (.iastore, 1) := by decide +kernel
theorem dX8_setIssuerCode_35 : decode cX8_setIssuerCode 35 = .ok (.iload_n 3, 1) := by decide +kernel
theorem dX8_setIssuerCode_36 : decode cX8_setIssuerCode 36 = .ok (.ireturn, 1) := by decide +kernel
theorem dX8_addIdentifier_0 : decode cX8_addIdentifier 0 = .ok (.aload_n 0, 1) := by decide +kernel
theorem dX8_addIdentifier_1 : decode cX8_addIdentifier 1 = .ok (.getfield 91, 3) := by decide +kernel
theorem dX8_addIdentifier_4 : decode cX8_addIdentifier 4 = .ok (.iconst 5, 1) := by decide +kernel
theorem dX8_addIdentifier_5 : decode cX8_addIdentifier 5 = .ok (.bipush 16, 2) := by decide +kernel
theorem dX8_addIdentifier_7 : decode cX8_addIdentifier 7 = .ok (.invokestatic 87, 3) := by decide +kernel
theorem dX8_addIdentifier_10 : decode cX8_addIdentifier 10 = .ok (.ifCond .ne 6, 3) := by decide +kernel
theorem dX8_addIdentifier_13 : decode cX8_addIdentifier 13 = .ok (.bipush (-2), 2) := by decide +kernel
theorem dX8_addIdentifier_15 : decode cX8_addIdentifier 15 = .ok (.ireturn, 1) := by decide +kernel
theorem dX8_addIdentifier_16 : decode cX8_addIdentifier 16 = .ok (.aload_n 0, 1) := by decide +kernel
theorem dX8_addIdentifier_17 : decode cX8_addIdentifier 17 = .ok (.getfield 124, 3) := by decide +kernel
theorem dX8_addIdentifier_20 : decode cX8_addIdentifier 20 = .ok (.iconst 5, 1) := by decide +kernel
theorem dX8_addIdentifier_21 : decode cX8_addIdentifier 21 = .ok (.if_icmp .ne 6, 3) := by decide +kernel
theorem dX8_addIdentifier_24 : decode cX8_addIdentifier 24 = .ok (.bipush (-3), 2) := by decide +kernel
theorem dX8_addIdentifier_26 : decode cX8_addIdentifier 26 = .ok (.ireturn, 1) := by decide +kernel
theorem dX8_addIdentifier_27 : decode cX8_addIdentifier 27 = .ok (.iconst 0, 1) := by decide +kernel
theorem dX8_addIdentifier_28 : decode cX8_addIdentifier 28 = .ok (.istore_n 2, 1) := by decide +kernel
theorem dX8_addIdentifier_29 : decode cX8_addIdentifier 29 = .ok (.iload_n 2, 1) := by decide +kernel
theorem dX8_addIdentifier_30 : decode cX8_addIdentifier 30 = .ok (.aload_n 0, 1) := by decide +kernel
theorem dX8_addIdentifier_31 : decode cX8_addIdentifier 31 = .ok (.getfield 91, 3) := by decide +kernel
theorem dX8_addIdentifier_34 : decode cX8_addIdentifier 34 = .ok (.if_icmp .ge 29, 3) := by decide +kernel
theorem dX8_addIdentifier_37 : decode cX8_addIdentifier 37 = .ok (.aload_n 0, 1) := by decide +kernel
theorem dX8_addIdentifier_38 : decode cX8_addIdentifier 38 = .ok (.getfield 47, 3) := by decide +kernel
theorem dX8_addIdentifier_41 : decode cX8_addIdentifier 41 = .ok (.bipush 16, 2) := by decide +kernel
theorem dX8_addIdentifier_43 : decode cX8_addIdentifier 43 = .ok (.aload_n 0, 1) := by decide +kernel
theorem dX8_addIdentifier_44 : decode cX8_addIdentifier 44 = .ok (.getfield 124, 3) := by decide +kernel
theorem dX8_addIdentifier_47 : decode cX8_addIdentifier 47 = .ok (.imul, 1) := by decide +kernel
theorem dX8_addIdentifier_48 : decode cX8_addIdentifier 48 = .ok (.iload_n 2, 1) := by decide +kernel
theorem dX8_addIdentifier_49 : decode cX8_addIdentifier 49 = .ok (.iadd, 1) := by decide +kernel
theorem dX8_addIdentifier_50 : decode cX8_addIdentifier 50 = .ok (.aload_n 0, 1) := by decide +kernel
theorem dX8_addIdentifier_51 : decode cX8_addIdentifier 51 = .ok (.getfield 7, 3) := by decide +kernel
theorem dX8_addIdentifier_54 : decode cX8_addIdentifier 54 = .ok (.iload_n 2, 1) := by decide +kernel
theorem dX8_addIdentifier_55 : decode cX8_addIdentifier 55 = .ok (.iaload, 1) := by decide +kernel
theorem dX8_addIdentifier_56 : decode cX8_addIdentifier 56 = .ok (.iastore, 1) := by decide +kernel
theorem dX8_addIdentifier_57 : decode cX8_addIdentifier 57 = .ok (.iinc 2 1, 3) := by decide +kernel
theorem dX8_addIdentifier_60 : decode cX8_addIdentifier 60 = .ok (.goto (-31), 3) := by decide +kernel
theorem dX8_addIdentifier_63 : decode cX8_addIdentifier 63 = .ok (.aload_n 0, 1) := by decide +kernel
theorem dX8_addIdentifier_64 : decode cX8_addIdentifier 64 = .ok (.getfield 50, 3) := by decide +kernel
theorem dX8_addIdentifier_67 : decode cX8_addIdentifier 67 = .ok (.aload_n 0, 1) := by decide +kernel
theorem dX8_addIdentifier_68 : decode cX8_addIdentifier 68 = .ok (.getfield 124, 3) := by decide +kernel
theorem dX8_addIdentifier_71 : decode cX8_addIdentifier 71 = .ok (.aload_n 0, 1) := by decide +kernel
theorem dX8_addIdentifier_72 : decode cX8_addIdentifier 72 = .ok (.getfield 91, 3) := by decide +kernel
theorem dX8_addIdentifier_75 : decode cX8_addIdentifier 75 = .ok (.iastore, 1) := by decide +kernel
theorem dX8_addIdentifier_76 : decode cX8_addIdentifier 76 = .ok (.aload_n 0, 1) := by decide +kernel
theorem dX8_addIdentifier_77 : decode cX8_addIdentifier 77 = .ok (.getfield 53, 3) := by decide +kernel
theorem dX8_addIdentifier_80 : decode cX8_addIdentifier 80 = .ok (.aload_n 0, 1) := by decide +kernel
theorem dX8_addIdentifier_81 : decode cX8_addIdentifier 81 = .ok (.getfield 124, 3) := by decide +kernel
theorem dX8_addIdentifier_84 : decode cX8_addIdentifier 84 = .ok (.iload_n 1, 1) := by decide +kernel
theorem dX8_addIdentifier_85 : decode cX8_addIdentifier 85 = .ok (.ifCond .eq 7, 3) := by decide +kernel
theorem dX8_addIdentifier_88 : decode cX8_addIdentifier 88 = .ok (.iconst 1, 1) := by decide +kernel
theorem dX8_addIdentifier_89 : decode cX8_addIdentifier 89 = .ok (.goto 4, 3) := by decide +kernel
theorem dX8_addIdentifier_92 : decode cX8_addIdentifier 92 = .ok (.iconst 0, 1) := by decide +kernel
theorem dX8_addIdentifier_93 : decode cX8_addIdentifier 93 = .ok (.iastore, 1) := by decide +kernel
theorem dX8_addIdentifier_94 : decode cX8_addIdentifier 94 = .ok (.aload_n 0, 1) := by decide +kernel
theorem dX8_addIdentifier_95 : decode cX8_addIdentifier 95 = .ok (.dup, 1) := by decide +kernel
theorem dX8_addIdentifier_96 : decode cX8_addIdentifier 96 = .ok (.getfield 124, 3) := by decide +kernel
theorem dX8_addIdentifier_99 : decode cX8_addIdentifier 99 = .ok (.iconst 1, 1) := by decide +kernel
theorem dX8_addIdentifier_100 : decode cX8_addIdentifier 100 = .ok (.iadd, 1) := by decide +kernel
theorem dX8_addIdentifier_101 : decode cX8_addIdentifier 101 = .ok (.putfield 124, 3) := by decide +kernel
theorem dX8_addIdentifier_104 : decode cX8_addIdentifier 104 = .ok (.aload_n 0, 1) := by decide +kernel
theorem dX8_addIdentifier_105 : decode cX8_addIdentifier 105 = .ok (.getfield 124, 3) := by decide +kernel
theorem dX8_addIdentifier_108 : decode cX8_addIdentifier 108 = .ok (.ireturn, 1) := by decide +kernel
theorem dX8_removeIdentifier_0 : decode cX8_removeIdentifier 0 = .ok (.iload_n 1, 1) := by decide +kernel
theorem dX8_removeIdentifier_1 : decode cX8_removeIdentifier 1 = .ok (.iconst 0, 1) := by decide +kernel
theorem dX8_removeIdentifier_2 : decode cX8_removeIdentifier 2 = .ok (.aload_n 0, 1) := by decide +kernel
theorem dX8_removeIdentifier_3 : decode cX8_removeIdentifier 3 = .ok (.getfield 124, 3) := by decide +kernel
theorem dX8_removeIdentifier_6 : decode cX8_removeIdentifier 6 = .ok (.iconst 1, 1) := by decide +kernel
theorem dX8_removeIdentifier_7 : decode cX8_removeIdentifier 7 = .ok (.isub, 1) := by decide +kernel
theorem dX8_removeIdentifier_8 : decode cX8_removeIdentifier 8 = .ok (.invokestatic 87, 3) := by decide +kernel
theorem dX8_removeIdentifier_11 : decode cX8_removeIdentifier 11 = .ok (.ifCond .ne 5, 3) := by decide +kernel
theorem dX8_removeIdentifier_14 : decode cX8_removeIdentifier 14 = .ok (.iconst (-1), 1) := by decide +kernel
theorem dX8_removeIdentifier_15 : decode cX8_removeIdentifier 15 = .ok (.ireturn, 1) := by decide +kernel
theorem dX8_removeIdentifier_16 : decode cX8_removeIdentifier 16 = .ok (.aload_n 0, 1) := by decide +kernel
theorem dX8_removeIdentifier_17 : decode cX8_removeIdentifier 17 = .ok (.dup, 1) := by decide +kernel
theorem dX8_removeIdentifier_18 : decode cX8_removeIdentifier 18 = .ok (.getfield 124, 3) := by decide +kernel
theorem dX8_removeIdentifier_21 : decode cX8_removeIdentifier 21 = .ok (.iconst 1, 1) := by decide +kernel
theorem dX8_removeIdentifier_22 : decode cX8_removeIdentifier 22 = .ok (.isub, 1) := by decide +kernel
theorem dX8_removeIdentifier_23 : decode cX8_removeIdentifier 23 = .ok (.putfield 124, 3) := by decide +kernel
theorem dX8_removeIdentifier_26 : decode cX8_removeIdentifier 26 = .ok (.iload_n 1, 1) := by decide +kernel
theorem dX8_removeIdentifier_27 : decode cX8_removeIdentifier 27 = .ok (.istore_n 2, 1) := by decide +kernel
theorem dX8_removeIdentifier_28 : decode cX8_removeIdentifier 28 = .ok (.iload_n 2, 1) := by decide +kernel
theorem dX8_removeIdentifier_29 : decode cX8_removeIdentifier 29 = .ok (.aload_n 0, 1) := by decide +kernel
theorem dX8_removeIdentifier_30 : decode cX8_removeIdentifier 30 = .ok (.getfield 124, 3) := by decide +kernel
theorem dX8_removeIdentifier_33 : decode cX8_removeIdentifier 33 = .ok (.if_icmp .ge 76, 3) := by decide +kernel
theorem dX8_removeIdentifier_36 : decode cX8_removeIdentifier 36 = .ok (.iconst 0, 1) := by decide +kernel
theorem dX8_removeIdentifier_37 : decode cX8_removeIdentifier 37 = .ok (.istore_n 3, 1) := by decide +kernel
theorem dX8_removeIdentifier_38 : decode cX8_removeIdentifier 38 = .ok (.iload_n 3, 1) := by decide +kernel
theorem dX8_removeIdentifier_39 : decode cX8_removeIdentifier 39 = .ok (.bipush 16, 2) := by decide +kernel
theorem dX8_removeIdentifier_41 : decode cX8_removeIdentifier 41 = .ok (.if_icmp .ge 34, 3) := by decide +kernel
theorem dX8_removeIdentifier_44 : decode cX8_removeIdentifier 44 = .ok (.aload_n 0, 1) := by decide +kernel
theorem dX8_removeIdentifier_45 : decode cX8_removeIdentifier 45 = .ok (.getfield 47, 3) := by decide +kernel
theorem dX8_removeIdentifier_48 : decode cX8_removeIdentifier 48 = .ok (.bipush 16, 2) := by decide +kernel
theorem dX8_removeIdentifier_50 : decode cX8_removeIdentifier 50 = .ok (.iload_n 2, 1) := by decide +kernel
theorem dX8_removeIdentifier_51 : decode cX8_removeIdentifier 51 = .ok (.imul, 1) := by decide +kernel
theorem dX8_removeIdentifier_52 : decode cX8_removeIdentifier 52 = .ok (.iload_n 3, 1) := by decide +kernel
theorem dX8_removeIdentifier_53 : decode cX8_removeIdentifier 53 = .ok (.iadd, 1) := by decide +kernel
theorem dX8_removeIdentifier_54 : decode cX8_removeIdentifier 54 = .ok (.aload_n 0, 1) := by decide +kernel
theorem dX8_removeIdentifier_55 : decode cX8_removeIdentifier 55 = .ok (.getfield 47, 3) := by decide +kernel
theorem dX8_removeIdentifier_58 : decode cX8_removeIdentifier 58 = .ok (.bipush 16, 2) := by decide +kernel
theorem dX8_removeIdentifier_60 : decode cX8_removeIdentifier 60 = .ok (.iload_n 2, 1) := by decide +kernel
theorem dX8_removeIdentifier_61 : decode cX8_removeIdentifier 61 = .ok (.imul, 1) := by decide +kernel
theorem dX8_removeIdentifier_62 : decode cX8_removeIdentifier 62 = .ok (.bipush 16, 2) := by decide +kernel
theorem dX8_removeIdentifier_64 : decode cX8_removeIdentifier 64 = .ok (.iadd, 1) := by decide +kernel
theorem dX8_removeIdentifier_65 : decode cX8_removeIdentifier 65 = .ok (.iload_n 3, 1) := by decide +kernel
theorem dX8_removeIdentifier_66 : decode cX8_removeIdentifier 66 = .ok (.iadd, 1) := by decide +kernel
theorem dX8_removeIdentifier_67 : decode cX8_removeIdentifier 67 = .ok (.iaload, 1) := by decide +kernel
theorem dX8_removeIdentifier_68 : decode cX8_removeIdentifier 68 = .ok (.iastore, 1) := by decide +kernel
theorem dX8_removeIdentifier_69 : decode cX8_removeIdentifier 69 = .ok (.iinc 3 1, 3) := by decide +kernel
theorem dX8_removeIdentifier_72 : decode cX8_removeIdentifier 72 = .ok (.goto (-34), 3) := by decide +kernel
theorem dX8_removeIdentifier_75 : decode cX8_removeIdentifier 75 = .ok (.aload_n 0, 1) := by decide +kernel
theorem dX8_removeIdentifier_76 : decode cX8_removeIdentifier 76 = .ok (.getfield 50, 3) := by decide +kernel
theorem dX8_removeIdentifier_79 : decode cX8_removeIdentifier 79 = .ok (.iload_n 2, 1) := by decide +kernel
theorem dX8_removeIdentifier_80 : decode cX8_removeIdentifier 80 = .ok (.aload_n 0, 1) := by decide +kernel
theorem dX8_removeIdentifier_81 : decode cX8_removeIdentifier 81 = .ok (.getfield 50, 3) := by decide +kernel
theorem dX8_removeIdentifier_84 : decode cX8_removeIdentifier 84 = .ok (.iload_n 2, 1) := by decide +kernel
theorem dX8_removeIdentifier_85 : decode cX8_removeIdentifier 85 = .ok (.iconst 1, 1) := by decide +kernel
theorem dX8_removeIdentifier_86 : decode cX8_removeIdentifier 86 = .ok (.iadd, 1) := by decide +kernel
theorem dX8_removeIdentifier_87 : decode cX8_removeIdentifier 87 = .ok (.iaload, 1) := by decide +kernel
theorem dX8_removeIdentifier_88 : decode cX8_removeIdentifier 88 = .ok (.iastore, 1) := by decide +kernel
theorem dX8_removeIdentifier_89 : decode cX8_removeIdentifier 89 = .ok (.aload_n 0, 1) := by decide +kernel
theorem dX8_removeIdentifier_90 : decode cX8_removeIdentifier 90 = .ok (.getfield 53, 3) := by decide +kernel
theorem dX8_removeIdentifier_93 : decode cX8_removeIdentifier 93 = .ok (.iload_n 2, 1) := by decide +kernel
theorem dX8_removeIdentifier_94 : decode cX8_removeIdentifier 94 = .ok (.aload_n 0, 1) := by decide +kernel
theorem dX8_removeIdentifier_95 : decode cX8_removeIdentifier 95 = .ok (.getfield 53, 3) := by decide +kernel
theorem dX8_removeIdentifier_98 : decode cX8_removeIdentifier 98 = .ok (.iload_n 2, 1) := by decide +kernel
theorem dX8_removeIdentifier_99 : decode cX8_removeIdentifier 99 = .ok (.iconst 1, 1) := by decide +kernel
theorem dX8_removeIdentifier_100 : decode cX8_removeIdentifier 100 = .ok (.iadd, 1) := by decide +kernel
theorem dX8_removeIdentifier_101 : decode cX8_removeIdentifier 101 = .ok (.iaload, 1) := by decide +kernel
theorem dX8_removeIdentifier_102 : decode cX8_removeIdentifier 102 = .ok (.iastore, 1) := by decide +kernel
theorem dX8_removeIdentifier_103 : decode cX8_removeIdentifier 103 = .ok (.iinc 2 1, 3) := by decide +kernel
theorem dX8_removeIdentifier_106 : decode cX8_removeIdentifier 106 = .ok (.goto (-78), 3) := by decide +kernel
theorem dX8_removeIdentifier_109 : decode cX8_removeIdentifier 109 = .ok (.aload_n 0, 1) := by decide +kernel
theorem dX8_removeIdentifier_110 : decode cX8_removeIdentifier 110 = .ok (.getfield 124, 3) := by decide +kernel
theorem dX8_removeIdentifier_113 : decode cX8_removeIdentifier 113 = .ok (.ireturn, 1) := by decide +kernel
theorem dX8_setTerminalCode_0 : decode cX8_setTerminalCode 0 = .ok (.iload_n 1, 1) := by decide +kernel
theorem dX8_setTerminalCode_1 : decode cX8_setTerminalCode 1 = .ok (.iconst 0, 1) := by decide +kernel
theorem dX8_setTerminalCode_2 : decode cX8_setTerminalCode 2 = .ok (.iconst 2, 1) := by decide +kernel
theorem dX8_setTerminalCode_3 : decode cX8_setTerminalCode 3 = .ok (.invokestatic 87, 3) := by decide +kernel
theorem dX8_setTerminalCode_6 : decode cX8_setTerminalCode 6 = .ok (.ifCond .eq 13, 3) := by decide +kernel
theorem dX8_setTerminalCode_9 : decode cX8_setTerminalCode 9 = .ok (.iload_n 2, 1) := by decide +kernel
theorem dX8_setTerminalCode_10 : decode cX8_setTerminalCode 10 = .ok (.iconst 0, 1) := by decide +kernel
theorem dX8_setTerminalCode_11 : decode cX8_setTerminalCode 11 = .ok (.bipush 127, 2) := by decide +kernel
theorem dX8_setTerminalCode_13 : decode cX8_setTerminalCode 13 = .ok (.invokestatic 87, 3) := by decide +kernel
theorem dX8_setTerminalCode_16 : decode cX8_setTerminalCode 16 = .ok (.ifCond .ne 5, 3) := by decide +kernel
theorem dX8_setTerminalCode_19 : decode cX8_setTerminalCode 19 = .ok (.iconst (-1), 1) := by decide +kernel
theorem dX8_setTerminalCode_20 : decode cX8_setTerminalCode 20 = .ok (.ireturn, 1) := by decide +kernel
theorem dX8_setTerminalCode_21 : decode cX8_setTerminalCode 21 = .ok (.aload_n 0, 1) := by decide +kernel
theorem dX8_setTerminalCode_22 : decode cX8_setTerminalCode 22 = .ok (.getfield 56, 3) := by decide +kernel
theorem dX8_setTerminalCode_25 : decode cX8_setTerminalCode 25 = .ok (.iload_n 1, 1) := by decide +kernel
theorem dX8_setTerminalCode_26 : decode cX8_setTerminalCode 26 = .ok (.iaload, 1) := by decide +kernel
theorem dX8_setTerminalCode_27 : decode cX8_setTerminalCode 27 = .ok (.istore_n 3, 1) := by decide +kernel
theorem dX8_setTerminalCode_28 : decode cX8_setTerminalCode 28 = .ok (.aload_n 0, 1) := by decide +kernel
theorem dX8_setTerminalCode_29 : decode cX8_setTerminalCode 29 = .ok (.getfield 56, 3) := by decide +kernel
theorem dX8_setTerminalCode_32 : decode cX8_setTerminalCode 32 = .ok (.iload_n 1, 1) := by decide +kernel
theorem dX8_setTerminalCode_33 : decode cX8_setTerminalCode 33 = .ok (.iload_n 2, 1) := by decide +kernel
theorem dX8_setTerminalCode_34 : decode cX8_setTerminalCode 34 = .ok (.iastore, 1) := by decide +kernel
theorem dX8_setTerminalCode_35 : decode cX8_setTerminalCode 35 = .ok (.iload_n 3, 1) := by decide +kernel

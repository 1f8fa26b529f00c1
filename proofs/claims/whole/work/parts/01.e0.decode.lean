theorem dX8_init_0 : decode cX8_init 0 = .ok (.aload_n 0, 1) := by decide +kernel
theorem dX8_init_1 : decode cX8_init 1 = .ok (.invokespecial 1, 3) := by decide +kernel
theorem dX8_init_4 : decode cX8_init 4 = .ok (.aload_n 0, 1) := by decide +kernel
theorem dX8_init_5 : decode cX8_init 5 = .ok (.bipush 120, 2) := by decide +kernel
theorem dX8_init_7 : decode cX8_init 7 = .ok (.newarray .int, 2) := by decide +kernel
theorem dX8_init_9 : decode cX8_init 9 = .ok (.putfield 7, 3) := by decide +kernel
theorem dX8_init_12 : decode cX8_init 12 = .ok (.aload_n 0, 1) := by decide +kernel
theorem dX8_init_13 : decode cX8_init 13 = .ok (.bipush 24, 2) := by decide +kernel
theorem dX8_init_15 : decode cX8_init 15 = .ok (.newarray .int, 2) := by decide +kernel
theorem dX8_init_17 : decode cX8_init 17 = .ok (.putfield 13, 3) := by decide +kernel
theorem dX8_init_20 : decode cX8_init 20 = .ok (.aload_n 0, 1) := by decide +kernel
theorem dX8_init_21 : decode cX8_init 21 = .ok (.bipush 24, 2) := by decide +kernel
theorem dX8_init_23 : decode cX8_init 23 = .ok (.newarray .int, 2) := by decide +kernel
theorem dX8_init_25 : decode cX8_init 25 = .ok (.putfield 16, 3) := by decide +kernel
theorem dX8_init_28 : decode cX8_init 28 = .ok (.aload_n 0, 1) := by decide +kernel
theorem dX8_init_29 : decode cX8_init 29 = .ok (.bipush 24, 2) := by decide +kernel
theorem dX8_init_31 : decode cX8_init 31 = .ok (.newarray .int, 2) := by decide +kernel
theorem dX8_init_33 : decode cX8_init 33 = .ok (.putfield 19, 3) := by decide +kernel
theorem dX8_init_36 : decode cX8_init 36 = .ok (.aload_n 0, 1) := by decide +kernel
theorem dX8_init_37 : decode cX8_init 37 = .ok (.bipush 24, 2) := by decide +kernel
theorem dX8_init_39 : decode cX8_init 39 = .ok (.newarray .int, 2) := by decide +kernel
theorem dX8_init_41 : decode cX8_init 41 = .ok (.putfield 22, 3) := by decide +kernel
theorem dX8_init_44 : decode cX8_init 44 = .ok (.aload_n 0, 1) := by decide +kernel
theorem dX8_init_45 : decode cX8_init 45 = .ok (.bipush 26, 2) := by decide +kernel
theorem dX8_init_47 : decode cX8_init 47 = .ok (.newarray .int, 2) := by decide +kernel
theorem dX8_init_49 : decode cX8_init 49 = .ok (.putfield 25, 3) := by decide +kernel
theorem dX8_init_52 : decode cX8_init 52 = .ok (.aload_n 0, 1) := by decide +kernel
theorem dX8_init_53 : decode cX8_init 53 = .ok (.bipush 96, 2) := by decide +kernel
theorem dX8_init_55 : decode cX8_init 55 = .ok (.newarray .int, 2) := by decide +kernel
theorem dX8_init_57 : decode cX8_init 57 = .ok (.putfield 28, 3) := by decide +kernel
theorem dX8_init_60 : decode cX8_init 60 = .ok (.aload_n 0, 1) := by decide +kernel
theorem dX8_init_61 : decode cX8_init 61 = .ok (.bipush 6, 2) := by decide +kernel
theorem dX8_init_63 : decode cX8_init 63 = .ok (.newarray .int, 2) := by decide +kernel
theorem dX8_init_65 : decode cX8_init 65 = .ok (.putfield 31, 3) := by decide +kernel
theorem dX8_init_68 : decode cX8_init 68 = .ok (.aload_n 0, 1) := by decide +kernel
theorem dX8_init_69 : decode cX8_init 69 = .ok (.bipush 6, 2) := by decide +kernel
theorem dX8_init_71 : decode cX8_init 71 = .ok (.newarray .int, 2) := by decide +kernel
theorem dX8_init_73 : decode cX8_init 73 = .ok (.putfield 34, 3) := by decide +kernel
theorem dX8_init_76 : decode cX8_init 76 = .ok (.aload_n 0, 1) := by decide +kernel
theorem dX8_init_77 : decode cX8_init 77 = .ok (.bipush 6, 2) := by decide +kernel
theorem dX8_init_79 : decode cX8_init 79 = .ok (.newarray .int, 2) := by decide +kernel
theorem dX8_init_81 : decode cX8_init 81 = .ok (.putfield 37, 3) := by decide +kernel
theorem dX8_init_84 : decode cX8_init 84 = .ok (.aload_n 0, 1) := by decide +kernel
theorem dX8_init_85 : decode cX8_init 85 = .ok (.iconst 3, 1) := by decide +kernel
theorem dX8_init_86 : decode cX8_init 86 = .ok (.newarray .int, 2) := by decide +kernel
theorem dX8_init_88 : decode cX8_init 88 = .ok (.putfield 40, 3) := by decide +kernel
theorem dX8_init_91 : decode cX8_init 91 = .ok (.aload_n 0, 1) := by decide +kernel
theorem dX8_init_92 : decode cX8_init 92 = .ok (.iconst 1, 1) := by decide +kernel
theorem dX8_init_93 : decode cX8_init 93 = .ok (.putfield 43, 3) := by decide +kernel
theorem dX8_init_96 : decode cX8_init 96 = .ok (.aload_n 0, 1) := by decide +kernel
theorem dX8_init_97 : decode cX8_init 97 = .ok (.bipush 80, 2) := by decide +kernel
theorem dX8_init_99 : decode cX8_init 99 = .ok (.newarray .int, 2) := by decide +kernel
theorem dX8_init_101 : decode cX8_init 101 = .ok (.putfield 47, 3) := by decide +kernel
theorem dX8_init_104 : decode cX8_init 104 = .ok (.aload_n 0, 1) := by decide +kernel
theorem dX8_init_105 : decode cX8_init 105 = .ok (.iconst 5, 1) := by decide +kernel
theorem dX8_init_106 : decode cX8_init 106 = .ok (.newarray .int, 2) := by decide +kernel
theorem dX8_init_108 : decode cX8_init 108 = .ok (.putfield 50, 3) := by decide +kernel
theorem dX8_init_111 : decode cX8_init 111 = .ok (.aload_n 0, 1) := by decide +kernel
theorem dX8_init_112 : decode cX8_init 112 = .ok (.iconst 5, 1) := by decide +kernel
theorem dX8_init_113 : decode cX8_init 113 = .ok (.newarray .int, 2) := by decide +kernel
theorem dX8_init_115 : decode cX8_init 115 = .ok (.putfield 53, 3) := by decide +kernel
theorem dX8_init_118 : decode cX8_init 118 = .ok (.aload_n 0, 1) := by decide +kernel
theorem dX8_init_119 : decode cX8_init 119 = .ok (.iconst 3, 1) := by decide +kernel
theorem dX8_init_120 : decode cX8_init 120 = .ok (.newarray .int, 2) := by decide +kernel
theorem dX8_init_122 : decode cX8_init 122 = .ok (.putfield 56, 3) := by decide +kernel
theorem dX8_init_125 : decode cX8_init 125 = .ok (.aload_n 0, 1) := by decide +kernel
theorem dX8_init_126 : decode cX8_init 126 = .ok (.sipush 5000, 3) := by decide +kernel
theorem dX8_init_129 : decode cX8_init 129 = .ok (.putfield 59, 3) := by decide +kernel
theorem dX8_init_132 : decode cX8_init 132 = .ok (.aload_n 0, 1) := by decide +kernel
theorem dX8_init_133 : decode cX8_init 133 = .ok (.iconst 2, 1) := by decide +kernel
theorem dX8_init_134 : decode cX8_init 134 = .ok (.putfield 63, 3) := by decide +kernel
theorem dX8_init_137 : decode cX8_init 137 = .ok (.aload_n 0, 1) := by decide +kernel
theorem dX8_init_138 : decode cX8_init 138 = .ok (.iconst 4, 1) := by decide +kernel
theorem dX8_init_139 : decode cX8_init 139 = .ok (.putfield 66, 3) := by decide +kernel
theorem dX8_init_142 : decode cX8_init 142 = .ok (.aload_n 0, 1) := by decide +kernel
theorem dX8_init_143 : decode cX8_init 143 = .ok (.iconst 1, 1) := by decide +kernel
theorem dX8_init_144 : decode cX8_init 144 = .ok (.putfield 69, 3) := by decide +kernel
theorem dX8_init_147 : decode cX8_init 147 = .ok (.aload_n 0, 1) := by decide +kernel
theorem dX8_init_148 : decode cX8_init 148 = .ok (.bipush (-4), 2) := by decide +kernel
theorem dX8_init_150 : decode cX8_init 150 = .ok (.putfield 72, 3) := by decide +kernel
theorem dX8_init_153 : decode cX8_init 153 = .ok (.aload_n 0, 1) := by decide +kernel
theorem dX8_init_154 : decode cX8_init 154 = .ok (.iconst 3, 1) := by decide +kernel
theorem dX8_init_155 : decode cX8_init 155 = .ok (.newarray .int, 2) := by decide +kernel
theorem dX8_init_157 : decode cX8_init 157 = .ok (.putfield 75, 3) := by decide +kernel
theorem dX8_init_160 : decode cX8_init 160 = .ok (.aload_n 0, 1) := by decide +kernel
theorem dX8_init_161 : decode cX8_init 161 = .ok (.iconst 4, 1) := by decide +kernel
theorem dX8_init_162 : decode cX8_init 162 = .ok (.newarray .int, 2) := by decide +kernel
theorem dX8_init_164 : decode cX8_init 164 = .ok (.putfield 78, 3) := by decide +kernel
theorem dX8_init_167 : decode cX8_init 167 = .ok (.aload_n 0, 1) := by decide +kernel
theorem dX8_init_168 : decode cX8_init 168 = .ok (.iconst 4, 1) := by decide +kernel
theorem dX8_init_169 : decode cX8_init 169 = .ok (.newarray .int, 2) := by decide +kernel
theorem dX8_init_171 : decode cX8_init 171 = .ok (.putfield 81, 3) := by decide +kernel
theorem dX8_init_174 : decode cX8_init 174 = .ok (.aload_n 0, 1) := by decide +kernel
theorem dX8_init_175 : decode cX8_init 175 = .ok (.bipush 6, 2) := by decide +kernel
theorem dX8_init_177 : decode cX8_init 177 = .ok (.newarray .int, 2) := by decide +kernel
theorem dX8_init_179 : decode cX8_init 179 = .ok (.putfield 84, 3) := by decide +kernel
theorem dX8_init_182 : decode cX8_init 182 = .ok (.aload_n 0, 1) := by decide +kernel
theorem dX8_init_183 : decode cX8_init 183 = .ok (.getfield 56, 3) := by decide +kernel
theorem dX8_init_186 : decode cX8_init 186 = .ok (.iconst 1, 1) := by decide +kernel
theorem dX8_init_187 : decode cX8_init 187 = .ok (.bipush 31, 2) := by decide +kernel
theorem dX8_init_189 : decode cX8_init 189 = .ok (.iastore, 1) := by decide +kernel
theorem dX8_init_190 : decode cX8_init 190 = .ok (.aload_n 0, 1) := by decide +kernel
theorem dX8_init_191 : decode cX8_init 191 = .ok (.getfield 56, 3) := by decide +kernel
theorem dX8_init_194 : decode cX8_init 194 = .ok (.iconst 2, 1) := by decide +kernel
theorem dX8_init_195 : decode cX8_init 195 = .ok (.bipush 8, 2) := by decide +kernel
theorem dX8_init_197 : decode cX8_init 197 = .ok (.iastore, 1) := by decide +kernel
theorem dX8_init_198 : decode cX8_init 198 = .ok (.return_, 1) := by decide +kernel
theorem dX8_in_0 : decode cX8_in 0 = .ok (.iload_n 0, 1) := by decide +kernel
theorem dX8_in_1 : decode cX8_in 1 = .ok (.iload_n 1, 1) := by decide +kernel
theorem dX8_in_2 : decode cX8_in 2 = .ok (.if_icmp .lt 12, 3) := by decide +kernel
theorem dX8_in_5 : decode cX8_in 5 = .ok (.iload_n 0, 1) := by decide +kernel
theorem dX8_in_6 : decode cX8_in 6 = .ok (.iload_n 2, 1) := by decide +kernel
theorem dX8_in_7 : decode cX8_in 7 = .ok (.if_icmp .gt 7, 3) := by decide +kernel
theorem dX8_in_10 : decode cX8_in 10 = .ok (.iconst 1, 1) := by decide +kernel
theorem dX8_in_11 : decode cX8_in 11 = .ok (.goto 4, 3) := by decide +kernel
theorem dX8_in_14 : decode cX8_in 14 = .ok (.iconst 0, 1) := by decide +kernel
theorem dX8_in_15 : decode cX8_in 15 = .ok (.ireturn, 1) := by decide +kernel
theorem dX8_appendByte_0 : decode cX8_appendByte 0 = .ok (.iload_n 1, 1) := by decide +kernel
theorem dX8_appendByte_1 : decode cX8_appendByte 1 = .ok (.iconst 0, 1) := by decide +kernel
theorem dX8_appendByte_2 : decode cX8_appendByte 2 = .ok (.sipush 255, 3) := by decide +kernel
theorem dX8_appendByte_5 : decode cX8_appendByte 5 = .ok (.invokestatic 87, 3) := by decide +kernel
theorem dX8_appendByte_8 : decode cX8_appendByte 8 = .ok (.ifCond .ne 5, 3) := by decide +kernel
theorem dX8_appendByte_11 : decode cX8_appendByte 11 = .ok (.iconst (-1), 1) := by decide +kernel
theorem dX8_appendByte_12 : decode cX8_appendByte 12 = .ok (.ireturn, 1) := by decide +kernel
theorem dX8_appendByte_13 : decode cX8_appendByte 13 = .ok (.aload_n 0, 1) := by decide +kernel
theorem dX8_appendByte_14 : decode cX8_appendByte 14 = .ok (.getfield 91, 3) := by decide +kernel
theorem dX8_appendByte_17 : decode cX8_appendByte 17 = .ok (.bipush 120, 2) := by decide +kernel
theorem dX8_appendByte_19 : decode cX8_appendByte 19 = .ok (.if_icmp .ne 6, 3) := by decide +kernel
theorem dX8_appendByte_22 : decode cX8_appendByte 22 = .ok (.bipush (-3), 2) := by decide +kernel
theorem dX8_appendByte_24 : decode cX8_appendByte 24 = .ok (.ireturn, 1) := by decide +kernel
theorem dX8_appendByte_25 : decode cX8_appendByte 25 = .ok (.aload_n 0, 1) := by decide +kernel
theorem dX8_appendByte_26 : decode cX8_appendByte 26 = .ok (.getfield 7, 3) := by decide +kernel
theorem dX8_appendByte_29 : decode cX8_appendByte 29 = .ok (.aload_n 0, 1) := by decide +kernel
theorem dX8_appendByte_30 : decode cX8_appendByte 30 = .ok (.getfield 91, 3) := by decide +kernel
theorem dX8_appendByte_33 : decode cX8_appendByte 33 = .ok (.iload_n 1, 1) := by decide +kernel
theorem dX8_appendByte_34 : decode cX8_appendByte 34 = .ok (.iastore, 1) := by decide +kernel
theorem dX8_appendByte_35 : decode cX8_appendByte 35 = .ok (.aload_n 0, 1) := by decide +kernel
theorem dX8_appendByte_36 : decode cX8_appendByte 36 = .ok (.dup, 1) := by decide +kernel
theorem dX8_appendByte_37 : decode cX8_appendByte 37 = .ok (.getfield 91, 3) := by decide +kernel
theorem dX8_appendByte_40 : decode cX8_appendByte 40 = .ok (.iconst 1, 1) := by decide +kernel
theorem dX8_appendByte_41 : decode cX8_appendByte 41 = .ok (.iadd, 1) := by decide +kernel
theorem dX8_appendByte_42 : decode cX8_appendByte 42 = .ok (.putfield 91, 3) := by decide +kernel
theorem dX8_appendByte_45 : decode cX8_appendByte 45 = .ok (.aload_n 0, 1) := by decide +kernel
theorem dX8_appendByte_46 : decode cX8_appendByte 46 = .ok (.getfield 91, 3) := by decide +kernel
theorem dX8_appendByte_49 : decode cX8_appendByte 49 = .ok (.ireturn, 1) := by decide +kernel
theorem dX8_clearBytes_0 : decode cX8_clearBytes 0 = .ok (.aload_n 0, 1) := by decide +kernel
theorem dX8_clearBytes_1 : decode cX8_clearBytes 1 = .ok (.getfield 91, 3) := by decide +kernel
theorem dX8_clearBytes_4 : decode cX8_clearBytes 4 = .ok (.istore_n 1, 1) := by decide +kernel
theorem dX8_clearBytes_5 : decode cX8_clearBytes 5 = .ok (.aload_n 0, 1) := by decide +kernel
theorem dX8_clearBytes_6 : decode cX8_clearBytes 6 = .ok (.iconst 0, 1) := by decide +kernel
theorem dX8_clearBytes_7 : decode cX8_clearBytes 7 = .ok (.putfield 91, 3) := by decide +kernel
theorem dX8_clearBytes_10 : decode cX8_clearBytes 10 = .ok (.iload_n 1, 1) := by decide +kernel
theorem dX8_clearBytes_11 : decode cX8_clearBytes 11 = .ok (.ireturn, 1) := by decide +kernel
theorem dX8_reads_0 : decode cX8_reads 0 = .ok (.aload_n 0, 1) := by decide +kernel
theorem dX8_reads_1 : decode cX8_reads 1 = .ok (.iconst 0, 1) := by decide +kernel
theorem dX8_reads_2 : decode cX8_reads 2 = .ok (.putfield 94, 3) := by decide +kernel
theorem dX8_reads_5 : decode cX8_reads 5 = .ok (.aload_n 0, 1) := by decide +kernel
theorem dX8_reads_6 : decode cX8_reads 6 = .ok (.getfield 25, 3) := by decide +kernel
theorem dX8_reads_9 : decode cX8_reads 9 = .ok (.iconst 0, 1) := by decide +kernel
theorem dX8_reads_10 : decode cX8_reads 10 = .ok (.aload_n 0, 1) := by decide +kernel
theorem dX8_reads_11 : decode cX8_reads 11 = .ok (.getfield 91, 3) := by decide +kernel
theorem dX8_reads_14 : decode cX8_reads 14 = .ok (.iastore, 1) := by decide +kernel
theorem dX8_reads_15 : decode cX8_reads 15 = .ok (.iconst 0, 1) := by decide +kernel
theorem dX8_reads_16 : decode cX8_reads 16 = .ok (.istore_n 1, 1) := by decide +kernel
theorem dX8_reads_17 : decode cX8_reads 17 = .ok (.iconst 0, 1) := by decide +kernel
theorem dX8_reads_18 : decode cX8_reads 18 = .ok (.istore_n 2, 1) := by decide +kernel
theorem dX8_reads_19 : decode cX8_reads 19 = .ok (.iload_n 1, 1) := by decide +kernel
theorem dX8_reads_20 : decode cX8_reads 20 = .ok (.ifCond .le 19, 3) := by decide +kernel
theorem dX8_reads_23 : decode cX8_reads 23 = .ok (.iload_n 2, 1) := by decide +kernel
theorem dX8_reads_24 : decode cX8_reads 24 = .ok (.aload_n 0, 1) := by decide +kernel
theorem dX8_reads_25 : decode cX8_reads 25 = .ok (.getfield 25, 3) := by decide +kernel
theorem dX8_reads_28 : decode cX8_reads 28 = .ok (.iload_n 1, 1) := by decide +kernel
theorem dX8_reads_29 : decode cX8_reads 29 = .ok (.iaload, 1) := by decide +kernel
theorem dX8_reads_30 : decode cX8_reads 30 = .ok (.if_icmp .ne 9, 3) := by decide +kernel
theorem dX8_reads_33 : decode cX8_reads 33 = .ok (.iinc 1 (-1), 3) := by decide +kernel
theorem dX8_reads_36 : decode cX8_reads 36 = .ok (.goto (-17), 3) := by decide +kernel
theorem dX8_reads_39 : decode cX8_reads 39 = .ok (.iload_n 2, 1) := by decide +kernel
theorem dX8_reads_40 : decode cX8_reads 40 = .ok (.aload_n 0, 1) := by decide +kernel
theorem dX8_reads_41 : decode cX8_reads 41 = .ok (.getfield 91, 3) := by decide +kernel
theorem dX8_reads_44 : decode cX8_reads 44 = .ok (.if_icmp .ne 6, 3) := by decide +kernel
theorem dX8_reads_47 : decode cX8_reads 47 = .ok (.bipush (-4), 2) := by decide +kernel
theorem dX8_reads_49 : decode cX8_reads 49 = .ok (.ireturn, 1) := by decide +kernel
theorem dX8_reads_50 : decode cX8_reads 50 = .ok (.aload_n 0, 1) := by decide +kernel
theorem dX8_reads_51 : decode cX8_reads 51 = .ok (.getfield 25, 3) := by decide +kernel
theorem dX8_reads_54 : decode cX8_reads 54 = .ok (.iload_n 1, 1) := by decide +kernel
theorem dX8_reads_55 : decode cX8_reads 55 = .ok (.iaload, 1) := by decide +kernel
theorem dX8_reads_56 : decode cX8_reads 56 = .ok (.istore_n 3, 1) := by decide +kernel
theorem dX8_reads_57 : decode cX8_reads 57 = .ok (.aload_n 0, 1) := by decide +kernel
theorem dX8_reads_58 : decode cX8_reads 58 = .ok (.getfield 94, 3) := by decide +kernel
theorem dX8_reads_61 : decode cX8_reads 61 = .ok (.bipush 24, 2) := by decide +kernel
theorem dX8_reads_63 : decode cX8_reads 63 = .ok (.if_icmp .ne 5, 3) := by decide +kernel
theorem dX8_reads_66 : decode cX8_reads 66 = .ok (.iload_n 2, 1) := by decide +kernel
theorem dX8_reads_67 : decode cX8_reads 67 = .ok (.ireturn, 1) := by decide +kernel
theorem dX8_reads_68 : decode cX8_reads 68 = .ok (.aload_n 0, 1) := by decide +kernel
theorem dX8_reads_69 : decode cX8_reads 69 = .ok (.getfield 7, 3) := by decide +kernel
theorem dX8_reads_72 : decode cX8_reads 72 = .ok (.iload_n 2, 1) := by decide +kernel
theorem dX8_reads_73 : decode cX8_reads 73 = .ok (.iaload, 1) := by decide +kernel
theorem dX8_reads_74 : decode cX8_reads 74 = .ok (.istore 4, 2) := by decide +kernel
theorem dX8_reads_76 : decode cX8_reads 76 = .ok (.iload 4, 2) := by decide +kernel
theorem dX8_reads_78 : decode cX8_reads 78 = .ok (.istore 5, 2) := by decide +kernel
theorem dX8_reads_80 : decode cX8_reads 80 = .ok (.iload_n 2, 1) := by decide +kernel
theorem dX8_reads_81 : decode cX8_reads 81 = .ok (.iconst 1, 1) := by decide +kernel
theorem dX8_reads_82 : decode cX8_reads 82 = .ok (.iadd, 1) := by decide +kernel
theorem dX8_reads_83 : decode cX8_reads 83 = .ok (.istore 6, 2) := by decide +kernel
theorem dX8_reads_85 : decode cX8_reads 85 = .ok (.iload 4, 2) := by decide +kernel
theorem dX8_reads_87 : decode cX8_reads 87 = .ok (.bipush 31, 2) := by decide +kernel
theorem dX8_reads_89 : decode cX8_reads 89 = .ok (.iand, 1) := by decide +kernel
theorem dX8_reads_90 : decode cX8_reads 90 = .ok (.bipush 31, 2) := by decide +kernel
theorem dX8_reads_92 : decode cX8_reads 92 = .ok (.if_icmp .ne 45, 3) := by decide +kernel
theorem dX8_reads_95 : decode cX8_reads 95 = .ok (.iload 6, 2) := by decide +kernel
theorem dX8_reads_97 : decode cX8_reads 97 = .ok (.iload_n 3, 1) := by decide +kernel
theorem dX8_reads_98 : decode cX8_reads 98 = .ok (.if_icmp .lt 5, 3) := by decide +kernel
theorem dX8_reads_101 : decode cX8_reads 101 = .ok (.iload_n 3, 1) := by decide +kernel
theorem dX8_reads_102 : decode cX8_reads 102 = .ok (.ireturn, 1) := by decide +kernel
theorem dX8_reads_103 : decode cX8_reads 103 = .ok (.aload_n 0, 1) := by decide +kernel
theorem dX8_reads_104 : decode cX8_reads 104 = .ok (.getfield 7, 3) := by decide +kernel
theorem dX8_reads_107 : decode cX8_reads 107 = .ok (.iload 6, 2) := by decide +kernel
theorem dX8_reads_109 : decode cX8_reads 109 = .ok (.iaload, 1) := by decide +kernel
theorem dX8_reads_110 : decode cX8_reads 110 = .ok (.bipush 127, 2) := by decide +kernel
theorem dX8_reads_112 : decode cX8_reads 112 = .ok (.if_icmp .le 6, 3) := by decide +kernel
theorem dX8_reads_115 : decode cX8_reads 115 = .ok (.iload 6, 2) := by decide +kernel
theorem dX8_reads_117 : decode cX8_reads 117 = .ok (.ireturn, 1) := by decide +kernel
theorem dX8_reads_118 : decode cX8_reads 118 = .ok (.sipush 256, 3) := by decide +kernel
theorem dX8_reads_121 : decode cX8_reads 121 = .ok (.iload 4, 2) := by decide +kernel
theorem dX8_reads_123 : decode cX8_reads 123 = .ok (.imul, 1) := by decide +kernel
theorem dX8_reads_124 : decode cX8_reads 124 = .ok (.aload_n 0, 1) := by decide +kernel
theorem dX8_reads_125 : decode cX8_reads 125 = .ok (.getfield 7, 3) := by decide +kernel
theorem dX8_reads_128 : decode cX8_reads 128 = .ok (.iload 6, 2) := by decide +kernel
theorem dX8_reads_130 : decode cX8_reads 130 = .ok (.iaload, 1) := by decide +kernel
theorem dX8_reads_131 : decode cX8_reads 131 = .ok (.iadd, 1) := by decide +kernel
theorem dX8_reads_132 : decode cX8_reads 132 = .ok (.istore 5, 2) := by decide +kernel
theorem dX8_reads_134 : decode cX8_reads 134 = .ok (.iinc 6 1, 3) := by decide +kernel
theorem dX8_reads_137 : decode cX8_reads 137 = .ok (.iload 6, 2) := by decide +kernel
theorem dX8_reads_139 : decode cX8_reads 139 = .ok (.iload_n 3, 1) := by decide +kernel
theorem dX8_reads_140 : decode cX8_reads 140 = .ok (.if_icmp .lt 5, 3) := by decide +kernel
theorem dX8_reads_143 : decode cX8_reads 143 = .ok (.iload_n 3, 1) := by decide +kernel
theorem dX8_reads_144 : decode cX8_reads 144 = .ok (.ireturn, 1) := by decide +kernel
theorem dX8_reads_145 : decode cX8_reads 145 = .ok (.iload 6, 2) := by decide +kernel
theorem dX8_reads_147 : decode cX8_reads 147 = .ok (.istore 7, 2) := by decide +kernel
theorem dX8_reads_149 : decode cX8_reads 149 = .ok (.aload_n 0, 1) := by decide +kernel
theorem dX8_reads_150 : decode cX8_reads 150 = .ok (.getfield 7, 3) := by decide +kernel
theorem dX8_reads_153 : decode cX8_reads 153 = .ok (.iload 6, 2) := by decide +kernel
theorem dX8_reads_155 : decode cX8_reads 155 = .ok (.iaload, 1) := by decide +kernel
theorem dX8_reads_156 : decode cX8_reads 156 = .ok (.istore 8, 2) := by decide +kernel
theorem dX8_reads_158 : decode cX8_reads 158 = .ok (.iinc 6 1, 3) := by decide +kernel
theorem dX8_reads_161 : decode cX8_reads 161 = .ok (.iload 8, 2) := by decide +kernel
theorem dX8_reads_163 : decode cX8_reads 163 = .ok (.sipush 129, 3) := by decide +kernel
theorem dX8_reads_166 : decode cX8_reads 166 = .ok (.if_icmp .ne 26, 3) := by decide +kernel
theorem dX8_reads_169 : decode cX8_reads 169 = .ok (.iload 6, 2) := by decide +kernel
theorem dX8_reads_171 : decode cX8_reads 171 = .ok (.iload_n 3, 1) := by decide +kernel
theorem dX8_reads_172 : decode cX8_reads 172 = .ok (.if_icmp .lt 5, 3) := by decide +kernel
theorem dX8_reads_175 : decode cX8_reads 175 = .ok (.iload_n 3, 1) := by decide +kernel
theorem dX8_reads_176 : decode cX8_reads 176 = .ok (.ireturn, 1) := by decide +kernel
theorem dX8_reads_177 : decode cX8_reads 177 = .ok (.aload_n 0, 1) := by decide +kernel
theorem dX8_reads_178 : decode cX8_reads 178 = .ok (.getfield 7, 3) := by decide +kernel
theorem dX8_reads_181 : decode cX8_reads 181 = .ok (.iload 6, 2) := by decide +kernel
theorem dX8_reads_183 : decode cX8_reads 183 = .ok (.iaload, 1) := by decide +kernel
theorem dX8_reads_184 : decode cX8_reads 184 = .ok (.istore 8, 2) := by decide +kernel
theorem dX8_reads_186 : decode cX8_reads 186 = .ok (.iinc 6 1, 3) := by decide +kernel
theorem dX8_reads_189 : decode cX8_reads 189 = .ok (.goto 13, 3) := by decide +kernel
theorem dX8_reads_192 : decode cX8_reads 192 = .ok (.iload 8, 2) := by decide +kernel
theorem dX8_reads_194 : decode cX8_reads 194 = .ok (.bipush 127, 2) := by decide +kernel
theorem dX8_reads_196 : decode cX8_reads 196 = .ok (.if_icmp .le 6, 3) := by decide +kernel
theorem dX8_reads_199 : decode cX8_reads 199 = .ok (.iload 7, 2) := by decide +kernel
theorem dX8_reads_201 : decode cX8_reads 201 = .ok (.ireturn, 1) := by decide +kernel
theorem dX8_reads_202 : decode cX8_reads 202 = .ok (.iload 6, 2) := by decide +kernel
theorem dX8_reads_204 : decode cX8_reads 204 = .ok (.iload 8, 2) := by decide +kernel
theorem dX8_reads_206 : decode cX8_reads 206 = .ok (.iadd, 1) := by decide +kernel
theorem dX8_reads_207 : decode cX8_reads 207 = .ok (.iload_n 3, 1) := by decide +kernel
theorem dX8_reads_208 : decode cX8_reads 208 = .ok (.if_icmp .le 6, 3) := by decide +kernel
theorem dX8_reads_211 : decode cX8_reads 211 = .ok (.iload 7, 2) := by decide +kernel
theorem dX8_reads_213 : decode cX8_reads 213 = .ok (.ireturn, 1) := by decide +kernel
theorem dX8_reads_214 : decode cX8_reads 214 = .ok (.aload_n 0, 1) := by decide +kernel
theorem dX8_reads_215 : decode cX8_reads 215 = .ok (.getfield 13, 3) := by decide +kernel
theorem dX8_reads_218 : decode cX8_reads 218 = .ok (.aload_n 0, 1) := by decide +kernel
theorem dX8_reads_219 : decode cX8_reads 219 = .ok (.getfield 94, 3) := by decide +kernel
theorem dX8_reads_222 : decode cX8_reads 222 = .ok (.iload 5, 2) := by decide +kernel
theorem dX8_reads_224 : decode cX8_reads 224 = .ok (.iastore, 1) := by decide +kernel
theorem dX8_reads_225 : decode cX8_reads 225 = .ok (.aload_n 0, 1) := by decide +kernel
theorem dX8_reads_226 : decode cX8_reads 226 = .ok (.getfield 16, 3) := by decide +kernel
theorem dX8_reads_229 : decode cX8_reads 229 = .ok (.aload_n 0, 1) := by decide +kernel
theorem dX8_reads_230 : decode cX8_reads 230 = .ok (.getfield 94, 3) := by decide +kernel
theorem dX8_reads_233 : decode cX8_reads 233 = .ok (.iload_n 1, 1) := by decide +kernel
theorem dX8_reads_234 : decode cX8_reads 234 = .ok (.iastore, 1) := by decide +kernel
theorem dX8_reads_235 : decode cX8_reads 235 = .ok (.aload_n 0, 1) := by decide +kernel
theorem dX8_reads_236 : decode cX8_reads 236 = .ok (.getfield 19, 3) := by decide +kernel
theorem dX8_reads_239 : decode cX8_reads 239 = .ok (.aload_n 0, 1) := by decide +kernel
theorem dX8_reads_240 : decode cX8_reads 240 = .ok (.getfield 94, 3) := by decide +kernel
theorem dX8_reads_243 : decode cX8_reads 243 = .ok (.iload 8, 2) := by decide +kernel
theorem dX8_reads_245 : decode cX8_reads 245 = .ok (.iastore, 1) := by decide +kernel
theorem dX8_reads_246 : decode cX8_reads 246 = .ok (.aload_n 0, 1) := by decide +kernel
theorem dX8_reads_247 : decode cX8_reads 247 = .ok (.getfield 22, 3) := by decide +kernel
theorem dX8_reads_250 : decode cX8_reads 250 = .ok (.aload_n 0, 1) := by decide +kernel
theorem dX8_reads_251 : decode cX8_reads 251 = .ok (.getfield 94, 3) := by decide +kernel
theorem dX8_reads_254 : decode cX8_reads 254 = .ok (.iload 6, 2) := by decide +kernel
theorem dX8_reads_256 : decode cX8_reads 256 = .ok (.iastore, 1) := by decide +kernel
theorem dX8_reads_257 : decode cX8_reads 257 = .ok (.aload_n 0, 1) := by decide +kernel
theorem dX8_reads_258 : decode cX8_reads 258 = .ok (.dup, 1) := by decide +kernel
theorem dX8_reads_259 : decode cX8_reads 259 = .ok (.getfield 94, 3) := by decide +kernel
theorem dX8_reads_262 : decode cX8_reads 262 = .ok (.iconst 1, 1) := by decide +kernel
theorem dX8_reads_263 : decode cX8_reads 263 = .ok (.iadd, 1) := by decide +kernel
theorem dX8_reads_264 : decode cX8_reads 264 = .ok (.putfield 94, 3) := by decide +kernel
theorem dX8_reads_267 : decode cX8_reads 267 = .ok (.iload 6, 2) := by decide +kernel
theorem dX8_reads_269 : decode cX8_reads 269 = .ok (.istore_n 2, 1) := by decide +kernel
theorem dX8_reads_270 : decode cX8_reads 270 = .ok (.iload 4, 2) := by decide +kernel
theorem dX8_reads_272 : decode cX8_reads 272 = .ok (.bipush 32, 2) := by decide +kernel
theorem dX8_reads_274 : decode cX8_reads 274 = .ok (.iand, 1) := by decide +kernel
theorem dX8_reads_275 : decode cX8_reads 275 = .ok (.bipush 32, 2) := by decide +kernel
theorem dX8_reads_277 : decode cX8_reads 277 = .ok (.if_icmp .ne 20, 3) := by decide +kernel
theorem dX8_reads_280 : decode cX8_reads 280 = .ok (.iinc 1 1, 3) := by decide +kernel
theorem dX8_reads_283 : decode cX8_reads 283 = .ok (.aload_n 0, 1) := by decide +kernel
theorem dX8_reads_284 : decode cX8_reads 284 = .ok (.getfield 25, 3) := by decide +kernel
theorem dX8_reads_287 : decode cX8_reads 287 = .ok (.iload_n 1, 1) := by decide +kernel
theorem dX8_reads_288 : decode cX8_reads 288 = .ok (.iload 6, 2) := by decide +kernel
theorem dX8_reads_290 : decode cX8_reads 290 = .ok (.iload 8, 2) := by decide +kernel
theorem dX8_reads_292 : decode cX8_reads 292 = .ok (.iadd, 1) := by decide +kernel
theorem dX8_reads_293 : decode cX8_reads 293 = .ok (.iastore, 1) := by decide +kernel
theorem dX8_reads_294 : decode cX8_reads 294 = .ok (.goto 8, 3) := by decide +kernel
theorem dX8_reads_297 : decode cX8_reads 297 = .ok (.iload_n 2, 1) := by decide +kernel
theorem dX8_reads_298 : decode cX8_reads 298 = .ok (.iload 8, 2) := by decide +kernel
theorem dX8_reads_300 : decode cX8_reads 300 = .ok (.iadd, 1) := by decide +kernel
theorem dX8_reads_301 : decode cX8_reads 301 = .ok (.istore_n 2, 1) := by decide +kernel
theorem dX8_reads_302 : decode cX8_reads 302 = .ok (.goto (-283), 3) := by decide +kernel
theorem dX8_errorOffset_0 : decode cX8_errorOffset 0 = .ok (.aload_n 0, 1) := by decide +kernel
theorem dX8_errorOffset_1 : decode cX8_errorOffset 1 = .ok (.invokevirtual 97, 3) := by decide +kernel
theorem dX8_errorOffset_4 : decode cX8_errorOffset 4 = .ok (.ireturn, 1) := by decide +kernel
theorem dX8_objectCount_0 : decode cX8_objectCount 0 = .ok (.aload_n 0, 1) := by decide +kernel
theorem dX8_objectCount_1 : decode cX8_objectCount 1 = .ok (.invokevirtual 97, 3) := by decide +kernel
theorem dX8_objectCount_4 : decode cX8_objectCount 4 = .ok (.bipush (-4), 2) := by decide +kernel
theorem dX8_objectCount_6 : decode cX8_objectCount 6 = .ok (.if_icmp .ne 10, 3) := by decide +kernel
theorem dX8_objectCount_9 : decode cX8_objectCount 9 = .ok (.aload_n 0, 1) := by decide +kernel
theorem dX8_objectCount_10 : decode cX8_objectCount 10 = .ok (.getfield 94, 3) := by decide +kernel
theorem dX8_objectCount_13 : decode cX8_objectCount 13 = .ok (.goto 5, 3) := by decide +kernel
theorem dX8_objectCount_16 : decode cX8_objectCount 16 = .ok (.bipush (-2), 2) := by decide +kernel
theorem dX8_objectCount_18 : decode cX8_objectCount 18 = .ok (.ireturn, 1) := by decide +kernel
theorem dX8_errorOf_0 : decode cX8_errorOf 0 = .ok (.iload_n 1, 1) := by decide +kernel
theorem dX8_errorOf_1 : decode cX8_errorOf 1 = .ok (.ifCond .ge 5, 3) := by decide +kernel
theorem dX8_errorOf_4 : decode cX8_errorOf 4 = .ok (.iconst (-1), 1) := by decide +kernel
theorem dX8_errorOf_5 : decode cX8_errorOf 5 = .ok (.ireturn, 1) := by decide +kernel
theorem dX8_errorOf_6 : decode cX8_errorOf 6 = .ok (.aload_n 0, 1) := by decide +kernel
theorem dX8_errorOf_7 : decode cX8_errorOf 7 = .ok (.invokevirtual 97, 3) := by decide +kernel
theorem dX8_errorOf_10 : decode cX8_errorOf 10 = .ok (.bipush (-4), 2) := by decide +kernel
theorem dX8_errorOf_12 : decode cX8_errorOf 12 = .ok (.if_icmp .eq 6, 3) := by decide +kernel
theorem dX8_errorOf_15 : decode cX8_errorOf 15 = .ok (.bipush (-2), 2) := by decide +kernel
theorem dX8_errorOf_17 : decode cX8_errorOf 17 = .ok (.ireturn, 1) := by decide +kernel
theorem dX8_errorOf_18 : decode cX8_errorOf 18 = .ok (.iload_n 1, 1) := by decide +kernel
theorem dX8_errorOf_19 : decode cX8_errorOf 19 = .ok (.aload_n 0, 1) := by decide +kernel
theorem dX8_errorOf_20 : decode cX8_errorOf 20 = .ok (.getfield 94, 3) := by decide +kernel
theorem dX8_errorOf_23 : decode cX8_errorOf 23 = .ok (.if_icmp .ge 7, 3) := by decide +kernel
theorem dX8_errorOf_26 : decode cX8_errorOf 26 = .ok (.iconst 0, 1) := by decide +kernel
theorem dX8_errorOf_27 : decode cX8_errorOf 27 = .ok (.goto 5, 3) := by decide +kernel
theorem dX8_errorOf_30 : decode cX8_errorOf 30 = .ok (.bipush (-4), 2) := by decide +kernel
theorem dX8_errorOf_32 : decode cX8_errorOf 32 = .ok (.ireturn, 1) := by decide +kernel
theorem dX8_objectTag_0 : decode cX8_objectTag 0 = .ok (.aload_n 0, 1) := by decide +kernel
theorem dX8_objectTag_1 : decode cX8_objectTag 1 = .ok (.iload_n 1, 1) := by decide +kernel
theorem dX8_objectTag_2 : decode cX8_objectTag 2 = .ok (.invokevirtual 101, 3) := by decide +kernel
theorem dX8_objectTag_5 : decode cX8_objectTag 5 = .ok (.istore_n 2, 1) := by decide +kernel
theorem dX8_objectTag_6 : decode cX8_objectTag 6 = .ok (.iload_n 2, 1) := by decide +kernel
theorem dX8_objectTag_7 : decode cX8_objectTag 7 = .ok (.ifCond .ne 12, 3) := by decide +kernel
theorem dX8_objectTag_10 : decode cX8_objectTag 10 = .ok (.aload_n 0, 1) := by decide +kernel
theorem dX8_objectTag_11 : decode cX8_objectTag 11 = .ok (.getfield 13, 3) := by decide +kernel
theorem dX8_objectTag_14 : decode cX8_objectTag 14 = .ok (.iload_n 1, 1) := by decide +kernel
theorem dX8_objectTag_15 : decode cX8_objectTag 15 = .ok (.iaload, 1) := by decide +kernel
theorem dX8_objectTag_16 : decode cX8_objectTag 16 = .ok (.goto 4, 3) := by decide +kernel
theorem dX8_objectTag_19 : decode cX8_objectTag 19 = .ok (.iload_n 2, 1) := by decide +kernel
theorem dX8_objectTag_20 : decode cX8_objectTag 20 = .ok (.ireturn, 1) := by decide +kernel
theorem dX8_objectDepth_0 : decode cX8_objectDepth 0 = .ok (.aload_n 0, 1) := by decide +kernel
theorem dX8_objectDepth_1 : decode cX8_objectDepth 1 = .ok (.iload_n 1, 1) := by decide +kernel
theorem dX8_objectDepth_2 : decode cX8_objectDepth 2 = .ok (.invokevirtual 101, 3) := by decide +kernel
theorem dX8_objectDepth_5 : decode cX8_objectDepth 5 = .ok (.istore_n 2, 1) := by decide +kernel
theorem dX8_objectDepth_6 : decode cX8_objectDepth 6 = .ok (.iload_n 2, 1) := by decide +kernel
theorem dX8_objectDepth_7 : decode cX8_objectDepth 7 = .ok (.ifCond .ne 12, 3) := by decide +kernel
theorem dX8_objectDepth_10 : decode cX8_objectDepth 10 = .ok (.aload_n 0, 1) := by decide +kernel
theorem dX8_objectDepth_11 : decode cX8_objectDepth 11 = .ok (.getfield 16, 3) := by decide +kernel
theorem dX8_objectDepth_14 : decode cX8_objectDepth 14 = .ok (.iload_n 1, 1) := by decide +kernel
theorem dX8_objectDepth_15 : decode cX8_objectDepth 15 = .ok (.iaload, 1) := by decide +kernel
theorem dX8_objectDepth_16 : decode cX8_objectDepth 16 = .ok (.goto 4, 3) := by decide +kernel
theorem dX8_objectDepth_19 : decode cX8_objectDepth 19 = .ok (.iload_n 2, 1) := by decide +kernel
theorem dX8_objectDepth_20 : decode cX8_objectDepth 20 = .ok (.ireturn, 1) := by decide +kernel
theorem dX8_objectLength_0 : decode cX8_objectLength 0 = .ok (.aload_n 0, 1) := by decide +kernel
theorem dX8_objectLength_1 : decode cX8_objectLength 1 = .ok (.iload_n 1, 1) := by decide +kernel
theorem dX8_objectLength_2 : decode cX8_objectLength 2 = .ok (.invokevirtual 101, 3) := by decide +kernel
theorem dX8_objectLength_5 : decode cX8_objectLength 5 = .ok (.istore_n 2, 1) := by decide +kernel
theorem dX8_objectLength_6 : decode cX8_objectLength 6 = .ok (.iload_n 2, 1) := by decide +kernel
theorem dX8_objectLength_7 : decode cX8_objectLength 7 = .ok (.ifCond .ne 12, 3) := by decide +kernel
theorem dX8_objectLength_10 : decode cX8_objectLength 10 = .ok (.aload_n 0, 1) := by decide +kernel
theorem dX8_objectLength_11 : decode cX8_objectLength 11 = .ok (.getfield 19, 3) := by decide +kernel
theorem dX8_objectLength_14 : decode cX8_objectLength 14 = .ok (.iload_n 1, 1) := by decide +kernel
theorem dX8_objectLength_15 : decode cX8_objectLength 15 = .ok (.iaload, 1) := by decide +kernel
theorem dX8_objectLength_16 : decode cX8_objectLength 16 = .ok (.goto 4, 3) := by decide +kernel
theorem dX8_objectLength_19 : decode cX8_objectLength 19 = .ok (.iload_n 2, 1) := by decide +kernel
theorem dX8_objectLength_20 : decode cX8_objectLength 20 = .ok (.ireturn, 1) := by decide +kernel
theorem dX8_findObject_0 : decode cX8_findObject 0 = .ok (.iload_n 1, 1) := by decide +kernel
theorem dX8_findObject_1 : decode cX8_findObject 1 = .ok (.ifCond .lt 7, 3) := by decide +kernel
theorem dX8_findObject_4 : decode cX8_findObject 4 = .ok (.iload_n 2, 1) := by decide +kernel
theorem dX8_findObject_5 : decode cX8_findObject 5 = .ok (.ifCond .ge 5, 3) := by decide +kernel
theorem dX8_findObject_8 : decode cX8_findObject 8 = .ok (.iconst (-1), 1) := by decide +kernel
theorem dX8_findObject_9 : decode cX8_findObject 9 = .ok (.ireturn, 1) := by decide +kernel
theorem dX8_findObject_10 : decode cX8_findObject 10 = .ok (.aload_n 0, 1) := by decide +kernel
theorem dX8_findObject_11 : decode cX8_findObject 11 = .ok (.invokevirtual 97, 3) := by decide +kernel
theorem dX8_findObject_14 : decode cX8_findObject 14 = .ok (.bipush (-4), 2) := by decide +kernel
theorem dX8_findObject_16 : decode cX8_findObject 16 = .ok (.if_icmp .eq 6, 3) := by decide +kernel
theorem dX8_findObject_19 : decode cX8_findObject 19 = .ok (.bipush (-2), 2) := by decide +kernel
theorem dX8_findObject_21 : decode cX8_findObject 21 = .ok (.ireturn, 1) := by decide +kernel
theorem dX8_findObject_22 : decode cX8_findObject 22 = .ok (.iload_n 2, 1) := by decide +kernel
theorem dX8_findObject_23 : decode cX8_findObject 23 = .ok (.istore_n 3, 1) := by decide +kernel
theorem dX8_findObject_24 : decode cX8_findObject 24 = .ok (.iload_n 3, 1) := by decide +kernel
theorem dX8_findObject_25 : decode cX8_findObject 25 = .ok (.aload_n 0, 1) := by decide +kernel
theorem dX8_findObject_26 : decode cX8_findObject 26 = .ok (.getfield 94, 3) := by decide +kernel
theorem dX8_findObject_29 : decode cX8_findObject 29 = .ok (.if_icmp .ge 21, 3) := by decide +kernel
theorem dX8_findObject_32 : decode cX8_findObject 32 = .ok (.aload_n 0, 1) := by decide +kernel
theorem dX8_findObject_33 : decode cX8_findObject 33 = .ok (.getfield 13, 3) := by decide +kernel
theorem dX8_findObject_36 : decode cX8_findObject 36 = .ok (.iload_n 3, 1) := by decide +kernel
theorem dX8_findObject_37 : decode cX8_findObject 37 = .ok (.iaload, 1) := by decide +kernel
theorem dX8_findObject_38 : decode cX8_findObject 38 = .ok (.iload_n 1, 1) := by decide +kernel
theorem dX8_findObject_39 : decode cX8_findObject 39 = .ok (.if_icmp .ne 5, 3) := by decide +kernel
theorem dX8_findObject_42 : decode cX8_findObject 42 = .ok (.iload_n 3, 1) := by decide +kernel
theorem dX8_findObject_43 : decode cX8_findObject 43 = .ok (.ireturn, 1) := by decide +kernel
theorem dX8_findObject_44 : decode cX8_findObject 44 = .ok (.iinc 3 1, 3) := by decide +kernel
theorem dX8_findObject_47 : decode cX8_findObject 47 = .ok (.goto (-23), 3) := by decide +kernel
theorem dX8_findObject_50 : decode cX8_findObject 50 = .ok (.bipush (-4), 2) := by decide +kernel
theorem dX8_findObject_52 : decode cX8_findObject 52 = .ok (.ireturn, 1) := by decide +kernel
theorem dX8_nameOf_0 : decode cX8_nameOf 0 = .ok (.bipush (-4), 2) := by decide +kernel
theorem dX8_nameOf_2 : decode cX8_nameOf 2 = .ok (.istore_n 2, 1) := by decide +kernel
theorem dX8_nameOf_3 : decode cX8_nameOf 3 = .ok (.iconst 0, 1) := by decide +kernel
theorem dX8_nameOf_4 : decode cX8_nameOf 4 = .ok (.istore_n 3, 1) := by decide +kernel
theorem dX8_nameOf_5 : decode cX8_nameOf 5 = .ok (.iload_n 1, 1) := by decide +kernel
theorem dX8_nameOf_6 : decode cX8_nameOf 6 = .ok (.iconst 1, 1) := by decide +kernel
theorem dX8_nameOf_7 : decode cX8_nameOf 7 = .ok (.iadd, 1) := by decide +kernel
theorem dX8_nameOf_8 : decode cX8_nameOf 8 = .ok (.istore 4, 2) := by decide +kernel
theorem dX8_nameOf_10 : decode cX8_nameOf 10 = .ok (.iload 4, 2) := by decide +kernel
theorem dX8_nameOf_12 : decode cX8_nameOf 12 = .ok (.aload_n 0, 1) := by decide +kernel
theorem dX8_nameOf_13 : decode cX8_nameOf 13 = .ok (.getfield 94, 3) := by decide +kernel
theorem dX8_nameOf_16 : decode cX8_nameOf 16 = .ok (.if_icmp .ge 103, 3) := by decide +kernel
theorem dX8_nameOf_19 : decode cX8_nameOf 19 = .ok (.aload_n 0, 1) := by decide +kernel
theorem dX8_nameOf_20 : decode cX8_nameOf 20 = .ok (.getfield 16, 3) := by decide +kernel
theorem dX8_nameOf_23 : decode cX8_nameOf 23 = .ok (.iload 4, 2) := by decide +kernel
theorem dX8_nameOf_25 : decode cX8_nameOf 25 = .ok (.iaload, 1) := by decide +kernel
theorem dX8_nameOf_26 : decode cX8_nameOf 26 = .ok (.aload_n 0, 1) := by decide +kernel
theorem dX8_nameOf_27 : decode cX8_nameOf 27 = .ok (.getfield 16, 3) := by decide +kernel
theorem dX8_nameOf_30 : decode cX8_nameOf 30 = .ok (.iload_n 1, 1) := by decide +kernel
theorem dX8_nameOf_31 : decode cX8_nameOf 31 = .ok (.iaload, 1) := by decide +kernel
theorem dX8_nameOf_32 : decode cX8_nameOf 32 = .ok (.if_icmp .le 87, 3) := by decide +kernel
theorem dX8_nameOf_35 : decode cX8_nameOf 35 = .ok (.aload_n 0, 1) := by decide +kernel
theorem dX8_nameOf_36 : decode cX8_nameOf 36 = .ok (.getfield 16, 3) := by decide +kernel
theorem dX8_nameOf_39 : decode cX8_nameOf 39 = .ok (.iload 4, 2) := by decide +kernel
theorem dX8_nameOf_41 : decode cX8_nameOf 41 = .ok (.iaload, 1) := by decide +kernel
theorem dX8_nameOf_42 : decode cX8_nameOf 42 = .ok (.aload_n 0, 1) := by decide +kernel
theorem dX8_nameOf_43 : decode cX8_nameOf 43 = .ok (.getfield 16, 3) := by decide +kernel
theorem dX8_nameOf_46 : decode cX8_nameOf 46 = .ok (.iload_n 1, 1) := by decide +kernel

theorem dX7_init_0 : decode cX7_init 0 = .ok (.aload_n 0, 1) := by decide +kernel
theorem dX7_init_1 : decode cX7_init 1 = .ok (.invokespecial 1, 3) := by decide +kernel
theorem dX7_init_4 : decode cX7_init 4 = .ok (.aload_n 0, 1) := by decide +kernel
theorem dX7_init_5 : decode cX7_init 5 = .ok (.new 7, 3) := by decide +kernel
theorem dX7_init_8 : decode cX7_init 8 = .ok (.dup, 1) := by decide +kernel
theorem dX7_init_9 : decode cX7_init 9 = .ok (.invokespecial 9, 3) := by decide +kernel
theorem dX7_init_12 : decode cX7_init 12 = .ok (.putfield 10, 3) := by decide +kernel
theorem dX7_init_15 : decode cX7_init 15 = .ok (.aload_n 0, 1) := by decide +kernel
theorem dX7_init_16 : decode cX7_init 16 = .ok (.new 16, 3) := by decide +kernel
theorem dX7_init_19 : decode cX7_init 19 = .ok (.dup, 1) := by decide +kernel
theorem dX7_init_20 : decode cX7_init 20 = .ok (.invokespecial 18, 3) := by decide +kernel
theorem dX7_init_23 : decode cX7_init 23 = .ok (.putfield 19, 3) := by decide +kernel
theorem dX7_init_26 : decode cX7_init 26 = .ok (.aload_n 0, 1) := by decide +kernel
theorem dX7_init_27 : decode cX7_init 27 = .ok (.new 23, 3) := by decide +kernel
theorem dX7_init_30 : decode cX7_init 30 = .ok (.dup, 1) := by decide +kernel
theorem dX7_init_31 : decode cX7_init 31 = .ok (.invokespecial 25, 3) := by decide +kernel
theorem dX7_init_34 : decode cX7_init 34 = .ok (.putfield 26, 3) := by decide +kernel
theorem dX7_init_37 : decode cX7_init 37 = .ok (.aload_n 0, 1) := by decide +kernel
theorem dX7_init_38 : decode cX7_init 38 = .ok (.new 30, 3) := by decide +kernel
theorem dX7_init_41 : decode cX7_init 41 = .ok (.dup, 1) := by decide +kernel
theorem dX7_init_42 : decode cX7_init 42 = .ok (.invokespecial 32, 3) := by decide +kernel
theorem dX7_init_45 : decode cX7_init 45 = .ok (.putfield 33, 3) := by decide +kernel
theorem dX7_init_48 : decode cX7_init 48 = .ok (.aload_n 0, 1) := by decide +kernel
theorem dX7_init_49 : decode cX7_init 49 = .ok (.new 37, 3) := by decide +kernel
theorem dX7_init_52 : decode cX7_init 52 = .ok (.dup, 1) := by decide +kernel
theorem dX7_init_53 : decode cX7_init 53 = .ok (.invokespecial 39, 3) := by decide +kernel
theorem dX7_init_56 : decode cX7_init 56 = .ok (.putfield 40, 3) := by decide +kernel
theorem dX7_init_59 : decode cX7_init 59 = .ok (.aload_n 0, 1) := by decide +kernel
theorem dX7_init_60 : decode cX7_init 60 = .ok (.new 44, 3) := by decide +kernel
theorem dX7_init_63 : decode cX7_init 63 = .ok (.dup, 1) := by decide +kernel
theorem dX7_init_64 : decode cX7_init 64 = .ok (.invokespecial 46, 3) := by decide +kernel
theorem dX7_init_67 : decode cX7_init 67 = .ok (.putfield 47, 3) := by decide +kernel
theorem dX7_init_70 : decode cX7_init 70 = .ok (.return_, 1) := by decide +kernel
theorem dX7_appendByte_0 : decode cX7_appendByte 0 = .ok (.iload_n 1, 1) := by decide +kernel
theorem dX7_appendByte_1 : decode cX7_appendByte 1 = .ok (.ifCond .lt 10, 3) := by decide +kernel
theorem dX7_appendByte_4 : decode cX7_appendByte 4 = .ok (.iload_n 1, 1) := by decide +kernel
theorem dX7_appendByte_5 : decode cX7_appendByte 5 = .ok (.sipush 255, 3) := by decide +kernel
theorem dX7_appendByte_8 : decode cX7_appendByte 8 = .ok (.if_icmp .le 5, 3) := by decide +kernel
theorem dX7_appendByte_11 : decode cX7_appendByte 11 = .ok (.iconst (-1), 1) := by decide +kernel
theorem dX7_appendByte_12 : decode cX7_appendByte 12 = .ok (.ireturn, 1) := by decide +kernel
theorem dX7_appendByte_13 : decode cX7_appendByte 13 = .ok (.aload_n 0, 1) := by decide +kernel
theorem dX7_appendByte_14 : decode cX7_appendByte 14 = .ok (.getfield 10, 3) := by decide +kernel
theorem dX7_appendByte_17 : decode cX7_appendByte 17 = .ok (.getfield 51, 3) := by decide +kernel
theorem dX7_appendByte_20 : decode cX7_appendByte 20 = .ok (.bipush 120, 2) := by decide +kernel
theorem dX7_appendByte_22 : decode cX7_appendByte 22 = .ok (.if_icmp .lt 6, 3) := by decide +kernel
theorem dX7_appendByte_25 : decode cX7_appendByte 25 = .ok (.bipush (-3), 2) := by decide +kernel
theorem dX7_appendByte_27 : decode cX7_appendByte 27 = .ok (.ireturn, 1) := by decide +kernel
theorem dX7_appendByte_28 : decode cX7_appendByte 28 = .ok (.aload_n 0, 1) := by decide +kernel
theorem dX7_appendByte_29 : decode cX7_appendByte 29 = .ok (.getfield 10, 3) := by decide +kernel
theorem dX7_appendByte_32 : decode cX7_appendByte 32 = .ok (.iload_n 1, 1) := by decide +kernel
theorem dX7_appendByte_33 : decode cX7_appendByte 33 = .ok (.invokevirtual 55, 3) := by decide +kernel
theorem dX7_appendByte_36 : decode cX7_appendByte 36 = .ok (.aload_n 0, 1) := by decide +kernel
theorem dX7_appendByte_37 : decode cX7_appendByte 37 = .ok (.getfield 10, 3) := by decide +kernel
theorem dX7_appendByte_40 : decode cX7_appendByte 40 = .ok (.getfield 51, 3) := by decide +kernel
theorem dX7_appendByte_43 : decode cX7_appendByte 43 = .ok (.ireturn, 1) := by decide +kernel
theorem dX7_clearBytes_0 : decode cX7_clearBytes 0 = .ok (.aload_n 0, 1) := by decide +kernel
theorem dX7_clearBytes_1 : decode cX7_clearBytes 1 = .ok (.getfield 10, 3) := by decide +kernel
theorem dX7_clearBytes_4 : decode cX7_clearBytes 4 = .ok (.getfield 51, 3) := by decide +kernel
theorem dX7_clearBytes_7 : decode cX7_clearBytes 7 = .ok (.istore_n 1, 1) := by decide +kernel
theorem dX7_clearBytes_8 : decode cX7_clearBytes 8 = .ok (.aload_n 0, 1) := by decide +kernel
theorem dX7_clearBytes_9 : decode cX7_clearBytes 9 = .ok (.getfield 10, 3) := by decide +kernel
theorem dX7_clearBytes_12 : decode cX7_clearBytes 12 = .ok (.iconst 0, 1) := by decide +kernel
theorem dX7_clearBytes_13 : decode cX7_clearBytes 13 = .ok (.putfield 51, 3) := by decide +kernel
theorem dX7_clearBytes_16 : decode cX7_clearBytes 16 = .ok (.iload_n 1, 1) := by decide +kernel
theorem dX7_clearBytes_17 : decode cX7_clearBytes 17 = .ok (.ireturn, 1) := by decide +kernel
theorem dX7_errorOffset_0 : decode cX7_errorOffset 0 = .ok (.aload_n 0, 1) := by decide +kernel
theorem dX7_errorOffset_1 : decode cX7_errorOffset 1 = .ok (.getfield 19, 3) := by decide +kernel
theorem dX7_errorOffset_4 : decode cX7_errorOffset 4 = .ok (.aload_n 0, 1) := by decide +kernel
theorem dX7_errorOffset_5 : decode cX7_errorOffset 5 = .ok (.getfield 10, 3) := by decide +kernel
theorem dX7_errorOffset_8 : decode cX7_errorOffset 8 = .ok (.invokevirtual 59, 3) := by decide +kernel
theorem dX7_errorOffset_11 : decode cX7_errorOffset 11 = .ok (.aload_n 0, 1) := by decide +kernel
theorem dX7_errorOffset_12 : decode cX7_errorOffset 12 = .ok (.getfield 19, 3) := by decide +kernel
theorem dX7_errorOffset_15 : decode cX7_errorOffset 15 = .ok (.invokevirtual 63, 3) := by decide +kernel
theorem dX7_errorOffset_18 : decode cX7_errorOffset 18 = .ok (.ifCond .eq 13, 3) := by decide +kernel
theorem dX7_errorOffset_21 : decode cX7_errorOffset 21 = .ok (.aload_n 0, 1) := by decide +kernel
theorem dX7_errorOffset_22 : decode cX7_errorOffset 22 = .ok (.getfield 19, 3) := by decide +kernel
theorem dX7_errorOffset_25 : decode cX7_errorOffset 25 = .ok (.getfield 67, 3) := by decide +kernel
theorem dX7_errorOffset_28 : decode cX7_errorOffset 28 = .ok (.goto 5, 3) := by decide +kernel
theorem dX7_errorOffset_31 : decode cX7_errorOffset 31 = .ok (.bipush (-4), 2) := by decide +kernel
theorem dX7_errorOffset_33 : decode cX7_errorOffset 33 = .ok (.ireturn, 1) := by decide +kernel
theorem dX7_objectCount_0 : decode cX7_objectCount 0 = .ok (.aload_n 0, 1) := by decide +kernel
theorem dX7_objectCount_1 : decode cX7_objectCount 1 = .ok (.getfield 19, 3) := by decide +kernel
theorem dX7_objectCount_4 : decode cX7_objectCount 4 = .ok (.aload_n 0, 1) := by decide +kernel
theorem dX7_objectCount_5 : decode cX7_objectCount 5 = .ok (.getfield 10, 3) := by decide +kernel
theorem dX7_objectCount_8 : decode cX7_objectCount 8 = .ok (.invokevirtual 59, 3) := by decide +kernel
theorem dX7_objectCount_11 : decode cX7_objectCount 11 = .ok (.aload_n 0, 1) := by decide +kernel
theorem dX7_objectCount_12 : decode cX7_objectCount 12 = .ok (.getfield 19, 3) := by decide +kernel
theorem dX7_objectCount_15 : decode cX7_objectCount 15 = .ok (.invokevirtual 63, 3) := by decide +kernel
theorem dX7_objectCount_18 : decode cX7_objectCount 18 = .ok (.ifCond .eq 8, 3) := by decide +kernel
theorem dX7_objectCount_21 : decode cX7_objectCount 21 = .ok (.bipush (-2), 2) := by decide +kernel
theorem dX7_objectCount_23 : decode cX7_objectCount 23 = .ok (.goto 10, 3) := by decide +kernel
theorem dX7_objectCount_26 : decode cX7_objectCount 26 = .ok (.aload_n 0, 1) := by decide +kernel
theorem dX7_objectCount_27 : decode cX7_objectCount 27 = .ok (.getfield 19, 3) := by decide +kernel
theorem dX7_objectCount_30 : decode cX7_objectCount 30 = .ok (.getfield 70, 3) := by decide +kernel
theorem dX7_objectCount_33 : decode cX7_objectCount 33 = .ok (.ireturn, 1) := by decide +kernel
theorem dX7_objectTag_0 : decode cX7_objectTag 0 = .ok (.aload_n 0, 1) := by decide +kernel
theorem dX7_objectTag_1 : decode cX7_objectTag 1 = .ok (.iload_n 1, 1) := by decide +kernel
theorem dX7_objectTag_2 : decode cX7_objectTag 2 = .ok (.invokevirtual 73, 3) := by decide +kernel
theorem dX7_objectTag_5 : decode cX7_objectTag 5 = .ok (.istore_n 2, 1) := by decide +kernel
theorem dX7_objectTag_6 : decode cX7_objectTag 6 = .ok (.iload_n 2, 1) := by decide +kernel
theorem dX7_objectTag_7 : decode cX7_objectTag 7 = .ok (.ifCond .eq 7, 3) := by decide +kernel
theorem dX7_objectTag_10 : decode cX7_objectTag 10 = .ok (.iload_n 2, 1) := by decide +kernel
theorem dX7_objectTag_11 : decode cX7_objectTag 11 = .ok (.goto 14, 3) := by decide +kernel
theorem dX7_objectTag_14 : decode cX7_objectTag 14 = .ok (.aload_n 0, 1) := by decide +kernel
theorem dX7_objectTag_15 : decode cX7_objectTag 15 = .ok (.getfield 19, 3) := by decide +kernel
theorem dX7_objectTag_18 : decode cX7_objectTag 18 = .ok (.getfield 77, 3) := by decide +kernel
theorem dX7_objectTag_21 : decode cX7_objectTag 21 = .ok (.iload_n 1, 1) := by decide +kernel
theorem dX7_objectTag_22 : decode cX7_objectTag 22 = .ok (.invokestatic 81, 3) := by decide +kernel
theorem dX7_objectTag_25 : decode cX7_objectTag 25 = .ok (.ireturn, 1) := by decide +kernel
theorem dX7_objectDepth_0 : decode cX7_objectDepth 0 = .ok (.aload_n 0, 1) := by decide +kernel
theorem dX7_objectDepth_1 : decode cX7_objectDepth 1 = .ok (.iload_n 1, 1) := by decide +kernel
theorem dX7_objectDepth_2 : decode cX7_objectDepth 2 = .ok (.invokevirtual 73, 3) := by decide +kernel
theorem dX7_objectDepth_5 : decode cX7_objectDepth 5 = .ok (.istore_n 2, 1) := by decide +kernel
theorem dX7_objectDepth_6 : decode cX7_objectDepth 6 = .ok (.iload_n 2, 1) := by decide +kernel
theorem dX7_objectDepth_7 : decode cX7_objectDepth 7 = .ok (.ifCond .eq 7, 3) := by decide +kernel
theorem dX7_objectDepth_10 : decode cX7_objectDepth 10 = .ok (.iload_n 2, 1) := by decide +kernel
theorem dX7_objectDepth_11 : decode cX7_objectDepth 11 = .ok (.goto 14, 3) := by decide +kernel
theorem dX7_objectDepth_14 : decode cX7_objectDepth 14 = .ok (.aload_n 0, 1) := by decide +kernel
theorem dX7_objectDepth_15 : decode cX7_objectDepth 15 = .ok (.getfield 19, 3) := by decide +kernel
theorem dX7_objectDepth_18 : decode cX7_objectDepth 18 = .ok (.getfield 85, 3) := by decide +kernel
theorem dX7_objectDepth_21 : decode cX7_objectDepth 21 = .ok (.iload_n 1, 1) := by decide +kernel
theorem dX7_objectDepth_22 : decode cX7_objectDepth 22 = .ok (.invokestatic 81, 3) := by decide +kernel
theorem dX7_objectDepth_25 : decode cX7_objectDepth 25 = .ok (.ireturn, 1) := by decide +kernel
theorem dX7_objectLength_0 : decode cX7_objectLength 0 = .ok (.aload_n 0, 1) := by decide +kernel
theorem dX7_objectLength_1 : decode cX7_objectLength 1 = .ok (.iload_n 1, 1) := by decide +kernel
theorem dX7_objectLength_2 : decode cX7_objectLength 2 = .ok (.invokevirtual 73, 3) := by decide +kernel
theorem dX7_objectLength_5 : decode cX7_objectLength 5 = .ok (.istore_n 2, 1) := by decide +kernel
theorem dX7_objectLength_6 : decode cX7_objectLength 6 = .ok (.iload_n 2, 1) := by decide +kernel
theorem dX7_objectLength_7 : decode cX7_objectLength 7 = .ok (.ifCond .eq 7, 3) := by decide +kernel
theorem dX7_objectLength_10 : decode cX7_objectLength 10 = .ok (.iload_n 2, 1) := by decide +kernel
theorem dX7_objectLength_11 : decode cX7_objectLength 11 = .ok (.goto 14, 3) := by decide +kernel
theorem dX7_objectLength_14 : decode cX7_objectLength 14 = .ok (.aload_n 0, 1) := by decide +kernel
theorem dX7_objectLength_15 : decode cX7_objectLength 15 = .ok (.getfield 19, 3) := by decide +kernel
theorem dX7_objectLength_18 : decode cX7_objectLength 18 = .ok (.getfield 88, 3) := by decide +kernel
theorem dX7_objectLength_21 : decode cX7_objectLength 21 = .ok (.iload_n 1, 1) := by decide +kernel
theorem dX7_objectLength_22 : decode cX7_objectLength 22 = .ok (.invokestatic 81, 3) := by decide +kernel
theorem dX7_objectLength_25 : decode cX7_objectLength 25 = .ok (.ireturn, 1) := by decide +kernel
theorem dX7_findObject_0 : decode cX7_findObject 0 = .ok (.iload_n 1, 1) := by decide +kernel
theorem dX7_findObject_1 : decode cX7_findObject 1 = .ok (.ifCond .lt 7, 3) := by decide +kernel
theorem dX7_findObject_4 : decode cX7_findObject 4 = .ok (.iload_n 2, 1) := by decide +kernel
theorem dX7_findObject_5 : decode cX7_findObject 5 = .ok (.ifCond .ge 5, 3) := by decide +kernel
theorem dX7_findObject_8 : decode cX7_findObject 8 = .ok (.iconst (-1), 1) := by decide +kernel
theorem dX7_findObject_9 : decode cX7_findObject 9 = .ok (.ireturn, 1) := by decide +kernel
theorem dX7_findObject_10 : decode cX7_findObject 10 = .ok (.aload_n 0, 1) := by decide +kernel
theorem dX7_findObject_11 : decode cX7_findObject 11 = .ok (.getfield 19, 3) := by decide +kernel
theorem dX7_findObject_14 : decode cX7_findObject 14 = .ok (.aload_n 0, 1) := by decide +kernel
theorem dX7_findObject_15 : decode cX7_findObject 15 = .ok (.getfield 10, 3) := by decide +kernel
theorem dX7_findObject_18 : decode cX7_findObject 18 = .ok (.invokevirtual 59, 3) := by decide +kernel
theorem dX7_findObject_21 : decode cX7_findObject 21 = .ok (.aload_n 0, 1) := by decide +kernel
theorem dX7_findObject_22 : decode cX7_findObject 22 = .ok (.getfield 19, 3) := by decide +kernel
theorem dX7_findObject_25 : decode cX7_findObject 25 = .ok (.invokevirtual 63, 3) := by decide +kernel
theorem dX7_findObject_28 : decode cX7_findObject 28 = .ok (.ifCond .eq 6, 3) := by decide +kernel
theorem dX7_findObject_31 : decode cX7_findObject 31 = .ok (.bipush (-2), 2) := by decide +kernel
theorem dX7_findObject_33 : decode cX7_findObject 33 = .ok (.ireturn, 1) := by decide +kernel
theorem dX7_findObject_34 : decode cX7_findObject 34 = .ok (.aload_n 0, 1) := by decide +kernel
theorem dX7_findObject_35 : decode cX7_findObject 35 = .ok (.getfield 19, 3) := by decide +kernel
theorem dX7_findObject_38 : decode cX7_findObject 38 = .ok (.iload_n 1, 1) := by decide +kernel
theorem dX7_findObject_39 : decode cX7_findObject 39 = .ok (.iload_n 2, 1) := by decide +kernel
theorem dX7_findObject_40 : decode cX7_findObject 40 = .ok (.invokevirtual 91, 3) := by decide +kernel
theorem dX7_findObject_43 : decode cX7_findObject 43 = .ok (.istore_n 3, 1) := by decide +kernel
theorem dX7_findObject_44 : decode cX7_findObject 44 = .ok (.iload_n 3, 1) := by decide +kernel
theorem dX7_findObject_45 : decode cX7_findObject 45 = .ok (.iconst (-1), 1) := by decide +kernel
theorem dX7_findObject_46 : decode cX7_findObject 46 = .ok (.if_icmp .ne 8, 3) := by decide +kernel
theorem dX7_findObject_49 : decode cX7_findObject 49 = .ok (.bipush (-4), 2) := by decide +kernel
theorem dX7_findObject_51 : decode cX7_findObject 51 = .ok (.goto 4, 3) := by decide +kernel
theorem dX7_findObject_54 : decode cX7_findObject 54 = .ok (.iload_n 3, 1) := by decide +kernel
theorem dX7_findObject_55 : decode cX7_findObject 55 = .ok (.ireturn, 1) := by decide +kernel
theorem dX7_objectError_0 : decode cX7_objectError 0 = .ok (.iload_n 1, 1) := by decide +kernel
theorem dX7_objectError_1 : decode cX7_objectError 1 = .ok (.ifCond .ge 5, 3) := by decide +kernel
theorem dX7_objectError_4 : decode cX7_objectError 4 = .ok (.iconst (-1), 1) := by decide +kernel
theorem dX7_objectError_5 : decode cX7_objectError 5 = .ok (.ireturn, 1) := by decide +kernel
theorem dX7_objectError_6 : decode cX7_objectError 6 = .ok (.aload_n 0, 1) := by decide +kernel
theorem dX7_objectError_7 : decode cX7_objectError 7 = .ok (.getfield 19, 3) := by decide +kernel
theorem dX7_objectError_10 : decode cX7_objectError 10 = .ok (.aload_n 0, 1) := by decide +kernel
theorem dX7_objectError_11 : decode cX7_objectError 11 = .ok (.getfield 10, 3) := by decide +kernel
theorem dX7_objectError_14 : decode cX7_objectError 14 = .ok (.invokevirtual 59, 3) := by decide +kernel
theorem dX7_objectError_17 : decode cX7_objectError 17 = .ok (.aload_n 0, 1) := by decide +kernel
theorem dX7_objectError_18 : decode cX7_objectError 18 = .ok (.getfield 19, 3) := by decide +kernel
theorem dX7_objectError_21 : decode cX7_objectError 21 = .ok (.invokevirtual 63, 3) := by decide +kernel
theorem dX7_objectError_24 : decode cX7_objectError 24 = .ok (.ifCond .eq 6, 3) := by decide +kernel
theorem dX7_objectError_27 : decode cX7_objectError 27 = .ok (.bipush (-2), 2) := by decide +kernel
theorem dX7_objectError_29 : decode cX7_objectError 29 = .ok (.ireturn, 1) := by decide +kernel
theorem dX7_objectError_30 : decode cX7_objectError 30 = .ok (.iload_n 1, 1) := by decide +kernel
theorem dX7_objectError_31 : decode cX7_objectError 31 = .ok (.aload_n 0, 1) := by decide +kernel
theorem dX7_objectError_32 : decode cX7_objectError 32 = .ok (.getfield 19, 3) := by decide +kernel
theorem dX7_objectError_35 : decode cX7_objectError 35 = .ok (.getfield 70, 3) := by decide +kernel
theorem dX7_objectError_38 : decode cX7_objectError 38 = .ok (.if_icmp .lt 8, 3) := by decide +kernel
theorem dX7_objectError_41 : decode cX7_objectError 41 = .ok (.bipush (-4), 2) := by decide +kernel
theorem dX7_objectError_43 : decode cX7_objectError 43 = .ok (.goto 4, 3) := by decide +kernel
theorem dX7_objectError_46 : decode cX7_objectError 46 = .ok (.iconst 0, 1) := by decide +kernel
theorem dX7_objectError_47 : decode cX7_objectError 47 = .ok (.ireturn, 1) := by decide +kernel
theorem dX7_insertCard_0 : decode cX7_insertCard 0 = .ok (.aload_n 0, 1) := by decide +kernel
theorem dX7_insertCard_1 : decode cX7_insertCard 1 = .ok (.getfield 19, 3) := by decide +kernel
theorem dX7_insertCard_4 : decode cX7_insertCard 4 = .ok (.aload_n 0, 1) := by decide +kernel
theorem dX7_insertCard_5 : decode cX7_insertCard 5 = .ok (.getfield 10, 3) := by decide +kernel
theorem dX7_insertCard_8 : decode cX7_insertCard 8 = .ok (.invokevirtual 59, 3) := by decide +kernel
theorem dX7_insertCard_11 : decode cX7_insertCard 11 = .ok (.aload_n 0, 1) := by decide +kernel
theorem dX7_insertCard_12 : decode cX7_insertCard 12 = .ok (.getfield 19, 3) := by decide +kernel
theorem dX7_insertCard_15 : decode cX7_insertCard 15 = .ok (.invokevirtual 63, 3) := by decide +kernel
theorem dX7_insertCard_18 : decode cX7_insertCard 18 = .ok (.ifCond .ne 13, 3) := by decide +kernel
theorem dX7_insertCard_21 : decode cX7_insertCard 21 = .ok (.aload_n 0, 1) := by decide +kernel
theorem dX7_insertCard_22 : decode cX7_insertCard 22 = .ok (.getfield 40, 3) := by decide +kernel
theorem dX7_insertCard_25 : decode cX7_insertCard 25 = .ok (.invokevirtual 95, 3) := by decide +kernel
theorem dX7_insertCard_28 : decode cX7_insertCard 28 = .ok (.ifCond .eq 6, 3) := by decide +kernel
theorem dX7_insertCard_31 : decode cX7_insertCard 31 = .ok (.bipush (-2), 2) := by decide +kernel
theorem dX7_insertCard_33 : decode cX7_insertCard 33 = .ok (.ireturn, 1) := by decide +kernel
theorem dX7_insertCard_34 : decode cX7_insertCard 34 = .ok (.aload_n 0, 1) := by decide +kernel
theorem dX7_insertCard_35 : decode cX7_insertCard 35 = .ok (.getfield 19, 3) := by decide +kernel
theorem dX7_insertCard_38 : decode cX7_insertCard 38 = .ok (.invokevirtual 98, 3) := by decide +kernel
theorem dX7_insertCard_41 : decode cX7_insertCard 41 = .ok (.bipush 6, 2) := by decide +kernel
theorem dX7_insertCard_43 : decode cX7_insertCard 43 = .ok (.if_icmp .le 6, 3) := by decide +kernel
theorem dX7_insertCard_46 : decode cX7_insertCard 46 = .ok (.bipush (-3), 2) := by decide +kernel
theorem dX7_insertCard_48 : decode cX7_insertCard 48 = .ok (.ireturn, 1) := by decide +kernel
theorem dX7_insertCard_49 : decode cX7_insertCard 49 = .ok (.aload_n 0, 1) := by decide +kernel
theorem dX7_insertCard_50 : decode cX7_insertCard 50 = .ok (.getfield 26, 3) := by decide +kernel
theorem dX7_insertCard_53 : decode cX7_insertCard 53 = .ok (.invokevirtual 102, 3) := by decide +kernel
theorem dX7_insertCard_56 : decode cX7_insertCard 56 = .ok (.aload_n 0, 1) := by decide +kernel
theorem dX7_insertCard_57 : decode cX7_insertCard 57 = .ok (.getfield 26, 3) := by decide +kernel
theorem dX7_insertCard_60 : decode cX7_insertCard 60 = .ok (.aload_n 0, 1) := by decide +kernel
theorem dX7_insertCard_61 : decode cX7_insertCard 61 = .ok (.getfield 19, 3) := by decide +kernel
theorem dX7_insertCard_64 : decode cX7_insertCard 64 = .ok (.aload_n 0, 1) := by decide +kernel
theorem dX7_insertCard_65 : decode cX7_insertCard 65 = .ok (.getfield 10, 3) := by decide +kernel
theorem dX7_insertCard_68 : decode cX7_insertCard 68 = .ok (.invokevirtual 105, 3) := by decide +kernel
theorem dX7_insertCard_71 : decode cX7_insertCard 71 = .ok (.aload_n 0, 1) := by decide +kernel
theorem dX7_insertCard_72 : decode cX7_insertCard 72 = .ok (.getfield 26, 3) := by decide +kernel
theorem dX7_insertCard_75 : decode cX7_insertCard 75 = .ok (.getfield 109, 3) := by decide +kernel
theorem dX7_insertCard_78 : decode cX7_insertCard 78 = .ok (.getfield 113, 3) := by decide +kernel
theorem dX7_insertCard_81 : decode cX7_insertCard 81 = .ok (.ireturn, 1) := by decide +kernel
theorem dX7_priorityOf_0 : decode cX7_priorityOf 0 = .ok (.aload_n 0, 1) := by decide +kernel
theorem dX7_priorityOf_1 : decode cX7_priorityOf 1 = .ok (.getfield 26, 3) := by decide +kernel
theorem dX7_priorityOf_4 : decode cX7_priorityOf 4 = .ok (.iload_n 1, 1) := by decide +kernel
theorem dX7_priorityOf_5 : decode cX7_priorityOf 5 = .ok (.invokevirtual 116, 3) := by decide +kernel
theorem dX7_priorityOf_8 : decode cX7_priorityOf 8 = .ok (.ifCond .ne 5, 3) := by decide +kernel
theorem dX7_priorityOf_11 : decode cX7_priorityOf 11 = .ok (.iconst (-1), 1) := by decide +kernel
theorem dX7_priorityOf_12 : decode cX7_priorityOf 12 = .ok (.ireturn, 1) := by decide +kernel
theorem dX7_priorityOf_13 : decode cX7_priorityOf 13 = .ok (.aload_n 0, 1) := by decide +kernel
theorem dX7_priorityOf_14 : decode cX7_priorityOf 14 = .ok (.getfield 26, 3) := by decide +kernel
theorem dX7_priorityOf_17 : decode cX7_priorityOf 17 = .ok (.iload_n 1, 1) := by decide +kernel
theorem dX7_priorityOf_18 : decode cX7_priorityOf 18 = .ok (.invokevirtual 120, 3) := by decide +kernel
theorem dX7_priorityOf_21 : decode cX7_priorityOf 21 = .ok (.ireturn, 1) := by decide +kernel
theorem dX7_setIssuerCode_0 : decode cX7_setIssuerCode 0 = .ok (.aload_n 0, 1) := by decide +kernel
theorem dX7_setIssuerCode_1 : decode cX7_setIssuerCode 1 = .ok (.getfield 26, 3) := by decide +kernel
theorem dX7_setIssuerCode_4 : decode cX7_setIssuerCode 4 = .ok (.getfield 123, 3) := by decide +kernel
theorem dX7_setIssuerCode_7 : decode cX7_setIssuerCode 7 = .ok (.iload_n 1, 1) := by decide +kernel
theorem dX7_setIssuerCode_8 : decode cX7_setIssuerCode 8 = .ok (.iload_n 2, 1) := by decide +kernel
theorem dX7_setIssuerCode_9 : decode cX7_setIssuerCode 9 = .ok (.invokestatic 126, 3) := by decide +kernel
theorem dX7_setIssuerCode_12 : decode cX7_setIssuerCode 12 = .ok (.ireturn, 1) := by decide +kernel
theorem dX7_addIdentifier_0 : decode cX7_addIdentifier 0 = .ok (.aload_n 0, 1) := by decide +kernel
theorem dX7_addIdentifier_1 : decode cX7_addIdentifier 1 = .ok (.getfield 10, 3) := by decide +kernel
theorem dX7_addIdentifier_4 : decode cX7_addIdentifier 4 = .ok (.getfield 51, 3) := by decide +kernel
theorem dX7_addIdentifier_7 : decode cX7_addIdentifier 7 = .ok (.iconst 5, 1) := by decide +kernel
theorem dX7_addIdentifier_8 : decode cX7_addIdentifier 8 = .ok (.if_icmp .lt 15, 3) := by decide +kernel
theorem dX7_addIdentifier_11 : decode cX7_addIdentifier 11 = .ok (.aload_n 0, 1) := by decide +kernel
theorem dX7_addIdentifier_12 : decode cX7_addIdentifier 12 = .ok (.getfield 10, 3) := by decide +kernel
theorem dX7_addIdentifier_15 : decode cX7_addIdentifier 15 = .ok (.getfield 51, 3) := by decide +kernel
theorem dX7_addIdentifier_18 : decode cX7_addIdentifier 18 = .ok (.bipush 16, 2) := by decide +kernel
theorem dX7_addIdentifier_20 : decode cX7_addIdentifier 20 = .ok (.if_icmp .le 6, 3) := by decide +kernel
theorem dX7_addIdentifier_23 : decode cX7_addIdentifier 23 = .ok (.bipush (-2), 2) := by decide +kernel
theorem dX7_addIdentifier_25 : decode cX7_addIdentifier 25 = .ok (.ireturn, 1) := by decide +kernel
theorem dX7_addIdentifier_26 : decode cX7_addIdentifier 26 = .ok (.aload_n 0, 1) := by decide +kernel
theorem dX7_addIdentifier_27 : decode cX7_addIdentifier 27 = .ok (.getfield 33, 3) := by decide +kernel
theorem dX7_addIdentifier_30 : decode cX7_addIdentifier 30 = .ok (.getfield 130, 3) := by decide +kernel
theorem dX7_addIdentifier_33 : decode cX7_addIdentifier 33 = .ok (.getfield 113, 3) := by decide +kernel
theorem dX7_addIdentifier_36 : decode cX7_addIdentifier 36 = .ok (.iconst 5, 1) := by decide +kernel
theorem dX7_addIdentifier_37 : decode cX7_addIdentifier 37 = .ok (.if_icmp .lt 6, 3) := by decide +kernel
theorem dX7_addIdentifier_40 : decode cX7_addIdentifier 40 = .ok (.bipush (-3), 2) := by decide +kernel
theorem dX7_addIdentifier_42 : decode cX7_addIdentifier 42 = .ok (.ireturn, 1) := by decide +kernel
theorem dX7_addIdentifier_43 : decode cX7_addIdentifier 43 = .ok (.aload_n 0, 1) := by decide +kernel
theorem dX7_addIdentifier_44 : decode cX7_addIdentifier 44 = .ok (.getfield 33, 3) := by decide +kernel
theorem dX7_addIdentifier_47 : decode cX7_addIdentifier 47 = .ok (.aload_n 0, 1) := by decide +kernel
theorem dX7_addIdentifier_48 : decode cX7_addIdentifier 48 = .ok (.getfield 10, 3) := by decide +kernel
theorem dX7_addIdentifier_51 : decode cX7_addIdentifier 51 = .ok (.iload_n 1, 1) := by decide +kernel
theorem dX7_addIdentifier_52 : decode cX7_addIdentifier 52 = .ok (.invokevirtual 131, 3) := by decide +kernel
theorem dX7_addIdentifier_55 : decode cX7_addIdentifier 55 = .ok (.aload_n 0, 1) := by decide +kernel
theorem dX7_addIdentifier_56 : decode cX7_addIdentifier 56 = .ok (.getfield 33, 3) := by decide +kernel
theorem dX7_addIdentifier_59 : decode cX7_addIdentifier 59 = .ok (.getfield 130, 3) := by decide +kernel
theorem dX7_addIdentifier_62 : decode cX7_addIdentifier 62 = .ok (.getfield 113, 3) := by decide +kernel
theorem dX7_addIdentifier_65 : decode cX7_addIdentifier 65 = .ok (.ireturn, 1) := by decide +kernel
theorem dX7_removeIdentifier_0 : decode cX7_removeIdentifier 0 = .ok (.iload_n 1, 1) := by decide +kernel
theorem dX7_removeIdentifier_1 : decode cX7_removeIdentifier 1 = .ok (.ifCond .lt 17, 3) := by decide +kernel
theorem dX7_removeIdentifier_4 : decode cX7_removeIdentifier 4 = .ok (.iload_n 1, 1) := by decide +kernel
theorem dX7_removeIdentifier_5 : decode cX7_removeIdentifier 5 = .ok (.aload_n 0, 1) := by decide +kernel
theorem dX7_removeIdentifier_6 : decode cX7_removeIdentifier 6 = .ok (.getfield 33, 3) := by decide +kernel
theorem dX7_removeIdentifier_9 : decode cX7_removeIdentifier 9 = .ok (.getfield 130, 3) := by decide +kernel
theorem dX7_removeIdentifier_12 : decode cX7_removeIdentifier 12 = .ok (.getfield 113, 3) := by decide +kernel
theorem dX7_removeIdentifier_15 : decode cX7_removeIdentifier 15 = .ok (.if_icmp .lt 5, 3) := by decide +kernel
theorem dX7_removeIdentifier_18 : decode cX7_removeIdentifier 18 = .ok (.iconst (-1), 1) := by decide +kernel
theorem dX7_removeIdentifier_19 : decode cX7_removeIdentifier 19 = .ok (.ireturn, 1) := by decide +kernel
theorem dX7_removeIdentifier_20 : decode cX7_removeIdentifier 20 = .ok (.aload_n 0, 1) := by decide +kernel
theorem dX7_removeIdentifier_21 : decode cX7_removeIdentifier 21 = .ok (.getfield 33, 3) := by decide +kernel
theorem dX7_removeIdentifier_24 : decode cX7_removeIdentifier 24 = .ok (.iload_n 1, 1) := by decide +kernel
theorem dX7_removeIdentifier_25 : decode cX7_removeIdentifier 25 = .ok (.invokevirtual 135, 3) := by decide +kernel
theorem dX7_removeIdentifier_28 : decode cX7_removeIdentifier 28 = .ok (.aload_n 0, 1) := by decide +kernel
theorem dX7_removeIdentifier_29 : decode cX7_removeIdentifier 29 = .ok (.getfield 33, 3) := by decide +kernel
theorem dX7_removeIdentifier_32 : decode cX7_removeIdentifier 32 = .ok (.getfield 130, 3) := by decide +kernel
theorem dX7_removeIdentifier_35 : decode cX7_removeIdentifier 35 = .ok (.getfield 113, 3) := by decide +kernel
theorem dX7_removeIdentifier_38 : decode cX7_removeIdentifier 38 = .ok (.ireturn, 1) := by decide +kernel
theorem dX7_setTerminalCode_0 : decode cX7_setTerminalCode 0 = .ok (.aload_n 0, 1) := by decide +kernel
theorem dX7_setTerminalCode_1 : decode cX7_setTerminalCode 1 = .ok (.getfield 33, 3) := by decide +kernel
theorem dX7_setTerminalCode_4 : decode cX7_setTerminalCode 4 = .ok (.getfield 138, 3) := by decide +kernel
theorem dX7_setTerminalCode_7 : decode cX7_setTerminalCode 7 = .ok (.iload_n 1, 1) := by decide +kernel
theorem dX7_setTerminalCode_8 : decode cX7_setTerminalCode 8 = .ok (.iload_n 2, 1) := by decide +kernel
theorem dX7_setTerminalCode_9 : decode cX7_setTerminalCode 9 = .ok (.invokestatic 126, 3) := by decide +kernel
theorem dX7_setTerminalCode_12 : decode cX7_setTerminalCode 12 = .ok (.ireturn, 1) := by decide +kernel
theorem dX7_setFloorLimit_0 : decode cX7_setFloorLimit 0 = .ok (.iload_n 1, 1) := by decide +kernel
theorem dX7_setFloorLimit_1 : decode cX7_setFloorLimit 1 = .ok (.ifCond .lt 9, 3) := by decide +kernel
theorem dX7_setFloorLimit_4 : decode cX7_setFloorLimit 4 = .ok (.iload_n 1, 1) := by decide +kernel
theorem dX7_setFloorLimit_5 : decode cX7_setFloorLimit 5 = .ok (.ldc 139, 2) := by decide +kernel
theorem dX7_setFloorLimit_7 : decode cX7_setFloorLimit 7 = .ok (.if_icmp .le 5, 3) := by decide +kernel
theorem dX7_setFloorLimit_10 : decode cX7_setFloorLimit 10 = .ok (.iconst (-1), 1) := by decide +kernel
theorem dX7_setFloorLimit_11 : decode cX7_setFloorLimit 11 = .ok (.ireturn, 1) := by decide +kernel
theorem dX7_setFloorLimit_12 : decode cX7_setFloorLimit 12 = .ok (.aload_n 0, 1) := by decide +kernel
theorem dX7_setFloorLimit_13 : decode cX7_setFloorLimit 13 = .ok (.getfield 33, 3) := by decide +kernel
theorem dX7_setFloorLimit_16 : decode cX7_setFloorLimit 16 = .ok (.getfield 140, 3) := by decide +kernel
theorem dX7_setFloorLimit_19 : decode cX7_setFloorLimit 19 = .ok (.istore_n 2, 1) := by decide +kernel
theorem dX7_setFloorLimit_20 : decode cX7_setFloorLimit 20 = .ok (.aload_n 0, 1) := by decide +kernel
theorem dX7_setFloorLimit_21 : decode cX7_setFloorLimit 21 = .ok (.getfield 33, 3) := by decide +kernel
theorem dX7_setFloorLimit_24 : decode cX7_setFloorLimit 24 = .ok (.iload_n 1, 1) := by decide +kernel
theorem dX7_setFloorLimit_25 : decode cX7_setFloorLimit 25 = .ok (.putfield 140, 3) := by decide +kernel
theorem dX7_setFloorLimit_28 : decode cX7_setFloorLimit 28 = .ok (.iload_n 2, 1) := by decide +kernel
theorem dX7_setFloorLimit_29 : decode cX7_setFloorLimit 29 = .ok (.ireturn, 1) := by decide +kernel
theorem dX7_setOfflineLimits_0 : decode cX7_setOfflineLimits 0 = .ok (.iload_n 1, 1) := by decide +kernel
theorem dX7_setOfflineLimits_1 : decode cX7_setOfflineLimits 1 = .ok (.ifCond .lt 14, 3) := by decide +kernel
theorem dX7_setOfflineLimits_4 : decode cX7_setOfflineLimits 4 = .ok (.iload_n 1, 1) := by decide +kernel
theorem dX7_setOfflineLimits_5 : decode cX7_setOfflineLimits 5 = .ok (.iload_n 2, 1) := by decide +kernel
theorem dX7_setOfflineLimits_6 : decode cX7_setOfflineLimits 6 = .ok (.if_icmp .gt 9, 3) := by decide +kernel
theorem dX7_setOfflineLimits_9 : decode cX7_setOfflineLimits 9 = .ok (.iload_n 2, 1) := by decide +kernel
theorem dX7_setOfflineLimits_10 : decode cX7_setOfflineLimits 10 = .ok (.bipush 15, 2) := by decide +kernel
theorem dX7_setOfflineLimits_12 : decode cX7_setOfflineLimits 12 = .ok (.if_icmp .le 5, 3) := by decide +kernel
theorem dX7_setOfflineLimits_15 : decode cX7_setOfflineLimits 15 = .ok (.iconst (-1), 1) := by decide +kernel
theorem dX7_setOfflineLimits_16 : decode cX7_setOfflineLimits 16 = .ok (.ireturn, 1) := by decide +kernel
theorem dX7_setOfflineLimits_17 : decode cX7_setOfflineLimits 17 = .ok (.bipush 16, 2) := by decide +kernel
theorem dX7_setOfflineLimits_19 : decode cX7_setOfflineLimits 19 = .ok (.aload_n 0, 1) := by decide +kernel
theorem dX7_setOfflineLimits_20 : decode cX7_setOfflineLimits 20 = .ok (.getfield 33, 3) := by decide +kernel
theorem dX7_setOfflineLimits_23 : decode cX7_setOfflineLimits 23 = .ok (.getfield 143, 3) := by decide +kernel
theorem dX7_setOfflineLimits_26 : decode cX7_setOfflineLimits 26 = .ok (.imul, 1) := by decide +kernel
theorem dX7_setOfflineLimits_27 : decode cX7_setOfflineLimits 27 = .ok (.aload_n 0, 1) := by decide +kernel
theorem dX7_setOfflineLimits_28 : decode cX7_setOfflineLimits 28 = .ok (.getfield 33, 3) := by decide +kernel
theorem dX7_setOfflineLimits_31 : decode cX7_setOfflineLimits 31 = .ok (.getfield 146, 3) := by decide +kernel
theorem dX7_setOfflineLimits_34 : decode cX7_setOfflineLimits 34 = .ok (.iadd, 1) := by decide +kernel
theorem dX7_setOfflineLimits_35 : decode cX7_setOfflineLimits 35 = .ok (.istore_n 3, 1) := by decide +kernel
theorem dX7_setOfflineLimits_36 : decode cX7_setOfflineLimits 36 = .ok (.aload_n 0, 1) := by decide +kernel
theorem dX7_setOfflineLimits_37 : decode cX7_setOfflineLimits 37 = .ok (.getfield 33, 3) := by decide +kernel
theorem dX7_setOfflineLimits_40 : decode cX7_setOfflineLimits 40 = .ok (.iload_n 1, 1) := by decide +kernel
theorem dX7_setOfflineLimits_41 : decode cX7_setOfflineLimits 41 = .ok (.putfield 143, 3) := by decide +kernel
theorem dX7_setOfflineLimits_44 : decode cX7_setOfflineLimits 44 = .ok (.aload_n 0, 1) := by decide +kernel
theorem dX7_setOfflineLimits_45 : decode cX7_setOfflineLimits 45 = .ok (.getfield 33, 3) := by decide +kernel
theorem dX7_setOfflineLimits_48 : decode cX7_setOfflineLimits 48 = .ok (.iload_n 2, 1) := by decide +kernel
theorem dX7_setOfflineLimits_49 : decode cX7_setOfflineLimits 49 = .ok (.putfield 146, 3) := by decide +kernel
theorem dX7_setOfflineLimits_52 : decode cX7_setOfflineLimits 52 = .ok (.iload_n 3, 1) := by decide +kernel
theorem dX7_setOfflineLimits_53 : decode cX7_setOfflineLimits 53 = .ok (.ireturn, 1) := by decide +kernel
theorem dX7_setRandomTarget_0 : decode cX7_setRandomTarget 0 = .ok (.iload_n 1, 1) := by decide +kernel
theorem dX7_setRandomTarget_1 : decode cX7_setRandomTarget 1 = .ok (.ifCond .lt 9, 3) := by decide +kernel
theorem dX7_setRandomTarget_4 : decode cX7_setRandomTarget 4 = .ok (.iload_n 1, 1) := by decide +kernel
theorem dX7_setRandomTarget_5 : decode cX7_setRandomTarget 5 = .ok (.bipush 100, 2) := by decide +kernel
theorem dX7_setRandomTarget_7 : decode cX7_setRandomTarget 7 = .ok (.if_icmp .le 5, 3) := by decide +kernel
theorem dX7_setRandomTarget_10 : decode cX7_setRandomTarget 10 = .ok (.iconst (-1), 1) := by decide +kernel
theorem dX7_setRandomTarget_11 : decode cX7_setRandomTarget 11 = .ok (.ireturn, 1) := by decide +kernel
theorem dX7_setRandomTarget_12 : decode cX7_setRandomTarget 12 = .ok (.aload_n 0, 1) := by decide +kernel
theorem dX7_setRandomTarget_13 : decode cX7_setRandomTarget 13 = .ok (.getfield 33, 3) := by decide +kernel
theorem dX7_setRandomTarget_16 : decode cX7_setRandomTarget 16 = .ok (.getfield 149, 3) := by decide +kernel
theorem dX7_setRandomTarget_19 : decode cX7_setRandomTarget 19 = .ok (.istore_n 2, 1) := by decide +kernel
theorem dX7_setRandomTarget_20 : decode cX7_setRandomTarget 20 = .ok (.aload_n 0, 1) := by decide +kernel
theorem dX7_setRandomTarget_21 : decode cX7_setRandomTarget 21 = .ok (.getfield 33, 3) := by decide +kernel
theorem dX7_setRandomTarget_24 : decode cX7_setRandomTarget 24 = .ok (.iload_n 1, 1) := by decide +kernel
theorem dX7_setRandomTarget_25 : decode cX7_setRandomTarget 25 = .ok (.putfield 149, 3) := by decide +kernel
theorem dX7_setRandomTarget_28 : decode cX7_setRandomTarget 28 = .ok (.iload_n 2, 1) := by decide +kernel
theorem dX7_setRandomTarget_29 : decode cX7_setRandomTarget 29 = .ok (.ireturn, 1) := by decide +kernel
theorem dX7_setOnline_0 : decode cX7_setOnline 0 = .ok (.aload_n 0, 1) := by decide +kernel
theorem dX7_setOnline_1 : decode cX7_setOnline 1 = .ok (.getfield 33, 3) := by decide +kernel
theorem dX7_setOnline_4 : decode cX7_setOnline 4 = .ok (.getfield 152, 3) := by decide +kernel
theorem dX7_setOnline_7 : decode cX7_setOnline 7 = .ok (.ifCond .eq 7, 3) := by decide +kernel
theorem dX7_setOnline_10 : decode cX7_setOnline 10 = .ok (.iconst 1, 1) := by decide +kernel
theorem dX7_setOnline_11 : decode cX7_setOnline 11 = .ok (.goto 4, 3) := by decide +kernel
theorem dX7_setOnline_14 : decode cX7_setOnline 14 = .ok (.iconst 0, 1) := by decide +kernel
theorem dX7_setOnline_15 : decode cX7_setOnline 15 = .ok (.istore_n 2, 1) := by decide +kernel
theorem dX7_setOnline_16 : decode cX7_setOnline 16 = .ok (.aload_n 0, 1) := by decide +kernel
theorem dX7_setOnline_17 : decode cX7_setOnline 17 = .ok (.getfield 33, 3) := by decide +kernel
theorem dX7_setOnline_20 : decode cX7_setOnline 20 = .ok (.iload_n 1, 1) := by decide +kernel
theorem dX7_setOnline_21 : decode cX7_setOnline 21 = .ok (.putfield 152, 3) := by decide +kernel
theorem dX7_setOnline_24 : decode cX7_setOnline 24 = .ok (.iload_n 2, 1) := by decide +kernel
theorem dX7_setOnline_25 : decode cX7_setOnline 25 = .ok (.ireturn, 1) := by decide +kernel
theorem dX7_replaceCode_0 : decode cX7_replaceCode 0 = .ok (.iload_n 1, 1) := by decide +kernel
theorem dX7_replaceCode_1 : decode cX7_replaceCode 1 = .ok (.ifCond .lt 18, 3) := by decide +kernel
theorem dX7_replaceCode_4 : decode cX7_replaceCode 4 = .ok (.iload_n 1, 1) := by decide +kernel
theorem dX7_replaceCode_5 : decode cX7_replaceCode 5 = .ok (.iconst 3, 1) := by decide +kernel
theorem dX7_replaceCode_6 : decode cX7_replaceCode 6 = .ok (.if_icmp .ge 13, 3) := by decide +kernel
theorem dX7_replaceCode_9 : decode cX7_replaceCode 9 = .ok (.iload_n 2, 1) := by decide +kernel
theorem dX7_replaceCode_10 : decode cX7_replaceCode 10 = .ok (.ifCond .lt 9, 3) := by decide +kernel
theorem dX7_replaceCode_13 : decode cX7_replaceCode 13 = .ok (.iload_n 2, 1) := by decide +kernel
theorem dX7_replaceCode_14 : decode cX7_replaceCode 14 = .ok (.bipush 127, 2) := by decide +kernel
theorem dX7_replaceCode_16 : decode cX7_replaceCode 16 = .ok (.if_icmp .le 5, 3) := by decide +kernel
theorem dX7_replaceCode_19 : decode cX7_replaceCode 19 = .ok (.iconst (-1), 1) := by decide +kernel
theorem dX7_replaceCode_20 : decode cX7_replaceCode 20 = .ok (.ireturn, 1) := by decide +kernel
theorem dX7_replaceCode_21 : decode cX7_replaceCode 21 = .ok (.aload_n 0, 1) := by decide +kernel
theorem dX7_replaceCode_22 : decode cX7_replaceCode 22 = .ok (.iload_n 1, 1) := by decide +kernel
theorem dX7_replaceCode_23 : decode cX7_replaceCode 23 = .ok (.invokestatic 81, 3) := by decide +kernel
theorem dX7_replaceCode_26 : decode cX7_replaceCode 26 = .ok (.istore_n 3, 1) := by decide +kernel
theorem dX7_replaceCode_27 : decode cX7_replaceCode 27 = .ok (.aload_n 0, 1) := by decide +kernel
theorem dX7_replaceCode_28 : decode cX7_replaceCode 28 = .ok (.iload_n 1, 1) := by decide +kernel
theorem dX7_replaceCode_29 : decode cX7_replaceCode 29 = .ok (.iload_n 2, 1) := by decide +kernel
theorem dX7_replaceCode_30 : decode cX7_replaceCode 30 = .ok (.invokestatic 156, 3) := by decide +kernel
theorem dX7_replaceCode_33 : decode cX7_replaceCode 33 = .ok (.iload_n 3, 1) := by decide +kernel
theorem dX7_replaceCode_34 : decode cX7_replaceCode 34 = .ok (.ireturn, 1) := by decide +kernel
theorem dX7_candidateCount_0 : decode cX7_candidateCount 0 = .ok (.iconst 0, 1) := by decide +kernel
theorem dX7_candidateCount_1 : decode cX7_candidateCount 1 = .ok (.istore_n 1, 1) := by decide +kernel
theorem dX7_candidateCount_2 : decode cX7_candidateCount 2 = .ok (.iconst 0, 1) := by decide +kernel
theorem dX7_candidateCount_3 : decode cX7_candidateCount 3 = .ok (.istore_n 2, 1) := by decide +kernel
theorem dX7_candidateCount_4 : decode cX7_candidateCount 4 = .ok (.iload_n 2, 1) := by decide +kernel
theorem dX7_candidateCount_5 : decode cX7_candidateCount 5 = .ok (.aload_n 0, 1) := by decide +kernel
theorem dX7_candidateCount_6 : decode cX7_candidateCount 6 = .ok (.getfield 26, 3) := by decide +kernel
theorem dX7_candidateCount_9 : decode cX7_candidateCount 9 = .ok (.getfield 109, 3) := by decide +kernel
theorem dX7_candidateCount_12 : decode cX7_candidateCount 12 = .ok (.getfield 113, 3) := by decide +kernel
theorem dX7_candidateCount_15 : decode cX7_candidateCount 15 = .ok (.if_icmp .ge 20, 3) := by decide +kernel
theorem dX7_candidateCount_18 : decode cX7_candidateCount 18 = .ok (.aload_n 0, 1) := by decide +kernel
theorem dX7_candidateCount_19 : decode cX7_candidateCount 19 = .ok (.iload_n 2, 1) := by decide +kernel
theorem dX7_candidateCount_20 : decode cX7_candidateCount 20 = .ok (.invokevirtual 160, 3) := by decide +kernel
theorem dX7_candidateCount_23 : decode cX7_candidateCount 23 = .ok (.ifCond .eq 6, 3) := by decide +kernel
theorem dX7_candidateCount_26 : decode cX7_candidateCount 26 = .ok (.iinc 1 1, 3) := by decide +kernel
theorem dX7_candidateCount_29 : decode cX7_candidateCount 29 = .ok (.iinc 2 1, 3) := by decide +kernel
theorem dX7_candidateCount_32 : decode cX7_candidateCount 32 = .ok (.goto (-28), 3) := by decide +kernel
theorem dX7_candidateCount_35 : decode cX7_candidateCount 35 = .ok (.iload_n 1, 1) := by decide +kernel
theorem dX7_candidateCount_36 : decode cX7_candidateCount 36 = .ok (.ireturn, 1) := by decide +kernel
theorem dX7_candidateAt_0 : decode cX7_candidateAt 0 = .ok (.iload_n 1, 1) := by decide +kernel
theorem dX7_candidateAt_1 : decode cX7_candidateAt 1 = .ok (.ifCond .ge 5, 3) := by decide +kernel
theorem dX7_candidateAt_4 : decode cX7_candidateAt 4 = .ok (.iconst (-1), 1) := by decide +kernel
theorem dX7_candidateAt_5 : decode cX7_candidateAt 5 = .ok (.ireturn, 1) := by decide +kernel
theorem dX7_candidateAt_6 : decode cX7_candidateAt 6 = .ok (.iconst 0, 1) := by decide +kernel
theorem dX7_candidateAt_7 : decode cX7_candidateAt 7 = .ok (.istore_n 2, 1) := by decide +kernel
theorem dX7_candidateAt_8 : decode cX7_candidateAt 8 = .ok (.iload_n 2, 1) := by decide +kernel
theorem dX7_candidateAt_9 : decode cX7_candidateAt 9 = .ok (.aload_n 0, 1) := by decide +kernel
theorem dX7_candidateAt_10 : decode cX7_candidateAt 10 = .ok (.getfield 26, 3) := by decide +kernel
theorem dX7_candidateAt_13 : decode cX7_candidateAt 13 = .ok (.getfield 109, 3) := by decide +kernel
theorem dX7_candidateAt_16 : decode cX7_candidateAt 16 = .ok (.getfield 113, 3) := by decide +kernel
theorem dX7_candidateAt_19 : decode cX7_candidateAt 19 = .ok (.if_icmp .ge 28, 3) := by decide +kernel
theorem dX7_candidateAt_22 : decode cX7_candidateAt 22 = .ok (.aload_n 0, 1) := by decide +kernel
theorem dX7_candidateAt_23 : decode cX7_candidateAt 23 = .ok (.iload_n 2, 1) := by decide +kernel
theorem dX7_candidateAt_24 : decode cX7_candidateAt 24 = .ok (.invokevirtual 160, 3) := by decide +kernel
theorem dX7_candidateAt_27 : decode cX7_candidateAt 27 = .ok (.ifCond .eq 14, 3) := by decide +kernel
theorem dX7_candidateAt_30 : decode cX7_candidateAt 30 = .ok (.aload_n 0, 1) := by decide +kernel
theorem dX7_candidateAt_31 : decode cX7_candidateAt 31 = .ok (.iload_n 2, 1) := by decide +kernel
theorem dX7_candidateAt_32 : decode cX7_candidateAt 32 = .ok (.invokevirtual 163, 3) := by decide +kernel
theorem dX7_candidateAt_35 : decode cX7_candidateAt 35 = .ok (.iload_n 1, 1) := by decide +kernel
theorem dX7_candidateAt_36 : decode cX7_candidateAt 36 = .ok (.if_icmp .ne 5, 3) := by decide +kernel
theorem dX7_candidateAt_39 : decode cX7_candidateAt 39 = .ok (.iload_n 2, 1) := by decide +kernel
theorem dX7_candidateAt_40 : decode cX7_candidateAt 40 = .ok (.ireturn, 1) := by decide +kernel
theorem dX7_candidateAt_41 : decode cX7_candidateAt 41 = .ok (.iinc 2 1, 3) := by decide +kernel
theorem dX7_candidateAt_44 : decode cX7_candidateAt 44 = .ok (.goto (-36), 3) := by decide +kernel
theorem dX7_candidateAt_47 : decode cX7_candidateAt 47 = .ok (.bipush (-4), 2) := by decide +kernel
theorem dX7_candidateAt_49 : decode cX7_candidateAt 49 = .ok (.ireturn, 1) := by decide +kernel

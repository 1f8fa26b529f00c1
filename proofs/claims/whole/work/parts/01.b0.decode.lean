theorem dX0_init_0 : decode cX0_init 0 = .ok (.aload_n 0, 1) := by decide +kernel
theorem dX0_init_1 : decode cX0_init 1 = .ok (.invokespecial 3, 3) := by decide +kernel
theorem dX0_init_4 : decode cX0_init 4 = .ok (.aload_n 0, 1) := by decide +kernel
theorem dX0_init_5 : decode cX0_init 5 = .ok (.bipush 120, 2) := by decide +kernel
theorem dX0_init_7 : decode cX0_init 7 = .ok (.newarray .int, 2) := by decide +kernel
theorem dX0_init_9 : decode cX0_init 9 = .ok (.putfield 9, 3) := by decide +kernel
theorem dX0_init_12 : decode cX0_init 12 = .ok (.aload_n 0, 1) := by decide +kernel
theorem dX0_init_13 : decode cX0_init 13 = .ok (.iconst 0, 1) := by decide +kernel
theorem dX0_init_14 : decode cX0_init 14 = .ok (.putfield 15, 3) := by decide +kernel
theorem dX0_init_17 : decode cX0_init 17 = .ok (.return_, 1) := by decide +kernel
theorem dX0_add_0 : decode cX0_add 0 = .ok (.aload_n 0, 1) := by decide +kernel
theorem dX0_add_1 : decode cX0_add 1 = .ok (.getfield 15, 3) := by decide +kernel
theorem dX0_add_4 : decode cX0_add 4 = .ok (.bipush 120, 2) := by decide +kernel
theorem dX0_add_6 : decode cX0_add 6 = .ok (.if_icmp .ge 25, 3) := by decide +kernel
theorem dX0_add_9 : decode cX0_add 9 = .ok (.aload_n 0, 1) := by decide +kernel
theorem dX0_add_10 : decode cX0_add 10 = .ok (.getfield 9, 3) := by decide +kernel
theorem dX0_add_13 : decode cX0_add 13 = .ok (.aload_n 0, 1) := by decide +kernel
theorem dX0_add_14 : decode cX0_add 14 = .ok (.getfield 15, 3) := by decide +kernel
theorem dX0_add_17 : decode cX0_add 17 = .ok (.iload_n 1, 1) := by decide +kernel
theorem dX0_add_18 : decode cX0_add 18 = .ok (.invokestatic 19, 3) := by decide +kernel
theorem dX0_add_21 : decode cX0_add 21 = .ok (.aload_n 0, 1) := by decide +kernel
theorem dX0_add_22 : decode cX0_add 22 = .ok (.dup, 1) := by decide +kernel
theorem dX0_add_23 : decode cX0_add 23 = .ok (.getfield 15, 3) := by decide +kernel
theorem dX0_add_26 : decode cX0_add 26 = .ok (.iconst 1, 1) := by decide +kernel
theorem dX0_add_27 : decode cX0_add 27 = .ok (.iadd, 1) := by decide +kernel
theorem dX0_add_28 : decode cX0_add 28 = .ok (.putfield 15, 3) := by decide +kernel
theorem dX0_add_31 : decode cX0_add 31 = .ok (.return_, 1) := by decide +kernel
theorem dX1_init_0 : decode cX1_init 0 = .ok (.aload_n 0, 1) := by decide +kernel
theorem dX1_init_1 : decode cX1_init 1 = .ok (.invokespecial 3, 3) := by decide +kernel
theorem dX1_init_4 : decode cX1_init 4 = .ok (.aload_n 0, 1) := by decide +kernel
theorem dX1_init_5 : decode cX1_init 5 = .ok (.new 9, 3) := by decide +kernel
theorem dX1_init_8 : decode cX1_init 8 = .ok (.dup, 1) := by decide +kernel
theorem dX1_init_9 : decode cX1_init 9 = .ok (.invokespecial 11, 3) := by decide +kernel
theorem dX1_init_12 : decode cX1_init 12 = .ok (.putfield 12, 3) := by decide +kernel
theorem dX1_init_15 : decode cX1_init 15 = .ok (.aload_n 0, 1) := by decide +kernel
theorem dX1_init_16 : decode cX1_init 16 = .ok (.iconst 3, 1) := by decide +kernel
theorem dX1_init_17 : decode cX1_init 17 = .ok (.newarray .int, 2) := by decide +kernel
theorem dX1_init_19 : decode cX1_init 19 = .ok (.putfield 18, 3) := by decide +kernel
theorem dX1_init_22 : decode cX1_init 22 = .ok (.aload_n 0, 1) := by decide +kernel
theorem dX1_init_23 : decode cX1_init 23 = .ok (.iconst (-1), 1) := by decide +kernel
theorem dX1_init_24 : decode cX1_init 24 = .ok (.putfield 22, 3) := by decide +kernel
theorem dX1_init_27 : decode cX1_init 27 = .ok (.aload_n 0, 1) := by decide +kernel
theorem dX1_init_28 : decode cX1_init 28 = .ok (.iconst 0, 1) := by decide +kernel
theorem dX1_init_29 : decode cX1_init 29 = .ok (.putfield 26, 3) := by decide +kernel
theorem dX1_init_32 : decode cX1_init 32 = .ok (.aload_n 0, 1) := by decide +kernel
theorem dX1_init_33 : decode cX1_init 33 = .ok (.iconst 1, 1) := by decide +kernel
theorem dX1_init_34 : decode cX1_init 34 = .ok (.putfield 29, 3) := by decide +kernel
theorem dX1_init_37 : decode cX1_init 37 = .ok (.aload_n 0, 1) := by decide +kernel
theorem dX1_init_38 : decode cX1_init 38 = .ok (.bipush 6, 2) := by decide +kernel
theorem dX1_init_40 : decode cX1_init 40 = .ok (.newarray .int, 2) := by decide +kernel
theorem dX1_init_42 : decode cX1_init 42 = .ok (.putfield 33, 3) := by decide +kernel
theorem dX1_init_45 : decode cX1_init 45 = .ok (.return_, 1) := by decide +kernel
theorem dX1_renew_0 : decode cX1_renew 0 = .ok (.aload_n 0, 1) := by decide +kernel
theorem dX1_renew_1 : decode cX1_renew 1 = .ok (.getfield 12, 3) := by decide +kernel
theorem dX1_renew_4 : decode cX1_renew 4 = .ok (.iconst 0, 1) := by decide +kernel
theorem dX1_renew_5 : decode cX1_renew 5 = .ok (.putfield 36, 3) := by decide +kernel
theorem dX1_renew_8 : decode cX1_renew 8 = .ok (.aload_n 0, 1) := by decide +kernel
theorem dX1_renew_9 : decode cX1_renew 9 = .ok (.iconst (-1), 1) := by decide +kernel
theorem dX1_renew_10 : decode cX1_renew 10 = .ok (.putfield 22, 3) := by decide +kernel
theorem dX1_renew_13 : decode cX1_renew 13 = .ok (.aload_n 0, 1) := by decide +kernel
theorem dX1_renew_14 : decode cX1_renew 14 = .ok (.iconst 0, 1) := by decide +kernel
theorem dX1_renew_15 : decode cX1_renew 15 = .ok (.putfield 26, 3) := by decide +kernel
theorem dX1_renew_18 : decode cX1_renew 18 = .ok (.aload_n 0, 1) := by decide +kernel
theorem dX1_renew_19 : decode cX1_renew 19 = .ok (.iconst 1, 1) := by decide +kernel
theorem dX1_renew_20 : decode cX1_renew 20 = .ok (.putfield 29, 3) := by decide +kernel
theorem dX1_renew_23 : decode cX1_renew 23 = .ok (.iconst 0, 1) := by decide +kernel
theorem dX1_renew_24 : decode cX1_renew 24 = .ok (.istore_n 1, 1) := by decide +kernel
theorem dX1_renew_25 : decode cX1_renew 25 = .ok (.iload_n 1, 1) := by decide +kernel
theorem dX1_renew_26 : decode cX1_renew 26 = .ok (.iconst 3, 1) := by decide +kernel
theorem dX1_renew_27 : decode cX1_renew 27 = .ok (.if_icmp .ge 18, 3) := by decide +kernel
theorem dX1_renew_30 : decode cX1_renew 30 = .ok (.aload_n 0, 1) := by decide +kernel
theorem dX1_renew_31 : decode cX1_renew 31 = .ok (.getfield 18, 3) := by decide +kernel
theorem dX1_renew_34 : decode cX1_renew 34 = .ok (.iload_n 1, 1) := by decide +kernel
theorem dX1_renew_35 : decode cX1_renew 35 = .ok (.iconst 0, 1) := by decide +kernel
theorem dX1_renew_36 : decode cX1_renew 36 = .ok (.invokestatic 39, 3) := by decide +kernel
theorem dX1_renew_39 : decode cX1_renew 39 = .ok (.iinc 1 1, 3) := by decide +kernel
theorem dX1_renew_42 : decode cX1_renew 42 = .ok (.goto (-17), 3) := by decide +kernel
theorem dX1_renew_45 : decode cX1_renew 45 = .ok (.return_, 1) := by decide +kernel
theorem dX1_readApplications_0 : decode cX1_readApplications 0 = .ok (.iconst 0, 1) := by decide +kernel
theorem dX1_readApplications_1 : decode cX1_readApplications 1 = .ok (.istore_n 3, 1) := by decide +kernel
theorem dX1_readApplications_2 : decode cX1_readApplications 2 = .ok (.iload_n 3, 1) := by decide +kernel
theorem dX1_readApplications_3 : decode cX1_readApplications 3 = .ok (.aload_n 1, 1) := by decide +kernel
theorem dX1_readApplications_4 : decode cX1_readApplications 4 = .ok (.getfield 43, 3) := by decide +kernel
theorem dX1_readApplications_7 : decode cX1_readApplications 7 = .ok (.if_icmp .ge 69, 3) := by decide +kernel
theorem dX1_readApplications_10 : decode cX1_readApplications 10 = .ok (.aload_n 1, 1) := by decide +kernel
theorem dX1_readApplications_11 : decode cX1_readApplications 11 = .ok (.iload_n 3, 1) := by decide +kernel
theorem dX1_readApplications_12 : decode cX1_readApplications 12 = .ok (.invokevirtual 46, 3) := by decide +kernel
theorem dX1_readApplications_15 : decode cX1_readApplications 15 = .ok (.istore 4, 2) := by decide +kernel
theorem dX1_readApplications_17 : decode cX1_readApplications 17 = .ok (.iload 4, 2) := by decide +kernel
theorem dX1_readApplications_19 : decode cX1_readApplications 19 = .ok (.iconst (-1), 1) := by decide +kernel
theorem dX1_readApplications_20 : decode cX1_readApplications 20 = .ok (.if_icmp .eq 50, 3) := by decide +kernel
theorem dX1_readApplications_23 : decode cX1_readApplications 23 = .ok (.aload_n 0, 1) := by decide +kernel
theorem dX1_readApplications_24 : decode cX1_readApplications 24 = .ok (.getfield 33, 3) := by decide +kernel
theorem dX1_readApplications_27 : decode cX1_readApplications 27 = .ok (.aload_n 0, 1) := by decide +kernel
theorem dX1_readApplications_28 : decode cX1_readApplications 28 = .ok (.getfield 12, 3) := by decide +kernel
theorem dX1_readApplications_31 : decode cX1_readApplications 31 = .ok (.getfield 36, 3) := by decide +kernel
theorem dX1_readApplications_34 : decode cX1_readApplications 34 = .ok (.aload_n 0, 1) := by decide +kernel
theorem dX1_readApplications_35 : decode cX1_readApplications 35 = .ok (.iload_n 3, 1) := by decide +kernel
theorem dX1_readApplications_36 : decode cX1_readApplications 36 = .ok (.aload_n 1, 1) := by decide +kernel
theorem dX1_readApplications_37 : decode cX1_readApplications 37 = .ok (.aload_n 2, 1) := by decide +kernel
theorem dX1_readApplications_38 : decode cX1_readApplications 38 = .ok (.invokevirtual 50, 3) := by decide +kernel
theorem dX1_readApplications_41 : decode cX1_readApplications 41 = .ok (.invokestatic 39, 3) := by decide +kernel
theorem dX1_readApplications_44 : decode cX1_readApplications 44 = .ok (.aload_n 0, 1) := by decide +kernel
theorem dX1_readApplications_45 : decode cX1_readApplications 45 = .ok (.getfield 12, 3) := by decide +kernel
theorem dX1_readApplications_48 : decode cX1_readApplications 48 = .ok (.aload_n 2, 1) := by decide +kernel
theorem dX1_readApplications_49 : decode cX1_readApplications 49 = .ok (.aload_n 1, 1) := by decide +kernel
theorem dX1_readApplications_50 : decode cX1_readApplications 50 = .ok (.getfield 54, 3) := by decide +kernel
theorem dX1_readApplications_53 : decode cX1_readApplications 53 = .ok (.iload 4, 2) := by decide +kernel
theorem dX1_readApplications_55 : decode cX1_readApplications 55 = .ok (.invokestatic 57, 3) := by decide +kernel
theorem dX1_readApplications_58 : decode cX1_readApplications 58 = .ok (.aload_n 1, 1) := by decide +kernel
theorem dX1_readApplications_59 : decode cX1_readApplications 59 = .ok (.getfield 61, 3) := by decide +kernel
theorem dX1_readApplications_62 : decode cX1_readApplications 62 = .ok (.iload 4, 2) := by decide +kernel
theorem dX1_readApplications_64 : decode cX1_readApplications 64 = .ok (.invokestatic 57, 3) := by decide +kernel
theorem dX1_readApplications_67 : decode cX1_readApplications 67 = .ok (.invokevirtual 64, 3) := by decide +kernel
theorem dX1_readApplications_70 : decode cX1_readApplications 70 = .ok (.iinc 3 1, 3) := by decide +kernel
theorem dX1_readApplications_73 : decode cX1_readApplications 73 = .ok (.goto (-71), 3) := by decide +kernel
theorem dX1_readApplications_76 : decode cX1_readApplications 76 = .ok (.return_, 1) := by decide +kernel
theorem dX1_indicatorIn_0 : decode cX1_indicatorIn 0 = .ok (.aload_n 2, 1) := by decide +kernel
theorem dX1_indicatorIn_1 : decode cX1_indicatorIn 1 = .ok (.iload_n 1, 1) := by decide +kernel
theorem dX1_indicatorIn_2 : decode cX1_indicatorIn 2 = .ok (.invokevirtual 68, 3) := by decide +kernel
theorem dX1_indicatorIn_5 : decode cX1_indicatorIn 5 = .ok (.istore 4, 2) := by decide +kernel
theorem dX1_indicatorIn_7 : decode cX1_indicatorIn 7 = .ok (.iload 4, 2) := by decide +kernel
theorem dX1_indicatorIn_9 : decode cX1_indicatorIn 9 = .ok (.iconst (-1), 1) := by decide +kernel
theorem dX1_indicatorIn_10 : decode cX1_indicatorIn 10 = .ok (.if_icmp .ne 7, 3) := by decide +kernel
theorem dX1_indicatorIn_13 : decode cX1_indicatorIn 13 = .ok (.iconst 0, 1) := by decide +kernel
theorem dX1_indicatorIn_14 : decode cX1_indicatorIn 14 = .ok (.goto 19, 3) := by decide +kernel
theorem dX1_indicatorIn_17 : decode cX1_indicatorIn 17 = .ok (.aload_n 3, 1) := by decide +kernel
theorem dX1_indicatorIn_18 : decode cX1_indicatorIn 18 = .ok (.getfield 71, 3) := by decide +kernel
theorem dX1_indicatorIn_21 : decode cX1_indicatorIn 21 = .ok (.aload_n 2, 1) := by decide +kernel
theorem dX1_indicatorIn_22 : decode cX1_indicatorIn 22 = .ok (.getfield 54, 3) := by decide +kernel
theorem dX1_indicatorIn_25 : decode cX1_indicatorIn 25 = .ok (.iload 4, 2) := by decide +kernel
theorem dX1_indicatorIn_27 : decode cX1_indicatorIn 27 = .ok (.invokestatic 57, 3) := by decide +kernel
theorem dX1_indicatorIn_30 : decode cX1_indicatorIn 30 = .ok (.invokestatic 57, 3) := by decide +kernel
theorem dX1_indicatorIn_33 : decode cX1_indicatorIn 33 = .ok (.ireturn, 1) := by decide +kernel
theorem dX1_hasApplication_0 : decode cX1_hasApplication 0 = .ok (.iload_n 1, 1) := by decide +kernel
theorem dX1_hasApplication_1 : decode cX1_hasApplication 1 = .ok (.ifCond .lt 18, 3) := by decide +kernel
theorem dX1_hasApplication_4 : decode cX1_hasApplication 4 = .ok (.iload_n 1, 1) := by decide +kernel
theorem dX1_hasApplication_5 : decode cX1_hasApplication 5 = .ok (.aload_n 0, 1) := by decide +kernel
theorem dX1_hasApplication_6 : decode cX1_hasApplication 6 = .ok (.getfield 12, 3) := by decide +kernel
theorem dX1_hasApplication_9 : decode cX1_hasApplication 9 = .ok (.getfield 36, 3) := by decide +kernel
theorem dX1_hasApplication_12 : decode cX1_hasApplication 12 = .ok (.if_icmp .ge 7, 3) := by decide +kernel
theorem dX1_hasApplication_15 : decode cX1_hasApplication 15 = .ok (.iconst 1, 1) := by decide +kernel
theorem dX1_hasApplication_16 : decode cX1_hasApplication 16 = .ok (.goto 4, 3) := by decide +kernel
theorem dX1_hasApplication_19 : decode cX1_hasApplication 19 = .ok (.iconst 0, 1) := by decide +kernel
theorem dX1_hasApplication_20 : decode cX1_hasApplication 20 = .ok (.ireturn, 1) := by decide +kernel
theorem dX1_priority_0 : decode cX1_priority 0 = .ok (.aload_n 0, 1) := by decide +kernel
theorem dX1_priority_1 : decode cX1_priority 1 = .ok (.getfield 33, 3) := by decide +kernel
theorem dX1_priority_4 : decode cX1_priority 4 = .ok (.iload_n 1, 1) := by decide +kernel
theorem dX1_priority_5 : decode cX1_priority 5 = .ok (.invokestatic 57, 3) := by decide +kernel
theorem dX1_priority_8 : decode cX1_priority 8 = .ok (.bipush 15, 2) := by decide +kernel
theorem dX1_priority_10 : decode cX1_priority 10 = .ok (.iand, 1) := by decide +kernel
theorem dX1_priority_11 : decode cX1_priority 11 = .ok (.ireturn, 1) := by decide +kernel
theorem dX1_needsConfirmation_0 : decode cX1_needsConfirmation 0 = .ok (.aload_n 0, 1) := by decide +kernel
theorem dX1_needsConfirmation_1 : decode cX1_needsConfirmation 1 = .ok (.getfield 33, 3) := by decide +kernel
theorem dX1_needsConfirmation_4 : decode cX1_needsConfirmation 4 = .ok (.iload_n 1, 1) := by decide +kernel
theorem dX1_needsConfirmation_5 : decode cX1_needsConfirmation 5 = .ok (.invokestatic 57, 3) := by decide +kernel
theorem dX1_needsConfirmation_8 : decode cX1_needsConfirmation 8 = .ok (.sipush 128, 3) := by decide +kernel
theorem dX1_needsConfirmation_11 : decode cX1_needsConfirmation 11 = .ok (.iand, 1) := by decide +kernel
theorem dX1_needsConfirmation_12 : decode cX1_needsConfirmation 12 = .ok (.ifCond .eq 7, 3) := by decide +kernel
theorem dX1_needsConfirmation_15 : decode cX1_needsConfirmation 15 = .ok (.iconst 1, 1) := by decide +kernel
theorem dX1_needsConfirmation_16 : decode cX1_needsConfirmation 16 = .ok (.goto 4, 3) := by decide +kernel
theorem dX1_needsConfirmation_19 : decode cX1_needsConfirmation 19 = .ok (.iconst 0, 1) := by decide +kernel
theorem dX1_needsConfirmation_20 : decode cX1_needsConfirmation 20 = .ok (.ireturn, 1) := by decide +kernel
theorem dX1_comesBefore_0 : decode cX1_comesBefore 0 = .ok (.aload_n 0, 1) := by decide +kernel
theorem dX1_comesBefore_1 : decode cX1_comesBefore 1 = .ok (.iload_n 1, 1) := by decide +kernel
theorem dX1_comesBefore_2 : decode cX1_comesBefore 2 = .ok (.invokevirtual 76, 3) := by decide +kernel
theorem dX1_comesBefore_5 : decode cX1_comesBefore 5 = .ok (.istore_n 3, 1) := by decide +kernel
theorem dX1_comesBefore_6 : decode cX1_comesBefore 6 = .ok (.aload_n 0, 1) := by decide +kernel
theorem dX1_comesBefore_7 : decode cX1_comesBefore 7 = .ok (.iload_n 2, 1) := by decide +kernel
theorem dX1_comesBefore_8 : decode cX1_comesBefore 8 = .ok (.invokevirtual 76, 3) := by decide +kernel
theorem dX1_comesBefore_11 : decode cX1_comesBefore 11 = .ok (.istore 4, 2) := by decide +kernel
theorem dX1_comesBefore_13 : decode cX1_comesBefore 13 = .ok (.iload_n 3, 1) := by decide +kernel
theorem dX1_comesBefore_14 : decode cX1_comesBefore 14 = .ok (.iload 4, 2) := by decide +kernel
theorem dX1_comesBefore_16 : decode cX1_comesBefore 16 = .ok (.if_icmp .lt 14, 3) := by decide +kernel
theorem dX1_comesBefore_19 : decode cX1_comesBefore 19 = .ok (.iload_n 3, 1) := by decide +kernel
theorem dX1_comesBefore_20 : decode cX1_comesBefore 20 = .ok (.iload 4, 2) := by decide +kernel
theorem dX1_comesBefore_22 : decode cX1_comesBefore 22 = .ok (.if_icmp .ne 12, 3) := by decide +kernel
theorem dX1_comesBefore_25 : decode cX1_comesBefore 25 = .ok (.iload_n 1, 1) := by decide +kernel
theorem dX1_comesBefore_26 : decode cX1_comesBefore 26 = .ok (.iload_n 2, 1) := by decide +kernel
theorem dX1_comesBefore_27 : decode cX1_comesBefore 27 = .ok (.if_icmp .ge 7, 3) := by decide +kernel
theorem dX1_comesBefore_30 : decode cX1_comesBefore 30 = .ok (.iconst 1, 1) := by decide +kernel
theorem dX1_comesBefore_31 : decode cX1_comesBefore 31 = .ok (.goto 4, 3) := by decide +kernel
theorem dX1_comesBefore_34 : decode cX1_comesBefore 34 = .ok (.iconst 0, 1) := by decide +kernel
theorem dX1_comesBefore_35 : decode cX1_comesBefore 35 = .ok (.ireturn, 1) := by decide +kernel
theorem dX1_rank_0 : decode cX1_rank 0 = .ok (.aload_n 0, 1) := by decide +kernel
theorem dX1_rank_1 : decode cX1_rank 1 = .ok (.iload_n 1, 1) := by decide +kernel
theorem dX1_rank_2 : decode cX1_rank 2 = .ok (.invokevirtual 79, 3) := by decide +kernel
theorem dX1_rank_5 : decode cX1_rank 5 = .ok (.istore_n 2, 1) := by decide +kernel
theorem dX1_rank_6 : decode cX1_rank 6 = .ok (.iload_n 2, 1) := by decide +kernel
theorem dX1_rank_7 : decode cX1_rank 7 = .ok (.ifCond .ne 8, 3) := by decide +kernel
theorem dX1_rank_10 : decode cX1_rank 10 = .ok (.bipush 16, 2) := by decide +kernel
theorem dX1_rank_12 : decode cX1_rank 12 = .ok (.goto 4, 3) := by decide +kernel
theorem dX1_rank_15 : decode cX1_rank 15 = .ok (.iload_n 2, 1) := by decide +kernel
theorem dX1_rank_16 : decode cX1_rank 16 = .ok (.ireturn, 1) := by decide +kernel
theorem dX1_countOffline_0 : decode cX1_countOffline 0 = .ok (.aload_n 0, 1) := by decide +kernel
theorem dX1_countOffline_1 : decode cX1_countOffline 1 = .ok (.getfield 26, 3) := by decide +kernel
theorem dX1_countOffline_4 : decode cX1_countOffline 4 = .ok (.bipush 15, 2) := by decide +kernel
theorem dX1_countOffline_6 : decode cX1_countOffline 6 = .ok (.if_icmp .ge 13, 3) := by decide +kernel
theorem dX1_countOffline_9 : decode cX1_countOffline 9 = .ok (.aload_n 0, 1) := by decide +kernel
theorem dX1_countOffline_10 : decode cX1_countOffline 10 = .ok (.dup, 1) := by decide +kernel
theorem dX1_countOffline_11 : decode cX1_countOffline 11 = .ok (.getfield 26, 3) := by decide +kernel
theorem dX1_countOffline_14 : decode cX1_countOffline 14 = .ok (.iconst 1, 1) := by decide +kernel
theorem dX1_countOffline_15 : decode cX1_countOffline 15 = .ok (.iadd, 1) := by decide +kernel
theorem dX1_countOffline_16 : decode cX1_countOffline 16 = .ok (.putfield 26, 3) := by decide +kernel
theorem dX1_countOffline_19 : decode cX1_countOffline 19 = .ok (.return_, 1) := by decide +kernel
theorem dX1_passOnline_0 : decode cX1_passOnline 0 = .ok (.aload_n 0, 1) := by decide +kernel
theorem dX1_passOnline_1 : decode cX1_passOnline 1 = .ok (.iconst 0, 1) := by decide +kernel
theorem dX1_passOnline_2 : decode cX1_passOnline 2 = .ok (.putfield 26, 3) := by decide +kernel
theorem dX1_passOnline_5 : decode cX1_passOnline 5 = .ok (.aload_n 0, 1) := by decide +kernel
theorem dX1_passOnline_6 : decode cX1_passOnline 6 = .ok (.iconst 0, 1) := by decide +kernel
theorem dX1_passOnline_7 : decode cX1_passOnline 7 = .ok (.putfield 29, 3) := by decide +kernel
theorem dX1_passOnline_10 : decode cX1_passOnline 10 = .ok (.return_, 1) := by decide +kernel
theorem dX2_init_0 : decode cX2_init 0 = .ok (.aload_n 0, 1) := by decide +kernel
theorem dX2_init_1 : decode cX2_init 1 = .ok (.invokespecial 3, 3) := by decide +kernel
theorem dX2_init_4 : decode cX2_init 4 = .ok (.aload_n 0, 1) := by decide +kernel
theorem dX2_init_5 : decode cX2_init 5 = .ok (.bipush 24, 2) := by decide +kernel
theorem dX2_init_7 : decode cX2_init 7 = .ok (.newarray .int, 2) := by decide +kernel
theorem dX2_init_9 : decode cX2_init 9 = .ok (.putfield 9, 3) := by decide +kernel
theorem dX2_init_12 : decode cX2_init 12 = .ok (.aload_n 0, 1) := by decide +kernel
theorem dX2_init_13 : decode cX2_init 13 = .ok (.bipush 24, 2) := by decide +kernel
theorem dX2_init_15 : decode cX2_init 15 = .ok (.newarray .int, 2) := by decide +kernel
theorem dX2_init_17 : decode cX2_init 17 = .ok (.putfield 15, 3) := by decide +kernel
theorem dX2_init_20 : decode cX2_init 20 = .ok (.aload_n 0, 1) := by decide +kernel
theorem dX2_init_21 : decode cX2_init 21 = .ok (.bipush 24, 2) := by decide +kernel
theorem dX2_init_23 : decode cX2_init 23 = .ok (.newarray .int, 2) := by decide +kernel
theorem dX2_init_25 : decode cX2_init 25 = .ok (.putfield 18, 3) := by decide +kernel
theorem dX2_init_28 : decode cX2_init 28 = .ok (.aload_n 0, 1) := by decide +kernel
theorem dX2_init_29 : decode cX2_init 29 = .ok (.bipush 24, 2) := by decide +kernel
theorem dX2_init_31 : decode cX2_init 31 = .ok (.newarray .int, 2) := by decide +kernel
theorem dX2_init_33 : decode cX2_init 33 = .ok (.putfield 21, 3) := by decide +kernel
theorem dX2_init_36 : decode cX2_init 36 = .ok (.aload_n 0, 1) := by decide +kernel
theorem dX2_init_37 : decode cX2_init 37 = .ok (.bipush 24, 2) := by decide +kernel
theorem dX2_init_39 : decode cX2_init 39 = .ok (.newarray .int, 2) := by decide +kernel
theorem dX2_init_41 : decode cX2_init 41 = .ok (.putfield 24, 3) := by decide +kernel
theorem dX2_init_44 : decode cX2_init 44 = .ok (.aload_n 0, 1) := by decide +kernel
theorem dX2_init_45 : decode cX2_init 45 = .ok (.iconst 0, 1) := by decide +kernel
theorem dX2_init_46 : decode cX2_init 46 = .ok (.putfield 27, 3) := by decide +kernel
theorem dX2_init_49 : decode cX2_init 49 = .ok (.aload_n 0, 1) := by decide +kernel
theorem dX2_init_50 : decode cX2_init 50 = .ok (.iconst (-1), 1) := by decide +kernel
theorem dX2_init_51 : decode cX2_init 51 = .ok (.putfield 31, 3) := by decide +kernel
theorem dX2_init_54 : decode cX2_init 54 = .ok (.aload_n 0, 1) := by decide +kernel
theorem dX2_init_55 : decode cX2_init 55 = .ok (.iconst 0, 1) := by decide +kernel
theorem dX2_init_56 : decode cX2_init 56 = .ok (.putfield 34, 3) := by decide +kernel
theorem dX2_init_59 : decode cX2_init 59 = .ok (.return_, 1) := by decide +kernel
theorem dX2_isBroken_0 : decode cX2_isBroken 0 = .ok (.aload_n 0, 1) := by decide +kernel
theorem dX2_isBroken_1 : decode cX2_isBroken 1 = .ok (.getfield 31, 3) := by decide +kernel
theorem dX2_isBroken_4 : decode cX2_isBroken 4 = .ok (.iconst (-1), 1) := by decide +kernel
theorem dX2_isBroken_5 : decode cX2_isBroken 5 = .ok (.if_icmp .eq 7, 3) := by decide +kernel
theorem dX2_isBroken_8 : decode cX2_isBroken 8 = .ok (.iconst 1, 1) := by decide +kernel
theorem dX2_isBroken_9 : decode cX2_isBroken 9 = .ok (.goto 4, 3) := by decide +kernel
theorem dX2_isBroken_12 : decode cX2_isBroken 12 = .ok (.iconst 0, 1) := by decide +kernel
theorem dX2_isBroken_13 : decode cX2_isBroken 13 = .ok (.ireturn, 1) := by decide +kernel
theorem dX2_read_0 : decode cX2_read 0 = .ok (.aload_n 0, 1) := by decide +kernel
theorem dX2_read_1 : decode cX2_read 1 = .ok (.iconst 0, 1) := by decide +kernel
theorem dX2_read_2 : decode cX2_read 2 = .ok (.putfield 27, 3) := by decide +kernel
theorem dX2_read_5 : decode cX2_read 5 = .ok (.aload_n 0, 1) := by decide +kernel
theorem dX2_read_6 : decode cX2_read 6 = .ok (.iconst (-1), 1) := by decide +kernel
theorem dX2_read_7 : decode cX2_read 7 = .ok (.putfield 31, 3) := by decide +kernel
theorem dX2_read_10 : decode cX2_read 10 = .ok (.aload_n 0, 1) := by decide +kernel
theorem dX2_read_11 : decode cX2_read 11 = .ok (.iconst 0, 1) := by decide +kernel
theorem dX2_read_12 : decode cX2_read 12 = .ok (.putfield 34, 3) := by decide +kernel
theorem dX2_read_15 : decode cX2_read 15 = .ok (.iconst (-1), 1) := by decide +kernel
theorem dX2_read_16 : decode cX2_read 16 = .ok (.istore_n 2, 1) := by decide +kernel
theorem dX2_read_17 : decode cX2_read 17 = .ok (.iconst 0, 1) := by decide +kernel
theorem dX2_read_18 : decode cX2_read 18 = .ok (.istore_n 3, 1) := by decide +kernel
theorem dX2_read_19 : decode cX2_read 19 = .ok (.iload_n 3, 1) := by decide +kernel
theorem dX2_read_20 : decode cX2_read 20 = .ok (.bipush 24, 2) := by decide +kernel
theorem dX2_read_22 : decode cX2_read 22 = .ok (.if_icmp .gt 209, 3) := by decide +kernel
theorem dX2_read_25 : decode cX2_read 25 = .ok (.aload_n 0, 1) := by decide +kernel
theorem dX2_read_26 : decode cX2_read 26 = .ok (.iload_n 2, 1) := by decide +kernel
theorem dX2_read_27 : decode cX2_read 27 = .ok (.invokevirtual 37, 3) := by decide +kernel
theorem dX2_read_30 : decode cX2_read 30 = .ok (.istore_n 2, 1) := by decide +kernel
theorem dX2_read_31 : decode cX2_read 31 = .ok (.aload_n 0, 1) := by decide +kernel
theorem dX2_read_32 : decode cX2_read 32 = .ok (.getfield 34, 3) := by decide +kernel
theorem dX2_read_35 : decode cX2_read 35 = .ok (.aload_n 1, 1) := by decide +kernel
theorem dX2_read_36 : decode cX2_read 36 = .ok (.getfield 41, 3) := by decide +kernel
theorem dX2_read_39 : decode cX2_read 39 = .ok (.if_icmp .lt 4, 3) := by decide +kernel
theorem dX2_read_42 : decode cX2_read 42 = .ok (.return_, 1) := by decide +kernel
theorem dX2_read_43 : decode cX2_read 43 = .ok (.aload_n 0, 1) := by decide +kernel
theorem dX2_read_44 : decode cX2_read 44 = .ok (.getfield 27, 3) := by decide +kernel
theorem dX2_read_47 : decode cX2_read 47 = .ok (.bipush 24, 2) := by decide +kernel
theorem dX2_read_49 : decode cX2_read 49 = .ok (.if_icmp .lt 12, 3) := by decide +kernel
theorem dX2_read_52 : decode cX2_read 52 = .ok (.aload_n 0, 1) := by decide +kernel
theorem dX2_read_53 : decode cX2_read 53 = .ok (.aload_n 0, 1) := by decide +kernel
theorem dX2_read_54 : decode cX2_read 54 = .ok (.getfield 34, 3) := by decide +kernel
theorem dX2_read_57 : decode cX2_read 57 = .ok (.putfield 31, 3) := by decide +kernel
theorem dX2_read_60 : decode cX2_read 60 = .ok (.return_, 1) := by decide +kernel
theorem dX2_read_61 : decode cX2_read 61 = .ok (.iload_n 2, 1) := by decide +kernel
theorem dX2_read_62 : decode cX2_read 62 = .ok (.iconst (-1), 1) := by decide +kernel
theorem dX2_read_63 : decode cX2_read 63 = .ok (.if_icmp .ne 10, 3) := by decide +kernel
theorem dX2_read_66 : decode cX2_read 66 = .ok (.aload_n 1, 1) := by decide +kernel
theorem dX2_read_67 : decode cX2_read 67 = .ok (.getfield 41, 3) := by decide +kernel
theorem dX2_read_70 : decode cX2_read 70 = .ok (.goto 8, 3) := by decide +kernel
theorem dX2_read_73 : decode cX2_read 73 = .ok (.aload_n 0, 1) := by decide +kernel
theorem dX2_read_74 : decode cX2_read 74 = .ok (.iload_n 2, 1) := by decide +kernel
theorem dX2_read_75 : decode cX2_read 75 = .ok (.invokevirtual 46, 3) := by decide +kernel
theorem dX2_read_78 : decode cX2_read 78 = .ok (.istore 4, 2) := by decide +kernel
theorem dX2_read_80 : decode cX2_read 80 = .ok (.aload_n 1, 1) := by decide +kernel
theorem dX2_read_81 : decode cX2_read 81 = .ok (.getfield 49, 3) := by decide +kernel
theorem dX2_read_84 : decode cX2_read 84 = .ok (.aload_n 0, 1) := by decide +kernel
theorem dX2_read_85 : decode cX2_read 85 = .ok (.getfield 34, 3) := by decide +kernel
theorem dX2_read_88 : decode cX2_read 88 = .ok (.invokestatic 52, 3) := by decide +kernel
theorem dX2_read_91 : decode cX2_read 91 = .ok (.bipush 32, 2) := by decide +kernel
theorem dX2_read_93 : decode cX2_read 93 = .ok (.iand, 1) := by decide +kernel
theorem dX2_read_94 : decode cX2_read 94 = .ok (.ifCond .eq 7, 3) := by decide +kernel
theorem dX2_read_97 : decode cX2_read 97 = .ok (.iconst 1, 1) := by decide +kernel
theorem dX2_read_98 : decode cX2_read 98 = .ok (.goto 4, 3) := by decide +kernel
theorem dX2_read_101 : decode cX2_read 101 = .ok (.iconst 0, 1) := by decide +kernel
theorem dX2_read_102 : decode cX2_read 102 = .ok (.istore 5, 2) := by decide +kernel
theorem dX2_read_104 : decode cX2_read 104 = .ok (.aload_n 0, 1) := by decide +kernel
theorem dX2_read_105 : decode cX2_read 105 = .ok (.aload_n 1, 1) := by decide +kernel
theorem dX2_read_106 : decode cX2_read 106 = .ok (.iload 4, 2) := by decide +kernel
theorem dX2_read_108 : decode cX2_read 108 = .ok (.invokevirtual 56, 3) := by decide +kernel
theorem dX2_read_111 : decode cX2_read 111 = .ok (.ifCond .eq 13, 3) := by decide +kernel
theorem dX2_read_114 : decode cX2_read 114 = .ok (.aload_n 0, 1) := by decide +kernel
theorem dX2_read_115 : decode cX2_read 115 = .ok (.aload_n 1, 1) := by decide +kernel
theorem dX2_read_116 : decode cX2_read 116 = .ok (.iload 4, 2) := by decide +kernel
theorem dX2_read_118 : decode cX2_read 118 = .ok (.invokevirtual 60, 3) := by decide +kernel
theorem dX2_read_121 : decode cX2_read 121 = .ok (.ifCond .ne 4, 3) := by decide +kernel
theorem dX2_read_124 : decode cX2_read 124 = .ok (.return_, 1) := by decide +kernel
theorem dX2_read_125 : decode cX2_read 125 = .ok (.aload_n 0, 1) := by decide +kernel
theorem dX2_read_126 : decode cX2_read 126 = .ok (.getfield 21, 3) := by decide +kernel
theorem dX2_read_129 : decode cX2_read 129 = .ok (.aload_n 0, 1) := by decide +kernel
theorem dX2_read_130 : decode cX2_read 130 = .ok (.getfield 27, 3) := by decide +kernel
theorem dX2_read_133 : decode cX2_read 133 = .ok (.iload_n 2, 1) := by decide +kernel
theorem dX2_read_134 : decode cX2_read 134 = .ok (.invokestatic 63, 3) := by decide +kernel
theorem dX2_read_137 : decode cX2_read 137 = .ok (.aload_n 0, 1) := by decide +kernel
theorem dX2_read_138 : decode cX2_read 138 = .ok (.getfield 18, 3) := by decide +kernel
theorem dX2_read_141 : decode cX2_read 141 = .ok (.aload_n 0, 1) := by decide +kernel
theorem dX2_read_142 : decode cX2_read 142 = .ok (.getfield 27, 3) := by decide +kernel
theorem dX2_read_145 : decode cX2_read 145 = .ok (.iload_n 2, 1) := by decide +kernel
theorem dX2_read_146 : decode cX2_read 146 = .ok (.iconst (-1), 1) := by decide +kernel
theorem dX2_read_147 : decode cX2_read 147 = .ok (.if_icmp .ne 7, 3) := by decide +kernel
theorem dX2_read_150 : decode cX2_read 150 = .ok (.iconst 0, 1) := by decide +kernel
theorem dX2_read_151 : decode cX2_read 151 = .ok (.goto 13, 3) := by decide +kernel
theorem dX2_read_154 : decode cX2_read 154 = .ok (.aload_n 0, 1) := by decide +kernel
theorem dX2_read_155 : decode cX2_read 155 = .ok (.getfield 18, 3) := by decide +kernel
theorem dX2_read_158 : decode cX2_read 158 = .ok (.iload_n 2, 1) := by decide +kernel
theorem dX2_read_159 : decode cX2_read 159 = .ok (.invokestatic 52, 3) := by decide +kernel
theorem dX2_read_162 : decode cX2_read 162 = .ok (.iconst 1, 1) := by decide +kernel
theorem dX2_read_163 : decode cX2_read 163 = .ok (.iadd, 1) := by decide +kernel
theorem dX2_read_164 : decode cX2_read 164 = .ok (.invokestatic 63, 3) := by decide +kernel
theorem dX2_read_167 : decode cX2_read 167 = .ok (.aload_n 0, 1) := by decide +kernel
theorem dX2_read_168 : decode cX2_read 168 = .ok (.getfield 24, 3) := by decide +kernel
theorem dX2_read_171 : decode cX2_read 171 = .ok (.aload_n 0, 1) := by decide +kernel
theorem dX2_read_172 : decode cX2_read 172 = .ok (.getfield 27, 3) := by decide +kernel
theorem dX2_read_175 : decode cX2_read 175 = .ok (.aload_n 0, 1) := by decide +kernel
theorem dX2_read_176 : decode cX2_read 176 = .ok (.getfield 34, 3) := by decide +kernel
theorem dX2_read_179 : decode cX2_read 179 = .ok (.invokestatic 63, 3) := by decide +kernel
theorem dX2_read_182 : decode cX2_read 182 = .ok (.iload 5, 2) := by decide +kernel
theorem dX2_read_184 : decode cX2_read 184 = .ok (.ifCond .eq 11, 3) := by decide +kernel
theorem dX2_read_187 : decode cX2_read 187 = .ok (.aload_n 0, 1) := by decide +kernel
theorem dX2_read_188 : decode cX2_read 188 = .ok (.getfield 27, 3) := by decide +kernel
theorem dX2_read_191 : decode cX2_read 191 = .ok (.istore_n 2, 1) := by decide +kernel
theorem dX2_read_192 : decode cX2_read 192 = .ok (.goto 23, 3) := by decide +kernel
theorem dX2_read_195 : decode cX2_read 195 = .ok (.aload_n 0, 1) := by decide +kernel
theorem dX2_read_196 : decode cX2_read 196 = .ok (.dup, 1) := by decide +kernel
theorem dX2_read_197 : decode cX2_read 197 = .ok (.getfield 34, 3) := by decide +kernel
theorem dX2_read_200 : decode cX2_read 200 = .ok (.aload_n 0, 1) := by decide +kernel
theorem dX2_read_201 : decode cX2_read 201 = .ok (.getfield 15, 3) := by decide +kernel
theorem dX2_read_204 : decode cX2_read 204 = .ok (.aload_n 0, 1) := by decide +kernel
theorem dX2_read_205 : decode cX2_read 205 = .ok (.getfield 27, 3) := by decide +kernel
theorem dX2_read_208 : decode cX2_read 208 = .ok (.invokestatic 52, 3) := by decide +kernel
theorem dX2_read_211 : decode cX2_read 211 = .ok (.iadd, 1) := by decide +kernel
theorem dX2_read_212 : decode cX2_read 212 = .ok (.putfield 34, 3) := by decide +kernel
theorem dX2_read_215 : decode cX2_read 215 = .ok (.aload_n 0, 1) := by decide +kernel
theorem dX2_read_216 : decode cX2_read 216 = .ok (.dup, 1) := by decide +kernel
theorem dX2_read_217 : decode cX2_read 217 = .ok (.getfield 27, 3) := by decide +kernel
theorem dX2_read_220 : decode cX2_read 220 = .ok (.iconst 1, 1) := by decide +kernel
theorem dX2_read_221 : decode cX2_read 221 = .ok (.iadd, 1) := by decide +kernel
theorem dX2_read_222 : decode cX2_read 222 = .ok (.putfield 27, 3) := by decide +kernel
theorem dX2_read_225 : decode cX2_read 225 = .ok (.iinc 3 1, 3) := by decide +kernel
theorem dX2_read_228 : decode cX2_read 228 = .ok (.goto (-209), 3) := by decide +kernel
theorem dX2_read_231 : decode cX2_read 231 = .ok (.return_, 1) := by decide +kernel
theorem dX2_stillOpen_0 : decode cX2_stillOpen 0 = .ok (.iload_n 1, 1) := by decide +kernel
theorem dX2_stillOpen_1 : decode cX2_stillOpen 1 = .ok (.istore_n 2, 1) := by decide +kernel
theorem dX2_stillOpen_2 : decode cX2_stillOpen 2 = .ok (.iconst 0, 1) := by decide +kernel
theorem dX2_stillOpen_3 : decode cX2_stillOpen 3 = .ok (.istore_n 3, 1) := by decide +kernel
theorem dX2_stillOpen_4 : decode cX2_stillOpen 4 = .ok (.iload_n 3, 1) := by decide +kernel
theorem dX2_stillOpen_5 : decode cX2_stillOpen 5 = .ok (.bipush 24, 2) := by decide +kernel
theorem dX2_stillOpen_7 : decode cX2_stillOpen 7 = .ok (.if_icmp .ge 35, 3) := by decide +kernel
theorem dX2_stillOpen_10 : decode cX2_stillOpen 10 = .ok (.iload_n 2, 1) := by decide +kernel
theorem dX2_stillOpen_11 : decode cX2_stillOpen 11 = .ok (.iconst (-1), 1) := by decide +kernel
theorem dX2_stillOpen_12 : decode cX2_stillOpen 12 = .ok (.if_icmp .eq 30, 3) := by decide +kernel
theorem dX2_stillOpen_15 : decode cX2_stillOpen 15 = .ok (.aload_n 0, 1) := by decide +kernel
theorem dX2_stillOpen_16 : decode cX2_stillOpen 16 = .ok (.getfield 34, 3) := by decide +kernel
theorem dX2_stillOpen_19 : decode cX2_stillOpen 19 = .ok (.aload_n 0, 1) := by decide +kernel
theorem dX2_stillOpen_20 : decode cX2_stillOpen 20 = .ok (.iload_n 2, 1) := by decide +kernel
theorem dX2_stillOpen_21 : decode cX2_stillOpen 21 = .ok (.invokevirtual 46, 3) := by decide +kernel
theorem dX2_stillOpen_24 : decode cX2_stillOpen 24 = .ok (.if_icmp .lt 18, 3) := by decide +kernel
theorem dX2_stillOpen_27 : decode cX2_stillOpen 27 = .ok (.aload_n 0, 1) := by decide +kernel
theorem dX2_stillOpen_28 : decode cX2_stillOpen 28 = .ok (.getfield 21, 3) := by decide +kernel
theorem dX2_stillOpen_31 : decode cX2_stillOpen 31 = .ok (.iload_n 2, 1) := by decide +kernel
theorem dX2_stillOpen_32 : decode cX2_stillOpen 32 = .ok (.invokestatic 52, 3) := by decide +kernel
theorem dX2_stillOpen_35 : decode cX2_stillOpen 35 = .ok (.istore_n 2, 1) := by decide +kernel
theorem dX2_stillOpen_36 : decode cX2_stillOpen 36 = .ok (.iinc 3 1, 3) := by decide +kernel
theorem dX2_stillOpen_39 : decode cX2_stillOpen 39 = .ok (.goto (-35), 3) := by decide +kernel
theorem dX2_stillOpen_42 : decode cX2_stillOpen 42 = .ok (.iload_n 2, 1) := by decide +kernel
theorem dX2_stillOpen_43 : decode cX2_stillOpen 43 = .ok (.ireturn, 1) := by decide +kernel
theorem dX2_valueEnd_0 : decode cX2_valueEnd 0 = .ok (.aload_n 0, 1) := by decide +kernel
theorem dX2_valueEnd_1 : decode cX2_valueEnd 1 = .ok (.getfield 24, 3) := by decide +kernel
theorem dX2_valueEnd_4 : decode cX2_valueEnd 4 = .ok (.iload_n 1, 1) := by decide +kernel
theorem dX2_valueEnd_5 : decode cX2_valueEnd 5 = .ok (.invokestatic 52, 3) := by decide +kernel
theorem dX2_valueEnd_8 : decode cX2_valueEnd 8 = .ok (.aload_n 0, 1) := by decide +kernel
theorem dX2_valueEnd_9 : decode cX2_valueEnd 9 = .ok (.getfield 15, 3) := by decide +kernel
theorem dX2_valueEnd_12 : decode cX2_valueEnd 12 = .ok (.iload_n 1, 1) := by decide +kernel
theorem dX2_valueEnd_13 : decode cX2_valueEnd 13 = .ok (.invokestatic 52, 3) := by decide +kernel
theorem dX2_valueEnd_16 : decode cX2_valueEnd 16 = .ok (.iadd, 1) := by decide +kernel
theorem dX2_valueEnd_17 : decode cX2_valueEnd 17 = .ok (.ireturn, 1) := by decide +kernel
theorem dX2_readTag_0 : decode cX2_readTag 0 = .ok (.aload_n 1, 1) := by decide +kernel
theorem dX2_readTag_1 : decode cX2_readTag 1 = .ok (.getfield 49, 3) := by decide +kernel
theorem dX2_readTag_4 : decode cX2_readTag 4 = .ok (.aload_n 0, 1) := by decide +kernel
theorem dX2_readTag_5 : decode cX2_readTag 5 = .ok (.getfield 34, 3) := by decide +kernel
theorem dX2_readTag_8 : decode cX2_readTag 8 = .ok (.invokestatic 52, 3) := by decide +kernel
theorem dX2_readTag_11 : decode cX2_readTag 11 = .ok (.istore_n 3, 1) := by decide +kernel
theorem dX2_readTag_12 : decode cX2_readTag 12 = .ok (.aload_n 0, 1) := by decide +kernel
theorem dX2_readTag_13 : decode cX2_readTag 13 = .ok (.dup, 1) := by decide +kernel
theorem dX2_readTag_14 : decode cX2_readTag 14 = .ok (.getfield 34, 3) := by decide +kernel
theorem dX2_readTag_17 : decode cX2_readTag 17 = .ok (.iconst 1, 1) := by decide +kernel
theorem dX2_readTag_18 : decode cX2_readTag 18 = .ok (.iadd, 1) := by decide +kernel
theorem dX2_readTag_19 : decode cX2_readTag 19 = .ok (.putfield 34, 3) := by decide +kernel
theorem dX2_readTag_22 : decode cX2_readTag 22 = .ok (.iload_n 3, 1) := by decide +kernel
theorem dX2_readTag_23 : decode cX2_readTag 23 = .ok (.bipush 31, 2) := by decide +kernel
theorem dX2_readTag_25 : decode cX2_readTag 25 = .ok (.iand, 1) := by decide +kernel
theorem dX2_readTag_26 : decode cX2_readTag 26 = .ok (.bipush 31, 2) := by decide +kernel
theorem dX2_readTag_28 : decode cX2_readTag 28 = .ok (.if_icmp .ne 66, 3) := by decide +kernel
theorem dX2_readTag_31 : decode cX2_readTag 31 = .ok (.aload_n 0, 1) := by decide +kernel
theorem dX2_readTag_32 : decode cX2_readTag 32 = .ok (.getfield 34, 3) := by decide +kernel
theorem dX2_readTag_35 : decode cX2_readTag 35 = .ok (.iload_n 2, 1) := by decide +kernel
theorem dX2_readTag_36 : decode cX2_readTag 36 = .ok (.if_icmp .lt 9, 3) := by decide +kernel
theorem dX2_readTag_39 : decode cX2_readTag 39 = .ok (.aload_n 0, 1) := by decide +kernel
theorem dX2_readTag_40 : decode cX2_readTag 40 = .ok (.iload_n 2, 1) := by decide +kernel
theorem dX2_readTag_41 : decode cX2_readTag 41 = .ok (.invokevirtual 67, 3) := by decide +kernel
theorem dX2_readTag_44 : decode cX2_readTag 44 = .ok (.ireturn, 1) := by decide +kernel
theorem dX2_readTag_45 : decode cX2_readTag 45 = .ok (.aload_n 1, 1) := by decide +kernel
theorem dX2_readTag_46 : decode cX2_readTag 46 = .ok (.getfield 49, 3) := by decide +kernel
theorem dX2_readTag_49 : decode cX2_readTag 49 = .ok (.aload_n 0, 1) := by decide +kernel
theorem dX2_readTag_50 : decode cX2_readTag 50 = .ok (.getfield 34, 3) := by decide +kernel
theorem dX2_readTag_53 : decode cX2_readTag 53 = .ok (.invokestatic 52, 3) := by decide +kernel
theorem dX2_readTag_56 : decode cX2_readTag 56 = .ok (.istore 4, 2) := by decide +kernel
theorem dX2_readTag_58 : decode cX2_readTag 58 = .ok (.iload 4, 2) := by decide +kernel
theorem dX2_readTag_60 : decode cX2_readTag 60 = .ok (.sipush 128, 3) := by decide +kernel
theorem dX2_readTag_63 : decode cX2_readTag 63 = .ok (.if_icmp .lt 12, 3) := by decide +kernel
theorem dX2_readTag_66 : decode cX2_readTag 66 = .ok (.aload_n 0, 1) := by decide +kernel
theorem dX2_readTag_67 : decode cX2_readTag 67 = .ok (.aload_n 0, 1) := by decide +kernel
theorem dX2_readTag_68 : decode cX2_readTag 68 = .ok (.getfield 34, 3) := by decide +kernel
theorem dX2_readTag_71 : decode cX2_readTag 71 = .ok (.invokevirtual 67, 3) := by decide +kernel
theorem dX2_readTag_74 : decode cX2_readTag 74 = .ok (.ireturn, 1) := by decide +kernel
theorem dX2_readTag_75 : decode cX2_readTag 75 = .ok (.sipush 256, 3) := by decide +kernel
theorem dX2_readTag_78 : decode cX2_readTag 78 = .ok (.iload_n 3, 1) := by decide +kernel

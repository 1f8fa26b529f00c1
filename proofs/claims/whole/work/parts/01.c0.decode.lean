theorem dX4_init_0 : decode cX4_init 0 = .ok (.aload_n 0, 1) := by decide +kernel
theorem dX4_init_1 : decode cX4_init 1 = .ok (.invokespecial 3, 3) := by decide +kernel
theorem dX4_init_4 : decode cX4_init 4 = .ok (.aload_n 0, 1) := by decide +kernel
theorem dX4_init_5 : decode cX4_init 5 = .ok (.iconst 0, 1) := by decide +kernel
theorem dX4_init_6 : decode cX4_init 6 = .ok (.putfield 9, 3) := by decide +kernel
theorem dX4_init_9 : decode cX4_init 9 = .ok (.aload_n 0, 1) := by decide +kernel
theorem dX4_init_10 : decode cX4_init 10 = .ok (.iconst 3, 1) := by decide +kernel
theorem dX4_init_11 : decode cX4_init 11 = .ok (.newarray .int, 2) := by decide +kernel
theorem dX4_init_13 : decode cX4_init 13 = .ok (.putfield 15, 3) := by decide +kernel
theorem dX4_init_16 : decode cX4_init 16 = .ok (.return_, 1) := by decide +kernel
theorem dX4_add_0 : decode cX4_add 0 = .ok (.aload_n 0, 1) := by decide +kernel
theorem dX4_add_1 : decode cX4_add 1 = .ok (.getfield 9, 3) := by decide +kernel
theorem dX4_add_4 : decode cX4_add 4 = .ok (.iconst 3, 1) := by decide +kernel
theorem dX4_add_5 : decode cX4_add 5 = .ok (.if_icmp .ge 25, 3) := by decide +kernel
theorem dX4_add_8 : decode cX4_add 8 = .ok (.aload_n 0, 1) := by decide +kernel
theorem dX4_add_9 : decode cX4_add 9 = .ok (.getfield 15, 3) := by decide +kernel
theorem dX4_add_12 : decode cX4_add 12 = .ok (.aload_n 0, 1) := by decide +kernel
theorem dX4_add_13 : decode cX4_add 13 = .ok (.getfield 9, 3) := by decide +kernel
theorem dX4_add_16 : decode cX4_add 16 = .ok (.iload_n 1, 1) := by decide +kernel
theorem dX4_add_17 : decode cX4_add 17 = .ok (.invokestatic 19, 3) := by decide +kernel
theorem dX4_add_20 : decode cX4_add 20 = .ok (.aload_n 0, 1) := by decide +kernel
theorem dX4_add_21 : decode cX4_add 21 = .ok (.dup, 1) := by decide +kernel
theorem dX4_add_22 : decode cX4_add 22 = .ok (.getfield 9, 3) := by decide +kernel
theorem dX4_add_25 : decode cX4_add 25 = .ok (.iconst 1, 1) := by decide +kernel
theorem dX4_add_26 : decode cX4_add 26 = .ok (.iadd, 1) := by decide +kernel
theorem dX4_add_27 : decode cX4_add 27 = .ok (.putfield 9, 3) := by decide +kernel
theorem dX4_add_30 : decode cX4_add 30 = .ok (.return_, 1) := by decide +kernel
theorem dX4_first_0 : decode cX4_first 0 = .ok (.aload_n 0, 1) := by decide +kernel
theorem dX4_first_1 : decode cX4_first 1 = .ok (.getfield 15, 3) := by decide +kernel
theorem dX4_first_4 : decode cX4_first 4 = .ok (.iconst 0, 1) := by decide +kernel
theorem dX4_first_5 : decode cX4_first 5 = .ok (.invokestatic 23, 3) := by decide +kernel
theorem dX4_first_8 : decode cX4_first 8 = .ok (.ireturn, 1) := by decide +kernel
theorem dX4_dropFirst_0 : decode cX4_dropFirst 0 = .ok (.aload_n 0, 1) := by decide +kernel
theorem dX4_dropFirst_1 : decode cX4_dropFirst 1 = .ok (.getfield 9, 3) := by decide +kernel
theorem dX4_dropFirst_4 : decode cX4_dropFirst 4 = .ok (.ifCond .ne 4, 3) := by decide +kernel
theorem dX4_dropFirst_7 : decode cX4_dropFirst 7 = .ok (.return_, 1) := by decide +kernel
theorem dX4_dropFirst_8 : decode cX4_dropFirst 8 = .ok (.iconst 0, 1) := by decide +kernel
theorem dX4_dropFirst_9 : decode cX4_dropFirst 9 = .ok (.istore_n 1, 1) := by decide +kernel
theorem dX4_dropFirst_10 : decode cX4_dropFirst 10 = .ok (.iload_n 1, 1) := by decide +kernel
theorem dX4_dropFirst_11 : decode cX4_dropFirst 11 = .ok (.aload_n 0, 1) := by decide +kernel
theorem dX4_dropFirst_12 : decode cX4_dropFirst 12 = .ok (.getfield 9, 3) := by decide +kernel
theorem dX4_dropFirst_15 : decode cX4_dropFirst 15 = .ok (.iconst 1, 1) := by decide +kernel
theorem dX4_dropFirst_16 : decode cX4_dropFirst 16 = .ok (.isub, 1) := by decide +kernel
theorem dX4_dropFirst_17 : decode cX4_dropFirst 17 = .ok (.if_icmp .ge 27, 3) := by decide +kernel
theorem dX4_dropFirst_20 : decode cX4_dropFirst 20 = .ok (.aload_n 0, 1) := by decide +kernel
theorem dX4_dropFirst_21 : decode cX4_dropFirst 21 = .ok (.getfield 15, 3) := by decide +kernel
theorem dX4_dropFirst_24 : decode cX4_dropFirst 24 = .ok (.iload_n 1, 1) := by decide +kernel
theorem dX4_dropFirst_25 : decode cX4_dropFirst 25 = .ok (.aload_n 0, 1) := by decide +kernel
theorem dX4_dropFirst_26 : decode cX4_dropFirst 26 = .ok (.getfield 15, 3) := by decide +kernel
theorem dX4_dropFirst_29 : decode cX4_dropFirst 29 = .ok (.iload_n 1, 1) := by decide +kernel
theorem dX4_dropFirst_30 : decode cX4_dropFirst 30 = .ok (.iconst 1, 1) := by decide +kernel
theorem dX4_dropFirst_31 : decode cX4_dropFirst 31 = .ok (.iadd, 1) := by decide +kernel
theorem dX4_dropFirst_32 : decode cX4_dropFirst 32 = .ok (.invokestatic 23, 3) := by decide +kernel
theorem dX4_dropFirst_35 : decode cX4_dropFirst 35 = .ok (.invokestatic 19, 3) := by decide +kernel
theorem dX4_dropFirst_38 : decode cX4_dropFirst 38 = .ok (.iinc 1 1, 3) := by decide +kernel
theorem dX4_dropFirst_41 : decode cX4_dropFirst 41 = .ok (.goto (-31), 3) := by decide +kernel
theorem dX4_dropFirst_44 : decode cX4_dropFirst 44 = .ok (.aload_n 0, 1) := by decide +kernel
theorem dX4_dropFirst_45 : decode cX4_dropFirst 45 = .ok (.dup, 1) := by decide +kernel
theorem dX4_dropFirst_46 : decode cX4_dropFirst 46 = .ok (.getfield 9, 3) := by decide +kernel
theorem dX4_dropFirst_49 : decode cX4_dropFirst 49 = .ok (.iconst 1, 1) := by decide +kernel
theorem dX4_dropFirst_50 : decode cX4_dropFirst 50 = .ok (.isub, 1) := by decide +kernel
theorem dX4_dropFirst_51 : decode cX4_dropFirst 51 = .ok (.putfield 9, 3) := by decide +kernel
theorem dX4_dropFirst_54 : decode cX4_dropFirst 54 = .ok (.return_, 1) := by decide +kernel
theorem dX5_init_0 : decode cX5_init 0 = .ok (.aload_n 0, 1) := by decide +kernel
theorem dX5_init_1 : decode cX5_init 1 = .ok (.invokespecial 3, 3) := by decide +kernel
theorem dX5_init_4 : decode cX5_init 4 = .ok (.aload_n 0, 1) := by decide +kernel
theorem dX5_init_5 : decode cX5_init 5 = .ok (.new 9, 3) := by decide +kernel
theorem dX5_init_8 : decode cX5_init 8 = .ok (.dup, 1) := by decide +kernel
theorem dX5_init_9 : decode cX5_init 9 = .ok (.invokespecial 11, 3) := by decide +kernel
theorem dX5_init_12 : decode cX5_init 12 = .ok (.putfield 12, 3) := by decide +kernel
theorem dX5_init_15 : decode cX5_init 15 = .ok (.aload_n 0, 1) := by decide +kernel
theorem dX5_init_16 : decode cX5_init 16 = .ok (.iconst 3, 1) := by decide +kernel
theorem dX5_init_17 : decode cX5_init 17 = .ok (.newarray .int, 2) := by decide +kernel
theorem dX5_init_19 : decode cX5_init 19 = .ok (.dup, 1) := by decide +kernel
theorem dX5_init_20 : decode cX5_init 20 = .ok (.iconst 0, 1) := by decide +kernel
theorem dX5_init_21 : decode cX5_init 21 = .ok (.iconst 0, 1) := by decide +kernel
theorem dX5_init_22 : decode cX5_init 22 = .ok (.iastore, 1) := by decide +kernel
theorem dX5_init_23 : decode cX5_init 23 = .ok (.dup, 1) := by decide +kernel
theorem dX5_init_24 : decode cX5_init 24 = .ok (.iconst 1, 1) := by decide +kernel
theorem dX5_init_25 : decode cX5_init 25 = .ok (.bipush 31, 2) := by decide +kernel
theorem dX5_init_27 : decode cX5_init 27 = .ok (.iastore, 1) := by decide +kernel
theorem dX5_init_28 : decode cX5_init 28 = .ok (.dup, 1) := by decide +kernel
theorem dX5_init_29 : decode cX5_init 29 = .ok (.iconst 2, 1) := by decide +kernel
theorem dX5_init_30 : decode cX5_init 30 = .ok (.bipush 8, 2) := by decide +kernel
theorem dX5_init_32 : decode cX5_init 32 = .ok (.iastore, 1) := by decide +kernel
theorem dX5_init_33 : decode cX5_init 33 = .ok (.putfield 18, 3) := by decide +kernel
theorem dX5_init_36 : decode cX5_init 36 = .ok (.aload_n 0, 1) := by decide +kernel
theorem dX5_init_37 : decode cX5_init 37 = .ok (.sipush 5000, 3) := by decide +kernel
theorem dX5_init_40 : decode cX5_init 40 = .ok (.putfield 22, 3) := by decide +kernel
theorem dX5_init_43 : decode cX5_init 43 = .ok (.aload_n 0, 1) := by decide +kernel
theorem dX5_init_44 : decode cX5_init 44 = .ok (.iconst 2, 1) := by decide +kernel
theorem dX5_init_45 : decode cX5_init 45 = .ok (.putfield 26, 3) := by decide +kernel
theorem dX5_init_48 : decode cX5_init 48 = .ok (.aload_n 0, 1) := by decide +kernel
theorem dX5_init_49 : decode cX5_init 49 = .ok (.iconst 4, 1) := by decide +kernel
theorem dX5_init_50 : decode cX5_init 50 = .ok (.putfield 29, 3) := by decide +kernel
theorem dX5_init_53 : decode cX5_init 53 = .ok (.aload_n 0, 1) := by decide +kernel
theorem dX5_init_54 : decode cX5_init 54 = .ok (.iconst 0, 1) := by decide +kernel
theorem dX5_init_55 : decode cX5_init 55 = .ok (.putfield 32, 3) := by decide +kernel
theorem dX5_init_58 : decode cX5_init 58 = .ok (.aload_n 0, 1) := by decide +kernel
theorem dX5_init_59 : decode cX5_init 59 = .ok (.iconst 1, 1) := by decide +kernel
theorem dX5_init_60 : decode cX5_init 60 = .ok (.putfield 35, 3) := by decide +kernel
theorem dX5_init_63 : decode cX5_init 63 = .ok (.aload_n 0, 1) := by decide +kernel
theorem dX5_init_64 : decode cX5_init 64 = .ok (.iconst 5, 1) := by decide +kernel
theorem dX5_init_65 : decode cX5_init 65 = .ok (.newarray .int, 2) := by decide +kernel
theorem dX5_init_67 : decode cX5_init 67 = .ok (.putfield 39, 3) := by decide +kernel
theorem dX5_init_70 : decode cX5_init 70 = .ok (.return_, 1) := by decide +kernel
theorem dX5_support_0 : decode cX5_support 0 = .ok (.aload_n 0, 1) := by decide +kernel
theorem dX5_support_1 : decode cX5_support 1 = .ok (.getfield 39, 3) := by decide +kernel
theorem dX5_support_4 : decode cX5_support 4 = .ok (.aload_n 0, 1) := by decide +kernel
theorem dX5_support_5 : decode cX5_support 5 = .ok (.getfield 12, 3) := by decide +kernel
theorem dX5_support_8 : decode cX5_support 8 = .ok (.getfield 42, 3) := by decide +kernel
theorem dX5_support_11 : decode cX5_support 11 = .ok (.iload_n 2, 1) := by decide +kernel
theorem dX5_support_12 : decode cX5_support 12 = .ok (.ifCond .eq 7, 3) := by decide +kernel
theorem dX5_support_15 : decode cX5_support 15 = .ok (.iconst 1, 1) := by decide +kernel
theorem dX5_support_16 : decode cX5_support 16 = .ok (.goto 4, 3) := by decide +kernel
theorem dX5_support_19 : decode cX5_support 19 = .ok (.iconst 0, 1) := by decide +kernel
theorem dX5_support_20 : decode cX5_support 20 = .ok (.invokestatic 45, 3) := by decide +kernel
theorem dX5_support_23 : decode cX5_support 23 = .ok (.aload_n 0, 1) := by decide +kernel
theorem dX5_support_24 : decode cX5_support 24 = .ok (.getfield 12, 3) := by decide +kernel
theorem dX5_support_27 : decode cX5_support 27 = .ok (.aload_n 1, 1) := by decide +kernel
theorem dX5_support_28 : decode cX5_support 28 = .ok (.iconst 0, 1) := by decide +kernel
theorem dX5_support_29 : decode cX5_support 29 = .ok (.aload_n 1, 1) := by decide +kernel
theorem dX5_support_30 : decode cX5_support 30 = .ok (.getfield 49, 3) := by decide +kernel
theorem dX5_support_33 : decode cX5_support 33 = .ok (.invokevirtual 54, 3) := by decide +kernel
theorem dX5_support_36 : decode cX5_support 36 = .ok (.return_, 1) := by decide +kernel
theorem dX5_dropSupport_0 : decode cX5_dropSupport 0 = .ok (.iload_n 1, 1) := by decide +kernel
theorem dX5_dropSupport_1 : decode cX5_dropSupport 1 = .ok (.istore_n 2, 1) := by decide +kernel
theorem dX5_dropSupport_2 : decode cX5_dropSupport 2 = .ok (.iload_n 2, 1) := by decide +kernel
theorem dX5_dropSupport_3 : decode cX5_dropSupport 3 = .ok (.aload_n 0, 1) := by decide +kernel
theorem dX5_dropSupport_4 : decode cX5_dropSupport 4 = .ok (.getfield 12, 3) := by decide +kernel
theorem dX5_dropSupport_7 : decode cX5_dropSupport 7 = .ok (.getfield 42, 3) := by decide +kernel
theorem dX5_dropSupport_10 : decode cX5_dropSupport 10 = .ok (.iconst 1, 1) := by decide +kernel
theorem dX5_dropSupport_11 : decode cX5_dropSupport 11 = .ok (.isub, 1) := by decide +kernel
theorem dX5_dropSupport_12 : decode cX5_dropSupport 12 = .ok (.if_icmp .ge 27, 3) := by decide +kernel
theorem dX5_dropSupport_15 : decode cX5_dropSupport 15 = .ok (.aload_n 0, 1) := by decide +kernel
theorem dX5_dropSupport_16 : decode cX5_dropSupport 16 = .ok (.getfield 39, 3) := by decide +kernel
theorem dX5_dropSupport_19 : decode cX5_dropSupport 19 = .ok (.iload_n 2, 1) := by decide +kernel
theorem dX5_dropSupport_20 : decode cX5_dropSupport 20 = .ok (.aload_n 0, 1) := by decide +kernel
theorem dX5_dropSupport_21 : decode cX5_dropSupport 21 = .ok (.getfield 39, 3) := by decide +kernel
theorem dX5_dropSupport_24 : decode cX5_dropSupport 24 = .ok (.iload_n 2, 1) := by decide +kernel
theorem dX5_dropSupport_25 : decode cX5_dropSupport 25 = .ok (.iconst 1, 1) := by decide +kernel
theorem dX5_dropSupport_26 : decode cX5_dropSupport 26 = .ok (.iadd, 1) := by decide +kernel
theorem dX5_dropSupport_27 : decode cX5_dropSupport 27 = .ok (.invokestatic 58, 3) := by decide +kernel
theorem dX5_dropSupport_30 : decode cX5_dropSupport 30 = .ok (.invokestatic 45, 3) := by decide +kernel
theorem dX5_dropSupport_33 : decode cX5_dropSupport 33 = .ok (.iinc 2 1, 3) := by decide +kernel
theorem dX5_dropSupport_36 : decode cX5_dropSupport 36 = .ok (.goto (-34), 3) := by decide +kernel
theorem dX5_dropSupport_39 : decode cX5_dropSupport 39 = .ok (.aload_n 0, 1) := by decide +kernel
theorem dX5_dropSupport_40 : decode cX5_dropSupport 40 = .ok (.getfield 12, 3) := by decide +kernel
theorem dX5_dropSupport_43 : decode cX5_dropSupport 43 = .ok (.iload_n 1, 1) := by decide +kernel
theorem dX5_dropSupport_44 : decode cX5_dropSupport 44 = .ok (.invokevirtual 62, 3) := by decide +kernel
theorem dX5_dropSupport_47 : decode cX5_dropSupport 47 = .ok (.return_, 1) := by decide +kernel
theorem dX5_supports_0 : decode cX5_supports 0 = .ok (.iconst 0, 1) := by decide +kernel
theorem dX5_supports_1 : decode cX5_supports 1 = .ok (.istore_n 3, 1) := by decide +kernel
theorem dX5_supports_2 : decode cX5_supports 2 = .ok (.iload_n 3, 1) := by decide +kernel
theorem dX5_supports_3 : decode cX5_supports 3 = .ok (.aload_n 0, 1) := by decide +kernel
theorem dX5_supports_4 : decode cX5_supports 4 = .ok (.getfield 12, 3) := by decide +kernel
theorem dX5_supports_7 : decode cX5_supports 7 = .ok (.getfield 42, 3) := by decide +kernel
theorem dX5_supports_10 : decode cX5_supports 10 = .ok (.if_icmp .ge 46, 3) := by decide +kernel
theorem dX5_supports_13 : decode cX5_supports 13 = .ok (.aload_n 1, 1) := by decide +kernel
theorem dX5_supports_14 : decode cX5_supports 14 = .ok (.iload_n 2, 1) := by decide +kernel
theorem dX5_supports_15 : decode cX5_supports 15 = .ok (.aload_n 0, 1) := by decide +kernel
theorem dX5_supports_16 : decode cX5_supports 16 = .ok (.getfield 12, 3) := by decide +kernel
theorem dX5_supports_19 : decode cX5_supports 19 = .ok (.iload_n 3, 1) := by decide +kernel
theorem dX5_supports_20 : decode cX5_supports 20 = .ok (.invokevirtual 66, 3) := by decide +kernel
theorem dX5_supports_23 : decode cX5_supports 23 = .ok (.ifCond .eq 27, 3) := by decide +kernel
theorem dX5_supports_26 : decode cX5_supports 26 = .ok (.aload_n 0, 1) := by decide +kernel
theorem dX5_supports_27 : decode cX5_supports 27 = .ok (.getfield 39, 3) := by decide +kernel
theorem dX5_supports_30 : decode cX5_supports 30 = .ok (.iload_n 3, 1) := by decide +kernel
theorem dX5_supports_31 : decode cX5_supports 31 = .ok (.invokestatic 58, 3) := by decide +kernel
theorem dX5_supports_34 : decode cX5_supports 34 = .ok (.iconst 1, 1) := by decide +kernel
theorem dX5_supports_35 : decode cX5_supports 35 = .ok (.if_icmp .eq 13, 3) := by decide +kernel
theorem dX5_supports_38 : decode cX5_supports 38 = .ok (.aload_n 0, 1) := by decide +kernel
theorem dX5_supports_39 : decode cX5_supports 39 = .ok (.aload_n 1, 1) := by decide +kernel
theorem dX5_supports_40 : decode cX5_supports 40 = .ok (.iload_n 2, 1) := by decide +kernel
theorem dX5_supports_41 : decode cX5_supports 41 = .ok (.iload_n 3, 1) := by decide +kernel
theorem dX5_supports_42 : decode cX5_supports 42 = .ok (.invokevirtual 70, 3) := by decide +kernel
theorem dX5_supports_45 : decode cX5_supports 45 = .ok (.ifCond .eq 5, 3) := by decide +kernel
theorem dX5_supports_48 : decode cX5_supports 48 = .ok (.iconst 1, 1) := by decide +kernel
theorem dX5_supports_49 : decode cX5_supports 49 = .ok (.ireturn, 1) := by decide +kernel
theorem dX5_supports_50 : decode cX5_supports 50 = .ok (.iinc 3 1, 3) := by decide +kernel
theorem dX5_supports_53 : decode cX5_supports 53 = .ok (.goto (-51), 3) := by decide +kernel
theorem dX5_supports_56 : decode cX5_supports 56 = .ok (.iconst 0, 1) := by decide +kernel
theorem dX5_supports_57 : decode cX5_supports 57 = .ok (.ireturn, 1) := by decide +kernel
theorem dX5_sameLength_0 : decode cX5_sameLength 0 = .ok (.aload_n 1, 1) := by decide +kernel
theorem dX5_sameLength_1 : decode cX5_sameLength 1 = .ok (.getfield 74, 3) := by decide +kernel
theorem dX5_sameLength_4 : decode cX5_sameLength 4 = .ok (.iload_n 2, 1) := by decide +kernel
theorem dX5_sameLength_5 : decode cX5_sameLength 5 = .ok (.invokestatic 58, 3) := by decide +kernel
theorem dX5_sameLength_8 : decode cX5_sameLength 8 = .ok (.aload_n 0, 1) := by decide +kernel
theorem dX5_sameLength_9 : decode cX5_sameLength 9 = .ok (.getfield 12, 3) := by decide +kernel
theorem dX5_sameLength_12 : decode cX5_sameLength 12 = .ok (.getfield 74, 3) := by decide +kernel
theorem dX5_sameLength_15 : decode cX5_sameLength 15 = .ok (.iload_n 3, 1) := by decide +kernel
theorem dX5_sameLength_16 : decode cX5_sameLength 16 = .ok (.invokestatic 58, 3) := by decide +kernel
theorem dX5_sameLength_19 : decode cX5_sameLength 19 = .ok (.if_icmp .ne 7, 3) := by decide +kernel
theorem dX5_sameLength_22 : decode cX5_sameLength 22 = .ok (.iconst 1, 1) := by decide +kernel
theorem dX5_sameLength_23 : decode cX5_sameLength 23 = .ok (.goto 4, 3) := by decide +kernel
theorem dX5_sameLength_26 : decode cX5_sameLength 26 = .ok (.iconst 0, 1) := by decide +kernel
theorem dX5_sameLength_27 : decode cX5_sameLength 27 = .ok (.ireturn, 1) := by decide +kernel
theorem dX6_init_0 : decode cX6_init 0 = .ok (.aload_n 0, 1) := by decide +kernel
theorem dX6_init_1 : decode cX6_init 1 = .ok (.invokespecial 3, 3) := by decide +kernel
theorem dX6_init_4 : decode cX6_init 4 = .ok (.aload_n 0, 1) := by decide +kernel
theorem dX6_init_5 : decode cX6_init 5 = .ok (.iconst 4, 1) := by decide +kernel
theorem dX6_init_6 : decode cX6_init 6 = .ok (.newarray .int, 2) := by decide +kernel
theorem dX6_init_8 : decode cX6_init 8 = .ok (.putfield 9, 3) := by decide +kernel
theorem dX6_init_11 : decode cX6_init 11 = .ok (.aload_n 0, 1) := by decide +kernel
theorem dX6_init_12 : decode cX6_init 12 = .ok (.iconst 4, 1) := by decide +kernel
theorem dX6_init_13 : decode cX6_init 13 = .ok (.newarray .int, 2) := by decide +kernel
theorem dX6_init_15 : decode cX6_init 15 = .ok (.putfield 15, 3) := by decide +kernel
theorem dX6_init_18 : decode cX6_init 18 = .ok (.aload_n 0, 1) := by decide +kernel
theorem dX6_init_19 : decode cX6_init 19 = .ok (.iconst 0, 1) := by decide +kernel
theorem dX6_init_20 : decode cX6_init 20 = .ok (.putfield 18, 3) := by decide +kernel
theorem dX6_init_23 : decode cX6_init 23 = .ok (.aload_n 0, 1) := by decide +kernel
theorem dX6_init_24 : decode cX6_init 24 = .ok (.iconst 0, 1) := by decide +kernel
theorem dX6_init_25 : decode cX6_init 25 = .ok (.putfield 22, 3) := by decide +kernel
theorem dX6_init_28 : decode cX6_init 28 = .ok (.aload_n 0, 1) := by decide +kernel
theorem dX6_init_29 : decode cX6_init 29 = .ok (.iconst 0, 1) := by decide +kernel
theorem dX6_init_30 : decode cX6_init 30 = .ok (.putfield 25, 3) := by decide +kernel
theorem dX6_init_33 : decode cX6_init 33 = .ok (.return_, 1) := by decide +kernel
theorem dX6_isPending_0 : decode cX6_isPending 0 = .ok (.aload_n 0, 1) := by decide +kernel
theorem dX6_isPending_1 : decode cX6_isPending 1 = .ok (.getfield 9, 3) := by decide +kernel
theorem dX6_isPending_4 : decode cX6_isPending 4 = .ok (.iconst 3, 1) := by decide +kernel
theorem dX6_isPending_5 : decode cX6_isPending 5 = .ok (.invokestatic 28, 3) := by decide +kernel
theorem dX6_isPending_8 : decode cX6_isPending 8 = .ok (.ifCond .le 7, 3) := by decide +kernel
theorem dX6_isPending_11 : decode cX6_isPending 11 = .ok (.iconst 1, 1) := by decide +kernel
theorem dX6_isPending_12 : decode cX6_isPending 12 = .ok (.goto 4, 3) := by decide +kernel
theorem dX6_isPending_15 : decode cX6_isPending 15 = .ok (.iconst 0, 1) := by decide +kernel
theorem dX6_isPending_16 : decode cX6_isPending 16 = .ok (.ireturn, 1) := by decide +kernel
theorem dX6_open_0 : decode cX6_open 0 = .ok (.aload_n 0, 1) := by decide +kernel
theorem dX6_open_1 : decode cX6_open 1 = .ok (.dup, 1) := by decide +kernel
theorem dX6_open_2 : decode cX6_open 2 = .ok (.getfield 18, 3) := by decide +kernel
theorem dX6_open_5 : decode cX6_open 5 = .ok (.iconst 1, 1) := by decide +kernel
theorem dX6_open_6 : decode cX6_open 6 = .ok (.iadd, 1) := by decide +kernel
theorem dX6_open_7 : decode cX6_open 7 = .ok (.putfield 18, 3) := by decide +kernel
theorem dX6_open_10 : decode cX6_open 10 = .ok (.aload_n 0, 1) := by decide +kernel
theorem dX6_open_11 : decode cX6_open 11 = .ok (.iload_n 1, 1) := by decide +kernel
theorem dX6_open_12 : decode cX6_open 12 = .ok (.putfield 25, 3) := by decide +kernel
theorem dX6_open_15 : decode cX6_open 15 = .ok (.aload_n 0, 1) := by decide +kernel
theorem dX6_open_16 : decode cX6_open 16 = .ok (.iload_n 2, 1) := by decide +kernel
theorem dX6_open_17 : decode cX6_open 17 = .ok (.putfield 22, 3) := by decide +kernel
theorem dX6_open_20 : decode cX6_open 20 = .ok (.aload_n 0, 1) := by decide +kernel
theorem dX6_open_21 : decode cX6_open 21 = .ok (.iload_n 3, 1) := by decide +kernel
theorem dX6_open_22 : decode cX6_open 22 = .ok (.iconst 1, 1) := by decide +kernel
theorem dX6_open_23 : decode cX6_open 23 = .ok (.iload_n 1, 1) := by decide +kernel
theorem dX6_open_24 : decode cX6_open 24 = .ok (.invokevirtual 32, 3) := by decide +kernel
theorem dX6_open_27 : decode cX6_open 27 = .ok (.return_, 1) := by decide +kernel
theorem dX6_settle_0 : decode cX6_settle 0 = .ok (.aload_n 0, 1) := by decide +kernel
theorem dX6_settle_1 : decode cX6_settle 1 = .ok (.iconst 3, 1) := by decide +kernel
theorem dX6_settle_2 : decode cX6_settle 2 = .ok (.iconst (-1), 1) := by decide +kernel
theorem dX6_settle_3 : decode cX6_settle 3 = .ok (.aload_n 0, 1) := by decide +kernel
theorem dX6_settle_4 : decode cX6_settle 4 = .ok (.getfield 25, 3) := by decide +kernel
theorem dX6_settle_7 : decode cX6_settle 7 = .ok (.ineg, 1) := by decide +kernel
theorem dX6_settle_8 : decode cX6_settle 8 = .ok (.invokevirtual 32, 3) := by decide +kernel
theorem dX6_settle_11 : decode cX6_settle 11 = .ok (.aload_n 0, 1) := by decide +kernel
theorem dX6_settle_12 : decode cX6_settle 12 = .ok (.iload_n 1, 1) := by decide +kernel
theorem dX6_settle_13 : decode cX6_settle 13 = .ok (.iconst 1, 1) := by decide +kernel
theorem dX6_settle_14 : decode cX6_settle 14 = .ok (.aload_n 0, 1) := by decide +kernel
theorem dX6_settle_15 : decode cX6_settle 15 = .ok (.getfield 25, 3) := by decide +kernel
theorem dX6_settle_18 : decode cX6_settle 18 = .ok (.invokevirtual 32, 3) := by decide +kernel
theorem dX6_settle_21 : decode cX6_settle 21 = .ok (.return_, 1) := by decide +kernel
theorem dX6_book_0 : decode cX6_book 0 = .ok (.aload_n 0, 1) := by decide +kernel
theorem dX6_book_1 : decode cX6_book 1 = .ok (.getfield 9, 3) := by decide +kernel
theorem dX6_book_4 : decode cX6_book 4 = .ok (.iload_n 1, 1) := by decide +kernel
theorem dX6_book_5 : decode cX6_book 5 = .ok (.aload_n 0, 1) := by decide +kernel
theorem dX6_book_6 : decode cX6_book 6 = .ok (.getfield 9, 3) := by decide +kernel
theorem dX6_book_9 : decode cX6_book 9 = .ok (.iload_n 1, 1) := by decide +kernel
theorem dX6_book_10 : decode cX6_book 10 = .ok (.invokestatic 28, 3) := by decide +kernel
theorem dX6_book_13 : decode cX6_book 13 = .ok (.iload_n 2, 1) := by decide +kernel
theorem dX6_book_14 : decode cX6_book 14 = .ok (.iadd, 1) := by decide +kernel
theorem dX6_book_15 : decode cX6_book 15 = .ok (.invokestatic 36, 3) := by decide +kernel
theorem dX6_book_18 : decode cX6_book 18 = .ok (.aload_n 0, 1) := by decide +kernel
theorem dX6_book_19 : decode cX6_book 19 = .ok (.getfield 15, 3) := by decide +kernel
theorem dX6_book_22 : decode cX6_book 22 = .ok (.iload_n 1, 1) := by decide +kernel
theorem dX6_book_23 : decode cX6_book 23 = .ok (.aload_n 0, 1) := by decide +kernel
theorem dX6_book_24 : decode cX6_book 24 = .ok (.getfield 15, 3) := by decide +kernel
theorem dX6_book_27 : decode cX6_book 27 = .ok (.iload_n 1, 1) := by decide +kernel
theorem dX6_book_28 : decode cX6_book 28 = .ok (.invokestatic 28, 3) := by decide +kernel
theorem dX6_book_31 : decode cX6_book 31 = .ok (.iload_n 3, 1) := by decide +kernel
theorem dX6_book_32 : decode cX6_book 32 = .ok (.iadd, 1) := by decide +kernel
theorem dX6_book_33 : decode cX6_book 33 = .ok (.invokestatic 36, 3) := by decide +kernel
theorem dX6_book_36 : decode cX6_book 36 = .ok (.return_, 1) := by decide +kernel

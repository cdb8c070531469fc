theorem dX0_init_0 : decode cX0_init 0 = .ok (.aload_n 0, 1) := by decide +kernel
theorem dX0_init_1 : decode cX0_init 1 = .ok (.invokespecial 1, 3) := by decide +kernel
theorem dX0_init_4 : decode cX0_init 4 = .ok (.aload_n 0, 1) := by decide +kernel
theorem dX0_init_5 : decode cX0_init 5 = .ok (.iload_n 1, 1) := by decide +kernel
theorem dX0_init_6 : decode cX0_init 6 = .ok (.putfield 7, 3) := by decide +kernel
theorem dX0_init_9 : decode cX0_init 9 = .ok (.aload_n 0, 1) := by decide +kernel
theorem dX0_init_10 : decode cX0_init 10 = .ok (.iload_n 2, 1) := by decide +kernel
theorem dX0_init_11 : decode cX0_init 11 = .ok (.putfield 13, 3) := by decide +kernel
theorem dX0_init_14 : decode cX0_init 14 = .ok (.aload_n 0, 1) := by decide +kernel
theorem dX0_init_15 : decode cX0_init 15 = .ok (.iload_n 3, 1) := by decide +kernel
theorem dX0_init_16 : decode cX0_init 16 = .ok (.putfield 16, 3) := by decide +kernel
theorem dX0_init_19 : decode cX0_init 19 = .ok (.aload_n 0, 1) := by decide +kernel
theorem dX0_init_20 : decode cX0_init 20 = .ok (.iload 4, 2) := by decide +kernel
theorem dX0_init_22 : decode cX0_init 22 = .ok (.putfield 19, 3) := by decide +kernel
theorem dX0_init_25 : decode cX0_init 25 = .ok (.aload_n 0, 1) := by decide +kernel
theorem dX0_init_26 : decode cX0_init 26 = .ok (.iload 5, 2) := by decide +kernel
theorem dX0_init_28 : decode cX0_init 28 = .ok (.putfield 22, 3) := by decide +kernel
theorem dX0_init_31 : decode cX0_init 31 = .ok (.return_, 1) := by decide +kernel
theorem dX0_holds_0 : decode cX0_holds 0 = .ok (.aload_n 1, 1) := by decide +kernel
theorem dX0_holds_1 : decode cX0_holds 1 = .ok (.iload_n 2, 1) := by decide +kernel
theorem dX0_holds_2 : decode cX0_holds 2 = .ok (.invokevirtual 25, 3) := by decide +kernel
theorem dX0_holds_5 : decode cX0_holds 5 = .ok (.aload_n 0, 1) := by decide +kernel
theorem dX0_holds_6 : decode cX0_holds 6 = .ok (.getfield 7, 3) := by decide +kernel
theorem dX0_holds_9 : decode cX0_holds 9 = .ok (.if_icmp .ne 43, 3) := by decide +kernel
theorem dX0_holds_12 : decode cX0_holds 12 = .ok (.aload_n 1, 1) := by decide +kernel
theorem dX0_holds_13 : decode cX0_holds 13 = .ok (.getfield 31, 3) := by decide +kernel
theorem dX0_holds_16 : decode cX0_holds 16 = .ok (.aload_n 0, 1) := by decide +kernel
theorem dX0_holds_17 : decode cX0_holds 17 = .ok (.getfield 13, 3) := by decide +kernel
theorem dX0_holds_20 : decode cX0_holds 20 = .ok (.aload_n 0, 1) := by decide +kernel
theorem dX0_holds_21 : decode cX0_holds 21 = .ok (.getfield 19, 3) := by decide +kernel
theorem dX0_holds_24 : decode cX0_holds 24 = .ok (.invokevirtual 35, 3) := by decide +kernel
theorem dX0_holds_27 : decode cX0_holds 27 = .ok (.ifCond .eq 25, 3) := by decide +kernel
theorem dX0_holds_30 : decode cX0_holds 30 = .ok (.aload_n 1, 1) := by decide +kernel
theorem dX0_holds_31 : decode cX0_holds 31 = .ok (.getfield 41, 3) := by decide +kernel
theorem dX0_holds_34 : decode cX0_holds 34 = .ok (.aload_n 0, 1) := by decide +kernel
theorem dX0_holds_35 : decode cX0_holds 35 = .ok (.getfield 16, 3) := by decide +kernel
theorem dX0_holds_38 : decode cX0_holds 38 = .ok (.aload_n 0, 1) := by decide +kernel
theorem dX0_holds_39 : decode cX0_holds 39 = .ok (.getfield 22, 3) := by decide +kernel
theorem dX0_holds_42 : decode cX0_holds 42 = .ok (.invokevirtual 35, 3) := by decide +kernel
theorem dX0_holds_45 : decode cX0_holds 45 = .ok (.ifCond .eq 7, 3) := by decide +kernel
theorem dX0_holds_48 : decode cX0_holds 48 = .ok (.iconst 1, 1) := by decide +kernel
theorem dX0_holds_49 : decode cX0_holds 49 = .ok (.goto 4, 3) := by decide +kernel
theorem dX0_holds_52 : decode cX0_holds 52 = .ok (.iconst 0, 1) := by decide +kernel
theorem dX0_holds_53 : decode cX0_holds 53 = .ok (.ireturn, 1) := by decide +kernel
theorem dX1_init_0 : decode cX1_init 0 = .ok (.aload_n 0, 1) := by decide +kernel
theorem dX1_init_1 : decode cX1_init 1 = .ok (.invokespecial 1, 3) := by decide +kernel
theorem dX1_init_4 : decode cX1_init 4 = .ok (.return_, 1) := by decide +kernel
theorem dX2_init_0 : decode cX2_init 0 = .ok (.aload_n 0, 1) := by decide +kernel
theorem dX2_init_1 : decode cX2_init 1 = .ok (.invokespecial 3, 3) := by decide +kernel
theorem dX2_init_4 : decode cX2_init 4 = .ok (.aload_n 0, 1) := by decide +kernel
theorem dX2_init_5 : decode cX2_init 5 = .ok (.iload_n 1, 1) := by decide +kernel
theorem dX2_init_6 : decode cX2_init 6 = .ok (.putfield 9, 3) := by decide +kernel
theorem dX2_init_9 : decode cX2_init 9 = .ok (.aload_n 0, 1) := by decide +kernel
theorem dX2_init_10 : decode cX2_init 10 = .ok (.iload_n 2, 1) := by decide +kernel
theorem dX2_init_11 : decode cX2_init 11 = .ok (.putfield 15, 3) := by decide +kernel
theorem dX2_init_14 : decode cX2_init 14 = .ok (.return_, 1) := by decide +kernel
theorem dX2_keeps_0 : decode cX2_keeps 0 = .ok (.aload_n 1, 1) := by decide +kernel
theorem dX2_keeps_1 : decode cX2_keeps 1 = .ok (.getfield 18, 3) := by decide +kernel
theorem dX2_keeps_4 : decode cX2_keeps 4 = .ok (.bipush 16, 2) := by decide +kernel
theorem dX2_keeps_6 : decode cX2_keeps 6 = .ok (.invokestatic 23, 3) := by decide +kernel
theorem dX2_keeps_9 : decode cX2_keeps 9 = .ok (.ifCond .ne 17, 3) := by decide +kernel
theorem dX2_keeps_12 : decode cX2_keeps 12 = .ok (.aload_n 1, 1) := by decide +kernel
theorem dX2_keeps_13 : decode cX2_keeps 13 = .ok (.getfield 27, 3) := by decide +kernel
theorem dX2_keeps_16 : decode cX2_keeps 16 = .ok (.aload_n 0, 1) := by decide +kernel
theorem dX2_keeps_17 : decode cX2_keeps 17 = .ok (.getfield 9, 3) := by decide +kernel
theorem dX2_keeps_20 : decode cX2_keeps 20 = .ok (.invokevirtual 31, 3) := by decide +kernel
theorem dX2_keeps_23 : decode cX2_keeps 23 = .ok (.ifCond .eq 33, 3) := by decide +kernel
theorem dX2_keeps_26 : decode cX2_keeps 26 = .ok (.aload_n 1, 1) := by decide +kernel
theorem dX2_keeps_27 : decode cX2_keeps 27 = .ok (.getfield 18, 3) := by decide +kernel
theorem dX2_keeps_30 : decode cX2_keeps 30 = .ok (.bipush 32, 2) := by decide +kernel
theorem dX2_keeps_32 : decode cX2_keeps 32 = .ok (.invokestatic 23, 3) := by decide +kernel
theorem dX2_keeps_35 : decode cX2_keeps 35 = .ok (.ifCond .ne 17, 3) := by decide +kernel
theorem dX2_keeps_38 : decode cX2_keeps 38 = .ok (.aload_n 1, 1) := by decide +kernel
theorem dX2_keeps_39 : decode cX2_keeps 39 = .ok (.getfield 37, 3) := by decide +kernel
theorem dX2_keeps_42 : decode cX2_keeps 42 = .ok (.aload_n 0, 1) := by decide +kernel
theorem dX2_keeps_43 : decode cX2_keeps 43 = .ok (.getfield 15, 3) := by decide +kernel
theorem dX2_keeps_46 : decode cX2_keeps 46 = .ok (.invokevirtual 31, 3) := by decide +kernel
theorem dX2_keeps_49 : decode cX2_keeps 49 = .ok (.ifCond .eq 7, 3) := by decide +kernel
theorem dX2_keeps_52 : decode cX2_keeps 52 = .ok (.iconst 1, 1) := by decide +kernel
theorem dX2_keeps_53 : decode cX2_keeps 53 = .ok (.goto 4, 3) := by decide +kernel
theorem dX2_keeps_56 : decode cX2_keeps 56 = .ok (.iconst 0, 1) := by decide +kernel
theorem dX2_keeps_57 : decode cX2_keeps 57 = .ok (.ireturn, 1) := by decide +kernel
theorem dX3_init_0 : decode cX3_init 0 = .ok (.aload_n 0, 1) := by decide +kernel
theorem dX3_init_1 : decode cX3_init 1 = .ok (.invokespecial 1, 3) := by decide +kernel
theorem dX3_init_4 : decode cX3_init 4 = .ok (.aload_n 0, 1) := by decide +kernel
theorem dX3_init_5 : decode cX3_init 5 = .ok (.iload_n 1, 1) := by decide +kernel
theorem dX3_init_6 : decode cX3_init 6 = .ok (.putfield 7, 3) := by decide +kernel
theorem dX3_init_9 : decode cX3_init 9 = .ok (.aload_n 0, 1) := by decide +kernel
theorem dX3_init_10 : decode cX3_init 10 = .ok (.iload_n 2, 1) := by decide +kernel
theorem dX3_init_11 : decode cX3_init 11 = .ok (.putfield 13, 3) := by decide +kernel
theorem dX3_init_14 : decode cX3_init 14 = .ok (.aload_n 0, 1) := by decide +kernel
theorem dX3_init_15 : decode cX3_init 15 = .ok (.iload_n 3, 1) := by decide +kernel
theorem dX3_init_16 : decode cX3_init 16 = .ok (.putfield 16, 3) := by decide +kernel
theorem dX3_init_19 : decode cX3_init 19 = .ok (.aload_n 0, 1) := by decide +kernel
theorem dX3_init_20 : decode cX3_init 20 = .ok (.iload 4, 2) := by decide +kernel
theorem dX3_init_22 : decode cX3_init 22 = .ok (.putfield 20, 3) := by decide +kernel
theorem dX3_init_25 : decode cX3_init 25 = .ok (.aload_n 0, 1) := by decide +kernel
theorem dX3_init_26 : decode cX3_init 26 = .ok (.iload 5, 2) := by decide +kernel
theorem dX3_init_28 : decode cX3_init 28 = .ok (.putfield 23, 3) := by decide +kernel
theorem dX3_init_31 : decode cX3_init 31 = .ok (.return_, 1) := by decide +kernel
theorem dX3_keeps_0 : decode cX3_keeps 0 = .ok (.aload_n 1, 1) := by decide +kernel
theorem dX3_keeps_1 : decode cX3_keeps 1 = .ok (.aload_n 0, 1) := by decide +kernel
theorem dX3_keeps_2 : decode cX3_keeps 2 = .ok (.getfield 7, 3) := by decide +kernel
theorem dX3_keeps_5 : decode cX3_keeps 5 = .ok (.invokevirtual 26, 3) := by decide +kernel
theorem dX3_keeps_8 : decode cX3_keeps 8 = .ok (.aload_n 0, 1) := by decide +kernel
theorem dX3_keeps_9 : decode cX3_keeps 9 = .ok (.getfield 13, 3) := by decide +kernel
theorem dX3_keeps_12 : decode cX3_keeps 12 = .ok (.if_icmp .ne 28, 3) := by decide +kernel
theorem dX3_keeps_15 : decode cX3_keeps 15 = .ok (.aload_n 0, 1) := by decide +kernel
theorem dX3_keeps_16 : decode cX3_keeps 16 = .ok (.aload_n 0, 1) := by decide +kernel
theorem dX3_keeps_17 : decode cX3_keeps 17 = .ok (.getfield 16, 3) := by decide +kernel
theorem dX3_keeps_20 : decode cX3_keeps 20 = .ok (.ifCond .eq 10, 3) := by decide +kernel
theorem dX3_keeps_23 : decode cX3_keeps 23 = .ok (.aload_n 1, 1) := by decide +kernel
theorem dX3_keeps_24 : decode cX3_keeps 24 = .ok (.getfield 32, 3) := by decide +kernel
theorem dX3_keeps_27 : decode cX3_keeps 27 = .ok (.goto 7, 3) := by decide +kernel
theorem dX3_keeps_30 : decode cX3_keeps 30 = .ok (.aload_n 1, 1) := by decide +kernel
theorem dX3_keeps_31 : decode cX3_keeps 31 = .ok (.getfield 35, 3) := by decide +kernel
theorem dX3_keeps_34 : decode cX3_keeps 34 = .ok (.invokevirtual 38, 3) := by decide +kernel
theorem dX3_keeps_37 : decode cX3_keeps 37 = .ok (.ifCond .eq 7, 3) := by decide +kernel
theorem dX3_keeps_40 : decode cX3_keeps 40 = .ok (.iconst 1, 1) := by decide +kernel
theorem dX3_keeps_41 : decode cX3_keeps 41 = .ok (.goto 4, 3) := by decide +kernel
theorem dX3_keeps_44 : decode cX3_keeps 44 = .ok (.iconst 0, 1) := by decide +kernel
theorem dX3_keeps_45 : decode cX3_keeps 45 = .ok (.ireturn, 1) := by decide +kernel
theorem dX4_init_0 : decode cX4_init 0 = .ok (.aload_n 0, 1) := by decide +kernel
theorem dX4_init_1 : decode cX4_init 1 = .ok (.iload_n 1, 1) := by decide +kernel
theorem dX4_init_2 : decode cX4_init 2 = .ok (.iload_n 2, 1) := by decide +kernel
theorem dX4_init_3 : decode cX4_init 3 = .ok (.iload_n 3, 1) := by decide +kernel
theorem dX4_init_4 : decode cX4_init 4 = .ok (.iload 4, 2) := by decide +kernel
theorem dX4_init_6 : decode cX4_init 6 = .ok (.iload 5, 2) := by decide +kernel
theorem dX4_init_8 : decode cX4_init 8 = .ok (.invokespecial 1, 3) := by decide +kernel
theorem dX4_init_11 : decode cX4_init 11 = .ok (.return_, 1) := by decide +kernel
theorem dX4_keepsLines_0 : decode cX4_keepsLines 0 = .ok (.aload_n 1, 1) := by decide +kernel
theorem dX4_keepsLines_1 : decode cX4_keepsLines 1 = .ok (.aload_n 0, 1) := by decide +kernel
theorem dX4_keepsLines_2 : decode cX4_keepsLines 2 = .ok (.getfield 7, 3) := by decide +kernel
theorem dX4_keepsLines_5 : decode cX4_keepsLines 5 = .ok (.aload_n 0, 1) := by decide +kernel
theorem dX4_keepsLines_6 : decode cX4_keepsLines 6 = .ok (.getfield 13, 3) := by decide +kernel
theorem dX4_keepsLines_9 : decode cX4_keepsLines 9 = .ok (.invokevirtual 16, 3) := by decide +kernel
theorem dX4_keepsLines_12 : decode cX4_keepsLines 12 = .ok (.ireturn, 1) := by decide +kernel
theorem dX5_init_0 : decode cX5_init 0 = .ok (.aload_n 0, 1) := by decide +kernel
theorem dX5_init_1 : decode cX5_init 1 = .ok (.iload_n 1, 1) := by decide +kernel
theorem dX5_init_2 : decode cX5_init 2 = .ok (.iload_n 2, 1) := by decide +kernel
theorem dX5_init_3 : decode cX5_init 3 = .ok (.iload_n 3, 1) := by decide +kernel
theorem dX5_init_4 : decode cX5_init 4 = .ok (.iload 4, 2) := by decide +kernel
theorem dX5_init_6 : decode cX5_init 6 = .ok (.iload 5, 2) := by decide +kernel
theorem dX5_init_8 : decode cX5_init 8 = .ok (.invokespecial 1, 3) := by decide +kernel
theorem dX5_init_11 : decode cX5_init 11 = .ok (.return_, 1) := by decide +kernel
theorem dX5_keepsLines_0 : decode cX5_keepsLines 0 = .ok (.aload_n 1, 1) := by decide +kernel
theorem dX5_keepsLines_1 : decode cX5_keepsLines 1 = .ok (.aload_n 0, 1) := by decide +kernel
theorem dX5_keepsLines_2 : decode cX5_keepsLines 2 = .ok (.getfield 7, 3) := by decide +kernel
theorem dX5_keepsLines_5 : decode cX5_keepsLines 5 = .ok (.aload_n 0, 1) := by decide +kernel
theorem dX5_keepsLines_6 : decode cX5_keepsLines 6 = .ok (.getfield 13, 3) := by decide +kernel
theorem dX5_keepsLines_9 : decode cX5_keepsLines 9 = .ok (.invokevirtual 16, 3) := by decide +kernel
theorem dX5_keepsLines_12 : decode cX5_keepsLines 12 = .ok (.ireturn, 1) := by decide +kernel
theorem dX6_init_0 : decode cX6_init 0 = .ok (.aload_n 0, 1) := by decide +kernel
theorem dX6_init_1 : decode cX6_init 1 = .ok (.invokespecial 3, 3) := by decide +kernel
theorem dX6_init_4 : decode cX6_init 4 = .ok (.aload_n 0, 1) := by decide +kernel
theorem dX6_init_5 : decode cX6_init 5 = .ok (.iload_n 1, 1) := by decide +kernel
theorem dX6_init_6 : decode cX6_init 6 = .ok (.putfield 9, 3) := by decide +kernel
theorem dX6_init_9 : decode cX6_init 9 = .ok (.aload_n 0, 1) := by decide +kernel
theorem dX6_init_10 : decode cX6_init 10 = .ok (.iload_n 2, 1) := by decide +kernel
theorem dX6_init_11 : decode cX6_init 11 = .ok (.putfield 15, 3) := by decide +kernel
theorem dX6_init_14 : decode cX6_init 14 = .ok (.aload_n 0, 1) := by decide +kernel
theorem dX6_init_15 : decode cX6_init 15 = .ok (.aload_n 3, 1) := by decide +kernel
theorem dX6_init_16 : decode cX6_init 16 = .ok (.putfield 18, 3) := by decide +kernel
theorem dX6_init_19 : decode cX6_init 19 = .ok (.aload_n 0, 1) := by decide +kernel
theorem dX6_init_20 : decode cX6_init 20 = .ok (.aload 4, 2) := by decide +kernel
theorem dX6_init_22 : decode cX6_init 22 = .ok (.putfield 22, 3) := by decide +kernel
theorem dX6_init_25 : decode cX6_init 25 = .ok (.return_, 1) := by decide +kernel
theorem dX6_keeps_0 : decode cX6_keeps 0 = .ok (.aload_n 1, 1) := by decide +kernel
theorem dX6_keeps_1 : decode cX6_keeps 1 = .ok (.aload_n 0, 1) := by decide +kernel
theorem dX6_keeps_2 : decode cX6_keeps 2 = .ok (.getfield 9, 3) := by decide +kernel
theorem dX6_keeps_5 : decode cX6_keeps 5 = .ok (.invokevirtual 25, 3) := by decide +kernel
theorem dX6_keeps_8 : decode cX6_keeps 8 = .ok (.istore_n 2, 1) := by decide +kernel
theorem dX6_keeps_9 : decode cX6_keeps 9 = .ok (.aload_n 0, 1) := by decide +kernel
theorem dX6_keeps_10 : decode cX6_keeps 10 = .ok (.getfield 18, 3) := by decide +kernel
theorem dX6_keeps_13 : decode cX6_keeps 13 = .ok (.aload_n 1, 1) := by decide +kernel
theorem dX6_keeps_14 : decode cX6_keeps 14 = .ok (.aload_n 0, 1) := by decide +kernel
theorem dX6_keeps_15 : decode cX6_keeps 15 = .ok (.getfield 9, 3) := by decide +kernel
theorem dX6_keeps_18 : decode cX6_keeps 18 = .ok (.invokevirtual 31, 3) := by decide +kernel
theorem dX6_keeps_21 : decode cX6_keeps 21 = .ok (.ifCond .eq 58, 3) := by decide +kernel
theorem dX6_keeps_24 : decode cX6_keeps 24 = .ok (.aload_n 1, 1) := by decide +kernel
theorem dX6_keeps_25 : decode cX6_keeps 25 = .ok (.getfield 37, 3) := by decide +kernel
theorem dX6_keeps_28 : decode cX6_keeps 28 = .ok (.aload_n 0, 1) := by decide +kernel
theorem dX6_keeps_29 : decode cX6_keeps 29 = .ok (.getfield 22, 3) := by decide +kernel
theorem dX6_keeps_32 : decode cX6_keeps 32 = .ok (.getfield 41, 3) := by decide +kernel
theorem dX6_keeps_35 : decode cX6_keeps 35 = .ok (.aload_n 0, 1) := by decide +kernel
theorem dX6_keeps_36 : decode cX6_keeps 36 = .ok (.getfield 18, 3) := by decide +kernel
theorem dX6_keeps_39 : decode cX6_keeps 39 = .ok (.getfield 41, 3) := by decide +kernel
theorem dX6_keeps_42 : decode cX6_keeps 42 = .ok (.isub, 1) := by decide +kernel
theorem dX6_keeps_43 : decode cX6_keeps 43 = .ok (.invokevirtual 44, 3) := by decide +kernel
theorem dX6_keeps_46 : decode cX6_keeps 46 = .ok (.aload_n 1, 1) := by decide +kernel
theorem dX6_keeps_47 : decode cX6_keeps 47 = .ok (.getfield 50, 3) := by decide +kernel
theorem dX6_keeps_50 : decode cX6_keeps 50 = .ok (.aload_n 0, 1) := by decide +kernel
theorem dX6_keeps_51 : decode cX6_keeps 51 = .ok (.getfield 22, 3) := by decide +kernel
theorem dX6_keeps_54 : decode cX6_keeps 54 = .ok (.getfield 53, 3) := by decide +kernel
theorem dX6_keeps_57 : decode cX6_keeps 57 = .ok (.aload_n 0, 1) := by decide +kernel
theorem dX6_keeps_58 : decode cX6_keeps 58 = .ok (.getfield 18, 3) := by decide +kernel
theorem dX6_keeps_61 : decode cX6_keeps 61 = .ok (.getfield 53, 3) := by decide +kernel
theorem dX6_keeps_64 : decode cX6_keeps 64 = .ok (.isub, 1) := by decide +kernel
theorem dX6_keeps_65 : decode cX6_keeps 65 = .ok (.invokevirtual 44, 3) := by decide +kernel
theorem dX6_keeps_68 : decode cX6_keeps 68 = .ok (.aload_n 0, 1) := by decide +kernel
theorem dX6_keeps_69 : decode cX6_keeps 69 = .ok (.getfield 22, 3) := by decide +kernel
theorem dX6_keeps_72 : decode cX6_keeps 72 = .ok (.getfield 56, 3) := by decide +kernel
theorem dX6_keeps_75 : decode cX6_keeps 75 = .ok (.istore_n 2, 1) := by decide +kernel
theorem dX6_keeps_76 : decode cX6_keeps 76 = .ok (.goto 20, 3) := by decide +kernel
theorem dX6_keeps_79 : decode cX6_keeps 79 = .ok (.aload_n 0, 1) := by decide +kernel
theorem dX6_keeps_80 : decode cX6_keeps 80 = .ok (.getfield 22, 3) := by decide +kernel
theorem dX6_keeps_83 : decode cX6_keeps 83 = .ok (.aload_n 1, 1) := by decide +kernel
theorem dX6_keeps_84 : decode cX6_keeps 84 = .ok (.aload_n 0, 1) := by decide +kernel
theorem dX6_keeps_85 : decode cX6_keeps 85 = .ok (.getfield 9, 3) := by decide +kernel
theorem dX6_keeps_88 : decode cX6_keeps 88 = .ok (.invokevirtual 31, 3) := by decide +kernel
theorem dX6_keeps_91 : decode cX6_keeps 91 = .ok (.ifCond .eq 5, 3) := by decide +kernel
theorem dX6_keeps_94 : decode cX6_keeps 94 = .ok (.iconst 0, 1) := by decide +kernel
theorem dX6_keeps_95 : decode cX6_keeps 95 = .ok (.ireturn, 1) := by decide +kernel
theorem dX6_keeps_96 : decode cX6_keeps 96 = .ok (.aload_n 1, 1) := by decide +kernel
theorem dX6_keeps_97 : decode cX6_keeps 97 = .ok (.getfield 59, 3) := by decide +kernel
theorem dX6_keeps_100 : decode cX6_keeps 100 = .ok (.iconst (-1), 1) := by decide +kernel
theorem dX6_keeps_101 : decode cX6_keeps 101 = .ok (.if_icmp .ne 11, 3) := by decide +kernel
theorem dX6_keeps_104 : decode cX6_keeps 104 = .ok (.iload_n 2, 1) := by decide +kernel
theorem dX6_keeps_105 : decode cX6_keeps 105 = .ok (.aload_n 0, 1) := by decide +kernel
theorem dX6_keeps_106 : decode cX6_keeps 106 = .ok (.getfield 15, 3) := by decide +kernel
theorem dX6_keeps_109 : decode cX6_keeps 109 = .ok (.if_icmp .eq 8, 3) := by decide +kernel
theorem dX6_keeps_112 : decode cX6_keeps 112 = .ok (.aload_n 1, 1) := by decide +kernel
theorem dX6_keeps_113 : decode cX6_keeps 113 = .ok (.iload_n 2, 1) := by decide +kernel
theorem dX6_keeps_114 : decode cX6_keeps 114 = .ok (.putfield 59, 3) := by decide +kernel
theorem dX6_keeps_117 : decode cX6_keeps 117 = .ok (.iconst 1, 1) := by decide +kernel
theorem dX6_keeps_118 : decode cX6_keeps 118 = .ok (.ireturn, 1) := by decide +kernel
theorem dX7_init_0 : decode cX7_init 0 = .ok (.aload_n 0, 1) := by decide +kernel
theorem dX7_init_1 : decode cX7_init 1 = .ok (.invokespecial 3, 3) := by decide +kernel
theorem dX7_init_4 : decode cX7_init 4 = .ok (.aload_n 0, 1) := by decide +kernel
theorem dX7_init_5 : decode cX7_init 5 = .ok (.new 9, 3) := by decide +kernel
theorem dX7_init_8 : decode cX7_init 8 = .ok (.dup, 1) := by decide +kernel
theorem dX7_init_9 : decode cX7_init 9 = .ok (.ldc 11, 2) := by decide +kernel
theorem dX7_init_11 : decode cX7_init 11 = .ok (.invokespecial 12, 3) := by decide +kernel
theorem dX7_init_14 : decode cX7_init 14 = .ok (.putfield 15, 3) := by decide +kernel
theorem dX7_init_17 : decode cX7_init 17 = .ok (.aload_n 0, 1) := by decide +kernel
theorem dX7_init_18 : decode cX7_init 18 = .ok (.new 9, 3) := by decide +kernel
theorem dX7_init_21 : decode cX7_init 21 = .ok (.dup, 1) := by decide +kernel
theorem dX7_init_22 : decode cX7_init 22 = .ok (.sipush 16384, 3) := by decide +kernel
theorem dX7_init_25 : decode cX7_init 25 = .ok (.invokespecial 12, 3) := by decide +kernel
theorem dX7_init_28 : decode cX7_init 28 = .ok (.putfield 21, 3) := by decide +kernel
theorem dX7_init_31 : decode cX7_init 31 = .ok (.return_, 1) := by decide +kernel
theorem dX7_sheetSeenFrom_0 : decode cX7_sheetSeenFrom 0 = .ok (.aload_n 0, 1) := by decide +kernel
theorem dX7_sheetSeenFrom_1 : decode cX7_sheetSeenFrom 1 = .ok (.getfield 24, 3) := by decide +kernel
theorem dX7_sheetSeenFrom_4 : decode cX7_sheetSeenFrom 4 = .ok (.iconst (-1), 1) := by decide +kernel
theorem dX7_sheetSeenFrom_5 : decode cX7_sheetSeenFrom 5 = .ok (.if_icmp .ne 7, 3) := by decide +kernel
theorem dX7_sheetSeenFrom_8 : decode cX7_sheetSeenFrom 8 = .ok (.iload_n 1, 1) := by decide +kernel
theorem dX7_sheetSeenFrom_9 : decode cX7_sheetSeenFrom 9 = .ok (.goto 7, 3) := by decide +kernel
theorem dX7_sheetSeenFrom_12 : decode cX7_sheetSeenFrom 12 = .ok (.aload_n 0, 1) := by decide +kernel
theorem dX7_sheetSeenFrom_13 : decode cX7_sheetSeenFrom 13 = .ok (.getfield 24, 3) := by decide +kernel
theorem dX7_sheetSeenFrom_16 : decode cX7_sheetSeenFrom 16 = .ok (.ireturn, 1) := by decide +kernel
theorem dX7_wordAt_0 : decode cX7_wordAt 0 = .ok (.iload_n 1, 1) := by decide +kernel
theorem dX7_wordAt_1 : decode cX7_wordAt 1 = .ok (.tableswitch 93 0 4 #[35, 64, 69, 77, 85], 35) := by decide +kernel
theorem dX7_wordAt_36 : decode cX7_wordAt 36 = .ok (.aload_n 0, 1) := by decide +kernel
theorem dX7_wordAt_37 : decode cX7_wordAt 37 = .ok (.getfield 28, 3) := by decide +kernel
theorem dX7_wordAt_40 : decode cX7_wordAt 40 = .ok (.ifCond .eq 15, 3) := by decide +kernel
theorem dX7_wordAt_43 : decode cX7_wordAt 43 = .ok (.iconst 5, 1) := by decide +kernel
theorem dX7_wordAt_44 : decode cX7_wordAt 44 = .ok (.bipush 16, 2) := by decide +kernel
theorem dX7_wordAt_46 : decode cX7_wordAt 46 = .ok (.aload_n 0, 1) := by decide +kernel
theorem dX7_wordAt_47 : decode cX7_wordAt 47 = .ok (.invokevirtual 32, 3) := by decide +kernel
theorem dX7_wordAt_50 : decode cX7_wordAt 50 = .ok (.imul, 1) := by decide +kernel
theorem dX7_wordAt_51 : decode cX7_wordAt 51 = .ok (.iadd, 1) := by decide +kernel
theorem dX7_wordAt_52 : decode cX7_wordAt 52 = .ok (.goto 12, 3) := by decide +kernel
theorem dX7_wordAt_55 : decode cX7_wordAt 55 = .ok (.iconst 4, 1) := by decide +kernel
theorem dX7_wordAt_56 : decode cX7_wordAt 56 = .ok (.bipush 16, 2) := by decide +kernel
theorem dX7_wordAt_58 : decode cX7_wordAt 58 = .ok (.aload_n 0, 1) := by decide +kernel
theorem dX7_wordAt_59 : decode cX7_wordAt 59 = .ok (.invokevirtual 36, 3) := by decide +kernel
theorem dX7_wordAt_62 : decode cX7_wordAt 62 = .ok (.imul, 1) := by decide +kernel
theorem dX7_wordAt_63 : decode cX7_wordAt 63 = .ok (.iadd, 1) := by decide +kernel
theorem dX7_wordAt_64 : decode cX7_wordAt 64 = .ok (.ireturn, 1) := by decide +kernel
theorem dX7_wordAt_65 : decode cX7_wordAt 65 = .ok (.aload_n 0, 1) := by decide +kernel
theorem dX7_wordAt_66 : decode cX7_wordAt 66 = .ok (.getfield 24, 3) := by decide +kernel
theorem dX7_wordAt_69 : decode cX7_wordAt 69 = .ok (.ireturn, 1) := by decide +kernel
theorem dX7_wordAt_70 : decode cX7_wordAt 70 = .ok (.aload_n 0, 1) := by decide +kernel
theorem dX7_wordAt_71 : decode cX7_wordAt 71 = .ok (.getfield 15, 3) := by decide +kernel
theorem dX7_wordAt_74 : decode cX7_wordAt 74 = .ok (.getfield 39, 3) := by decide +kernel
theorem dX7_wordAt_77 : decode cX7_wordAt 77 = .ok (.ireturn, 1) := by decide +kernel
theorem dX7_wordAt_78 : decode cX7_wordAt 78 = .ok (.aload_n 0, 1) := by decide +kernel
theorem dX7_wordAt_79 : decode cX7_wordAt 79 = .ok (.getfield 21, 3) := by decide +kernel
theorem dX7_wordAt_82 : decode cX7_wordAt 82 = .ok (.getfield 39, 3) := by decide +kernel
theorem dX7_wordAt_85 : decode cX7_wordAt 85 = .ok (.ireturn, 1) := by decide +kernel
theorem dX7_wordAt_86 : decode cX7_wordAt 86 = .ok (.aload_n 0, 1) := by decide +kernel
theorem dX7_wordAt_87 : decode cX7_wordAt 87 = .ok (.getfield 15, 3) := by decide +kernel
theorem dX7_wordAt_90 : decode cX7_wordAt 90 = .ok (.getfield 42, 3) := by decide +kernel
theorem dX7_wordAt_93 : decode cX7_wordAt 93 = .ok (.ireturn, 1) := by decide +kernel
theorem dX7_wordAt_94 : decode cX7_wordAt 94 = .ok (.aload_n 0, 1) := by decide +kernel
theorem dX7_wordAt_95 : decode cX7_wordAt 95 = .ok (.getfield 21, 3) := by decide +kernel
theorem dX7_wordAt_98 : decode cX7_wordAt 98 = .ok (.getfield 42, 3) := by decide +kernel
theorem dX7_wordAt_101 : decode cX7_wordAt 101 = .ok (.ireturn, 1) := by decide +kernel
theorem dX7_firstMarks_0 : decode cX7_firstMarks 0 = .ok (.aload_n 0, 1) := by decide +kernel
theorem dX7_firstMarks_1 : decode cX7_firstMarks 1 = .ok (.getfield 15, 3) := by decide +kernel
theorem dX7_firstMarks_4 : decode cX7_firstMarks 4 = .ok (.getfield 45, 3) := by decide +kernel
theorem dX7_firstMarks_7 : decode cX7_firstMarks 7 = .ok (.aload_n 0, 1) := by decide +kernel
theorem dX7_firstMarks_8 : decode cX7_firstMarks 8 = .ok (.getfield 21, 3) := by decide +kernel
theorem dX7_firstMarks_11 : decode cX7_firstMarks 11 = .ok (.getfield 45, 3) := by decide +kernel
theorem dX7_firstMarks_14 : decode cX7_firstMarks 14 = .ok (.invokestatic 48, 3) := by decide +kernel
theorem dX7_firstMarks_17 : decode cX7_firstMarks 17 = .ok (.ireturn, 1) := by decide +kernel
theorem dX7_rangeMarks_0 : decode cX7_rangeMarks 0 = .ok (.aload_n 0, 1) := by decide +kernel
theorem dX7_rangeMarks_1 : decode cX7_rangeMarks 1 = .ok (.getfield 15, 3) := by decide +kernel
theorem dX7_rangeMarks_4 : decode cX7_rangeMarks 4 = .ok (.getfield 52, 3) := by decide +kernel
theorem dX7_rangeMarks_7 : decode cX7_rangeMarks 7 = .ok (.aload_n 0, 1) := by decide +kernel
theorem dX7_rangeMarks_8 : decode cX7_rangeMarks 8 = .ok (.getfield 21, 3) := by decide +kernel
theorem dX7_rangeMarks_11 : decode cX7_rangeMarks 11 = .ok (.getfield 52, 3) := by decide +kernel
theorem dX7_rangeMarks_14 : decode cX7_rangeMarks 14 = .ok (.invokestatic 48, 3) := by decide +kernel
theorem dX7_rangeMarks_17 : decode cX7_rangeMarks 17 = .ok (.istore_n 1, 1) := by decide +kernel
theorem dX7_rangeMarks_18 : decode cX7_rangeMarks 18 = .ok (.aload_n 0, 1) := by decide +kernel
theorem dX7_rangeMarks_19 : decode cX7_rangeMarks 19 = .ok (.getfield 55, 3) := by decide +kernel
theorem dX7_rangeMarks_22 : decode cX7_rangeMarks 22 = .ok (.aload_n 0, 1) := by decide +kernel
theorem dX7_rangeMarks_23 : decode cX7_rangeMarks 23 = .ok (.invokevirtual 36, 3) := by decide +kernel
theorem dX7_rangeMarks_26 : decode cX7_rangeMarks 26 = .ok (.iadd, 1) := by decide +kernel
theorem dX7_rangeMarks_27 : decode cX7_rangeMarks 27 = .ok (.iconst 4, 1) := by decide +kernel
theorem dX7_rangeMarks_28 : decode cX7_rangeMarks 28 = .ok (.iload_n 1, 1) := by decide +kernel
theorem dX7_rangeMarks_29 : decode cX7_rangeMarks 29 = .ok (.imul, 1) := by decide +kernel
theorem dX7_rangeMarks_30 : decode cX7_rangeMarks 30 = .ok (.iadd, 1) := by decide +kernel
theorem dX7_rangeMarks_31 : decode cX7_rangeMarks 31 = .ok (.ireturn, 1) := by decide +kernel
theorem dX7_cornerMarks_0 : decode cX7_cornerMarks 0 = .ok (.iload_n 0, 1) := by decide +kernel
theorem dX7_cornerMarks_1 : decode cX7_cornerMarks 1 = .ok (.ifCond .eq 7, 3) := by decide +kernel
theorem dX7_cornerMarks_4 : decode cX7_cornerMarks 4 = .ok (.iconst 2, 1) := by decide +kernel
theorem dX7_cornerMarks_5 : decode cX7_cornerMarks 5 = .ok (.goto 4, 3) := by decide +kernel
theorem dX7_cornerMarks_8 : decode cX7_cornerMarks 8 = .ok (.iconst 0, 1) := by decide +kernel
theorem dX7_cornerMarks_9 : decode cX7_cornerMarks 9 = .ok (.iload_n 1, 1) := by decide +kernel
theorem dX7_cornerMarks_10 : decode cX7_cornerMarks 10 = .ok (.ifCond .eq 7, 3) := by decide +kernel
theorem dX7_cornerMarks_13 : decode cX7_cornerMarks 13 = .ok (.iconst 1, 1) := by decide +kernel
theorem dX7_cornerMarks_14 : decode cX7_cornerMarks 14 = .ok (.goto 4, 3) := by decide +kernel
theorem dX7_cornerMarks_17 : decode cX7_cornerMarks 17 = .ok (.iconst 0, 1) := by decide +kernel
theorem dX7_cornerMarks_18 : decode cX7_cornerMarks 18 = .ok (.iadd, 1) := by decide +kernel
theorem dX7_cornerMarks_19 : decode cX7_cornerMarks 19 = .ok (.ireturn, 1) := by decide +kernel
theorem dX8_init_0 : decode cX8_init 0 = .ok (.aload_n 0, 1) := by decide +kernel
theorem dX8_init_1 : decode cX8_init 1 = .ok (.invokespecial 1, 3) := by decide +kernel
theorem dX8_init_4 : decode cX8_init 4 = .ok (.aload_n 0, 1) := by decide +kernel
theorem dX8_init_5 : decode cX8_init 5 = .ok (.iload_n 1, 1) := by decide +kernel
theorem dX8_init_6 : decode cX8_init 6 = .ok (.putfield 7, 3) := by decide +kernel
theorem dX8_init_9 : decode cX8_init 9 = .ok (.return_, 1) := by decide +kernel
theorem dX8_setFirst_0 : decode cX8_setFirst 0 = .ok (.aload_n 0, 1) := by decide +kernel
theorem dX8_setFirst_1 : decode cX8_setFirst 1 = .ok (.iload_n 1, 1) := by decide +kernel
theorem dX8_setFirst_2 : decode cX8_setFirst 2 = .ok (.putfield 13, 3) := by decide +kernel
theorem dX8_setFirst_5 : decode cX8_setFirst 5 = .ok (.aload_n 0, 1) := by decide +kernel
theorem dX8_setFirst_6 : decode cX8_setFirst 6 = .ok (.iload_n 2, 1) := by decide +kernel
theorem dX8_setFirst_7 : decode cX8_setFirst 7 = .ok (.putfield 16, 3) := by decide +kernel
theorem dX8_setFirst_10 : decode cX8_setFirst 10 = .ok (.return_, 1) := by decide +kernel
theorem dX8_setLast_0 : decode cX8_setLast 0 = .ok (.aload_n 0, 1) := by decide +kernel
theorem dX8_setLast_1 : decode cX8_setLast 1 = .ok (.iload_n 1, 1) := by decide +kernel
theorem dX8_setLast_2 : decode cX8_setLast 2 = .ok (.putfield 20, 3) := by decide +kernel
theorem dX8_setLast_5 : decode cX8_setLast 5 = .ok (.aload_n 0, 1) := by decide +kernel
theorem dX8_setLast_6 : decode cX8_setLast 6 = .ok (.iload_n 2, 1) := by decide +kernel
theorem dX8_setLast_7 : decode cX8_setLast 7 = .ok (.putfield 23, 3) := by decide +kernel
theorem dX8_setLast_10 : decode cX8_setLast 10 = .ok (.return_, 1) := by decide +kernel
theorem dX8_isWithin_0 : decode cX8_isWithin 0 = .ok (.aload_n 0, 1) := by decide +kernel
theorem dX8_isWithin_1 : decode cX8_isWithin 1 = .ok (.getfield 13, 3) := by decide +kernel
theorem dX8_isWithin_4 : decode cX8_isWithin 4 = .ok (.iload_n 1, 1) := by decide +kernel
theorem dX8_isWithin_5 : decode cX8_isWithin 5 = .ok (.if_icmp .lt 15, 3) := by decide +kernel
theorem dX8_isWithin_8 : decode cX8_isWithin 8 = .ok (.aload_n 0, 1) := by decide +kernel
theorem dX8_isWithin_9 : decode cX8_isWithin 9 = .ok (.getfield 20, 3) := by decide +kernel
theorem dX8_isWithin_12 : decode cX8_isWithin 12 = .ok (.iload_n 2, 1) := by decide +kernel
theorem dX8_isWithin_13 : decode cX8_isWithin 13 = .ok (.if_icmp .gt 7, 3) := by decide +kernel
theorem dX8_isWithin_16 : decode cX8_isWithin 16 = .ok (.iconst 1, 1) := by decide +kernel
theorem dX8_isWithin_17 : decode cX8_isWithin 17 = .ok (.goto 4, 3) := by decide +kernel
theorem dX8_isWithin_20 : decode cX8_isWithin 20 = .ok (.iconst 0, 1) := by decide +kernel
theorem dX8_isWithin_21 : decode cX8_isWithin 21 = .ok (.ireturn, 1) := by decide +kernel
theorem dX8_shift_0 : decode cX8_shift 0 = .ok (.aload_n 0, 1) := by decide +kernel
theorem dX8_shift_1 : decode cX8_shift 1 = .ok (.dup, 1) := by decide +kernel
theorem dX8_shift_2 : decode cX8_shift 2 = .ok (.getfield 13, 3) := by decide +kernel
theorem dX8_shift_5 : decode cX8_shift 5 = .ok (.iload_n 1, 1) := by decide +kernel
theorem dX8_shift_6 : decode cX8_shift 6 = .ok (.iadd, 1) := by decide +kernel
theorem dX8_shift_7 : decode cX8_shift 7 = .ok (.putfield 13, 3) := by decide +kernel
theorem dX8_shift_10 : decode cX8_shift 10 = .ok (.aload_n 0, 1) := by decide +kernel
theorem dX8_shift_11 : decode cX8_shift 11 = .ok (.dup, 1) := by decide +kernel
theorem dX8_shift_12 : decode cX8_shift 12 = .ok (.getfield 20, 3) := by decide +kernel
theorem dX8_shift_15 : decode cX8_shift 15 = .ok (.iload_n 1, 1) := by decide +kernel
theorem dX8_shift_16 : decode cX8_shift 16 = .ok (.iadd, 1) := by decide +kernel
theorem dX8_shift_17 : decode cX8_shift 17 = .ok (.putfield 20, 3) := by decide +kernel
theorem dX8_shift_20 : decode cX8_shift 20 = .ok (.return_, 1) := by decide +kernel
theorem dX8_shiftLoose_0 : decode cX8_shiftLoose 0 = .ok (.aload_n 0, 1) := by decide +kernel
theorem dX8_shiftLoose_1 : decode cX8_shiftLoose 1 = .ok (.getfield 16, 3) := by decide +kernel
theorem dX8_shiftLoose_4 : decode cX8_shiftLoose 4 = .ok (.ifCond .ne 13, 3) := by decide +kernel
theorem dX8_shiftLoose_7 : decode cX8_shiftLoose 7 = .ok (.aload_n 0, 1) := by decide +kernel
theorem dX8_shiftLoose_8 : decode cX8_shiftLoose 8 = .ok (.dup, 1) := by decide +kernel
theorem dX8_shiftLoose_9 : decode cX8_shiftLoose 9 = .ok (.getfield 13, 3) := by decide +kernel
theorem dX8_shiftLoose_12 : decode cX8_shiftLoose 12 = .ok (.iload_n 1, 1) := by decide +kernel
theorem dX8_shiftLoose_13 : decode cX8_shiftLoose 13 = .ok (.iadd, 1) := by decide +kernel
theorem dX8_shiftLoose_14 : decode cX8_shiftLoose 14 = .ok (.putfield 13, 3) := by decide +kernel
theorem dX8_shiftLoose_17 : decode cX8_shiftLoose 17 = .ok (.aload_n 0, 1) := by decide +kernel
theorem dX8_shiftLoose_18 : decode cX8_shiftLoose 18 = .ok (.getfield 23, 3) := by decide +kernel
theorem dX8_shiftLoose_21 : decode cX8_shiftLoose 21 = .ok (.ifCond .ne 13, 3) := by decide +kernel
theorem dX8_shiftLoose_24 : decode cX8_shiftLoose 24 = .ok (.aload_n 0, 1) := by decide +kernel
theorem dX8_shiftLoose_25 : decode cX8_shiftLoose 25 = .ok (.dup, 1) := by decide +kernel
theorem dX8_shiftLoose_26 : decode cX8_shiftLoose 26 = .ok (.getfield 20, 3) := by decide +kernel
theorem dX8_shiftLoose_29 : decode cX8_shiftLoose 29 = .ok (.iload_n 1, 1) := by decide +kernel
theorem dX8_shiftLoose_30 : decode cX8_shiftLoose 30 = .ok (.iadd, 1) := by decide +kernel
theorem dX8_shiftLoose_31 : decode cX8_shiftLoose 31 = .ok (.putfield 20, 3) := by decide +kernel
theorem dX8_shiftLoose_34 : decode cX8_shiftLoose 34 = .ok (.aload_n 0, 1) := by decide +kernel
theorem dX8_shiftLoose_35 : decode cX8_shiftLoose 35 = .ok (.getfield 13, 3) := by decide +kernel
theorem dX8_shiftLoose_38 : decode cX8_shiftLoose 38 = .ok (.aload_n 0, 1) := by decide +kernel
theorem dX8_shiftLoose_39 : decode cX8_shiftLoose 39 = .ok (.getfield 7, 3) := by decide +kernel
theorem dX8_shiftLoose_42 : decode cX8_shiftLoose 42 = .ok (.invokestatic 26, 3) := by decide +kernel
theorem dX8_shiftLoose_45 : decode cX8_shiftLoose 45 = .ok (.ifCond .eq 17, 3) := by decide +kernel
theorem dX8_shiftLoose_48 : decode cX8_shiftLoose 48 = .ok (.aload_n 0, 1) := by decide +kernel
theorem dX8_shiftLoose_49 : decode cX8_shiftLoose 49 = .ok (.getfield 20, 3) := by decide +kernel
theorem dX8_shiftLoose_52 : decode cX8_shiftLoose 52 = .ok (.aload_n 0, 1) := by decide +kernel
theorem dX8_shiftLoose_53 : decode cX8_shiftLoose 53 = .ok (.getfield 7, 3) := by decide +kernel
theorem dX8_shiftLoose_56 : decode cX8_shiftLoose 56 = .ok (.invokestatic 26, 3) := by decide +kernel
theorem dX8_shiftLoose_59 : decode cX8_shiftLoose 59 = .ok (.ifCond .ne 5, 3) := by decide +kernel
theorem dX8_shiftLoose_62 : decode cX8_shiftLoose 62 = .ok (.iconst 0, 1) := by decide +kernel
theorem dX8_shiftLoose_63 : decode cX8_shiftLoose 63 = .ok (.ireturn, 1) := by decide +kernel
theorem dX8_shiftLoose_64 : decode cX8_shiftLoose 64 = .ok (.aload_n 0, 1) := by decide +kernel
theorem dX8_shiftLoose_65 : decode cX8_shiftLoose 65 = .ok (.getfield 13, 3) := by decide +kernel
theorem dX8_shiftLoose_68 : decode cX8_shiftLoose 68 = .ok (.aload_n 0, 1) := by decide +kernel
theorem dX8_shiftLoose_69 : decode cX8_shiftLoose 69 = .ok (.getfield 20, 3) := by decide +kernel
theorem dX8_shiftLoose_72 : decode cX8_shiftLoose 72 = .ok (.if_icmp .le 7, 3) := by decide +kernel
theorem dX8_shiftLoose_75 : decode cX8_shiftLoose 75 = .ok (.aload_n 0, 1) := by decide +kernel
theorem dX8_shiftLoose_76 : decode cX8_shiftLoose 76 = .ok (.invokevirtual 32, 3) := by decide +kernel
theorem dX8_shiftLoose_79 : decode cX8_shiftLoose 79 = .ok (.iconst 1, 1) := by decide +kernel
theorem dX8_shiftLoose_80 : decode cX8_shiftLoose 80 = .ok (.ireturn, 1) := by decide +kernel
theorem dX8_exchange_0 : decode cX8_exchange 0 = .ok (.aload_n 0, 1) := by decide +kernel
theorem dX8_exchange_1 : decode cX8_exchange 1 = .ok (.getfield 13, 3) := by decide +kernel
theorem dX8_exchange_4 : decode cX8_exchange 4 = .ok (.istore_n 1, 1) := by decide +kernel
theorem dX8_exchange_5 : decode cX8_exchange 5 = .ok (.aload_n 0, 1) := by decide +kernel
theorem dX8_exchange_6 : decode cX8_exchange 6 = .ok (.getfield 16, 3) := by decide +kernel
theorem dX8_exchange_9 : decode cX8_exchange 9 = .ok (.istore_n 2, 1) := by decide +kernel
theorem dX8_exchange_10 : decode cX8_exchange 10 = .ok (.aload_n 0, 1) := by decide +kernel
theorem dX8_exchange_11 : decode cX8_exchange 11 = .ok (.aload_n 0, 1) := by decide +kernel
theorem dX8_exchange_12 : decode cX8_exchange 12 = .ok (.getfield 20, 3) := by decide +kernel
theorem dX8_exchange_15 : decode cX8_exchange 15 = .ok (.aload_n 0, 1) := by decide +kernel
theorem dX8_exchange_16 : decode cX8_exchange 16 = .ok (.getfield 23, 3) := by decide +kernel
theorem dX8_exchange_19 : decode cX8_exchange 19 = .ok (.invokevirtual 35, 3) := by decide +kernel
theorem dX8_exchange_22 : decode cX8_exchange 22 = .ok (.aload_n 0, 1) := by decide +kernel
theorem dX8_exchange_23 : decode cX8_exchange 23 = .ok (.iload_n 1, 1) := by decide +kernel
theorem dX8_exchange_24 : decode cX8_exchange 24 = .ok (.iload_n 2, 1) := by decide +kernel
theorem dX8_exchange_25 : decode cX8_exchange 25 = .ok (.invokevirtual 39, 3) := by decide +kernel
theorem dX8_exchange_28 : decode cX8_exchange 28 = .ok (.return_, 1) := by decide +kernel
theorem dX8_openGap_0 : decode cX8_openGap 0 = .ok (.aload_n 0, 1) := by decide +kernel
theorem dX8_openGap_1 : decode cX8_openGap 1 = .ok (.getfield 13, 3) := by decide +kernel
theorem dX8_openGap_4 : decode cX8_openGap 4 = .ok (.aload_n 0, 1) := by decide +kernel
theorem dX8_openGap_5 : decode cX8_openGap 5 = .ok (.getfield 20, 3) := by decide +kernel
theorem dX8_openGap_8 : decode cX8_openGap 8 = .ok (.aload_n 0, 1) := by decide +kernel
theorem dX8_openGap_9 : decode cX8_openGap 9 = .ok (.getfield 7, 3) := by decide +kernel
theorem dX8_openGap_12 : decode cX8_openGap 12 = .ok (.invokestatic 42, 3) := by decide +kernel
theorem dX8_openGap_15 : decode cX8_openGap 15 = .ok (.ifCond .eq 5, 3) := by decide +kernel
theorem dX8_openGap_18 : decode cX8_openGap 18 = .ok (.iconst 1, 1) := by decide +kernel
theorem dX8_openGap_19 : decode cX8_openGap 19 = .ok (.ireturn, 1) := by decide +kernel
theorem dX8_openGap_20 : decode cX8_openGap 20 = .ok (.aload_n 0, 1) := by decide +kernel
theorem dX8_openGap_21 : decode cX8_openGap 21 = .ok (.getfield 13, 3) := by decide +kernel
theorem dX8_openGap_24 : decode cX8_openGap 24 = .ok (.iload_n 1, 1) := by decide +kernel
theorem dX8_openGap_25 : decode cX8_openGap 25 = .ok (.if_icmp .lt 13, 3) := by decide +kernel
theorem dX8_openGap_28 : decode cX8_openGap 28 = .ok (.aload_n 0, 1) := by decide +kernel
theorem dX8_openGap_29 : decode cX8_openGap 29 = .ok (.dup, 1) := by decide +kernel
theorem dX8_openGap_30 : decode cX8_openGap 30 = .ok (.getfield 13, 3) := by decide +kernel
theorem dX8_openGap_33 : decode cX8_openGap 33 = .ok (.iload_n 2, 1) := by decide +kernel
theorem dX8_openGap_34 : decode cX8_openGap 34 = .ok (.iadd, 1) := by decide +kernel
theorem dX8_openGap_35 : decode cX8_openGap 35 = .ok (.putfield 13, 3) := by decide +kernel
theorem dX8_openGap_38 : decode cX8_openGap 38 = .ok (.aload_n 0, 1) := by decide +kernel
theorem dX8_openGap_39 : decode cX8_openGap 39 = .ok (.getfield 20, 3) := by decide +kernel
theorem dX8_openGap_42 : decode cX8_openGap 42 = .ok (.iload_n 1, 1) := by decide +kernel
theorem dX8_openGap_43 : decode cX8_openGap 43 = .ok (.if_icmp .lt 20, 3) := by decide +kernel
theorem dX8_openGap_46 : decode cX8_openGap 46 = .ok (.aload_n 0, 1) := by decide +kernel
theorem dX8_openGap_47 : decode cX8_openGap 47 = .ok (.aload_n 0, 1) := by decide +kernel
theorem dX8_openGap_48 : decode cX8_openGap 48 = .ok (.getfield 20, 3) := by decide +kernel
theorem dX8_openGap_51 : decode cX8_openGap 51 = .ok (.iload_n 2, 1) := by decide +kernel
theorem dX8_openGap_52 : decode cX8_openGap 52 = .ok (.iadd, 1) := by decide +kernel
theorem dX8_openGap_53 : decode cX8_openGap 53 = .ok (.aload_n 0, 1) := by decide +kernel
theorem dX8_openGap_54 : decode cX8_openGap 54 = .ok (.getfield 7, 3) := by decide +kernel
theorem dX8_openGap_57 : decode cX8_openGap 57 = .ok (.invokestatic 46, 3) := by decide +kernel
theorem dX8_openGap_60 : decode cX8_openGap 60 = .ok (.putfield 20, 3) := by decide +kernel
theorem dX8_openGap_63 : decode cX8_openGap 63 = .ok (.aload_n 0, 1) := by decide +kernel
theorem dX8_openGap_64 : decode cX8_openGap 64 = .ok (.getfield 13, 3) := by decide +kernel
theorem dX8_openGap_67 : decode cX8_openGap 67 = .ok (.aload_n 0, 1) := by decide +kernel
theorem dX8_openGap_68 : decode cX8_openGap 68 = .ok (.getfield 7, 3) := by decide +kernel
theorem dX8_openGap_71 : decode cX8_openGap 71 = .ok (.if_icmp .gt 7, 3) := by decide +kernel
theorem dX8_openGap_74 : decode cX8_openGap 74 = .ok (.iconst 1, 1) := by decide +kernel
theorem dX8_openGap_75 : decode cX8_openGap 75 = .ok (.goto 4, 3) := by decide +kernel
theorem dX8_openGap_78 : decode cX8_openGap 78 = .ok (.iconst 0, 1) := by decide +kernel
theorem dX8_openGap_79 : decode cX8_openGap 79 = .ok (.ireturn, 1) := by decide +kernel
theorem dX8_closeGap_0 : decode cX8_closeGap 0 = .ok (.aload_n 0, 1) := by decide +kernel
theorem dX8_closeGap_1 : decode cX8_closeGap 1 = .ok (.getfield 13, 3) := by decide +kernel
theorem dX8_closeGap_4 : decode cX8_closeGap 4 = .ok (.aload_n 0, 1) := by decide +kernel
theorem dX8_closeGap_5 : decode cX8_closeGap 5 = .ok (.getfield 20, 3) := by decide +kernel
theorem dX8_closeGap_8 : decode cX8_closeGap 8 = .ok (.aload_n 0, 1) := by decide +kernel
theorem dX8_closeGap_9 : decode cX8_closeGap 9 = .ok (.getfield 7, 3) := by decide +kernel
theorem dX8_closeGap_12 : decode cX8_closeGap 12 = .ok (.invokestatic 42, 3) := by decide +kernel
theorem dX8_closeGap_15 : decode cX8_closeGap 15 = .ok (.ifCond .eq 5, 3) := by decide +kernel
theorem dX8_closeGap_18 : decode cX8_closeGap 18 = .ok (.iconst 1, 1) := by decide +kernel
theorem dX8_closeGap_19 : decode cX8_closeGap 19 = .ok (.ireturn, 1) := by decide +kernel
theorem dX8_closeGap_20 : decode cX8_closeGap 20 = .ok (.iload_n 1, 1) := by decide +kernel
theorem dX8_closeGap_21 : decode cX8_closeGap 21 = .ok (.iload_n 2, 1) := by decide +kernel
theorem dX8_closeGap_22 : decode cX8_closeGap 22 = .ok (.iadd, 1) := by decide +kernel
theorem dX8_closeGap_23 : decode cX8_closeGap 23 = .ok (.istore_n 3, 1) := by decide +kernel
theorem dX8_closeGap_24 : decode cX8_closeGap 24 = .ok (.aload_n 0, 1) := by decide +kernel
theorem dX8_closeGap_25 : decode cX8_closeGap 25 = .ok (.getfield 13, 3) := by decide +kernel
theorem dX8_closeGap_28 : decode cX8_closeGap 28 = .ok (.iload_n 3, 1) := by decide +kernel
theorem dX8_closeGap_29 : decode cX8_closeGap 29 = .ok (.if_icmp .lt 16, 3) := by decide +kernel
theorem dX8_closeGap_32 : decode cX8_closeGap 32 = .ok (.aload_n 0, 1) := by decide +kernel
theorem dX8_closeGap_33 : decode cX8_closeGap 33 = .ok (.dup, 1) := by decide +kernel
theorem dX8_closeGap_34 : decode cX8_closeGap 34 = .ok (.getfield 13, 3) := by decide +kernel
theorem dX8_closeGap_37 : decode cX8_closeGap 37 = .ok (.iload_n 2, 1) := by decide +kernel
theorem dX8_closeGap_38 : decode cX8_closeGap 38 = .ok (.isub, 1) := by decide +kernel
theorem dX8_closeGap_39 : decode cX8_closeGap 39 = .ok (.putfield 13, 3) := by decide +kernel
theorem dX8_closeGap_42 : decode cX8_closeGap 42 = .ok (.goto 16, 3) := by decide +kernel
theorem dX8_closeGap_45 : decode cX8_closeGap 45 = .ok (.aload_n 0, 1) := by decide +kernel
theorem dX8_closeGap_46 : decode cX8_closeGap 46 = .ok (.getfield 13, 3) := by decide +kernel
theorem dX8_closeGap_49 : decode cX8_closeGap 49 = .ok (.iload_n 1, 1) := by decide +kernel
theorem dX8_closeGap_50 : decode cX8_closeGap 50 = .ok (.if_icmp .lt 8, 3) := by decide +kernel
theorem dX8_closeGap_53 : decode cX8_closeGap 53 = .ok (.aload_n 0, 1) := by decide +kernel
theorem dX8_closeGap_54 : decode cX8_closeGap 54 = .ok (.iload_n 1, 1) := by decide +kernel
theorem dX8_closeGap_55 : decode cX8_closeGap 55 = .ok (.putfield 13, 3) := by decide +kernel
theorem dX8_closeGap_58 : decode cX8_closeGap 58 = .ok (.aload_n 0, 1) := by decide +kernel
theorem dX8_closeGap_59 : decode cX8_closeGap 59 = .ok (.getfield 20, 3) := by decide +kernel
theorem dX8_closeGap_62 : decode cX8_closeGap 62 = .ok (.iload_n 3, 1) := by decide +kernel
theorem dX8_closeGap_63 : decode cX8_closeGap 63 = .ok (.if_icmp .lt 16, 3) := by decide +kernel
theorem dX8_closeGap_66 : decode cX8_closeGap 66 = .ok (.aload_n 0, 1) := by decide +kernel
theorem dX8_closeGap_67 : decode cX8_closeGap 67 = .ok (.dup, 1) := by decide +kernel
theorem dX8_closeGap_68 : decode cX8_closeGap 68 = .ok (.getfield 20, 3) := by decide +kernel
theorem dX8_closeGap_71 : decode cX8_closeGap 71 = .ok (.iload_n 2, 1) := by decide +kernel
theorem dX8_closeGap_72 : decode cX8_closeGap 72 = .ok (.isub, 1) := by decide +kernel
theorem dX8_closeGap_73 : decode cX8_closeGap 73 = .ok (.putfield 20, 3) := by decide +kernel
theorem dX8_closeGap_76 : decode cX8_closeGap 76 = .ok (.goto 18, 3) := by decide +kernel
theorem dX8_closeGap_79 : decode cX8_closeGap 79 = .ok (.aload_n 0, 1) := by decide +kernel
theorem dX8_closeGap_80 : decode cX8_closeGap 80 = .ok (.getfield 20, 3) := by decide +kernel
theorem dX8_closeGap_83 : decode cX8_closeGap 83 = .ok (.iload_n 1, 1) := by decide +kernel
theorem dX8_closeGap_84 : decode cX8_closeGap 84 = .ok (.if_icmp .lt 10, 3) := by decide +kernel
theorem dX8_closeGap_87 : decode cX8_closeGap 87 = .ok (.aload_n 0, 1) := by decide +kernel
theorem dX8_closeGap_88 : decode cX8_closeGap 88 = .ok (.iload_n 1, 1) := by decide +kernel
theorem dX8_closeGap_89 : decode cX8_closeGap 89 = .ok (.iconst 1, 1) := by decide +kernel
theorem dX8_closeGap_90 : decode cX8_closeGap 90 = .ok (.isub, 1) := by decide +kernel
theorem dX8_closeGap_91 : decode cX8_closeGap 91 = .ok (.putfield 20, 3) := by decide +kernel
theorem dX8_closeGap_94 : decode cX8_closeGap 94 = .ok (.aload_n 0, 1) := by decide +kernel
theorem dX8_closeGap_95 : decode cX8_closeGap 95 = .ok (.getfield 13, 3) := by decide +kernel
theorem dX8_closeGap_98 : decode cX8_closeGap 98 = .ok (.aload_n 0, 1) := by decide +kernel
theorem dX8_closeGap_99 : decode cX8_closeGap 99 = .ok (.getfield 20, 3) := by decide +kernel
theorem dX8_closeGap_102 : decode cX8_closeGap 102 = .ok (.if_icmp .gt 7, 3) := by decide +kernel
theorem dX8_closeGap_105 : decode cX8_closeGap 105 = .ok (.iconst 1, 1) := by decide +kernel
theorem dX8_closeGap_106 : decode cX8_closeGap 106 = .ok (.goto 4, 3) := by decide +kernel
theorem dX8_closeGap_109 : decode cX8_closeGap 109 = .ok (.iconst 0, 1) := by decide +kernel
theorem dX8_closeGap_110 : decode cX8_closeGap 110 = .ok (.ireturn, 1) := by decide +kernel
theorem dX9_init_0 : decode cX9_init 0 = .ok (.aload_n 0, 1) := by decide +kernel
theorem dX9_init_1 : decode cX9_init 1 = .ok (.invokespecial 3, 3) := by decide +kernel
theorem dX9_init_4 : decode cX9_init 4 = .ok (.aload_n 0, 1) := by decide +kernel
theorem dX9_init_5 : decode cX9_init 5 = .ok (.sipush 1000, 3) := by decide +kernel
theorem dX9_init_8 : decode cX9_init 8 = .ok (.newarray .int, 2) := by decide +kernel
theorem dX9_init_10 : decode cX9_init 10 = .ok (.putfield 9, 3) := by decide +kernel
theorem dX9_init_13 : decode cX9_init 13 = .ok (.aload_n 0, 1) := by decide +kernel
theorem dX9_init_14 : decode cX9_init 14 = .ok (.iconst 0, 1) := by decide +kernel
theorem dX9_init_15 : decode cX9_init 15 = .ok (.putfield 13, 3) := by decide +kernel
theorem dX9_init_18 : decode cX9_init 18 = .ok (.aload_n 0, 1) := by decide +kernel
theorem dX9_init_19 : decode cX9_init 19 = .ok (.new 17, 3) := by decide +kernel
theorem dX9_init_22 : decode cX9_init 22 = .ok (.dup, 1) := by decide +kernel
theorem dX9_init_23 : decode cX9_init 23 = .ok (.iconst 0, 1) := by decide +kernel
theorem dX9_init_24 : decode cX9_init 24 = .ok (.iconst 1, 1) := by decide +kernel
theorem dX9_init_25 : decode cX9_init 25 = .ok (.iconst 1, 1) := by decide +kernel
theorem dX9_init_26 : decode cX9_init 26 = .ok (.iconst 1, 1) := by decide +kernel
theorem dX9_init_27 : decode cX9_init 27 = .ok (.iconst 1, 1) := by decide +kernel
theorem dX9_init_28 : decode cX9_init 28 = .ok (.invokespecial 19, 3) := by decide +kernel
theorem dX9_init_31 : decode cX9_init 31 = .ok (.putfield 22, 3) := by decide +kernel
theorem dX9_init_34 : decode cX9_init 34 = .ok (.aload_n 0, 1) := by decide +kernel
theorem dX9_init_35 : decode cX9_init 35 = .ok (.new 26, 3) := by decide +kernel
theorem dX9_init_38 : decode cX9_init 38 = .ok (.dup, 1) := by decide +kernel
theorem dX9_init_39 : decode cX9_init 39 = .ok (.invokespecial 28, 3) := by decide +kernel
theorem dX9_init_42 : decode cX9_init 42 = .ok (.putfield 29, 3) := by decide +kernel
theorem dX9_init_45 : decode cX9_init 45 = .ok (.return_, 1) := by decide +kernel
theorem dX9_clear_0 : decode cX9_clear 0 = .ok (.aload_n 0, 1) := by decide +kernel
theorem dX9_clear_1 : decode cX9_clear 1 = .ok (.iconst 0, 1) := by decide +kernel
theorem dX9_clear_2 : decode cX9_clear 2 = .ok (.putfield 13, 3) := by decide +kernel
theorem dX9_clear_5 : decode cX9_clear 5 = .ok (.return_, 1) := by decide +kernel
theorem dX9_other_0 : decode cX9_other 0 = .ok (.iload_n 1, 1) := by decide +kernel
theorem dX9_other_1 : decode cX9_other 1 = .ok (.iconst 4, 1) := by decide +kernel
theorem dX9_other_2 : decode cX9_other 2 = .ok (.invokestatic 33, 3) := by decide +kernel
theorem dX9_other_5 : decode cX9_other 5 = .ok (.ifCond .ne 19, 3) := by decide +kernel
theorem dX9_other_8 : decode cX9_other 8 = .ok (.iload_n 1, 1) := by decide +kernel
theorem dX9_other_9 : decode cX9_other 9 = .ok (.iconst 5, 1) := by decide +kernel
theorem dX9_other_10 : decode cX9_other 10 = .ok (.invokestatic 33, 3) := by decide +kernel
theorem dX9_other_13 : decode cX9_other 13 = .ok (.ifCond .ne 11, 3) := by decide +kernel
theorem dX9_other_16 : decode cX9_other 16 = .ok (.aload_n 0, 1) := by decide +kernel
theorem dX9_other_17 : decode cX9_other 17 = .ok (.iconst 1, 1) := by decide +kernel
theorem dX9_other_18 : decode cX9_other 18 = .ok (.invokevirtual 37, 3) := by decide +kernel
theorem dX9_other_21 : decode cX9_other 21 = .ok (.ifCond .ne 5, 3) := by decide +kernel
theorem dX9_other_24 : decode cX9_other 24 = .ok (.iconst 0, 1) := by decide +kernel
theorem dX9_other_25 : decode cX9_other 25 = .ok (.ireturn, 1) := by decide +kernel
theorem dX9_other_26 : decode cX9_other 26 = .ok (.aload_n 0, 1) := by decide +kernel
theorem dX9_other_27 : decode cX9_other 27 = .ok (.iload_n 1, 1) := by decide +kernel
theorem dX9_other_28 : decode cX9_other 28 = .ok (.invokevirtual 41, 3) := by decide +kernel
theorem dX9_other_31 : decode cX9_other 31 = .ok (.iconst 1, 1) := by decide +kernel
theorem dX9_other_32 : decode cX9_other 32 = .ok (.ireturn, 1) := by decide +kernel
theorem dX9_place_0 : decode cX9_place 0 = .ok (.iload_n 1, 1) := by decide +kernel
theorem dX9_place_1 : decode cX9_place 1 = .ok (.ifCond .lt 43, 3) := by decide +kernel
theorem dX9_place_4 : decode cX9_place 4 = .ok (.iload_n 1, 1) := by decide +kernel
theorem dX9_place_5 : decode cX9_place 5 = .ok (.iconst 3, 1) := by decide +kernel
theorem dX9_place_6 : decode cX9_place 6 = .ok (.if_icmp .gt 38, 3) := by decide +kernel
theorem dX9_place_9 : decode cX9_place 9 = .ok (.iload_n 2, 1) := by decide +kernel
theorem dX9_place_10 : decode cX9_place 10 = .ok (.invokestatic 45, 3) := by decide +kernel
theorem dX9_place_13 : decode cX9_place 13 = .ok (.ifCond .eq 31, 3) := by decide +kernel
theorem dX9_place_16 : decode cX9_place 16 = .ok (.iload_n 3, 1) := by decide +kernel
theorem dX9_place_17 : decode cX9_place 17 = .ok (.ldc 48, 2) := by decide +kernel
theorem dX9_place_19 : decode cX9_place 19 = .ok (.invokestatic 49, 3) := by decide +kernel
theorem dX9_place_22 : decode cX9_place 22 = .ok (.ifCond .eq 22, 3) := by decide +kernel
theorem dX9_place_25 : decode cX9_place 25 = .ok (.iload 4, 2) := by decide +kernel
theorem dX9_place_27 : decode cX9_place 27 = .ok (.sipush 16384, 3) := by decide +kernel
theorem dX9_place_30 : decode cX9_place 30 = .ok (.invokestatic 49, 3) := by decide +kernel
theorem dX9_place_33 : decode cX9_place 33 = .ok (.ifCond .eq 11, 3) := by decide +kernel
theorem dX9_place_36 : decode cX9_place 36 = .ok (.aload_n 0, 1) := by decide +kernel
theorem dX9_place_37 : decode cX9_place 37 = .ok (.iconst 4, 1) := by decide +kernel
theorem dX9_place_38 : decode cX9_place 38 = .ok (.invokevirtual 37, 3) := by decide +kernel
theorem dX9_place_41 : decode cX9_place 41 = .ok (.ifCond .ne 5, 3) := by decide +kernel
theorem dX9_place_44 : decode cX9_place 44 = .ok (.iconst 0, 1) := by decide +kernel
theorem dX9_place_45 : decode cX9_place 45 = .ok (.ireturn, 1) := by decide +kernel
theorem dX9_place_46 : decode cX9_place 46 = .ok (.aload_n 0, 1) := by decide +kernel
theorem dX9_place_47 : decode cX9_place 47 = .ok (.iconst 4, 1) := by decide +kernel
theorem dX9_place_48 : decode cX9_place 48 = .ok (.bipush 16, 2) := by decide +kernel
theorem dX9_place_50 : decode cX9_place 50 = .ok (.iload_n 1, 1) := by decide +kernel
theorem dX9_place_51 : decode cX9_place 51 = .ok (.imul, 1) := by decide +kernel
theorem dX9_place_52 : decode cX9_place 52 = .ok (.iadd, 1) := by decide +kernel
theorem dX9_place_53 : decode cX9_place 53 = .ok (.invokevirtual 41, 3) := by decide +kernel
theorem dX9_place_56 : decode cX9_place 56 = .ok (.aload_n 0, 1) := by decide +kernel
theorem dX9_place_57 : decode cX9_place 57 = .ok (.iload_n 2, 1) := by decide +kernel
theorem dX9_place_58 : decode cX9_place 58 = .ok (.invokevirtual 41, 3) := by decide +kernel
theorem dX9_place_61 : decode cX9_place 61 = .ok (.aload_n 0, 1) := by decide +kernel
theorem dX9_place_62 : decode cX9_place 62 = .ok (.iload_n 3, 1) := by decide +kernel
theorem dX9_place_63 : decode cX9_place 63 = .ok (.invokevirtual 41, 3) := by decide +kernel
theorem dX9_place_66 : decode cX9_place 66 = .ok (.aload_n 0, 1) := by decide +kernel
theorem dX9_place_67 : decode cX9_place 67 = .ok (.iload 4, 2) := by decide +kernel
theorem dX9_place_69 : decode cX9_place 69 = .ok (.invokevirtual 41, 3) := by decide +kernel
theorem dX9_place_72 : decode cX9_place 72 = .ok (.iconst 1, 1) := by decide +kernel
theorem dX9_place_73 : decode cX9_place 73 = .ok (.ireturn, 1) := by decide +kernel
theorem dX9_range_0 : decode cX9_range 0 = .ok (.iload_n 1, 1) := by decide +kernel
theorem dX9_range_1 : decode cX9_range 1 = .ok (.ifCond .lt 49, 3) := by decide +kernel
theorem dX9_range_4 : decode cX9_range 4 = .ok (.iload_n 1, 1) := by decide +kernel
theorem dX9_range_5 : decode cX9_range 5 = .ok (.bipush 47, 2) := by decide +kernel
theorem dX9_range_7 : decode cX9_range 7 = .ok (.if_icmp .gt 43, 3) := by decide +kernel
theorem dX9_range_10 : decode cX9_range 10 = .ok (.iload_n 2, 1) := by decide +kernel
theorem dX9_range_11 : decode cX9_range 11 = .ok (.invokestatic 45, 3) := by decide +kernel
theorem dX9_range_14 : decode cX9_range 14 = .ok (.ifCond .eq 36, 3) := by decide +kernel
theorem dX9_range_17 : decode cX9_range 17 = .ok (.iload_n 3, 1) := by decide +kernel
theorem dX9_range_18 : decode cX9_range 18 = .ok (.iload 5, 2) := by decide +kernel
theorem dX9_range_20 : decode cX9_range 20 = .ok (.ldc 48, 2) := by decide +kernel
theorem dX9_range_22 : decode cX9_range 22 = .ok (.invokestatic 52, 3) := by decide +kernel
theorem dX9_range_25 : decode cX9_range 25 = .ok (.ifCond .eq 25, 3) := by decide +kernel
theorem dX9_range_28 : decode cX9_range 28 = .ok (.iload 4, 2) := by decide +kernel
theorem dX9_range_30 : decode cX9_range 30 = .ok (.iload 6, 2) := by decide +kernel
theorem dX9_range_32 : decode cX9_range 32 = .ok (.sipush 16384, 3) := by decide +kernel
theorem dX9_range_35 : decode cX9_range 35 = .ok (.invokestatic 52, 3) := by decide +kernel
theorem dX9_range_38 : decode cX9_range 38 = .ok (.ifCond .eq 12, 3) := by decide +kernel
theorem dX9_range_41 : decode cX9_range 41 = .ok (.aload_n 0, 1) := by decide +kernel
theorem dX9_range_42 : decode cX9_range 42 = .ok (.bipush 6, 2) := by decide +kernel
theorem dX9_range_44 : decode cX9_range 44 = .ok (.invokevirtual 37, 3) := by decide +kernel
theorem dX9_range_47 : decode cX9_range 47 = .ok (.ifCond .ne 5, 3) := by decide +kernel
theorem dX9_range_50 : decode cX9_range 50 = .ok (.iconst 0, 1) := by decide +kernel
theorem dX9_range_51 : decode cX9_range 51 = .ok (.ireturn, 1) := by decide +kernel
theorem dX9_range_52 : decode cX9_range 52 = .ok (.iload_n 1, 1) := by decide +kernel
theorem dX9_range_53 : decode cX9_range 53 = .ok (.bipush 16, 2) := by decide +kernel
theorem dX9_range_55 : decode cX9_range 55 = .ok (.invokestatic 56, 3) := by decide +kernel
theorem dX9_range_58 : decode cX9_range 58 = .ok (.ifCond .eq 14, 3) := by decide +kernel
theorem dX9_range_61 : decode cX9_range 61 = .ok (.iload_n 3, 1) := by decide +kernel
theorem dX9_range_62 : decode cX9_range 62 = .ok (.iload 5, 2) := by decide +kernel
theorem dX9_range_64 : decode cX9_range 64 = .ok (.ldc 48, 2) := by decide +kernel
theorem dX9_range_66 : decode cX9_range 66 = .ok (.invokestatic 59, 3) := by decide +kernel
theorem dX9_range_69 : decode cX9_range 69 = .ok (.ifCond .eq 25, 3) := by decide +kernel
theorem dX9_range_72 : decode cX9_range 72 = .ok (.iload_n 1, 1) := by decide +kernel
theorem dX9_range_73 : decode cX9_range 73 = .ok (.bipush 32, 2) := by decide +kernel
theorem dX9_range_75 : decode cX9_range 75 = .ok (.invokestatic 56, 3) := by decide +kernel
theorem dX9_range_78 : decode cX9_range 78 = .ok (.ifCond .eq 18, 3) := by decide +kernel
theorem dX9_range_81 : decode cX9_range 81 = .ok (.iload 4, 2) := by decide +kernel
theorem dX9_range_83 : decode cX9_range 83 = .ok (.iload 6, 2) := by decide +kernel
theorem dX9_range_85 : decode cX9_range 85 = .ok (.sipush 16384, 3) := by decide +kernel
theorem dX9_range_88 : decode cX9_range 88 = .ok (.invokestatic 59, 3) := by decide +kernel
theorem dX9_range_91 : decode cX9_range 91 = .ok (.ifCond .ne 5, 3) := by decide +kernel
theorem dX9_range_94 : decode cX9_range 94 = .ok (.iconst 0, 1) := by decide +kernel
theorem dX9_range_95 : decode cX9_range 95 = .ok (.ireturn, 1) := by decide +kernel
theorem dX9_range_96 : decode cX9_range 96 = .ok (.aload_n 0, 1) := by decide +kernel
theorem dX9_range_97 : decode cX9_range 97 = .ok (.iconst 5, 1) := by decide +kernel
theorem dX9_range_98 : decode cX9_range 98 = .ok (.bipush 16, 2) := by decide +kernel
theorem dX9_range_100 : decode cX9_range 100 = .ok (.iload_n 1, 1) := by decide +kernel
theorem dX9_range_101 : decode cX9_range 101 = .ok (.imul, 1) := by decide +kernel
theorem dX9_range_102 : decode cX9_range 102 = .ok (.iadd, 1) := by decide +kernel
theorem dX9_range_103 : decode cX9_range 103 = .ok (.invokevirtual 41, 3) := by decide +kernel
theorem dX9_range_106 : decode cX9_range 106 = .ok (.aload_n 0, 1) := by decide +kernel
theorem dX9_range_107 : decode cX9_range 107 = .ok (.iload_n 2, 1) := by decide +kernel
theorem dX9_range_108 : decode cX9_range 108 = .ok (.invokevirtual 41, 3) := by decide +kernel
theorem dX9_range_111 : decode cX9_range 111 = .ok (.aload_n 0, 1) := by decide +kernel
theorem dX9_range_112 : decode cX9_range 112 = .ok (.iload_n 3, 1) := by decide +kernel
theorem dX9_range_113 : decode cX9_range 113 = .ok (.invokevirtual 41, 3) := by decide +kernel
theorem dX9_range_116 : decode cX9_range 116 = .ok (.aload_n 0, 1) := by decide +kernel
theorem dX9_range_117 : decode cX9_range 117 = .ok (.iload 4, 2) := by decide +kernel
theorem dX9_range_119 : decode cX9_range 119 = .ok (.invokevirtual 41, 3) := by decide +kernel
theorem dX9_range_122 : decode cX9_range 122 = .ok (.aload_n 0, 1) := by decide +kernel
theorem dX9_range_123 : decode cX9_range 123 = .ok (.iload 5, 2) := by decide +kernel
theorem dX9_range_125 : decode cX9_range 125 = .ok (.invokevirtual 41, 3) := by decide +kernel
theorem dX9_range_128 : decode cX9_range 128 = .ok (.aload_n 0, 1) := by decide +kernel
theorem dX9_range_129 : decode cX9_range 129 = .ok (.iload 6, 2) := by decide +kernel
theorem dX9_range_131 : decode cX9_range 131 = .ok (.invokevirtual 41, 3) := by decide +kernel
theorem dX9_range_134 : decode cX9_range 134 = .ok (.iconst 1, 1) := by decide +kernel
theorem dX9_range_135 : decode cX9_range 135 = .ok (.ireturn, 1) := by decide +kernel
theorem dX9_size_0 : decode cX9_size 0 = .ok (.aload_n 0, 1) := by decide +kernel
theorem dX9_size_1 : decode cX9_size 1 = .ok (.getfield 13, 3) := by decide +kernel
theorem dX9_size_4 : decode cX9_size 4 = .ok (.ireturn, 1) := by decide +kernel
theorem dX9_word_0 : decode cX9_word 0 = .ok (.iload_n 1, 1) := by decide +kernel
theorem dX9_word_1 : decode cX9_word 1 = .ok (.ifCond .lt 29, 3) := by decide +kernel
theorem dX9_word_4 : decode cX9_word 4 = .ok (.iload_n 1, 1) := by decide +kernel
theorem dX9_word_5 : decode cX9_word 5 = .ok (.aload_n 0, 1) := by decide +kernel
theorem dX9_word_6 : decode cX9_word 6 = .ok (.getfield 13, 3) := by decide +kernel
theorem dX9_word_9 : decode cX9_word 9 = .ok (.if_icmp .ge 21, 3) := by decide +kernel
theorem dX9_word_12 : decode cX9_word 12 = .ok (.iload_n 1, 1) := by decide +kernel
theorem dX9_word_13 : decode cX9_word 13 = .ok (.aload_n 0, 1) := by decide +kernel
theorem dX9_word_14 : decode cX9_word 14 = .ok (.getfield 9, 3) := by decide +kernel
theorem dX9_word_17 : decode cX9_word 17 = .ok (.arraylength, 1) := by decide +kernel
theorem dX9_word_18 : decode cX9_word 18 = .ok (.if_icmp .ge 12, 3) := by decide +kernel
theorem dX9_word_21 : decode cX9_word 21 = .ok (.aload_n 0, 1) := by decide +kernel
theorem dX9_word_22 : decode cX9_word 22 = .ok (.getfield 9, 3) := by decide +kernel
theorem dX9_word_25 : decode cX9_word 25 = .ok (.iload_n 1, 1) := by decide +kernel
theorem dX9_word_26 : decode cX9_word 26 = .ok (.iaload, 1) := by decide +kernel
theorem dX9_word_27 : decode cX9_word 27 = .ok (.goto 4, 3) := by decide +kernel
theorem dX9_word_30 : decode cX9_word 30 = .ok (.iconst 0, 1) := by decide +kernel
theorem dX9_word_31 : decode cX9_word 31 = .ok (.ireturn, 1) := by decide +kernel
theorem dX9_copy_0 : decode cX9_copy 0 = .ok (.iload_n 1, 1) := by decide +kernel
theorem dX9_copy_1 : decode cX9_copy 1 = .ok (.ldc 62, 2) := by decide +kernel
theorem dX9_copy_3 : decode cX9_copy 3 = .ok (.if_icmp .le 9, 3) := by decide +kernel
theorem dX9_copy_6 : decode cX9_copy 6 = .ok (.iload_n 1, 1) := by decide +kernel
theorem dX9_copy_7 : decode cX9_copy 7 = .ok (.ldc 48, 2) := by decide +kernel
theorem dX9_copy_9 : decode cX9_copy 9 = .ok (.if_icmp .lt 13, 3) := by decide +kernel
theorem dX9_copy_12 : decode cX9_copy 12 = .ok (.new 63, 3) := by decide +kernel
theorem dX9_copy_15 : decode cX9_copy 15 = .ok (.dup, 1) := by decide +kernel
theorem dX9_copy_16 : decode cX9_copy 16 = .ok (.ldc 65, 2) := by decide +kernel
theorem dX9_copy_18 : decode cX9_copy 18 = .ok (.invokespecial 67, 3) := by decide +kernel
theorem dX9_copy_21 : decode cX9_copy 21 = .ok (.athrow, 1) := by decide +kernel
theorem dX9_copy_22 : decode cX9_copy 22 = .ok (.iload_n 2, 1) := by decide +kernel
theorem dX9_copy_23 : decode cX9_copy 23 = .ok (.sipush (-16384), 3) := by decide +kernel
theorem dX9_copy_26 : decode cX9_copy 26 = .ok (.if_icmp .le 10, 3) := by decide +kernel
theorem dX9_copy_29 : decode cX9_copy 29 = .ok (.iload_n 2, 1) := by decide +kernel
theorem dX9_copy_30 : decode cX9_copy 30 = .ok (.sipush 16384, 3) := by decide +kernel
theorem dX9_copy_33 : decode cX9_copy 33 = .ok (.if_icmp .lt 13, 3) := by decide +kernel
theorem dX9_copy_36 : decode cX9_copy 36 = .ok (.new 63, 3) := by decide +kernel
theorem dX9_copy_39 : decode cX9_copy 39 = .ok (.dup, 1) := by decide +kernel
theorem dX9_copy_40 : decode cX9_copy 40 = .ok (.ldc 70, 2) := by decide +kernel
theorem dX9_copy_42 : decode cX9_copy 42 = .ok (.invokespecial 67, 3) := by decide +kernel
theorem dX9_copy_45 : decode cX9_copy 45 = .ok (.athrow, 1) := by decide +kernel
theorem dX9_copy_46 : decode cX9_copy 46 = .ok (.aload_n 0, 1) := by decide +kernel
theorem dX9_copy_47 : decode cX9_copy 47 = .ok (.new 72, 3) := by decide +kernel
theorem dX9_copy_50 : decode cX9_copy 50 = .ok (.dup, 1) := by decide +kernel
theorem dX9_copy_51 : decode cX9_copy 51 = .ok (.iload_n 1, 1) := by decide +kernel
theorem dX9_copy_52 : decode cX9_copy 52 = .ok (.iload_n 2, 1) := by decide +kernel
theorem dX9_copy_53 : decode cX9_copy 53 = .ok (.invokespecial 74, 3) := by decide +kernel
theorem dX9_copy_56 : decode cX9_copy 56 = .ok (.invokevirtual 77, 3) := by decide +kernel
theorem dX9_copy_59 : decode cX9_copy 59 = .ok (.ireturn, 1) := by decide +kernel
theorem dX9_insert_0 : decode cX9_insert 0 = .ok (.iload_n 1, 1) := by decide +kernel
theorem dX9_insert_1 : decode cX9_insert 1 = .ok (.iload_n 2, 1) := by decide +kernel
theorem dX9_insert_2 : decode cX9_insert 2 = .ok (.iload_n 3, 1) := by decide +kernel
theorem dX9_insert_3 : decode cX9_insert 3 = .ok (.iload 4, 2) := by decide +kernel
theorem dX9_insert_5 : decode cX9_insert 5 = .ok (.iload 5, 2) := by decide +kernel
theorem dX9_insert_7 : decode cX9_insert 7 = .ok (.invokestatic 81, 3) := by decide +kernel
theorem dX9_insert_10 : decode cX9_insert 10 = .ok (.aload_n 0, 1) := by decide +kernel
theorem dX9_insert_11 : decode cX9_insert 11 = .ok (.new 85, 3) := by decide +kernel
theorem dX9_insert_14 : decode cX9_insert 14 = .ok (.dup, 1) := by decide +kernel
theorem dX9_insert_15 : decode cX9_insert 15 = .ok (.iload_n 1, 1) := by decide +kernel
theorem dX9_insert_16 : decode cX9_insert 16 = .ok (.iload_n 2, 1) := by decide +kernel
theorem dX9_insert_17 : decode cX9_insert 17 = .ok (.iload_n 3, 1) := by decide +kernel
theorem dX9_insert_18 : decode cX9_insert 18 = .ok (.iload 4, 2) := by decide +kernel
theorem dX9_insert_20 : decode cX9_insert 20 = .ok (.iload 5, 2) := by decide +kernel
theorem dX9_insert_22 : decode cX9_insert 22 = .ok (.invokespecial 87, 3) := by decide +kernel
theorem dX9_insert_25 : decode cX9_insert 25 = .ok (.invokevirtual 77, 3) := by decide +kernel
theorem dX9_insert_28 : decode cX9_insert 28 = .ok (.ireturn, 1) := by decide +kernel
theorem dX9_delete_0 : decode cX9_delete 0 = .ok (.iload_n 1, 1) := by decide +kernel
theorem dX9_delete_1 : decode cX9_delete 1 = .ok (.iload_n 2, 1) := by decide +kernel
theorem dX9_delete_2 : decode cX9_delete 2 = .ok (.iload_n 3, 1) := by decide +kernel
theorem dX9_delete_3 : decode cX9_delete 3 = .ok (.iload 4, 2) := by decide +kernel
theorem dX9_delete_5 : decode cX9_delete 5 = .ok (.iload 5, 2) := by decide +kernel
theorem dX9_delete_7 : decode cX9_delete 7 = .ok (.invokestatic 81, 3) := by decide +kernel
theorem dX9_delete_10 : decode cX9_delete 10 = .ok (.aload_n 0, 1) := by decide +kernel
theorem dX9_delete_11 : decode cX9_delete 11 = .ok (.new 89, 3) := by decide +kernel
theorem dX9_delete_14 : decode cX9_delete 14 = .ok (.dup, 1) := by decide +kernel
theorem dX9_delete_15 : decode cX9_delete 15 = .ok (.iload_n 1, 1) := by decide +kernel
theorem dX9_delete_16 : decode cX9_delete 16 = .ok (.iload_n 2, 1) := by decide +kernel
theorem dX9_delete_17 : decode cX9_delete 17 = .ok (.iload_n 3, 1) := by decide +kernel
theorem dX9_delete_18 : decode cX9_delete 18 = .ok (.iload 4, 2) := by decide +kernel
theorem dX9_delete_20 : decode cX9_delete 20 = .ok (.iload 5, 2) := by decide +kernel
theorem dX9_delete_22 : decode cX9_delete 22 = .ok (.invokespecial 91, 3) := by decide +kernel
theorem dX9_delete_25 : decode cX9_delete 25 = .ok (.invokevirtual 77, 3) := by decide +kernel
theorem dX9_delete_28 : decode cX9_delete 28 = .ok (.ireturn, 1) := by decide +kernel
theorem dX9_rectangle_0 : decode cX9_rectangle 0 = .ok (.iload_n 1, 1) := by decide +kernel
theorem dX9_rectangle_1 : decode cX9_rectangle 1 = .ok (.invokestatic 92, 3) := by decide +kernel
theorem dX9_rectangle_4 : decode cX9_rectangle 4 = .ok (.ifCond .eq 26, 3) := by decide +kernel
theorem dX9_rectangle_7 : decode cX9_rectangle 7 = .ok (.iload_n 2, 1) := by decide +kernel
theorem dX9_rectangle_8 : decode cX9_rectangle 8 = .ok (.iload 4, 2) := by decide +kernel
theorem dX9_rectangle_10 : decode cX9_rectangle 10 = .ok (.ldc 48, 2) := by decide +kernel
theorem dX9_rectangle_12 : decode cX9_rectangle 12 = .ok (.invokestatic 52, 3) := by decide +kernel
theorem dX9_rectangle_15 : decode cX9_rectangle 15 = .ok (.ifCond .eq 15, 3) := by decide +kernel
theorem dX9_rectangle_18 : decode cX9_rectangle 18 = .ok (.iload_n 3, 1) := by decide +kernel
theorem dX9_rectangle_19 : decode cX9_rectangle 19 = .ok (.iload 5, 2) := by decide +kernel
theorem dX9_rectangle_21 : decode cX9_rectangle 21 = .ok (.sipush 16384, 3) := by decide +kernel
theorem dX9_rectangle_24 : decode cX9_rectangle 24 = .ok (.invokestatic 52, 3) := by decide +kernel
theorem dX9_rectangle_27 : decode cX9_rectangle 27 = .ok (.ifCond .ne 5, 3) := by decide +kernel
theorem dX9_rectangle_30 : decode cX9_rectangle 30 = .ok (.iconst 0, 1) := by decide +kernel
theorem dX9_rectangle_31 : decode cX9_rectangle 31 = .ok (.ireturn, 1) := by decide +kernel
theorem dX9_rectangle_32 : decode cX9_rectangle 32 = .ok (.aload_n 0, 1) := by decide +kernel
theorem dX9_rectangle_33 : decode cX9_rectangle 33 = .ok (.new 17, 3) := by decide +kernel
theorem dX9_rectangle_36 : decode cX9_rectangle 36 = .ok (.dup, 1) := by decide +kernel
theorem dX9_rectangle_37 : decode cX9_rectangle 37 = .ok (.iload_n 1, 1) := by decide +kernel
theorem dX9_rectangle_38 : decode cX9_rectangle 38 = .ok (.iload_n 2, 1) := by decide +kernel
theorem dX9_rectangle_39 : decode cX9_rectangle 39 = .ok (.iload_n 3, 1) := by decide +kernel
theorem dX9_rectangle_40 : decode cX9_rectangle 40 = .ok (.iload 4, 2) := by decide +kernel
theorem dX9_rectangle_42 : decode cX9_rectangle 42 = .ok (.iload 5, 2) := by decide +kernel
theorem dX9_rectangle_44 : decode cX9_rectangle 44 = .ok (.invokespecial 19, 3) := by decide +kernel
theorem dX9_rectangle_47 : decode cX9_rectangle 47 = .ok (.putfield 22, 3) := by decide +kernel
theorem dX9_rectangle_50 : decode cX9_rectangle 50 = .ok (.iconst 1, 1) := by decide +kernel
theorem dX9_rectangle_51 : decode cX9_rectangle 51 = .ok (.ireturn, 1) := by decide +kernel
theorem dX9_move_0 : decode cX9_move 0 = .ok (.iload_n 1, 1) := by decide +kernel
theorem dX9_move_1 : decode cX9_move 1 = .ok (.invokestatic 92, 3) := by decide +kernel
theorem dX9_move_4 : decode cX9_move 4 = .ok (.ifCond .eq 17, 3) := by decide +kernel
theorem dX9_move_7 : decode cX9_move 7 = .ok (.iload_n 2, 1) := by decide +kernel
theorem dX9_move_8 : decode cX9_move 8 = .ok (.invokestatic 92, 3) := by decide +kernel
theorem dX9_move_11 : decode cX9_move 11 = .ok (.ifCond .eq 10, 3) := by decide +kernel
theorem dX9_move_14 : decode cX9_move 14 = .ok (.iload_n 3, 1) := by decide +kernel
theorem dX9_move_15 : decode cX9_move 15 = .ok (.invokestatic 92, 3) := by decide +kernel
theorem dX9_move_18 : decode cX9_move 18 = .ok (.ifCond .ne 13, 3) := by decide +kernel
theorem dX9_move_21 : decode cX9_move 21 = .ok (.new 63, 3) := by decide +kernel
theorem dX9_move_24 : decode cX9_move 24 = .ok (.dup, 1) := by decide +kernel
theorem dX9_move_25 : decode cX9_move 25 = .ok (.ldc 95, 2) := by decide +kernel
theorem dX9_move_27 : decode cX9_move 27 = .ok (.invokespecial 67, 3) := by decide +kernel
theorem dX9_move_30 : decode cX9_move 30 = .ok (.athrow, 1) := by decide +kernel
theorem dX9_move_31 : decode cX9_move 31 = .ok (.iload 4, 2) := by decide +kernel
theorem dX9_move_33 : decode cX9_move 33 = .ok (.ldc 48, 2) := by decide +kernel
theorem dX9_move_35 : decode cX9_move 35 = .ok (.invokestatic 49, 3) := by decide +kernel
theorem dX9_move_38 : decode cX9_move 38 = .ok (.ifCond .eq 14, 3) := by decide +kernel
theorem dX9_move_41 : decode cX9_move 41 = .ok (.iload 5, 2) := by decide +kernel
theorem dX9_move_43 : decode cX9_move 43 = .ok (.sipush 16384, 3) := by decide +kernel
theorem dX9_move_46 : decode cX9_move 46 = .ok (.invokestatic 49, 3) := by decide +kernel
theorem dX9_move_49 : decode cX9_move 49 = .ok (.ifCond .ne 13, 3) := by decide +kernel
theorem dX9_move_52 : decode cX9_move 52 = .ok (.new 63, 3) := by decide +kernel
theorem dX9_move_55 : decode cX9_move 55 = .ok (.dup, 1) := by decide +kernel
theorem dX9_move_56 : decode cX9_move 56 = .ok (.ldc 97, 2) := by decide +kernel
theorem dX9_move_58 : decode cX9_move 58 = .ok (.invokespecial 67, 3) := by decide +kernel
theorem dX9_move_61 : decode cX9_move 61 = .ok (.athrow, 1) := by decide +kernel
theorem dX9_move_62 : decode cX9_move 62 = .ok (.iload 4, 2) := by decide +kernel
theorem dX9_move_64 : decode cX9_move 64 = .ok (.aload_n 0, 1) := by decide +kernel
theorem dX9_move_65 : decode cX9_move 65 = .ok (.getfield 22, 3) := by decide +kernel
theorem dX9_move_68 : decode cX9_move 68 = .ok (.getfield 99, 3) := by decide +kernel
theorem dX9_move_71 : decode cX9_move 71 = .ok (.iadd, 1) := by decide +kernel
theorem dX9_move_72 : decode cX9_move 72 = .ok (.aload_n 0, 1) := by decide +kernel
theorem dX9_move_73 : decode cX9_move 73 = .ok (.getfield 22, 3) := by decide +kernel
theorem dX9_move_76 : decode cX9_move 76 = .ok (.getfield 102, 3) := by decide +kernel
theorem dX9_move_79 : decode cX9_move 79 = .ok (.isub, 1) := by decide +kernel
theorem dX9_move_80 : decode cX9_move 80 = .ok (.istore 6, 2) := by decide +kernel
theorem dX9_move_82 : decode cX9_move 82 = .ok (.iload 5, 2) := by decide +kernel
theorem dX9_move_84 : decode cX9_move 84 = .ok (.aload_n 0, 1) := by decide +kernel
theorem dX9_move_85 : decode cX9_move 85 = .ok (.getfield 22, 3) := by decide +kernel
theorem dX9_move_88 : decode cX9_move 88 = .ok (.getfield 105, 3) := by decide +kernel
theorem dX9_move_91 : decode cX9_move 91 = .ok (.iadd, 1) := by decide +kernel
theorem dX9_move_92 : decode cX9_move 92 = .ok (.aload_n 0, 1) := by decide +kernel
theorem dX9_move_93 : decode cX9_move 93 = .ok (.getfield 22, 3) := by decide +kernel
theorem dX9_move_96 : decode cX9_move 96 = .ok (.getfield 108, 3) := by decide +kernel
theorem dX9_move_99 : decode cX9_move 99 = .ok (.isub, 1) := by decide +kernel
theorem dX9_move_100 : decode cX9_move 100 = .ok (.istore 7, 2) := by decide +kernel
theorem dX9_move_102 : decode cX9_move 102 = .ok (.iload 6, 2) := by decide +kernel
theorem dX9_move_104 : decode cX9_move 104 = .ok (.ldc 48, 2) := by decide +kernel
theorem dX9_move_106 : decode cX9_move 106 = .ok (.if_icmp .gt 11, 3) := by decide +kernel
theorem dX9_move_109 : decode cX9_move 109 = .ok (.iload 7, 2) := by decide +kernel
theorem dX9_move_111 : decode cX9_move 111 = .ok (.sipush 16384, 3) := by decide +kernel
theorem dX9_move_114 : decode cX9_move 114 = .ok (.if_icmp .le 13, 3) := by decide +kernel
theorem dX9_move_117 : decode cX9_move 117 = .ok (.new 63, 3) := by decide +kernel
theorem dX9_move_120 : decode cX9_move 120 = .ok (.dup, 1) := by decide +kernel
theorem dX9_move_121 : decode cX9_move 121 = .ok (.ldc 111, 2) := by decide +kernel
theorem dX9_move_123 : decode cX9_move 123 = .ok (.invokespecial 67, 3) := by decide +kernel
theorem dX9_move_126 : decode cX9_move 126 = .ok (.athrow, 1) := by decide +kernel
theorem dX9_move_127 : decode cX9_move 127 = .ok (.new 17, 3) := by decide +kernel
theorem dX9_move_130 : decode cX9_move 130 = .ok (.dup, 1) := by decide +kernel
theorem dX9_move_131 : decode cX9_move 131 = .ok (.iload_n 3, 1) := by decide +kernel
theorem dX9_move_132 : decode cX9_move 132 = .ok (.iload 4, 2) := by decide +kernel
theorem dX9_move_134 : decode cX9_move 134 = .ok (.iload 5, 2) := by decide +kernel
theorem dX9_move_136 : decode cX9_move 136 = .ok (.iload 6, 2) := by decide +kernel
theorem dX9_move_138 : decode cX9_move 138 = .ok (.iload 7, 2) := by decide +kernel
theorem dX9_move_140 : decode cX9_move 140 = .ok (.invokespecial 19, 3) := by decide +kernel
theorem dX9_move_143 : decode cX9_move 143 = .ok (.astore 8, 2) := by decide +kernel
theorem dX9_move_145 : decode cX9_move 145 = .ok (.aload_n 0, 1) := by decide +kernel
theorem dX9_move_146 : decode cX9_move 146 = .ok (.new 113, 3) := by decide +kernel
theorem dX9_move_149 : decode cX9_move 149 = .ok (.dup, 1) := by decide +kernel
theorem dX9_move_150 : decode cX9_move 150 = .ok (.iload_n 1, 1) := by decide +kernel
theorem dX9_move_151 : decode cX9_move 151 = .ok (.iload_n 2, 1) := by decide +kernel
theorem dX9_move_152 : decode cX9_move 152 = .ok (.aload_n 0, 1) := by decide +kernel
theorem dX9_move_153 : decode cX9_move 153 = .ok (.getfield 22, 3) := by decide +kernel
theorem dX9_move_156 : decode cX9_move 156 = .ok (.aload 8, 2) := by decide +kernel
theorem dX9_move_158 : decode cX9_move 158 = .ok (.invokespecial 115, 3) := by decide +kernel
theorem dX9_move_161 : decode cX9_move 161 = .ok (.invokevirtual 77, 3) := by decide +kernel
theorem dX9_move_164 : decode cX9_move 164 = .ok (.ireturn, 1) := by decide +kernel
theorem dX9_isSheet_0 : decode cX9_isSheet 0 = .ok (.iload_n 0, 1) := by decide +kernel
theorem dX9_isSheet_1 : decode cX9_isSheet 1 = .ok (.ifCond .lt 13, 3) := by decide +kernel
theorem dX9_isSheet_4 : decode cX9_isSheet 4 = .ok (.iload_n 0, 1) := by decide +kernel
theorem dX9_isSheet_5 : decode cX9_isSheet 5 = .ok (.bipush 7, 2) := by decide +kernel
theorem dX9_isSheet_7 : decode cX9_isSheet 7 = .ok (.if_icmp .gt 7, 3) := by decide +kernel
theorem dX9_isSheet_10 : decode cX9_isSheet 10 = .ok (.iconst 1, 1) := by decide +kernel
theorem dX9_isSheet_11 : decode cX9_isSheet 11 = .ok (.goto 4, 3) := by decide +kernel
theorem dX9_isSheet_14 : decode cX9_isSheet 14 = .ok (.iconst 0, 1) := by decide +kernel
theorem dX9_isSheet_15 : decode cX9_isSheet 15 = .ok (.ireturn, 1) := by decide +kernel
theorem dX9_isSheetOrNone_0 : decode cX9_isSheetOrNone 0 = .ok (.iload_n 0, 1) := by decide +kernel
theorem dX9_isSheetOrNone_1 : decode cX9_isSheetOrNone 1 = .ok (.iconst (-1), 1) := by decide +kernel
theorem dX9_isSheetOrNone_2 : decode cX9_isSheetOrNone 2 = .ok (.if_icmp .eq 10, 3) := by decide +kernel
theorem dX9_isSheetOrNone_5 : decode cX9_isSheetOrNone 5 = .ok (.iload_n 0, 1) := by decide +kernel
theorem dX9_isSheetOrNone_6 : decode cX9_isSheetOrNone 6 = .ok (.invokestatic 92, 3) := by decide +kernel
theorem dX9_isSheetOrNone_9 : decode cX9_isSheetOrNone 9 = .ok (.ifCond .eq 7, 3) := by decide +kernel
theorem dX9_isSheetOrNone_12 : decode cX9_isSheetOrNone 12 = .ok (.iconst 1, 1) := by decide +kernel
theorem dX9_isSheetOrNone_13 : decode cX9_isSheetOrNone 13 = .ok (.goto 4, 3) := by decide +kernel
theorem dX9_isSheetOrNone_16 : decode cX9_isSheetOrNone 16 = .ok (.iconst 0, 1) := by decide +kernel
theorem dX9_isSheetOrNone_17 : decode cX9_isSheetOrNone 17 = .ok (.ireturn, 1) := by decide +kernel
theorem dX9_isLine_0 : decode cX9_isLine 0 = .ok (.iload_n 0, 1) := by decide +kernel
theorem dX9_isLine_1 : decode cX9_isLine 1 = .ok (.iconst 1, 1) := by decide +kernel
theorem dX9_isLine_2 : decode cX9_isLine 2 = .ok (.if_icmp .lt 12, 3) := by decide +kernel
theorem dX9_isLine_5 : decode cX9_isLine 5 = .ok (.iload_n 0, 1) := by decide +kernel
theorem dX9_isLine_6 : decode cX9_isLine 6 = .ok (.iload_n 1, 1) := by decide +kernel
theorem dX9_isLine_7 : decode cX9_isLine 7 = .ok (.if_icmp .gt 7, 3) := by decide +kernel
theorem dX9_isLine_10 : decode cX9_isLine 10 = .ok (.iconst 1, 1) := by decide +kernel
theorem dX9_isLine_11 : decode cX9_isLine 11 = .ok (.goto 4, 3) := by decide +kernel
theorem dX9_isLine_14 : decode cX9_isLine 14 = .ok (.iconst 0, 1) := by decide +kernel
theorem dX9_isLine_15 : decode cX9_isLine 15 = .ok (.ireturn, 1) := by decide +kernel
theorem dX9_areLines_0 : decode cX9_areLines 0 = .ok (.iload_n 0, 1) := by decide +kernel
theorem dX9_areLines_1 : decode cX9_areLines 1 = .ok (.iconst 1, 1) := by decide +kernel
theorem dX9_areLines_2 : decode cX9_areLines 2 = .ok (.if_icmp .lt 17, 3) := by decide +kernel
theorem dX9_areLines_5 : decode cX9_areLines 5 = .ok (.iload_n 0, 1) := by decide +kernel
theorem dX9_areLines_6 : decode cX9_areLines 6 = .ok (.iload_n 1, 1) := by decide +kernel
theorem dX9_areLines_7 : decode cX9_areLines 7 = .ok (.if_icmp .gt 12, 3) := by decide +kernel
theorem dX9_areLines_10 : decode cX9_areLines 10 = .ok (.iload_n 1, 1) := by decide +kernel
theorem dX9_areLines_11 : decode cX9_areLines 11 = .ok (.iload_n 2, 1) := by decide +kernel
theorem dX9_areLines_12 : decode cX9_areLines 12 = .ok (.if_icmp .gt 7, 3) := by decide +kernel
theorem dX9_areLines_15 : decode cX9_areLines 15 = .ok (.iconst 1, 1) := by decide +kernel
theorem dX9_areLines_16 : decode cX9_areLines 16 = .ok (.goto 4, 3) := by decide +kernel
theorem dX9_areLines_19 : decode cX9_areLines 19 = .ok (.iconst 0, 1) := by decide +kernel
theorem dX9_areLines_20 : decode cX9_areLines 20 = .ok (.ireturn, 1) := by decide +kernel
theorem dX9_areAllLines_0 : decode cX9_areAllLines 0 = .ok (.iload_n 0, 1) := by decide +kernel
theorem dX9_areAllLines_1 : decode cX9_areAllLines 1 = .ok (.iconst 1, 1) := by decide +kernel
theorem dX9_areAllLines_2 : decode cX9_areAllLines 2 = .ok (.if_icmp .ne 12, 3) := by decide +kernel

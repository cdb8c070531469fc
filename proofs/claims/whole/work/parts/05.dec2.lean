theorem dX9_areAllLines_5 : decode cX9_areAllLines 5 = .ok (.iload_n 1, 1) := by decide +kernel
theorem dX9_areAllLines_6 : decode cX9_areAllLines 6 = .ok (.iload_n 2, 1) := by decide +kernel
theorem dX9_areAllLines_7 : decode cX9_areAllLines 7 = .ok (.if_icmp .ne 7, 3) := by decide +kernel
theorem dX9_areAllLines_10 : decode cX9_areAllLines 10 = .ok (.iconst 1, 1) := by decide +kernel
theorem dX9_areAllLines_11 : decode cX9_areAllLines 11 = .ok (.goto 4, 3) := by decide +kernel
theorem dX9_areAllLines_14 : decode cX9_areAllLines 14 = .ok (.iconst 0, 1) := by decide +kernel
theorem dX9_areAllLines_15 : decode cX9_areAllLines 15 = .ok (.ireturn, 1) := by decide +kernel
theorem dX9_has_0 : decode cX9_has 0 = .ok (.iload_n 0, 1) := by decide +kernel
theorem dX9_has_1 : decode cX9_has 1 = .ok (.iload_n 1, 1) := by decide +kernel
theorem dX9_has_2 : decode cX9_has 2 = .ok (.iand, 1) := by decide +kernel
theorem dX9_has_3 : decode cX9_has 3 = .ok (.ifCond .eq 7, 3) := by decide +kernel
theorem dX9_has_6 : decode cX9_has 6 = .ok (.iconst 1, 1) := by decide +kernel
theorem dX9_has_7 : decode cX9_has 7 = .ok (.goto 4, 3) := by decide +kernel
theorem dX9_has_10 : decode cX9_has 10 = .ok (.iconst 0, 1) := by decide +kernel
theorem dX9_has_11 : decode cX9_has 11 = .ok (.ireturn, 1) := by decide +kernel
theorem dX9_isOfKind_0 : decode cX9_isOfKind 0 = .ok (.iload_n 0, 1) := by decide +kernel
theorem dX9_isOfKind_1 : decode cX9_isOfKind 1 = .ok (.ifCond .lt 15, 3) := by decide +kernel
theorem dX9_isOfKind_4 : decode cX9_isOfKind 4 = .ok (.iload_n 0, 1) := by decide +kernel
theorem dX9_isOfKind_5 : decode cX9_isOfKind 5 = .ok (.bipush 16, 2) := by decide +kernel
theorem dX9_isOfKind_7 : decode cX9_isOfKind 7 = .ok (.irem, 1) := by decide +kernel
theorem dX9_isOfKind_8 : decode cX9_isOfKind 8 = .ok (.iload_n 1, 1) := by decide +kernel
theorem dX9_isOfKind_9 : decode cX9_isOfKind 9 = .ok (.if_icmp .ne 7, 3) := by decide +kernel
theorem dX9_isOfKind_12 : decode cX9_isOfKind 12 = .ok (.iconst 1, 1) := by decide +kernel
theorem dX9_isOfKind_13 : decode cX9_isOfKind 13 = .ok (.goto 4, 3) := by decide +kernel
theorem dX9_isOfKind_16 : decode cX9_isOfKind 16 = .ok (.iconst 0, 1) := by decide +kernel
theorem dX9_isOfKind_17 : decode cX9_isOfKind 17 = .ok (.ireturn, 1) := by decide +kernel
theorem dX9_checkLines_0 : decode cX9_checkLines 0 = .ok (.iload_n 0, 1) := by decide +kernel
theorem dX9_checkLines_1 : decode cX9_checkLines 1 = .ok (.invokestatic 92, 3) := by decide +kernel
theorem dX9_checkLines_4 : decode cX9_checkLines 4 = .ok (.ifCond .eq 10, 3) := by decide +kernel
theorem dX9_checkLines_7 : decode cX9_checkLines 7 = .ok (.iload_n 1, 1) := by decide +kernel
theorem dX9_checkLines_8 : decode cX9_checkLines 8 = .ok (.invokestatic 92, 3) := by decide +kernel
theorem dX9_checkLines_11 : decode cX9_checkLines 11 = .ok (.ifCond .ne 13, 3) := by decide +kernel
theorem dX9_checkLines_14 : decode cX9_checkLines 14 = .ok (.new 63, 3) := by decide +kernel
theorem dX9_checkLines_17 : decode cX9_checkLines 17 = .ok (.dup, 1) := by decide +kernel
theorem dX9_checkLines_18 : decode cX9_checkLines 18 = .ok (.ldc 95, 2) := by decide +kernel
theorem dX9_checkLines_20 : decode cX9_checkLines 20 = .ok (.invokespecial 67, 3) := by decide +kernel
theorem dX9_checkLines_23 : decode cX9_checkLines 23 = .ok (.athrow, 1) := by decide +kernel
theorem dX9_checkLines_24 : decode cX9_checkLines 24 = .ok (.iload_n 3, 1) := by decide +kernel
theorem dX9_checkLines_25 : decode cX9_checkLines 25 = .ok (.iload_n 2, 1) := by decide +kernel
theorem dX9_checkLines_26 : decode cX9_checkLines 26 = .ok (.ifCond .eq 9, 3) := by decide +kernel
theorem dX9_checkLines_29 : decode cX9_checkLines 29 = .ok (.sipush 16384, 3) := by decide +kernel
theorem dX9_checkLines_32 : decode cX9_checkLines 32 = .ok (.goto 5, 3) := by decide +kernel
theorem dX9_checkLines_35 : decode cX9_checkLines 35 = .ok (.ldc 48, 2) := by decide +kernel
theorem dX9_checkLines_37 : decode cX9_checkLines 37 = .ok (.invokestatic 49, 3) := by decide +kernel
theorem dX9_checkLines_40 : decode cX9_checkLines 40 = .ok (.ifCond .ne 13, 3) := by decide +kernel
theorem dX9_checkLines_43 : decode cX9_checkLines 43 = .ok (.new 63, 3) := by decide +kernel
theorem dX9_checkLines_46 : decode cX9_checkLines 46 = .ok (.dup, 1) := by decide +kernel
theorem dX9_checkLines_47 : decode cX9_checkLines 47 = .ok (.ldc 118, 2) := by decide +kernel
theorem dX9_checkLines_49 : decode cX9_checkLines 49 = .ok (.invokespecial 67, 3) := by decide +kernel
theorem dX9_checkLines_52 : decode cX9_checkLines 52 = .ok (.athrow, 1) := by decide +kernel
theorem dX9_checkLines_53 : decode cX9_checkLines 53 = .ok (.iload 4, 2) := by decide +kernel
theorem dX9_checkLines_55 : decode cX9_checkLines 55 = .ok (.iconst 1, 1) := by decide +kernel
theorem dX9_checkLines_56 : decode cX9_checkLines 56 = .ok (.if_icmp .lt 11, 3) := by decide +kernel
theorem dX9_checkLines_59 : decode cX9_checkLines 59 = .ok (.iload 4, 2) := by decide +kernel
theorem dX9_checkLines_61 : decode cX9_checkLines 61 = .ok (.sipush 16384, 3) := by decide +kernel
theorem dX9_checkLines_64 : decode cX9_checkLines 64 = .ok (.if_icmp .le 13, 3) := by decide +kernel
theorem dX9_checkLines_67 : decode cX9_checkLines 67 = .ok (.new 63, 3) := by decide +kernel
theorem dX9_checkLines_70 : decode cX9_checkLines 70 = .ok (.dup, 1) := by decide +kernel
theorem dX9_checkLines_71 : decode cX9_checkLines 71 = .ok (.ldc 120, 2) := by decide +kernel
theorem dX9_checkLines_73 : decode cX9_checkLines 73 = .ok (.invokespecial 67, 3) := by decide +kernel
theorem dX9_checkLines_76 : decode cX9_checkLines 76 = .ok (.athrow, 1) := by decide +kernel
theorem dX9_checkLines_77 : decode cX9_checkLines 77 = .ok (.return_, 1) := by decide +kernel
theorem dX9_hasRoomFor_0 : decode cX9_hasRoomFor 0 = .ok (.aload_n 0, 1) := by decide +kernel
theorem dX9_hasRoomFor_1 : decode cX9_hasRoomFor 1 = .ok (.getfield 13, 3) := by decide +kernel
theorem dX9_hasRoomFor_4 : decode cX9_hasRoomFor 4 = .ok (.iload_n 1, 1) := by decide +kernel
theorem dX9_hasRoomFor_5 : decode cX9_hasRoomFor 5 = .ok (.iadd, 1) := by decide +kernel
theorem dX9_hasRoomFor_6 : decode cX9_hasRoomFor 6 = .ok (.sipush 1000, 3) := by decide +kernel
theorem dX9_hasRoomFor_9 : decode cX9_hasRoomFor 9 = .ok (.if_icmp .gt 7, 3) := by decide +kernel
theorem dX9_hasRoomFor_12 : decode cX9_hasRoomFor 12 = .ok (.iconst 1, 1) := by decide +kernel
theorem dX9_hasRoomFor_13 : decode cX9_hasRoomFor 13 = .ok (.goto 4, 3) := by decide +kernel
theorem dX9_hasRoomFor_16 : decode cX9_hasRoomFor 16 = .ok (.iconst 0, 1) := by decide +kernel
theorem dX9_hasRoomFor_17 : decode cX9_hasRoomFor 17 = .ok (.ireturn, 1) := by decide +kernel
theorem dX9_append_0 : decode cX9_append 0 = .ok (.aload_n 0, 1) := by decide +kernel
theorem dX9_append_1 : decode cX9_append 1 = .ok (.aload_n 0, 1) := by decide +kernel
theorem dX9_append_2 : decode cX9_append 2 = .ok (.getfield 13, 3) := by decide +kernel
theorem dX9_append_5 : decode cX9_append 5 = .ok (.iload_n 1, 1) := by decide +kernel
theorem dX9_append_6 : decode cX9_append 6 = .ok (.invokevirtual 122, 3) := by decide +kernel
theorem dX9_append_9 : decode cX9_append 9 = .ok (.aload_n 0, 1) := by decide +kernel
theorem dX9_append_10 : decode cX9_append 10 = .ok (.dup, 1) := by decide +kernel
theorem dX9_append_11 : decode cX9_append 11 = .ok (.getfield 13, 3) := by decide +kernel
theorem dX9_append_14 : decode cX9_append 14 = .ok (.iconst 1, 1) := by decide +kernel
theorem dX9_append_15 : decode cX9_append 15 = .ok (.iadd, 1) := by decide +kernel
theorem dX9_append_16 : decode cX9_append 16 = .ok (.putfield 13, 3) := by decide +kernel
theorem dX9_append_19 : decode cX9_append 19 = .ok (.return_, 1) := by decide +kernel
theorem dX9_put_0 : decode cX9_put 0 = .ok (.iload_n 1, 1) := by decide +kernel
theorem dX9_put_1 : decode cX9_put 1 = .ok (.ifCond .lt 19, 3) := by decide +kernel
theorem dX9_put_4 : decode cX9_put 4 = .ok (.iload_n 1, 1) := by decide +kernel
theorem dX9_put_5 : decode cX9_put 5 = .ok (.aload_n 0, 1) := by decide +kernel
theorem dX9_put_6 : decode cX9_put 6 = .ok (.getfield 9, 3) := by decide +kernel
theorem dX9_put_9 : decode cX9_put 9 = .ok (.arraylength, 1) := by decide +kernel
theorem dX9_put_10 : decode cX9_put 10 = .ok (.if_icmp .ge 10, 3) := by decide +kernel
theorem dX9_put_13 : decode cX9_put 13 = .ok (.aload_n 0, 1) := by decide +kernel
theorem dX9_put_14 : decode cX9_put 14 = .ok (.getfield 9, 3) := by decide +kernel
theorem dX9_put_17 : decode cX9_put 17 = .ok (.iload_n 1, 1) := by decide +kernel
theorem dX9_put_18 : decode cX9_put 18 = .ok (.iload_n 2, 1) := by decide +kernel
theorem dX9_put_19 : decode cX9_put 19 = .ok (.iastore, 1) := by decide +kernel
theorem dX9_put_20 : decode cX9_put 20 = .ok (.return_, 1) := by decide +kernel
theorem dX9_changeReferences_0 : decode cX9_changeReferences 0 = .ok (.iconst 0, 1) := by decide +kernel
theorem dX9_changeReferences_1 : decode cX9_changeReferences 1 = .ok (.istore_n 2, 1) := by decide +kernel
theorem dX9_changeReferences_2 : decode cX9_changeReferences 2 = .ok (.iconst 0, 1) := by decide +kernel
theorem dX9_changeReferences_3 : decode cX9_changeReferences 3 = .ok (.istore_n 3, 1) := by decide +kernel
theorem dX9_changeReferences_4 : decode cX9_changeReferences 4 = .ok (.iconst 1, 1) := by decide +kernel
theorem dX9_changeReferences_5 : decode cX9_changeReferences 5 = .ok (.istore 4, 2) := by decide +kernel
theorem dX9_changeReferences_7 : decode cX9_changeReferences 7 = .ok (.iconst 0, 1) := by decide +kernel
theorem dX9_changeReferences_8 : decode cX9_changeReferences 8 = .ok (.istore 5, 2) := by decide +kernel
theorem dX9_changeReferences_10 : decode cX9_changeReferences 10 = .ok (.iload 5, 2) := by decide +kernel
theorem dX9_changeReferences_12 : decode cX9_changeReferences 12 = .ok (.aload_n 0, 1) := by decide +kernel
theorem dX9_changeReferences_13 : decode cX9_changeReferences 13 = .ok (.getfield 13, 3) := by decide +kernel
theorem dX9_changeReferences_16 : decode cX9_changeReferences 16 = .ok (.if_icmp .ge 102, 3) := by decide +kernel
theorem dX9_changeReferences_19 : decode cX9_changeReferences 19 = .ok (.aload_n 0, 1) := by decide +kernel
theorem dX9_changeReferences_20 : decode cX9_changeReferences 20 = .ok (.iload 5, 2) := by decide +kernel
theorem dX9_changeReferences_22 : decode cX9_changeReferences 22 = .ok (.invokevirtual 125, 3) := by decide +kernel
theorem dX9_changeReferences_25 : decode cX9_changeReferences 25 = .ok (.invokestatic 129, 3) := by decide +kernel
theorem dX9_changeReferences_28 : decode cX9_changeReferences 28 = .ok (.istore 4, 2) := by decide +kernel
theorem dX9_changeReferences_30 : decode cX9_changeReferences 30 = .ok (.iload 4, 2) := by decide +kernel
theorem dX9_changeReferences_32 : decode cX9_changeReferences 32 = .ok (.iconst 1, 1) := by decide +kernel
theorem dX9_changeReferences_33 : decode cX9_changeReferences 33 = .ok (.if_icmp .ne 20, 3) := by decide +kernel
theorem dX9_changeReferences_36 : decode cX9_changeReferences 36 = .ok (.aload_n 0, 1) := by decide +kernel
theorem dX9_changeReferences_37 : decode cX9_changeReferences 37 = .ok (.iload_n 3, 1) := by decide +kernel
theorem dX9_changeReferences_38 : decode cX9_changeReferences 38 = .ok (.aload_n 0, 1) := by decide +kernel
theorem dX9_changeReferences_39 : decode cX9_changeReferences 39 = .ok (.iload 5, 2) := by decide +kernel
theorem dX9_changeReferences_41 : decode cX9_changeReferences 41 = .ok (.invokevirtual 125, 3) := by decide +kernel
theorem dX9_changeReferences_44 : decode cX9_changeReferences 44 = .ok (.invokevirtual 122, 3) := by decide +kernel
theorem dX9_changeReferences_47 : decode cX9_changeReferences 47 = .ok (.iinc 3 1, 3) := by decide +kernel
theorem dX9_changeReferences_50 : decode cX9_changeReferences 50 = .ok (.goto 58, 3) := by decide +kernel
theorem dX9_changeReferences_53 : decode cX9_changeReferences 53 = .ok (.aload_n 0, 1) := by decide +kernel
theorem dX9_changeReferences_54 : decode cX9_changeReferences 54 = .ok (.iload 5, 2) := by decide +kernel
theorem dX9_changeReferences_56 : decode cX9_changeReferences 56 = .ok (.iload 4, 2) := by decide +kernel
theorem dX9_changeReferences_58 : decode cX9_changeReferences 58 = .ok (.invokevirtual 132, 3) := by decide +kernel
theorem dX9_changeReferences_61 : decode cX9_changeReferences 61 = .ok (.aload_n 1, 1) := by decide +kernel
theorem dX9_changeReferences_62 : decode cX9_changeReferences 62 = .ok (.aload_n 0, 1) := by decide +kernel
theorem dX9_changeReferences_63 : decode cX9_changeReferences 63 = .ok (.getfield 29, 3) := by decide +kernel
theorem dX9_changeReferences_66 : decode cX9_changeReferences 66 = .ok (.invokevirtual 135, 3) := by decide +kernel
theorem dX9_changeReferences_69 : decode cX9_changeReferences 69 = .ok (.ifCond .ne 19, 3) := by decide +kernel
theorem dX9_changeReferences_72 : decode cX9_changeReferences 72 = .ok (.aload_n 0, 1) := by decide +kernel
theorem dX9_changeReferences_73 : decode cX9_changeReferences 73 = .ok (.iload_n 3, 1) := by decide +kernel
theorem dX9_changeReferences_74 : decode cX9_changeReferences 74 = .ok (.bipush 67, 2) := by decide +kernel
theorem dX9_changeReferences_76 : decode cX9_changeReferences 76 = .ok (.invokevirtual 122, 3) := by decide +kernel
theorem dX9_changeReferences_79 : decode cX9_changeReferences 79 = .ok (.iinc 3 1, 3) := by decide +kernel
theorem dX9_changeReferences_82 : decode cX9_changeReferences 82 = .ok (.iinc 2 1, 3) := by decide +kernel
theorem dX9_changeReferences_85 : decode cX9_changeReferences 85 = .ok (.goto 23, 3) := by decide +kernel
theorem dX9_changeReferences_88 : decode cX9_changeReferences 88 = .ok (.aload_n 0, 1) := by decide +kernel
theorem dX9_changeReferences_89 : decode cX9_changeReferences 89 = .ok (.iload 5, 2) := by decide +kernel
theorem dX9_changeReferences_91 : decode cX9_changeReferences 91 = .ok (.iload_n 3, 1) := by decide +kernel
theorem dX9_changeReferences_92 : decode cX9_changeReferences 92 = .ok (.iload 4, 2) := by decide +kernel
theorem dX9_changeReferences_94 : decode cX9_changeReferences 94 = .ok (.invokevirtual 141, 3) := by decide +kernel
theorem dX9_changeReferences_97 : decode cX9_changeReferences 97 = .ok (.ifCond .eq 6, 3) := by decide +kernel
theorem dX9_changeReferences_100 : decode cX9_changeReferences 100 = .ok (.iinc 2 1, 3) := by decide +kernel
theorem dX9_changeReferences_103 : decode cX9_changeReferences 103 = .ok (.iload_n 3, 1) := by decide +kernel
theorem dX9_changeReferences_104 : decode cX9_changeReferences 104 = .ok (.iload 4, 2) := by decide +kernel
theorem dX9_changeReferences_106 : decode cX9_changeReferences 106 = .ok (.iadd, 1) := by decide +kernel
theorem dX9_changeReferences_107 : decode cX9_changeReferences 107 = .ok (.istore_n 3, 1) := by decide +kernel
theorem dX9_changeReferences_108 : decode cX9_changeReferences 108 = .ok (.iload 5, 2) := by decide +kernel
theorem dX9_changeReferences_110 : decode cX9_changeReferences 110 = .ok (.iload 4, 2) := by decide +kernel
theorem dX9_changeReferences_112 : decode cX9_changeReferences 112 = .ok (.iadd, 1) := by decide +kernel
theorem dX9_changeReferences_113 : decode cX9_changeReferences 113 = .ok (.istore 5, 2) := by decide +kernel
theorem dX9_changeReferences_115 : decode cX9_changeReferences 115 = .ok (.goto (-105), 3) := by decide +kernel
theorem dX9_changeReferences_118 : decode cX9_changeReferences 118 = .ok (.aload_n 0, 1) := by decide +kernel
theorem dX9_changeReferences_119 : decode cX9_changeReferences 119 = .ok (.iload_n 3, 1) := by decide +kernel
theorem dX9_changeReferences_120 : decode cX9_changeReferences 120 = .ok (.putfield 13, 3) := by decide +kernel
theorem dX9_changeReferences_123 : decode cX9_changeReferences 123 = .ok (.iload_n 2, 1) := by decide +kernel
theorem dX9_changeReferences_124 : decode cX9_changeReferences 124 = .ok (.ireturn, 1) := by decide +kernel
theorem dX9_itemLength_0 : decode cX9_itemLength 0 = .ok (.iload_n 0, 1) := by decide +kernel
theorem dX9_itemLength_1 : decode cX9_itemLength 1 = .ok (.iconst 4, 1) := by decide +kernel
theorem dX9_itemLength_2 : decode cX9_itemLength 2 = .ok (.invokestatic 33, 3) := by decide +kernel
theorem dX9_itemLength_5 : decode cX9_itemLength 5 = .ok (.ifCond .eq 5, 3) := by decide +kernel
theorem dX9_itemLength_8 : decode cX9_itemLength 8 = .ok (.iconst 4, 1) := by decide +kernel
theorem dX9_itemLength_9 : decode cX9_itemLength 9 = .ok (.ireturn, 1) := by decide +kernel
theorem dX9_itemLength_10 : decode cX9_itemLength 10 = .ok (.iload_n 0, 1) := by decide +kernel
theorem dX9_itemLength_11 : decode cX9_itemLength 11 = .ok (.iconst 5, 1) := by decide +kernel
theorem dX9_itemLength_12 : decode cX9_itemLength 12 = .ok (.invokestatic 33, 3) := by decide +kernel
theorem dX9_itemLength_15 : decode cX9_itemLength 15 = .ok (.ifCond .eq 8, 3) := by decide +kernel
theorem dX9_itemLength_18 : decode cX9_itemLength 18 = .ok (.bipush 6, 2) := by decide +kernel
theorem dX9_itemLength_20 : decode cX9_itemLength 20 = .ok (.goto 4, 3) := by decide +kernel
theorem dX9_itemLength_23 : decode cX9_itemLength 23 = .ok (.iconst 1, 1) := by decide +kernel
theorem dX9_itemLength_24 : decode cX9_itemLength 24 = .ok (.ireturn, 1) := by decide +kernel
theorem dX9_load_0 : decode cX9_load 0 = .ok (.iload_n 2, 1) := by decide +kernel
theorem dX9_load_1 : decode cX9_load 1 = .ok (.bipush 6, 2) := by decide +kernel
theorem dX9_load_3 : decode cX9_load 3 = .ok (.if_icmp .ne 7, 3) := by decide +kernel
theorem dX9_load_6 : decode cX9_load 6 = .ok (.iconst 1, 1) := by decide +kernel
theorem dX9_load_7 : decode cX9_load 7 = .ok (.goto 4, 3) := by decide +kernel
theorem dX9_load_10 : decode cX9_load 10 = .ok (.iconst 0, 1) := by decide +kernel
theorem dX9_load_11 : decode cX9_load 11 = .ok (.istore_n 3, 1) := by decide +kernel
theorem dX9_load_12 : decode cX9_load 12 = .ok (.aload_n 0, 1) := by decide +kernel
theorem dX9_load_13 : decode cX9_load 13 = .ok (.iload_n 1, 1) := by decide +kernel
theorem dX9_load_14 : decode cX9_load 14 = .ok (.invokevirtual 125, 3) := by decide +kernel
theorem dX9_load_17 : decode cX9_load 17 = .ok (.bipush 16, 2) := by decide +kernel
theorem dX9_load_19 : decode cX9_load 19 = .ok (.idiv, 1) := by decide +kernel
theorem dX9_load_20 : decode cX9_load 20 = .ok (.istore 4, 2) := by decide +kernel
theorem dX9_load_22 : decode cX9_load 22 = .ok (.iload_n 3, 1) := by decide +kernel
theorem dX9_load_23 : decode cX9_load 23 = .ok (.ifCond .eq 10, 3) := by decide +kernel
theorem dX9_load_26 : decode cX9_load 26 = .ok (.iload 4, 2) := by decide +kernel
theorem dX9_load_28 : decode cX9_load 28 = .ok (.iconst 4, 1) := by decide +kernel
theorem dX9_load_29 : decode cX9_load 29 = .ok (.idiv, 1) := by decide +kernel
theorem dX9_load_30 : decode cX9_load 30 = .ok (.goto 5, 3) := by decide +kernel
theorem dX9_load_33 : decode cX9_load 33 = .ok (.iload 4, 2) := by decide +kernel
theorem dX9_load_35 : decode cX9_load 35 = .ok (.istore 5, 2) := by decide +kernel
theorem dX9_load_37 : decode cX9_load 37 = .ok (.aload_n 0, 1) := by decide +kernel
theorem dX9_load_38 : decode cX9_load 38 = .ok (.getfield 29, 3) := by decide +kernel
theorem dX9_load_41 : decode cX9_load 41 = .ok (.iload_n 3, 1) := by decide +kernel
theorem dX9_load_42 : decode cX9_load 42 = .ok (.putfield 144, 3) := by decide +kernel
theorem dX9_load_45 : decode cX9_load 45 = .ok (.aload_n 0, 1) := by decide +kernel
theorem dX9_load_46 : decode cX9_load 46 = .ok (.getfield 29, 3) := by decide +kernel
theorem dX9_load_49 : decode cX9_load 49 = .ok (.iload 4, 2) := by decide +kernel
theorem dX9_load_51 : decode cX9_load 51 = .ok (.bipush 48, 2) := by decide +kernel
theorem dX9_load_53 : decode cX9_load 53 = .ok (.iand, 1) := by decide +kernel
theorem dX9_load_54 : decode cX9_load 54 = .ok (.putfield 148, 3) := by decide +kernel
theorem dX9_load_57 : decode cX9_load 57 = .ok (.aload_n 0, 1) := by decide +kernel
theorem dX9_load_58 : decode cX9_load 58 = .ok (.getfield 29, 3) := by decide +kernel
theorem dX9_load_61 : decode cX9_load 61 = .ok (.aload_n 0, 1) := by decide +kernel
theorem dX9_load_62 : decode cX9_load 62 = .ok (.iload_n 1, 1) := by decide +kernel
theorem dX9_load_63 : decode cX9_load 63 = .ok (.iconst 1, 1) := by decide +kernel
theorem dX9_load_64 : decode cX9_load 64 = .ok (.iadd, 1) := by decide +kernel
theorem dX9_load_65 : decode cX9_load 65 = .ok (.invokevirtual 125, 3) := by decide +kernel
theorem dX9_load_68 : decode cX9_load 68 = .ok (.putfield 151, 3) := by decide +kernel
theorem dX9_load_71 : decode cX9_load 71 = .ok (.aload_n 0, 1) := by decide +kernel
theorem dX9_load_72 : decode cX9_load 72 = .ok (.getfield 29, 3) := by decide +kernel
theorem dX9_load_75 : decode cX9_load 75 = .ok (.getfield 154, 3) := by decide +kernel
theorem dX9_load_78 : decode cX9_load 78 = .ok (.aload_n 0, 1) := by decide +kernel
theorem dX9_load_79 : decode cX9_load 79 = .ok (.iload_n 1, 1) := by decide +kernel
theorem dX9_load_80 : decode cX9_load 80 = .ok (.iconst 2, 1) := by decide +kernel
theorem dX9_load_81 : decode cX9_load 81 = .ok (.iadd, 1) := by decide +kernel
theorem dX9_load_82 : decode cX9_load 82 = .ok (.invokevirtual 125, 3) := by decide +kernel
theorem dX9_load_85 : decode cX9_load 85 = .ok (.iload 4, 2) := by decide +kernel
theorem dX9_load_87 : decode cX9_load 87 = .ok (.iconst 2, 1) := by decide +kernel
theorem dX9_load_88 : decode cX9_load 88 = .ok (.invokestatic 56, 3) := by decide +kernel
theorem dX9_load_91 : decode cX9_load 91 = .ok (.invokevirtual 158, 3) := by decide +kernel
theorem dX9_load_94 : decode cX9_load 94 = .ok (.aload_n 0, 1) := by decide +kernel
theorem dX9_load_95 : decode cX9_load 95 = .ok (.getfield 29, 3) := by decide +kernel
theorem dX9_load_98 : decode cX9_load 98 = .ok (.getfield 164, 3) := by decide +kernel
theorem dX9_load_101 : decode cX9_load 101 = .ok (.aload_n 0, 1) := by decide +kernel
theorem dX9_load_102 : decode cX9_load 102 = .ok (.iload_n 1, 1) := by decide +kernel
theorem dX9_load_103 : decode cX9_load 103 = .ok (.iconst 3, 1) := by decide +kernel
theorem dX9_load_104 : decode cX9_load 104 = .ok (.iadd, 1) := by decide +kernel
theorem dX9_load_105 : decode cX9_load 105 = .ok (.invokevirtual 125, 3) := by decide +kernel
theorem dX9_load_108 : decode cX9_load 108 = .ok (.iload 4, 2) := by decide +kernel
theorem dX9_load_110 : decode cX9_load 110 = .ok (.iconst 1, 1) := by decide +kernel
theorem dX9_load_111 : decode cX9_load 111 = .ok (.invokestatic 56, 3) := by decide +kernel
theorem dX9_load_114 : decode cX9_load 114 = .ok (.invokevirtual 158, 3) := by decide +kernel
theorem dX9_load_117 : decode cX9_load 117 = .ok (.aload_n 0, 1) := by decide +kernel
theorem dX9_load_118 : decode cX9_load 118 = .ok (.getfield 29, 3) := by decide +kernel
theorem dX9_load_121 : decode cX9_load 121 = .ok (.getfield 154, 3) := by decide +kernel
theorem dX9_load_124 : decode cX9_load 124 = .ok (.aload_n 0, 1) := by decide +kernel
theorem dX9_load_125 : decode cX9_load 125 = .ok (.iload_n 1, 1) := by decide +kernel
theorem dX9_load_126 : decode cX9_load 126 = .ok (.iload_n 2, 1) := by decide +kernel
theorem dX9_load_127 : decode cX9_load 127 = .ok (.iadd, 1) := by decide +kernel
theorem dX9_load_128 : decode cX9_load 128 = .ok (.iconst 2, 1) := by decide +kernel
theorem dX9_load_129 : decode cX9_load 129 = .ok (.isub, 1) := by decide +kernel
theorem dX9_load_130 : decode cX9_load 130 = .ok (.invokevirtual 125, 3) := by decide +kernel
theorem dX9_load_133 : decode cX9_load 133 = .ok (.iload 5, 2) := by decide +kernel
theorem dX9_load_135 : decode cX9_load 135 = .ok (.iconst 2, 1) := by decide +kernel
theorem dX9_load_136 : decode cX9_load 136 = .ok (.invokestatic 56, 3) := by decide +kernel
theorem dX9_load_139 : decode cX9_load 139 = .ok (.invokevirtual 167, 3) := by decide +kernel
theorem dX9_load_142 : decode cX9_load 142 = .ok (.aload_n 0, 1) := by decide +kernel
theorem dX9_load_143 : decode cX9_load 143 = .ok (.getfield 29, 3) := by decide +kernel
theorem dX9_load_146 : decode cX9_load 146 = .ok (.getfield 164, 3) := by decide +kernel
theorem dX9_load_149 : decode cX9_load 149 = .ok (.aload_n 0, 1) := by decide +kernel
theorem dX9_load_150 : decode cX9_load 150 = .ok (.iload_n 1, 1) := by decide +kernel
theorem dX9_load_151 : decode cX9_load 151 = .ok (.iload_n 2, 1) := by decide +kernel
theorem dX9_load_152 : decode cX9_load 152 = .ok (.iadd, 1) := by decide +kernel
theorem dX9_load_153 : decode cX9_load 153 = .ok (.iconst 1, 1) := by decide +kernel
theorem dX9_load_154 : decode cX9_load 154 = .ok (.isub, 1) := by decide +kernel
theorem dX9_load_155 : decode cX9_load 155 = .ok (.invokevirtual 125, 3) := by decide +kernel
theorem dX9_load_158 : decode cX9_load 158 = .ok (.iload 5, 2) := by decide +kernel
theorem dX9_load_160 : decode cX9_load 160 = .ok (.iconst 1, 1) := by decide +kernel
theorem dX9_load_161 : decode cX9_load 161 = .ok (.invokestatic 56, 3) := by decide +kernel
theorem dX9_load_164 : decode cX9_load 164 = .ok (.invokevirtual 167, 3) := by decide +kernel
theorem dX9_load_167 : decode cX9_load 167 = .ok (.return_, 1) := by decide +kernel
theorem dX9_store_0 : decode cX9_store 0 = .ok (.iconst 0, 1) := by decide +kernel
theorem dX9_store_1 : decode cX9_store 1 = .ok (.istore 4, 2) := by decide +kernel
theorem dX9_store_3 : decode cX9_store 3 = .ok (.iconst 0, 1) := by decide +kernel
theorem dX9_store_4 : decode cX9_store 4 = .ok (.istore 5, 2) := by decide +kernel
theorem dX9_store_6 : decode cX9_store 6 = .ok (.iload 5, 2) := by decide +kernel
theorem dX9_store_8 : decode cX9_store 8 = .ok (.iload_n 3, 1) := by decide +kernel
theorem dX9_store_9 : decode cX9_store 9 = .ok (.if_icmp .ge 46, 3) := by decide +kernel
theorem dX9_store_12 : decode cX9_store 12 = .ok (.aload_n 0, 1) := by decide +kernel
theorem dX9_store_13 : decode cX9_store 13 = .ok (.getfield 29, 3) := by decide +kernel
theorem dX9_store_16 : decode cX9_store 16 = .ok (.iload 5, 2) := by decide +kernel
theorem dX9_store_18 : decode cX9_store 18 = .ok (.invokevirtual 170, 3) := by decide +kernel
theorem dX9_store_21 : decode cX9_store 21 = .ok (.istore 6, 2) := by decide +kernel
theorem dX9_store_23 : decode cX9_store 23 = .ok (.iload 6, 2) := by decide +kernel
theorem dX9_store_25 : decode cX9_store 25 = .ok (.aload_n 0, 1) := by decide +kernel
theorem dX9_store_26 : decode cX9_store 26 = .ok (.iload_n 1, 1) := by decide +kernel
theorem dX9_store_27 : decode cX9_store 27 = .ok (.iload 5, 2) := by decide +kernel
theorem dX9_store_29 : decode cX9_store 29 = .ok (.iadd, 1) := by decide +kernel
theorem dX9_store_30 : decode cX9_store 30 = .ok (.invokevirtual 125, 3) := by decide +kernel
theorem dX9_store_33 : decode cX9_store 33 = .ok (.if_icmp .eq 6, 3) := by decide +kernel
theorem dX9_store_36 : decode cX9_store 36 = .ok (.iconst 1, 1) := by decide +kernel
theorem dX9_store_37 : decode cX9_store 37 = .ok (.istore 4, 2) := by decide +kernel
theorem dX9_store_39 : decode cX9_store 39 = .ok (.aload_n 0, 1) := by decide +kernel
theorem dX9_store_40 : decode cX9_store 40 = .ok (.iload_n 2, 1) := by decide +kernel
theorem dX9_store_41 : decode cX9_store 41 = .ok (.iload 5, 2) := by decide +kernel
theorem dX9_store_43 : decode cX9_store 43 = .ok (.iadd, 1) := by decide +kernel
theorem dX9_store_44 : decode cX9_store 44 = .ok (.iload 6, 2) := by decide +kernel
theorem dX9_store_46 : decode cX9_store 46 = .ok (.invokevirtual 122, 3) := by decide +kernel
theorem dX9_store_49 : decode cX9_store 49 = .ok (.iinc 5 1, 3) := by decide +kernel
theorem dX9_store_52 : decode cX9_store 52 = .ok (.goto (-46), 3) := by decide +kernel
theorem dX9_store_55 : decode cX9_store 55 = .ok (.iload 4, 2) := by decide +kernel
theorem dX9_store_57 : decode cX9_store 57 = .ok (.ireturn, 1) := by decide +kernel
theorem dX10_init_0 : decode cX10_init 0 = .ok (.aload_n 0, 1) := by decide +kernel
theorem dX10_init_1 : decode cX10_init 1 = .ok (.invokespecial 1, 3) := by decide +kernel
theorem dX10_init_4 : decode cX10_init 4 = .ok (.aload_n 0, 1) := by decide +kernel
theorem dX10_init_5 : decode cX10_init 5 = .ok (.sipush 1000, 3) := by decide +kernel
theorem dX10_init_8 : decode cX10_init 8 = .ok (.newarray .int, 2) := by decide +kernel
theorem dX10_init_10 : decode cX10_init 10 = .ok (.putfield 7, 3) := by decide +kernel
theorem dX10_init_13 : decode cX10_init 13 = .ok (.aload_n 0, 1) := by decide +kernel
theorem dX10_init_14 : decode cX10_init 14 = .ok (.sipush 1000, 3) := by decide +kernel
theorem dX10_init_17 : decode cX10_init 17 = .ok (.newarray .int, 2) := by decide +kernel
theorem dX10_init_19 : decode cX10_init 19 = .ok (.putfield 13, 3) := by decide +kernel
theorem dX10_init_22 : decode cX10_init 22 = .ok (.aload_n 0, 1) := by decide +kernel
theorem dX10_init_23 : decode cX10_init 23 = .ok (.iconst 1, 1) := by decide +kernel
theorem dX10_init_24 : decode cX10_init 24 = .ok (.putfield 16, 3) := by decide +kernel
theorem dX10_init_27 : decode cX10_init 27 = .ok (.aload_n 0, 1) := by decide +kernel
theorem dX10_init_28 : decode cX10_init 28 = .ok (.iconst 1, 1) := by decide +kernel
theorem dX10_init_29 : decode cX10_init 29 = .ok (.putfield 20, 3) := by decide +kernel
theorem dX10_init_32 : decode cX10_init 32 = .ok (.aload_n 0, 1) := by decide +kernel
theorem dX10_init_33 : decode cX10_init 33 = .ok (.iconst 1, 1) := by decide +kernel
theorem dX10_init_34 : decode cX10_init 34 = .ok (.putfield 23, 3) := by decide +kernel
theorem dX10_init_37 : decode cX10_init 37 = .ok (.aload_n 0, 1) := by decide +kernel
theorem dX10_init_38 : decode cX10_init 38 = .ok (.iconst 1, 1) := by decide +kernel
theorem dX10_init_39 : decode cX10_init 39 = .ok (.putfield 26, 3) := by decide +kernel
theorem dX10_init_42 : decode cX10_init 42 = .ok (.return_, 1) := by decide +kernel
theorem dX10_thrown_0 : decode cX10_thrown 0 = .ok (.aload_n 0, 1) := by decide +kernel
theorem dX10_thrown_1 : decode cX10_thrown 1 = .ok (.getfield 29, 3) := by decide +kernel
theorem dX10_thrown_4 : decode cX10_thrown 4 = .ok (.ireturn, 1) := by decide +kernel
theorem dX10_within_0 : decode cX10_within 0 = .ok (.iload_n 0, 1) := by decide +kernel
theorem dX10_within_1 : decode cX10_within 1 = .ok (.iload_n 1, 1) := by decide +kernel
theorem dX10_within_2 : decode cX10_within 2 = .ok (.if_icmp .lt 12, 3) := by decide +kernel
theorem dX10_within_5 : decode cX10_within 5 = .ok (.iload_n 0, 1) := by decide +kernel
theorem dX10_within_6 : decode cX10_within 6 = .ok (.iload_n 2, 1) := by decide +kernel
theorem dX10_within_7 : decode cX10_within 7 = .ok (.if_icmp .gt 7, 3) := by decide +kernel
theorem dX10_within_10 : decode cX10_within 10 = .ok (.iconst 1, 1) := by decide +kernel
theorem dX10_within_11 : decode cX10_within 11 = .ok (.goto 4, 3) := by decide +kernel
theorem dX10_within_14 : decode cX10_within 14 = .ok (.iconst 0, 1) := by decide +kernel
theorem dX10_within_15 : decode cX10_within 15 = .ok (.ireturn, 1) := by decide +kernel
theorem dX10_clear_0 : decode cX10_clear 0 = .ok (.aload_n 0, 1) := by decide +kernel
theorem dX10_clear_1 : decode cX10_clear 1 = .ok (.iconst 0, 1) := by decide +kernel
theorem dX10_clear_2 : decode cX10_clear 2 = .ok (.putfield 29, 3) := by decide +kernel
theorem dX10_clear_5 : decode cX10_clear 5 = .ok (.aload_n 0, 1) := by decide +kernel
theorem dX10_clear_6 : decode cX10_clear 6 = .ok (.iconst 0, 1) := by decide +kernel
theorem dX10_clear_7 : decode cX10_clear 7 = .ok (.putfield 32, 3) := by decide +kernel
theorem dX10_clear_10 : decode cX10_clear 10 = .ok (.return_, 1) := by decide +kernel
theorem dX10_put_0 : decode cX10_put 0 = .ok (.aload_n 0, 1) := by decide +kernel
theorem dX10_put_1 : decode cX10_put 1 = .ok (.getfield 7, 3) := by decide +kernel
theorem dX10_put_4 : decode cX10_put 4 = .ok (.aload_n 0, 1) := by decide +kernel
theorem dX10_put_5 : decode cX10_put 5 = .ok (.getfield 32, 3) := by decide +kernel
theorem dX10_put_8 : decode cX10_put 8 = .ok (.iload_n 1, 1) := by decide +kernel
theorem dX10_put_9 : decode cX10_put 9 = .ok (.iastore, 1) := by decide +kernel
theorem dX10_put_10 : decode cX10_put 10 = .ok (.aload_n 0, 1) := by decide +kernel
theorem dX10_put_11 : decode cX10_put 11 = .ok (.dup, 1) := by decide +kernel
theorem dX10_put_12 : decode cX10_put 12 = .ok (.getfield 32, 3) := by decide +kernel
theorem dX10_put_15 : decode cX10_put 15 = .ok (.iconst 1, 1) := by decide +kernel
theorem dX10_put_16 : decode cX10_put 16 = .ok (.iadd, 1) := by decide +kernel
theorem dX10_put_17 : decode cX10_put 17 = .ok (.putfield 32, 3) := by decide +kernel
theorem dX10_put_20 : decode cX10_put 20 = .ok (.return_, 1) := by decide +kernel
theorem dX10_other_0 : decode cX10_other 0 = .ok (.aload_n 0, 1) := by decide +kernel
theorem dX10_other_1 : decode cX10_other 1 = .ok (.iconst 0, 1) := by decide +kernel
theorem dX10_other_2 : decode cX10_other 2 = .ok (.putfield 29, 3) := by decide +kernel
theorem dX10_other_5 : decode cX10_other 5 = .ok (.aload_n 0, 1) := by decide +kernel
theorem dX10_other_6 : decode cX10_other 6 = .ok (.getfield 32, 3) := by decide +kernel
theorem dX10_other_9 : decode cX10_other 9 = .ok (.sipush 1000, 3) := by decide +kernel
theorem dX10_other_12 : decode cX10_other 12 = .ok (.if_icmp .eq 23, 3) := by decide +kernel
theorem dX10_other_15 : decode cX10_other 15 = .ok (.iload_n 1, 1) := by decide +kernel
theorem dX10_other_16 : decode cX10_other 16 = .ok (.ifCond .lt 21, 3) := by decide +kernel
theorem dX10_other_19 : decode cX10_other 19 = .ok (.iload_n 1, 1) := by decide +kernel
theorem dX10_other_20 : decode cX10_other 20 = .ok (.bipush 16, 2) := by decide +kernel
theorem dX10_other_22 : decode cX10_other 22 = .ok (.irem, 1) := by decide +kernel
theorem dX10_other_23 : decode cX10_other 23 = .ok (.iconst 4, 1) := by decide +kernel
theorem dX10_other_24 : decode cX10_other 24 = .ok (.if_icmp .eq 11, 3) := by decide +kernel
theorem dX10_other_27 : decode cX10_other 27 = .ok (.iload_n 1, 1) := by decide +kernel
theorem dX10_other_28 : decode cX10_other 28 = .ok (.bipush 16, 2) := by decide +kernel
theorem dX10_other_30 : decode cX10_other 30 = .ok (.irem, 1) := by decide +kernel
theorem dX10_other_31 : decode cX10_other 31 = .ok (.iconst 5, 1) := by decide +kernel
theorem dX10_other_32 : decode cX10_other 32 = .ok (.if_icmp .ne 5, 3) := by decide +kernel
theorem dX10_other_35 : decode cX10_other 35 = .ok (.iconst 0, 1) := by decide +kernel
theorem dX10_other_36 : decode cX10_other 36 = .ok (.ireturn, 1) := by decide +kernel
theorem dX10_other_37 : decode cX10_other 37 = .ok (.aload_n 0, 1) := by decide +kernel
theorem dX10_other_38 : decode cX10_other 38 = .ok (.iload_n 1, 1) := by decide +kernel
theorem dX10_other_39 : decode cX10_other 39 = .ok (.invokevirtual 35, 3) := by decide +kernel
theorem dX10_other_42 : decode cX10_other 42 = .ok (.iconst 1, 1) := by decide +kernel
theorem dX10_other_43 : decode cX10_other 43 = .ok (.ireturn, 1) := by decide +kernel
theorem dX10_isCell_0 : decode cX10_isCell 0 = .ok (.iload_n 0, 1) := by decide +kernel
theorem dX10_isCell_1 : decode cX10_isCell 1 = .ok (.iconst 1, 1) := by decide +kernel
theorem dX10_isCell_2 : decode cX10_isCell 2 = .ok (.ldc 39, 2) := by decide +kernel
theorem dX10_isCell_4 : decode cX10_isCell 4 = .ok (.invokestatic 40, 3) := by decide +kernel
theorem dX10_isCell_7 : decode cX10_isCell 7 = .ok (.ifCond .eq 18, 3) := by decide +kernel
theorem dX10_isCell_10 : decode cX10_isCell 10 = .ok (.iload_n 1, 1) := by decide +kernel
theorem dX10_isCell_11 : decode cX10_isCell 11 = .ok (.iconst 1, 1) := by decide +kernel
theorem dX10_isCell_12 : decode cX10_isCell 12 = .ok (.sipush 16384, 3) := by decide +kernel
theorem dX10_isCell_15 : decode cX10_isCell 15 = .ok (.invokestatic 40, 3) := by decide +kernel
theorem dX10_isCell_18 : decode cX10_isCell 18 = .ok (.ifCond .eq 7, 3) := by decide +kernel
theorem dX10_isCell_21 : decode cX10_isCell 21 = .ok (.iconst 1, 1) := by decide +kernel
theorem dX10_isCell_22 : decode cX10_isCell 22 = .ok (.goto 4, 3) := by decide +kernel
theorem dX10_isCell_25 : decode cX10_isCell 25 = .ok (.iconst 0, 1) := by decide +kernel
theorem dX10_isCell_26 : decode cX10_isCell 26 = .ok (.ireturn, 1) := by decide +kernel
theorem dX10_place_0 : decode cX10_place 0 = .ok (.aload_n 0, 1) := by decide +kernel
theorem dX10_place_1 : decode cX10_place 1 = .ok (.iconst 0, 1) := by decide +kernel
theorem dX10_place_2 : decode cX10_place 2 = .ok (.putfield 29, 3) := by decide +kernel
theorem dX10_place_5 : decode cX10_place 5 = .ok (.iload_n 1, 1) := by decide +kernel
theorem dX10_place_6 : decode cX10_place 6 = .ok (.iconst 0, 1) := by decide +kernel
theorem dX10_place_7 : decode cX10_place 7 = .ok (.iconst 3, 1) := by decide +kernel
theorem dX10_place_8 : decode cX10_place 8 = .ok (.invokestatic 40, 3) := by decide +kernel
theorem dX10_place_11 : decode cX10_place 11 = .ok (.ifCond .eq 32, 3) := by decide +kernel
theorem dX10_place_14 : decode cX10_place 14 = .ok (.iload_n 2, 1) := by decide +kernel
theorem dX10_place_15 : decode cX10_place 15 = .ok (.iconst (-1), 1) := by decide +kernel
theorem dX10_place_16 : decode cX10_place 16 = .ok (.bipush 7, 2) := by decide +kernel
theorem dX10_place_18 : decode cX10_place 18 = .ok (.invokestatic 40, 3) := by decide +kernel
theorem dX10_place_21 : decode cX10_place 21 = .ok (.ifCond .eq 22, 3) := by decide +kernel
theorem dX10_place_24 : decode cX10_place 24 = .ok (.iload_n 3, 1) := by decide +kernel
theorem dX10_place_25 : decode cX10_place 25 = .ok (.iload 4, 2) := by decide +kernel
theorem dX10_place_27 : decode cX10_place 27 = .ok (.invokestatic 44, 3) := by decide +kernel
theorem dX10_place_30 : decode cX10_place 30 = .ok (.ifCond .eq 13, 3) := by decide +kernel
theorem dX10_place_33 : decode cX10_place 33 = .ok (.aload_n 0, 1) := by decide +kernel
theorem dX10_place_34 : decode cX10_place 34 = .ok (.getfield 32, 3) := by decide +kernel
theorem dX10_place_37 : decode cX10_place 37 = .ok (.sipush 996, 3) := by decide +kernel
theorem dX10_place_40 : decode cX10_place 40 = .ok (.if_icmp .le 5, 3) := by decide +kernel
theorem dX10_place_43 : decode cX10_place 43 = .ok (.iconst 0, 1) := by decide +kernel
theorem dX10_place_44 : decode cX10_place 44 = .ok (.ireturn, 1) := by decide +kernel
theorem dX10_place_45 : decode cX10_place 45 = .ok (.aload_n 0, 1) := by decide +kernel
theorem dX10_place_46 : decode cX10_place 46 = .ok (.iconst 4, 1) := by decide +kernel
theorem dX10_place_47 : decode cX10_place 47 = .ok (.bipush 16, 2) := by decide +kernel
theorem dX10_place_49 : decode cX10_place 49 = .ok (.iload_n 1, 1) := by decide +kernel
theorem dX10_place_50 : decode cX10_place 50 = .ok (.imul, 1) := by decide +kernel
theorem dX10_place_51 : decode cX10_place 51 = .ok (.iadd, 1) := by decide +kernel
theorem dX10_place_52 : decode cX10_place 52 = .ok (.invokevirtual 35, 3) := by decide +kernel
theorem dX10_place_55 : decode cX10_place 55 = .ok (.aload_n 0, 1) := by decide +kernel
theorem dX10_place_56 : decode cX10_place 56 = .ok (.iload_n 2, 1) := by decide +kernel
theorem dX10_place_57 : decode cX10_place 57 = .ok (.invokevirtual 35, 3) := by decide +kernel
theorem dX10_place_60 : decode cX10_place 60 = .ok (.aload_n 0, 1) := by decide +kernel
theorem dX10_place_61 : decode cX10_place 61 = .ok (.iload_n 3, 1) := by decide +kernel
theorem dX10_place_62 : decode cX10_place 62 = .ok (.invokevirtual 35, 3) := by decide +kernel
theorem dX10_place_65 : decode cX10_place 65 = .ok (.aload_n 0, 1) := by decide +kernel
theorem dX10_place_66 : decode cX10_place 66 = .ok (.iload 4, 2) := by decide +kernel
theorem dX10_place_68 : decode cX10_place 68 = .ok (.invokevirtual 35, 3) := by decide +kernel
theorem dX10_place_71 : decode cX10_place 71 = .ok (.iconst 1, 1) := by decide +kernel
theorem dX10_place_72 : decode cX10_place 72 = .ok (.ireturn, 1) := by decide +kernel
theorem dX10_range_0 : decode cX10_range 0 = .ok (.aload_n 0, 1) := by decide +kernel
theorem dX10_range_1 : decode cX10_range 1 = .ok (.iconst 0, 1) := by decide +kernel
theorem dX10_range_2 : decode cX10_range 2 = .ok (.putfield 29, 3) := by decide +kernel
theorem dX10_range_5 : decode cX10_range 5 = .ok (.iload_n 1, 1) := by decide +kernel
theorem dX10_range_6 : decode cX10_range 6 = .ok (.bipush 16, 2) := by decide +kernel
theorem dX10_range_8 : decode cX10_range 8 = .ok (.iand, 1) := by decide +kernel
theorem dX10_range_9 : decode cX10_range 9 = .ok (.bipush 16, 2) := by decide +kernel
theorem dX10_range_11 : decode cX10_range 11 = .ok (.if_icmp .ne 19, 3) := by decide +kernel
theorem dX10_range_14 : decode cX10_range 14 = .ok (.iload_n 3, 1) := by decide +kernel
theorem dX10_range_15 : decode cX10_range 15 = .ok (.iconst 1, 1) := by decide +kernel
theorem dX10_range_16 : decode cX10_range 16 = .ok (.if_icmp .ne 10, 3) := by decide +kernel
theorem dX10_range_19 : decode cX10_range 19 = .ok (.iload 5, 2) := by decide +kernel
theorem dX10_range_21 : decode cX10_range 21 = .ok (.ldc 39, 2) := by decide +kernel
theorem dX10_range_23 : decode cX10_range 23 = .ok (.if_icmp .eq 7, 3) := by decide +kernel
theorem dX10_range_26 : decode cX10_range 26 = .ok (.iconst 1, 1) := by decide +kernel
theorem dX10_range_27 : decode cX10_range 27 = .ok (.goto 4, 3) := by decide +kernel
theorem dX10_range_30 : decode cX10_range 30 = .ok (.iconst 0, 1) := by decide +kernel
theorem dX10_range_31 : decode cX10_range 31 = .ok (.istore 7, 2) := by decide +kernel
theorem dX10_range_33 : decode cX10_range 33 = .ok (.iload_n 1, 1) := by decide +kernel
theorem dX10_range_34 : decode cX10_range 34 = .ok (.bipush 32, 2) := by decide +kernel
theorem dX10_range_36 : decode cX10_range 36 = .ok (.iand, 1) := by decide +kernel
theorem dX10_range_37 : decode cX10_range 37 = .ok (.bipush 32, 2) := by decide +kernel
theorem dX10_range_39 : decode cX10_range 39 = .ok (.if_icmp .ne 21, 3) := by decide +kernel
theorem dX10_range_42 : decode cX10_range 42 = .ok (.iload 4, 2) := by decide +kernel
theorem dX10_range_44 : decode cX10_range 44 = .ok (.iconst 1, 1) := by decide +kernel
theorem dX10_range_45 : decode cX10_range 45 = .ok (.if_icmp .ne 11, 3) := by decide +kernel
theorem dX10_range_48 : decode cX10_range 48 = .ok (.iload 6, 2) := by decide +kernel
theorem dX10_range_50 : decode cX10_range 50 = .ok (.sipush 16384, 3) := by decide +kernel
theorem dX10_range_53 : decode cX10_range 53 = .ok (.if_icmp .eq 7, 3) := by decide +kernel
theorem dX10_range_56 : decode cX10_range 56 = .ok (.iconst 1, 1) := by decide +kernel
theorem dX10_range_57 : decode cX10_range 57 = .ok (.goto 4, 3) := by decide +kernel
theorem dX10_range_60 : decode cX10_range 60 = .ok (.iconst 0, 1) := by decide +kernel
theorem dX10_range_61 : decode cX10_range 61 = .ok (.istore 8, 2) := by decide +kernel
theorem dX10_range_63 : decode cX10_range 63 = .ok (.iload_n 1, 1) := by decide +kernel
theorem dX10_range_64 : decode cX10_range 64 = .ok (.iconst 0, 1) := by decide +kernel
theorem dX10_range_65 : decode cX10_range 65 = .ok (.bipush 47, 2) := by decide +kernel
theorem dX10_range_67 : decode cX10_range 67 = .ok (.invokestatic 40, 3) := by decide +kernel
theorem dX10_range_70 : decode cX10_range 70 = .ok (.ifCond .eq 65, 3) := by decide +kernel
theorem dX10_range_73 : decode cX10_range 73 = .ok (.iload 7, 2) := by decide +kernel
theorem dX10_range_75 : decode cX10_range 75 = .ok (.ifCond .ne 60, 3) := by decide +kernel
theorem dX10_range_78 : decode cX10_range 78 = .ok (.iload 8, 2) := by decide +kernel
theorem dX10_range_80 : decode cX10_range 80 = .ok (.ifCond .ne 55, 3) := by decide +kernel
theorem dX10_range_83 : decode cX10_range 83 = .ok (.iload_n 2, 1) := by decide +kernel
theorem dX10_range_84 : decode cX10_range 84 = .ok (.iconst (-1), 1) := by decide +kernel
theorem dX10_range_85 : decode cX10_range 85 = .ok (.bipush 7, 2) := by decide +kernel
theorem dX10_range_87 : decode cX10_range 87 = .ok (.invokestatic 40, 3) := by decide +kernel
theorem dX10_range_90 : decode cX10_range 90 = .ok (.ifCond .eq 45, 3) := by decide +kernel
theorem dX10_range_93 : decode cX10_range 93 = .ok (.iload_n 3, 1) := by decide +kernel
theorem dX10_range_94 : decode cX10_range 94 = .ok (.iload 4, 2) := by decide +kernel
theorem dX10_range_96 : decode cX10_range 96 = .ok (.invokestatic 44, 3) := by decide +kernel
theorem dX10_range_99 : decode cX10_range 99 = .ok (.ifCond .eq 36, 3) := by decide +kernel
theorem dX10_range_102 : decode cX10_range 102 = .ok (.iload 5, 2) := by decide +kernel
theorem dX10_range_104 : decode cX10_range 104 = .ok (.iload 6, 2) := by decide +kernel
theorem dX10_range_106 : decode cX10_range 106 = .ok (.invokestatic 44, 3) := by decide +kernel
theorem dX10_range_109 : decode cX10_range 109 = .ok (.ifCond .eq 26, 3) := by decide +kernel
theorem dX10_range_112 : decode cX10_range 112 = .ok (.iload 5, 2) := by decide +kernel
theorem dX10_range_114 : decode cX10_range 114 = .ok (.iload_n 3, 1) := by decide +kernel
theorem dX10_range_115 : decode cX10_range 115 = .ok (.if_icmp .lt 20, 3) := by decide +kernel
theorem dX10_range_118 : decode cX10_range 118 = .ok (.iload 6, 2) := by decide +kernel
theorem dX10_range_120 : decode cX10_range 120 = .ok (.iload 4, 2) := by decide +kernel
theorem dX10_range_122 : decode cX10_range 122 = .ok (.if_icmp .lt 13, 3) := by decide +kernel
theorem dX10_range_125 : decode cX10_range 125 = .ok (.aload_n 0, 1) := by decide +kernel
theorem dX10_range_126 : decode cX10_range 126 = .ok (.getfield 32, 3) := by decide +kernel
theorem dX10_range_129 : decode cX10_range 129 = .ok (.sipush 994, 3) := by decide +kernel
theorem dX10_range_132 : decode cX10_range 132 = .ok (.if_icmp .le 5, 3) := by decide +kernel
theorem dX10_range_135 : decode cX10_range 135 = .ok (.iconst 0, 1) := by decide +kernel
theorem dX10_range_136 : decode cX10_range 136 = .ok (.ireturn, 1) := by decide +kernel
theorem dX10_range_137 : decode cX10_range 137 = .ok (.aload_n 0, 1) := by decide +kernel
theorem dX10_range_138 : decode cX10_range 138 = .ok (.iconst 5, 1) := by decide +kernel
theorem dX10_range_139 : decode cX10_range 139 = .ok (.bipush 16, 2) := by decide +kernel
theorem dX10_range_141 : decode cX10_range 141 = .ok (.iload_n 1, 1) := by decide +kernel
theorem dX10_range_142 : decode cX10_range 142 = .ok (.imul, 1) := by decide +kernel
theorem dX10_range_143 : decode cX10_range 143 = .ok (.iadd, 1) := by decide +kernel
theorem dX10_range_144 : decode cX10_range 144 = .ok (.invokevirtual 35, 3) := by decide +kernel
theorem dX10_range_147 : decode cX10_range 147 = .ok (.aload_n 0, 1) := by decide +kernel
theorem dX10_range_148 : decode cX10_range 148 = .ok (.iload_n 2, 1) := by decide +kernel
theorem dX10_range_149 : decode cX10_range 149 = .ok (.invokevirtual 35, 3) := by decide +kernel
theorem dX10_range_152 : decode cX10_range 152 = .ok (.aload_n 0, 1) := by decide +kernel
theorem dX10_range_153 : decode cX10_range 153 = .ok (.iload_n 3, 1) := by decide +kernel
theorem dX10_range_154 : decode cX10_range 154 = .ok (.invokevirtual 35, 3) := by decide +kernel
theorem dX10_range_157 : decode cX10_range 157 = .ok (.aload_n 0, 1) := by decide +kernel
theorem dX10_range_158 : decode cX10_range 158 = .ok (.iload 4, 2) := by decide +kernel
theorem dX10_range_160 : decode cX10_range 160 = .ok (.invokevirtual 35, 3) := by decide +kernel
theorem dX10_range_163 : decode cX10_range 163 = .ok (.aload_n 0, 1) := by decide +kernel
theorem dX10_range_164 : decode cX10_range 164 = .ok (.iload 5, 2) := by decide +kernel
theorem dX10_range_166 : decode cX10_range 166 = .ok (.invokevirtual 35, 3) := by decide +kernel
theorem dX10_range_169 : decode cX10_range 169 = .ok (.aload_n 0, 1) := by decide +kernel
theorem dX10_range_170 : decode cX10_range 170 = .ok (.iload 6, 2) := by decide +kernel
theorem dX10_range_172 : decode cX10_range 172 = .ok (.invokevirtual 35, 3) := by decide +kernel
theorem dX10_range_175 : decode cX10_range 175 = .ok (.iconst 1, 1) := by decide +kernel
theorem dX10_range_176 : decode cX10_range 176 = .ok (.ireturn, 1) := by decide +kernel
theorem dX10_size_0 : decode cX10_size 0 = .ok (.aload_n 0, 1) := by decide +kernel
theorem dX10_size_1 : decode cX10_size 1 = .ok (.iconst 0, 1) := by decide +kernel
theorem dX10_size_2 : decode cX10_size 2 = .ok (.putfield 29, 3) := by decide +kernel
theorem dX10_size_5 : decode cX10_size 5 = .ok (.aload_n 0, 1) := by decide +kernel
theorem dX10_size_6 : decode cX10_size 6 = .ok (.getfield 32, 3) := by decide +kernel
theorem dX10_size_9 : decode cX10_size 9 = .ok (.ireturn, 1) := by decide +kernel
theorem dX10_word_0 : decode cX10_word 0 = .ok (.aload_n 0, 1) := by decide +kernel
theorem dX10_word_1 : decode cX10_word 1 = .ok (.iconst 0, 1) := by decide +kernel
theorem dX10_word_2 : decode cX10_word 2 = .ok (.putfield 29, 3) := by decide +kernel
theorem dX10_word_5 : decode cX10_word 5 = .ok (.iload_n 1, 1) := by decide +kernel
theorem dX10_word_6 : decode cX10_word 6 = .ok (.ifCond .lt 20, 3) := by decide +kernel
theorem dX10_word_9 : decode cX10_word 9 = .ok (.iload_n 1, 1) := by decide +kernel
theorem dX10_word_10 : decode cX10_word 10 = .ok (.aload_n 0, 1) := by decide +kernel
theorem dX10_word_11 : decode cX10_word 11 = .ok (.getfield 32, 3) := by decide +kernel
theorem dX10_word_14 : decode cX10_word 14 = .ok (.if_icmp .ge 12, 3) := by decide +kernel
theorem dX10_word_17 : decode cX10_word 17 = .ok (.aload_n 0, 1) := by decide +kernel
theorem dX10_word_18 : decode cX10_word 18 = .ok (.getfield 7, 3) := by decide +kernel
theorem dX10_word_21 : decode cX10_word 21 = .ok (.iload_n 1, 1) := by decide +kernel
theorem dX10_word_22 : decode cX10_word 22 = .ok (.iaload, 1) := by decide +kernel
theorem dX10_word_23 : decode cX10_word 23 = .ok (.goto 4, 3) := by decide +kernel
theorem dX10_word_26 : decode cX10_word 26 = .ok (.iconst 0, 1) := by decide +kernel
theorem dX10_word_27 : decode cX10_word 27 = .ok (.ireturn, 1) := by decide +kernel
theorem dX10_make_0 : decode cX10_make 0 = .ok (.aload_n 0, 1) := by decide +kernel
theorem dX10_make_1 : decode cX10_make 1 = .ok (.getfield 13, 3) := by decide +kernel
theorem dX10_make_4 : decode cX10_make 4 = .ok (.aload_n 0, 1) := by decide +kernel
theorem dX10_make_5 : decode cX10_make 5 = .ok (.getfield 48, 3) := by decide +kernel
theorem dX10_make_8 : decode cX10_make 8 = .ok (.iload_n 1, 1) := by decide +kernel
theorem dX10_make_9 : decode cX10_make 9 = .ok (.iastore, 1) := by decide +kernel
theorem dX10_make_10 : decode cX10_make 10 = .ok (.aload_n 0, 1) := by decide +kernel
theorem dX10_make_11 : decode cX10_make 11 = .ok (.dup, 1) := by decide +kernel
theorem dX10_make_12 : decode cX10_make 12 = .ok (.getfield 48, 3) := by decide +kernel
theorem dX10_make_15 : decode cX10_make 15 = .ok (.iconst 1, 1) := by decide +kernel
theorem dX10_make_16 : decode cX10_make 16 = .ok (.iadd, 1) := by decide +kernel
theorem dX10_make_17 : decode cX10_make 17 = .ok (.putfield 48, 3) := by decide +kernel
theorem dX10_make_20 : decode cX10_make 20 = .ok (.return_, 1) := by decide +kernel
theorem dX10_lengthAt_0 : decode cX10_lengthAt 0 = .ok (.aload_n 0, 1) := by decide +kernel
theorem dX10_lengthAt_1 : decode cX10_lengthAt 1 = .ok (.getfield 7, 3) := by decide +kernel
theorem dX10_lengthAt_4 : decode cX10_lengthAt 4 = .ok (.iload_n 1, 1) := by decide +kernel
theorem dX10_lengthAt_5 : decode cX10_lengthAt 5 = .ok (.iaload, 1) := by decide +kernel
theorem dX10_lengthAt_6 : decode cX10_lengthAt 6 = .ok (.ifCond .ge 7, 3) := by decide +kernel
theorem dX10_lengthAt_9 : decode cX10_lengthAt 9 = .ok (.iconst 1, 1) := by decide +kernel
theorem dX10_lengthAt_10 : decode cX10_lengthAt 10 = .ok (.goto 39, 3) := by decide +kernel
theorem dX10_lengthAt_13 : decode cX10_lengthAt 13 = .ok (.aload_n 0, 1) := by decide +kernel
theorem dX10_lengthAt_14 : decode cX10_lengthAt 14 = .ok (.getfield 7, 3) := by decide +kernel
theorem dX10_lengthAt_17 : decode cX10_lengthAt 17 = .ok (.iload_n 1, 1) := by decide +kernel
theorem dX10_lengthAt_18 : decode cX10_lengthAt 18 = .ok (.iaload, 1) := by decide +kernel
theorem dX10_lengthAt_19 : decode cX10_lengthAt 19 = .ok (.bipush 16, 2) := by decide +kernel
theorem dX10_lengthAt_21 : decode cX10_lengthAt 21 = .ok (.irem, 1) := by decide +kernel
theorem dX10_lengthAt_22 : decode cX10_lengthAt 22 = .ok (.iconst 4, 1) := by decide +kernel
theorem dX10_lengthAt_23 : decode cX10_lengthAt 23 = .ok (.if_icmp .ne 7, 3) := by decide +kernel
theorem dX10_lengthAt_26 : decode cX10_lengthAt 26 = .ok (.iconst 4, 1) := by decide +kernel
theorem dX10_lengthAt_27 : decode cX10_lengthAt 27 = .ok (.goto 22, 3) := by decide +kernel
theorem dX10_lengthAt_30 : decode cX10_lengthAt 30 = .ok (.aload_n 0, 1) := by decide +kernel
theorem dX10_lengthAt_31 : decode cX10_lengthAt 31 = .ok (.getfield 7, 3) := by decide +kernel
theorem dX10_lengthAt_34 : decode cX10_lengthAt 34 = .ok (.iload_n 1, 1) := by decide +kernel
theorem dX10_lengthAt_35 : decode cX10_lengthAt 35 = .ok (.iaload, 1) := by decide +kernel
theorem dX10_lengthAt_36 : decode cX10_lengthAt 36 = .ok (.bipush 16, 2) := by decide +kernel
theorem dX10_lengthAt_38 : decode cX10_lengthAt 38 = .ok (.irem, 1) := by decide +kernel
theorem dX10_lengthAt_39 : decode cX10_lengthAt 39 = .ok (.iconst 5, 1) := by decide +kernel
theorem dX10_lengthAt_40 : decode cX10_lengthAt 40 = .ok (.if_icmp .ne 8, 3) := by decide +kernel
theorem dX10_lengthAt_43 : decode cX10_lengthAt 43 = .ok (.bipush 6, 2) := by decide +kernel
theorem dX10_lengthAt_45 : decode cX10_lengthAt 45 = .ok (.goto 4, 3) := by decide +kernel
theorem dX10_lengthAt_48 : decode cX10_lengthAt 48 = .ok (.iconst 1, 1) := by decide +kernel
theorem dX10_lengthAt_49 : decode cX10_lengthAt 49 = .ok (.ireturn, 1) := by decide +kernel
theorem dX10_lose_0 : decode cX10_lose 0 = .ok (.aload_n 0, 1) := by decide +kernel
theorem dX10_lose_1 : decode cX10_lose 1 = .ok (.bipush 67, 2) := by decide +kernel
theorem dX10_lose_3 : decode cX10_lose 3 = .ok (.invokevirtual 51, 3) := by decide +kernel
theorem dX10_lose_6 : decode cX10_lose 6 = .ok (.aload_n 0, 1) := by decide +kernel
theorem dX10_lose_7 : decode cX10_lose 7 = .ok (.dup, 1) := by decide +kernel
theorem dX10_lose_8 : decode cX10_lose 8 = .ok (.getfield 54, 3) := by decide +kernel
theorem dX10_lose_11 : decode cX10_lose 11 = .ok (.iconst 1, 1) := by decide +kernel
theorem dX10_lose_12 : decode cX10_lose 12 = .ok (.iadd, 1) := by decide +kernel
theorem dX10_lose_13 : decode cX10_lose 13 = .ok (.putfield 54, 3) := by decide +kernel
theorem dX10_lose_16 : decode cX10_lose 16 = .ok (.return_, 1) := by decide +kernel
theorem dX10_makePlace_0 : decode cX10_makePlace 0 = .ok (.aload_n 0, 1) := by decide +kernel
theorem dX10_makePlace_1 : decode cX10_makePlace 1 = .ok (.dup, 1) := by decide +kernel
theorem dX10_makePlace_2 : decode cX10_makePlace 2 = .ok (.getfield 54, 3) := by decide +kernel
theorem dX10_makePlace_5 : decode cX10_makePlace 5 = .ok (.iload_n 2, 1) := by decide +kernel
theorem dX10_makePlace_6 : decode cX10_makePlace 6 = .ok (.aload_n 0, 1) := by decide +kernel
theorem dX10_makePlace_7 : decode cX10_makePlace 7 = .ok (.getfield 7, 3) := by decide +kernel
theorem dX10_makePlace_10 : decode cX10_makePlace 10 = .ok (.iload_n 1, 1) := by decide +kernel
theorem dX10_makePlace_11 : decode cX10_makePlace 11 = .ok (.iconst 1, 1) := by decide +kernel
theorem dX10_makePlace_12 : decode cX10_makePlace 12 = .ok (.iadd, 1) := by decide +kernel
theorem dX10_makePlace_13 : decode cX10_makePlace 13 = .ok (.iaload, 1) := by decide +kernel
theorem dX10_makePlace_14 : decode cX10_makePlace 14 = .ok (.if_icmp .ne 28, 3) := by decide +kernel
theorem dX10_makePlace_17 : decode cX10_makePlace 17 = .ok (.iload_n 3, 1) := by decide +kernel
theorem dX10_makePlace_18 : decode cX10_makePlace 18 = .ok (.aload_n 0, 1) := by decide +kernel
theorem dX10_makePlace_19 : decode cX10_makePlace 19 = .ok (.getfield 7, 3) := by decide +kernel
theorem dX10_makePlace_22 : decode cX10_makePlace 22 = .ok (.iload_n 1, 1) := by decide +kernel
theorem dX10_makePlace_23 : decode cX10_makePlace 23 = .ok (.iconst 2, 1) := by decide +kernel
theorem dX10_makePlace_24 : decode cX10_makePlace 24 = .ok (.iadd, 1) := by decide +kernel
theorem dX10_makePlace_25 : decode cX10_makePlace 25 = .ok (.iaload, 1) := by decide +kernel
theorem dX10_makePlace_26 : decode cX10_makePlace 26 = .ok (.if_icmp .ne 16, 3) := by decide +kernel
theorem dX10_makePlace_29 : decode cX10_makePlace 29 = .ok (.iload 4, 2) := by decide +kernel
theorem dX10_makePlace_31 : decode cX10_makePlace 31 = .ok (.aload_n 0, 1) := by decide +kernel
theorem dX10_makePlace_32 : decode cX10_makePlace 32 = .ok (.getfield 7, 3) := by decide +kernel
theorem dX10_makePlace_35 : decode cX10_makePlace 35 = .ok (.iload_n 1, 1) := by decide +kernel
theorem dX10_makePlace_36 : decode cX10_makePlace 36 = .ok (.iconst 3, 1) := by decide +kernel
theorem dX10_makePlace_37 : decode cX10_makePlace 37 = .ok (.iadd, 1) := by decide +kernel
theorem dX10_makePlace_38 : decode cX10_makePlace 38 = .ok (.iaload, 1) := by decide +kernel
theorem dX10_makePlace_39 : decode cX10_makePlace 39 = .ok (.if_icmp .eq 7, 3) := by decide +kernel
theorem dX10_makePlace_42 : decode cX10_makePlace 42 = .ok (.iconst 1, 1) := by decide +kernel
theorem dX10_makePlace_43 : decode cX10_makePlace 43 = .ok (.goto 4, 3) := by decide +kernel
theorem dX10_makePlace_46 : decode cX10_makePlace 46 = .ok (.iconst 0, 1) := by decide +kernel
theorem dX10_makePlace_47 : decode cX10_makePlace 47 = .ok (.iadd, 1) := by decide +kernel
theorem dX10_makePlace_48 : decode cX10_makePlace 48 = .ok (.putfield 54, 3) := by decide +kernel
theorem dX10_makePlace_51 : decode cX10_makePlace 51 = .ok (.aload_n 0, 1) := by decide +kernel
theorem dX10_makePlace_52 : decode cX10_makePlace 52 = .ok (.aload_n 0, 1) := by decide +kernel
theorem dX10_makePlace_53 : decode cX10_makePlace 53 = .ok (.getfield 7, 3) := by decide +kernel
theorem dX10_makePlace_56 : decode cX10_makePlace 56 = .ok (.iload_n 1, 1) := by decide +kernel
theorem dX10_makePlace_57 : decode cX10_makePlace 57 = .ok (.iaload, 1) := by decide +kernel
theorem dX10_makePlace_58 : decode cX10_makePlace 58 = .ok (.invokevirtual 51, 3) := by decide +kernel
theorem dX10_makePlace_61 : decode cX10_makePlace 61 = .ok (.aload_n 0, 1) := by decide +kernel
theorem dX10_makePlace_62 : decode cX10_makePlace 62 = .ok (.iload_n 2, 1) := by decide +kernel
theorem dX10_makePlace_63 : decode cX10_makePlace 63 = .ok (.invokevirtual 51, 3) := by decide +kernel
theorem dX10_makePlace_66 : decode cX10_makePlace 66 = .ok (.aload_n 0, 1) := by decide +kernel
theorem dX10_makePlace_67 : decode cX10_makePlace 67 = .ok (.iload_n 3, 1) := by decide +kernel
theorem dX10_makePlace_68 : decode cX10_makePlace 68 = .ok (.invokevirtual 51, 3) := by decide +kernel
theorem dX10_makePlace_71 : decode cX10_makePlace 71 = .ok (.aload_n 0, 1) := by decide +kernel
theorem dX10_makePlace_72 : decode cX10_makePlace 72 = .ok (.iload 4, 2) := by decide +kernel
theorem dX10_makePlace_74 : decode cX10_makePlace 74 = .ok (.invokevirtual 51, 3) := by decide +kernel
theorem dX10_makePlace_77 : decode cX10_makePlace 77 = .ok (.return_, 1) := by decide +kernel
theorem dX10_makeRange_0 : decode cX10_makeRange 0 = .ok (.iconst 5, 1) := by decide +kernel
theorem dX10_makeRange_1 : decode cX10_makeRange 1 = .ok (.bipush 16, 2) := by decide +kernel
theorem dX10_makeRange_3 : decode cX10_makeRange 3 = .ok (.iload_n 2, 1) := by decide +kernel
theorem dX10_makeRange_4 : decode cX10_makeRange 4 = .ok (.imul, 1) := by decide +kernel
theorem dX10_makeRange_5 : decode cX10_makeRange 5 = .ok (.iadd, 1) := by decide +kernel
theorem dX10_makeRange_6 : decode cX10_makeRange 6 = .ok (.istore 8, 2) := by decide +kernel
theorem dX10_makeRange_8 : decode cX10_makeRange 8 = .ok (.aload_n 0, 1) := by decide +kernel
theorem dX10_makeRange_9 : decode cX10_makeRange 9 = .ok (.dup, 1) := by decide +kernel
theorem dX10_makeRange_10 : decode cX10_makeRange 10 = .ok (.getfield 54, 3) := by decide +kernel
theorem dX10_makeRange_13 : decode cX10_makeRange 13 = .ok (.iload 8, 2) := by decide +kernel
theorem dX10_makeRange_15 : decode cX10_makeRange 15 = .ok (.aload_n 0, 1) := by decide +kernel
theorem dX10_makeRange_16 : decode cX10_makeRange 16 = .ok (.getfield 7, 3) := by decide +kernel
theorem dX10_makeRange_19 : decode cX10_makeRange 19 = .ok (.iload_n 1, 1) := by decide +kernel
theorem dX10_makeRange_20 : decode cX10_makeRange 20 = .ok (.iaload, 1) := by decide +kernel
theorem dX10_makeRange_21 : decode cX10_makeRange 21 = .ok (.if_icmp .ne 67, 3) := by decide +kernel
theorem dX10_makeRange_24 : decode cX10_makeRange 24 = .ok (.iload_n 3, 1) := by decide +kernel
theorem dX10_makeRange_25 : decode cX10_makeRange 25 = .ok (.aload_n 0, 1) := by decide +kernel
theorem dX10_makeRange_26 : decode cX10_makeRange 26 = .ok (.getfield 7, 3) := by decide +kernel
theorem dX10_makeRange_29 : decode cX10_makeRange 29 = .ok (.iload_n 1, 1) := by decide +kernel
theorem dX10_makeRange_30 : decode cX10_makeRange 30 = .ok (.iconst 1, 1) := by decide +kernel
theorem dX10_makeRange_31 : decode cX10_makeRange 31 = .ok (.iadd, 1) := by decide +kernel
theorem dX10_makeRange_32 : decode cX10_makeRange 32 = .ok (.iaload, 1) := by decide +kernel
theorem dX10_makeRange_33 : decode cX10_makeRange 33 = .ok (.if_icmp .ne 55, 3) := by decide +kernel
theorem dX10_makeRange_36 : decode cX10_makeRange 36 = .ok (.iload 4, 2) := by decide +kernel
theorem dX10_makeRange_38 : decode cX10_makeRange 38 = .ok (.aload_n 0, 1) := by decide +kernel
theorem dX10_makeRange_39 : decode cX10_makeRange 39 = .ok (.getfield 7, 3) := by decide +kernel
theorem dX10_makeRange_42 : decode cX10_makeRange 42 = .ok (.iload_n 1, 1) := by decide +kernel
theorem dX10_makeRange_43 : decode cX10_makeRange 43 = .ok (.iconst 2, 1) := by decide +kernel
theorem dX10_makeRange_44 : decode cX10_makeRange 44 = .ok (.iadd, 1) := by decide +kernel
theorem dX10_makeRange_45 : decode cX10_makeRange 45 = .ok (.iaload, 1) := by decide +kernel
theorem dX10_makeRange_46 : decode cX10_makeRange 46 = .ok (.if_icmp .ne 42, 3) := by decide +kernel
theorem dX10_makeRange_49 : decode cX10_makeRange 49 = .ok (.iload 5, 2) := by decide +kernel
theorem dX10_makeRange_51 : decode cX10_makeRange 51 = .ok (.aload_n 0, 1) := by decide +kernel
theorem dX10_makeRange_52 : decode cX10_makeRange 52 = .ok (.getfield 7, 3) := by decide +kernel
theorem dX10_makeRange_55 : decode cX10_makeRange 55 = .ok (.iload_n 1, 1) := by decide +kernel
theorem dX10_makeRange_56 : decode cX10_makeRange 56 = .ok (.iconst 3, 1) := by decide +kernel
theorem dX10_makeRange_57 : decode cX10_makeRange 57 = .ok (.iadd, 1) := by decide +kernel
theorem dX10_makeRange_58 : decode cX10_makeRange 58 = .ok (.iaload, 1) := by decide +kernel
theorem dX10_makeRange_59 : decode cX10_makeRange 59 = .ok (.if_icmp .ne 29, 3) := by decide +kernel
theorem dX10_makeRange_62 : decode cX10_makeRange 62 = .ok (.iload 6, 2) := by decide +kernel
theorem dX10_makeRange_64 : decode cX10_makeRange 64 = .ok (.aload_n 0, 1) := by decide +kernel
theorem dX10_makeRange_65 : decode cX10_makeRange 65 = .ok (.getfield 7, 3) := by decide +kernel
theorem dX10_makeRange_68 : decode cX10_makeRange 68 = .ok (.iload_n 1, 1) := by decide +kernel
theorem dX10_makeRange_69 : decode cX10_makeRange 69 = .ok (.iconst 4, 1) := by decide +kernel
theorem dX10_makeRange_70 : decode cX10_makeRange 70 = .ok (.iadd, 1) := by decide +kernel
theorem dX10_makeRange_71 : decode cX10_makeRange 71 = .ok (.iaload, 1) := by decide +kernel
theorem dX10_makeRange_72 : decode cX10_makeRange 72 = .ok (.if_icmp .ne 16, 3) := by decide +kernel
theorem dX10_makeRange_75 : decode cX10_makeRange 75 = .ok (.iload 7, 2) := by decide +kernel
theorem dX10_makeRange_77 : decode cX10_makeRange 77 = .ok (.aload_n 0, 1) := by decide +kernel
theorem dX10_makeRange_78 : decode cX10_makeRange 78 = .ok (.getfield 7, 3) := by decide +kernel
theorem dX10_makeRange_81 : decode cX10_makeRange 81 = .ok (.iload_n 1, 1) := by decide +kernel
theorem dX10_makeRange_82 : decode cX10_makeRange 82 = .ok (.iconst 5, 1) := by decide +kernel
theorem dX10_makeRange_83 : decode cX10_makeRange 83 = .ok (.iadd, 1) := by decide +kernel
theorem dX10_makeRange_84 : decode cX10_makeRange 84 = .ok (.iaload, 1) := by decide +kernel
theorem dX10_makeRange_85 : decode cX10_makeRange 85 = .ok (.if_icmp .eq 7, 3) := by decide +kernel
theorem dX10_makeRange_88 : decode cX10_makeRange 88 = .ok (.iconst 1, 1) := by decide +kernel
theorem dX10_makeRange_89 : decode cX10_makeRange 89 = .ok (.goto 4, 3) := by decide +kernel
theorem dX10_makeRange_92 : decode cX10_makeRange 92 = .ok (.iconst 0, 1) := by decide +kernel
theorem dX10_makeRange_93 : decode cX10_makeRange 93 = .ok (.iadd, 1) := by decide +kernel
theorem dX10_makeRange_94 : decode cX10_makeRange 94 = .ok (.putfield 54, 3) := by decide +kernel
theorem dX10_makeRange_97 : decode cX10_makeRange 97 = .ok (.aload_n 0, 1) := by decide +kernel
theorem dX10_makeRange_98 : decode cX10_makeRange 98 = .ok (.iload 8, 2) := by decide +kernel
theorem dX10_makeRange_100 : decode cX10_makeRange 100 = .ok (.invokevirtual 51, 3) := by decide +kernel
theorem dX10_makeRange_103 : decode cX10_makeRange 103 = .ok (.aload_n 0, 1) := by decide +kernel
theorem dX10_makeRange_104 : decode cX10_makeRange 104 = .ok (.iload_n 3, 1) := by decide +kernel
theorem dX10_makeRange_105 : decode cX10_makeRange 105 = .ok (.invokevirtual 51, 3) := by decide +kernel
theorem dX10_makeRange_108 : decode cX10_makeRange 108 = .ok (.aload_n 0, 1) := by decide +kernel
theorem dX10_makeRange_109 : decode cX10_makeRange 109 = .ok (.iload 4, 2) := by decide +kernel
theorem dX10_makeRange_111 : decode cX10_makeRange 111 = .ok (.invokevirtual 51, 3) := by decide +kernel
theorem dX10_makeRange_114 : decode cX10_makeRange 114 = .ok (.aload_n 0, 1) := by decide +kernel
theorem dX10_makeRange_115 : decode cX10_makeRange 115 = .ok (.iload 5, 2) := by decide +kernel
theorem dX10_makeRange_117 : decode cX10_makeRange 117 = .ok (.invokevirtual 51, 3) := by decide +kernel
theorem dX10_makeRange_120 : decode cX10_makeRange 120 = .ok (.aload_n 0, 1) := by decide +kernel
theorem dX10_makeRange_121 : decode cX10_makeRange 121 = .ok (.iload 6, 2) := by decide +kernel
theorem dX10_makeRange_123 : decode cX10_makeRange 123 = .ok (.invokevirtual 51, 3) := by decide +kernel
theorem dX10_makeRange_126 : decode cX10_makeRange 126 = .ok (.aload_n 0, 1) := by decide +kernel
theorem dX10_makeRange_127 : decode cX10_makeRange 127 = .ok (.iload 7, 2) := by decide +kernel
theorem dX10_makeRange_129 : decode cX10_makeRange 129 = .ok (.invokevirtual 51, 3) := by decide +kernel
theorem dX10_makeRange_132 : decode cX10_makeRange 132 = .ok (.return_, 1) := by decide +kernel
theorem dX10_finish_0 : decode cX10_finish 0 = .ok (.iconst 0, 1) := by decide +kernel
theorem dX10_finish_1 : decode cX10_finish 1 = .ok (.istore_n 1, 1) := by decide +kernel
theorem dX10_finish_2 : decode cX10_finish 2 = .ok (.iload_n 1, 1) := by decide +kernel
theorem dX10_finish_3 : decode cX10_finish 3 = .ok (.aload_n 0, 1) := by decide +kernel
theorem dX10_finish_4 : decode cX10_finish 4 = .ok (.getfield 48, 3) := by decide +kernel
theorem dX10_finish_7 : decode cX10_finish 7 = .ok (.if_icmp .ge 21, 3) := by decide +kernel
theorem dX10_finish_10 : decode cX10_finish 10 = .ok (.aload_n 0, 1) := by decide +kernel
theorem dX10_finish_11 : decode cX10_finish 11 = .ok (.getfield 7, 3) := by decide +kernel
theorem dX10_finish_14 : decode cX10_finish 14 = .ok (.iload_n 1, 1) := by decide +kernel
theorem dX10_finish_15 : decode cX10_finish 15 = .ok (.aload_n 0, 1) := by decide +kernel
theorem dX10_finish_16 : decode cX10_finish 16 = .ok (.getfield 13, 3) := by decide +kernel
theorem dX10_finish_19 : decode cX10_finish 19 = .ok (.iload_n 1, 1) := by decide +kernel
theorem dX10_finish_20 : decode cX10_finish 20 = .ok (.iaload, 1) := by decide +kernel
theorem dX10_finish_21 : decode cX10_finish 21 = .ok (.iastore, 1) := by decide +kernel
theorem dX10_finish_22 : decode cX10_finish 22 = .ok (.iinc 1 1, 3) := by decide +kernel
theorem dX10_finish_25 : decode cX10_finish 25 = .ok (.goto (-23), 3) := by decide +kernel
theorem dX10_finish_28 : decode cX10_finish 28 = .ok (.aload_n 0, 1) := by decide +kernel
theorem dX10_finish_29 : decode cX10_finish 29 = .ok (.aload_n 0, 1) := by decide +kernel
theorem dX10_finish_30 : decode cX10_finish 30 = .ok (.getfield 48, 3) := by decide +kernel
theorem dX10_finish_33 : decode cX10_finish 33 = .ok (.putfield 32, 3) := by decide +kernel
theorem dX10_finish_36 : decode cX10_finish 36 = .ok (.aload_n 0, 1) := by decide +kernel
theorem dX10_finish_37 : decode cX10_finish 37 = .ok (.getfield 54, 3) := by decide +kernel
theorem dX10_finish_40 : decode cX10_finish 40 = .ok (.ireturn, 1) := by decide +kernel
theorem dX10_begin_0 : decode cX10_begin 0 = .ok (.aload_n 0, 1) := by decide +kernel
theorem dX10_begin_1 : decode cX10_begin 1 = .ok (.iconst 0, 1) := by decide +kernel
theorem dX10_begin_2 : decode cX10_begin 2 = .ok (.putfield 48, 3) := by decide +kernel
theorem dX10_begin_5 : decode cX10_begin 5 = .ok (.aload_n 0, 1) := by decide +kernel
theorem dX10_begin_6 : decode cX10_begin 6 = .ok (.iconst 0, 1) := by decide +kernel
theorem dX10_begin_7 : decode cX10_begin 7 = .ok (.putfield 54, 3) := by decide +kernel
theorem dX10_begin_10 : decode cX10_begin 10 = .ok (.return_, 1) := by decide +kernel
theorem dX10_moved_0 : decode cX10_moved 0 = .ok (.iload_n 1, 1) := by decide +kernel
theorem dX10_moved_1 : decode cX10_moved 1 = .ok (.ifCond .eq 7, 3) := by decide +kernel
theorem dX10_moved_4 : decode cX10_moved 4 = .ok (.iload_n 0, 1) := by decide +kernel
theorem dX10_moved_5 : decode cX10_moved 5 = .ok (.goto 21, 3) := by decide +kernel
theorem dX10_moved_8 : decode cX10_moved 8 = .ok (.iload_n 0, 1) := by decide +kernel
theorem dX10_moved_9 : decode cX10_moved 9 = .ok (.iload_n 2, 1) := by decide +kernel
theorem dX10_moved_10 : decode cX10_moved 10 = .ok (.iadd, 1) := by decide +kernel
theorem dX10_moved_11 : decode cX10_moved 11 = .ok (.iconst 1, 1) := by decide +kernel
theorem dX10_moved_12 : decode cX10_moved 12 = .ok (.iload_n 3, 1) := by decide +kernel
theorem dX10_moved_13 : decode cX10_moved 13 = .ok (.invokestatic 40, 3) := by decide +kernel
theorem dX10_moved_16 : decode cX10_moved 16 = .ok (.ifCond .eq 9, 3) := by decide +kernel
theorem dX10_moved_19 : decode cX10_moved 19 = .ok (.iload_n 0, 1) := by decide +kernel
theorem dX10_moved_20 : decode cX10_moved 20 = .ok (.iload_n 2, 1) := by decide +kernel
theorem dX10_moved_21 : decode cX10_moved 21 = .ok (.iadd, 1) := by decide +kernel
theorem dX10_moved_22 : decode cX10_moved 22 = .ok (.goto 4, 3) := by decide +kernel
theorem dX10_moved_25 : decode cX10_moved 25 = .ok (.iconst 0, 1) := by decide +kernel
theorem dX10_moved_26 : decode cX10_moved 26 = .ok (.ireturn, 1) := by decide +kernel
theorem dX10_copyRange_0 : decode cX10_copyRange 0 = .ok (.aload_n 0, 1) := by decide +kernel
theorem dX10_copyRange_1 : decode cX10_copyRange 1 = .ok (.getfield 7, 3) := by decide +kernel
theorem dX10_copyRange_4 : decode cX10_copyRange 4 = .ok (.iload_n 1, 1) := by decide +kernel
theorem dX10_copyRange_5 : decode cX10_copyRange 5 = .ok (.iaload, 1) := by decide +kernel
theorem dX10_copyRange_6 : decode cX10_copyRange 6 = .ok (.bipush 16, 2) := by decide +kernel
theorem dX10_copyRange_8 : decode cX10_copyRange 8 = .ok (.idiv, 1) := by decide +kernel
theorem dX10_copyRange_9 : decode cX10_copyRange 9 = .ok (.istore 4, 2) := by decide +kernel
theorem dX10_copyRange_11 : decode cX10_copyRange 11 = .ok (.iload 4, 2) := by decide +kernel
theorem dX10_copyRange_13 : decode cX10_copyRange 13 = .ok (.bipush 32, 2) := by decide +kernel
theorem dX10_copyRange_15 : decode cX10_copyRange 15 = .ok (.idiv, 1) := by decide +kernel
theorem dX10_copyRange_16 : decode cX10_copyRange 16 = .ok (.iconst 2, 1) := by decide +kernel
theorem dX10_copyRange_17 : decode cX10_copyRange 17 = .ok (.irem, 1) := by decide +kernel
theorem dX10_copyRange_18 : decode cX10_copyRange 18 = .ok (.iconst 1, 1) := by decide +kernel
theorem dX10_copyRange_19 : decode cX10_copyRange 19 = .ok (.if_icmp .ne 7, 3) := by decide +kernel
theorem dX10_copyRange_22 : decode cX10_copyRange 22 = .ok (.iconst 1, 1) := by decide +kernel
theorem dX10_copyRange_23 : decode cX10_copyRange 23 = .ok (.goto 4, 3) := by decide +kernel
theorem dX10_copyRange_26 : decode cX10_copyRange 26 = .ok (.iconst 0, 1) := by decide +kernel
theorem dX10_copyRange_27 : decode cX10_copyRange 27 = .ok (.istore 5, 2) := by decide +kernel
theorem dX10_copyRange_29 : decode cX10_copyRange 29 = .ok (.iload 4, 2) := by decide +kernel
theorem dX10_copyRange_31 : decode cX10_copyRange 31 = .ok (.bipush 16, 2) := by decide +kernel
theorem dX10_copyRange_33 : decode cX10_copyRange 33 = .ok (.idiv, 1) := by decide +kernel
theorem dX10_copyRange_34 : decode cX10_copyRange 34 = .ok (.iconst 2, 1) := by decide +kernel
theorem dX10_copyRange_35 : decode cX10_copyRange 35 = .ok (.irem, 1) := by decide +kernel
theorem dX10_copyRange_36 : decode cX10_copyRange 36 = .ok (.iconst 1, 1) := by decide +kernel
theorem dX10_copyRange_37 : decode cX10_copyRange 37 = .ok (.if_icmp .ne 7, 3) := by decide +kernel
theorem dX10_copyRange_40 : decode cX10_copyRange 40 = .ok (.iconst 1, 1) := by decide +kernel
theorem dX10_copyRange_41 : decode cX10_copyRange 41 = .ok (.goto 4, 3) := by decide +kernel
theorem dX10_copyRange_44 : decode cX10_copyRange 44 = .ok (.iconst 0, 1) := by decide +kernel
theorem dX10_copyRange_45 : decode cX10_copyRange 45 = .ok (.istore 6, 2) := by decide +kernel
theorem dX10_copyRange_47 : decode cX10_copyRange 47 = .ok (.aload_n 0, 1) := by decide +kernel
theorem dX10_copyRange_48 : decode cX10_copyRange 48 = .ok (.getfield 7, 3) := by decide +kernel
theorem dX10_copyRange_51 : decode cX10_copyRange 51 = .ok (.iload_n 1, 1) := by decide +kernel
theorem dX10_copyRange_52 : decode cX10_copyRange 52 = .ok (.iconst 2, 1) := by decide +kernel
theorem dX10_copyRange_53 : decode cX10_copyRange 53 = .ok (.iadd, 1) := by decide +kernel
theorem dX10_copyRange_54 : decode cX10_copyRange 54 = .ok (.iaload, 1) := by decide +kernel
theorem dX10_copyRange_55 : decode cX10_copyRange 55 = .ok (.iload 6, 2) := by decide +kernel
theorem dX10_copyRange_57 : decode cX10_copyRange 57 = .ok (.ifCond .ne 10, 3) := by decide +kernel
theorem dX10_copyRange_60 : decode cX10_copyRange 60 = .ok (.iload 4, 2) := by decide +kernel
theorem dX10_copyRange_62 : decode cX10_copyRange 62 = .ok (.iconst 2, 1) := by decide +kernel
theorem dX10_copyRange_63 : decode cX10_copyRange 63 = .ok (.iand, 1) := by decide +kernel
theorem dX10_copyRange_64 : decode cX10_copyRange 64 = .ok (.ifCond .le 7, 3) := by decide +kernel
theorem dX10_copyRange_67 : decode cX10_copyRange 67 = .ok (.iconst 1, 1) := by decide +kernel
theorem dX10_copyRange_68 : decode cX10_copyRange 68 = .ok (.goto 4, 3) := by decide +kernel
theorem dX10_copyRange_71 : decode cX10_copyRange 71 = .ok (.iconst 0, 1) := by decide +kernel
theorem dX10_copyRange_72 : decode cX10_copyRange 72 = .ok (.iload_n 2, 1) := by decide +kernel
theorem dX10_copyRange_73 : decode cX10_copyRange 73 = .ok (.ldc 39, 2) := by decide +kernel
theorem dX10_copyRange_75 : decode cX10_copyRange 75 = .ok (.invokestatic 57, 3) := by decide +kernel
theorem dX10_copyRange_78 : decode cX10_copyRange 78 = .ok (.istore 7, 2) := by decide +kernel
theorem dX10_copyRange_80 : decode cX10_copyRange 80 = .ok (.aload_n 0, 1) := by decide +kernel
theorem dX10_copyRange_81 : decode cX10_copyRange 81 = .ok (.getfield 7, 3) := by decide +kernel
theorem dX10_copyRange_84 : decode cX10_copyRange 84 = .ok (.iload_n 1, 1) := by decide +kernel
theorem dX10_copyRange_85 : decode cX10_copyRange 85 = .ok (.iconst 4, 1) := by decide +kernel
theorem dX10_copyRange_86 : decode cX10_copyRange 86 = .ok (.iadd, 1) := by decide +kernel
theorem dX10_copyRange_87 : decode cX10_copyRange 87 = .ok (.iaload, 1) := by decide +kernel
theorem dX10_copyRange_88 : decode cX10_copyRange 88 = .ok (.iload 6, 2) := by decide +kernel
theorem dX10_copyRange_90 : decode cX10_copyRange 90 = .ok (.ifCond .ne 11, 3) := by decide +kernel
theorem dX10_copyRange_93 : decode cX10_copyRange 93 = .ok (.iload 4, 2) := by decide +kernel
theorem dX10_copyRange_95 : decode cX10_copyRange 95 = .ok (.bipush 8, 2) := by decide +kernel
theorem dX10_copyRange_97 : decode cX10_copyRange 97 = .ok (.iand, 1) := by decide +kernel
theorem dX10_copyRange_98 : decode cX10_copyRange 98 = .ok (.ifCond .le 7, 3) := by decide +kernel
theorem dX10_copyRange_101 : decode cX10_copyRange 101 = .ok (.iconst 1, 1) := by decide +kernel
theorem dX10_copyRange_102 : decode cX10_copyRange 102 = .ok (.goto 4, 3) := by decide +kernel
theorem dX10_copyRange_105 : decode cX10_copyRange 105 = .ok (.iconst 0, 1) := by decide +kernel
theorem dX10_copyRange_106 : decode cX10_copyRange 106 = .ok (.iload_n 2, 1) := by decide +kernel
theorem dX10_copyRange_107 : decode cX10_copyRange 107 = .ok (.ldc 39, 2) := by decide +kernel
theorem dX10_copyRange_109 : decode cX10_copyRange 109 = .ok (.invokestatic 57, 3) := by decide +kernel
theorem dX10_copyRange_112 : decode cX10_copyRange 112 = .ok (.istore 8, 2) := by decide +kernel
theorem dX10_copyRange_114 : decode cX10_copyRange 114 = .ok (.aload_n 0, 1) := by decide +kernel
theorem dX10_copyRange_115 : decode cX10_copyRange 115 = .ok (.getfield 7, 3) := by decide +kernel
theorem dX10_copyRange_118 : decode cX10_copyRange 118 = .ok (.iload_n 1, 1) := by decide +kernel
theorem dX10_copyRange_119 : decode cX10_copyRange 119 = .ok (.iconst 3, 1) := by decide +kernel
theorem dX10_copyRange_120 : decode cX10_copyRange 120 = .ok (.iadd, 1) := by decide +kernel
theorem dX10_copyRange_121 : decode cX10_copyRange 121 = .ok (.iaload, 1) := by decide +kernel
theorem dX10_copyRange_122 : decode cX10_copyRange 122 = .ok (.iload 5, 2) := by decide +kernel
theorem dX10_copyRange_124 : decode cX10_copyRange 124 = .ok (.ifCond .ne 10, 3) := by decide +kernel
theorem dX10_copyRange_127 : decode cX10_copyRange 127 = .ok (.iload 4, 2) := by decide +kernel
theorem dX10_copyRange_129 : decode cX10_copyRange 129 = .ok (.iconst 1, 1) := by decide +kernel
theorem dX10_copyRange_130 : decode cX10_copyRange 130 = .ok (.iand, 1) := by decide +kernel
theorem dX10_copyRange_131 : decode cX10_copyRange 131 = .ok (.ifCond .le 7, 3) := by decide +kernel
theorem dX10_copyRange_134 : decode cX10_copyRange 134 = .ok (.iconst 1, 1) := by decide +kernel
theorem dX10_copyRange_135 : decode cX10_copyRange 135 = .ok (.goto 4, 3) := by decide +kernel
theorem dX10_copyRange_138 : decode cX10_copyRange 138 = .ok (.iconst 0, 1) := by decide +kernel
theorem dX10_copyRange_139 : decode cX10_copyRange 139 = .ok (.iload_n 3, 1) := by decide +kernel
theorem dX10_copyRange_140 : decode cX10_copyRange 140 = .ok (.sipush 16384, 3) := by decide +kernel
theorem dX10_copyRange_143 : decode cX10_copyRange 143 = .ok (.invokestatic 57, 3) := by decide +kernel
theorem dX10_copyRange_146 : decode cX10_copyRange 146 = .ok (.istore 9, 2) := by decide +kernel
theorem dX10_copyRange_148 : decode cX10_copyRange 148 = .ok (.aload_n 0, 1) := by decide +kernel
theorem dX10_copyRange_149 : decode cX10_copyRange 149 = .ok (.getfield 7, 3) := by decide +kernel
theorem dX10_copyRange_152 : decode cX10_copyRange 152 = .ok (.iload_n 1, 1) := by decide +kernel
theorem dX10_copyRange_153 : decode cX10_copyRange 153 = .ok (.iconst 5, 1) := by decide +kernel
theorem dX10_copyRange_154 : decode cX10_copyRange 154 = .ok (.iadd, 1) := by decide +kernel
theorem dX10_copyRange_155 : decode cX10_copyRange 155 = .ok (.iaload, 1) := by decide +kernel
theorem dX10_copyRange_156 : decode cX10_copyRange 156 = .ok (.iload 5, 2) := by decide +kernel
theorem dX10_copyRange_158 : decode cX10_copyRange 158 = .ok (.ifCond .ne 10, 3) := by decide +kernel
theorem dX10_copyRange_161 : decode cX10_copyRange 161 = .ok (.iload 4, 2) := by decide +kernel
theorem dX10_copyRange_163 : decode cX10_copyRange 163 = .ok (.iconst 4, 1) := by decide +kernel
theorem dX10_copyRange_164 : decode cX10_copyRange 164 = .ok (.iand, 1) := by decide +kernel
theorem dX10_copyRange_165 : decode cX10_copyRange 165 = .ok (.ifCond .le 7, 3) := by decide +kernel
theorem dX10_copyRange_168 : decode cX10_copyRange 168 = .ok (.iconst 1, 1) := by decide +kernel
theorem dX10_copyRange_169 : decode cX10_copyRange 169 = .ok (.goto 4, 3) := by decide +kernel
theorem dX10_copyRange_172 : decode cX10_copyRange 172 = .ok (.iconst 0, 1) := by decide +kernel
theorem dX10_copyRange_173 : decode cX10_copyRange 173 = .ok (.iload_n 3, 1) := by decide +kernel
theorem dX10_copyRange_174 : decode cX10_copyRange 174 = .ok (.sipush 16384, 3) := by decide +kernel
theorem dX10_copyRange_177 : decode cX10_copyRange 177 = .ok (.invokestatic 57, 3) := by decide +kernel
theorem dX10_copyRange_180 : decode cX10_copyRange 180 = .ok (.istore 10, 2) := by decide +kernel
theorem dX10_copyRange_182 : decode cX10_copyRange 182 = .ok (.iload 7, 2) := by decide +kernel
theorem dX10_copyRange_184 : decode cX10_copyRange 184 = .ok (.ifCond .eq 18, 3) := by decide +kernel
theorem dX10_copyRange_187 : decode cX10_copyRange 187 = .ok (.iload 8, 2) := by decide +kernel
theorem dX10_copyRange_189 : decode cX10_copyRange 189 = .ok (.ifCond .eq 13, 3) := by decide +kernel
theorem dX10_copyRange_192 : decode cX10_copyRange 192 = .ok (.iload 9, 2) := by decide +kernel
theorem dX10_copyRange_194 : decode cX10_copyRange 194 = .ok (.ifCond .eq 8, 3) := by decide +kernel
theorem dX10_copyRange_197 : decode cX10_copyRange 197 = .ok (.iload 10, 2) := by decide +kernel
theorem dX10_copyRange_199 : decode cX10_copyRange 199 = .ok (.ifCond .ne 8, 3) := by decide +kernel
theorem dX10_copyRange_202 : decode cX10_copyRange 202 = .ok (.aload_n 0, 1) := by decide +kernel
theorem dX10_copyRange_203 : decode cX10_copyRange 203 = .ok (.invokevirtual 61, 3) := by decide +kernel
theorem dX10_copyRange_206 : decode cX10_copyRange 206 = .ok (.return_, 1) := by decide +kernel
theorem dX10_copyRange_207 : decode cX10_copyRange 207 = .ok (.iload 4, 2) := by decide +kernel
theorem dX10_copyRange_209 : decode cX10_copyRange 209 = .ok (.bipush 48, 2) := by decide +kernel
theorem dX10_copyRange_211 : decode cX10_copyRange 211 = .ok (.iand, 1) := by decide +kernel
theorem dX10_copyRange_212 : decode cX10_copyRange 212 = .ok (.istore 11, 2) := by decide +kernel
theorem dX10_copyRange_214 : decode cX10_copyRange 214 = .ok (.iload 4, 2) := by decide +kernel
theorem dX10_copyRange_216 : decode cX10_copyRange 216 = .ok (.iconst 5, 1) := by decide +kernel
theorem dX10_copyRange_217 : decode cX10_copyRange 217 = .ok (.iand, 1) := by decide +kernel
theorem dX10_copyRange_218 : decode cX10_copyRange 218 = .ok (.istore 12, 2) := by decide +kernel
theorem dX10_copyRange_220 : decode cX10_copyRange 220 = .ok (.iload 4, 2) := by decide +kernel
theorem dX10_copyRange_222 : decode cX10_copyRange 222 = .ok (.bipush 10, 2) := by decide +kernel
theorem dX10_copyRange_224 : decode cX10_copyRange 224 = .ok (.iand, 1) := by decide +kernel
theorem dX10_copyRange_225 : decode cX10_copyRange 225 = .ok (.istore 13, 2) := by decide +kernel
theorem dX10_copyRange_227 : decode cX10_copyRange 227 = .ok (.iload 10, 2) := by decide +kernel
theorem dX10_copyRange_229 : decode cX10_copyRange 229 = .ok (.iload 9, 2) := by decide +kernel
theorem dX10_copyRange_231 : decode cX10_copyRange 231 = .ok (.if_icmp .ge 18, 3) := by decide +kernel
theorem dX10_copyRange_234 : decode cX10_copyRange 234 = .ok (.iload 4, 2) := by decide +kernel
theorem dX10_copyRange_236 : decode cX10_copyRange 236 = .ok (.iconst 1, 1) := by decide +kernel
theorem dX10_copyRange_237 : decode cX10_copyRange 237 = .ok (.iand, 1) := by decide +kernel
theorem dX10_copyRange_238 : decode cX10_copyRange 238 = .ok (.iconst 4, 1) := by decide +kernel
theorem dX10_copyRange_239 : decode cX10_copyRange 239 = .ok (.imul, 1) := by decide +kernel
theorem dX10_copyRange_240 : decode cX10_copyRange 240 = .ok (.iload 4, 2) := by decide +kernel
theorem dX10_copyRange_242 : decode cX10_copyRange 242 = .ok (.iconst 4, 1) := by decide +kernel
theorem dX10_copyRange_243 : decode cX10_copyRange 243 = .ok (.iand, 1) := by decide +kernel
theorem dX10_copyRange_244 : decode cX10_copyRange 244 = .ok (.iconst 4, 1) := by decide +kernel
theorem dX10_copyRange_245 : decode cX10_copyRange 245 = .ok (.idiv, 1) := by decide +kernel
theorem dX10_copyRange_246 : decode cX10_copyRange 246 = .ok (.iadd, 1) := by decide +kernel
theorem dX10_copyRange_247 : decode cX10_copyRange 247 = .ok (.istore 12, 2) := by decide +kernel
theorem dX10_copyRange_249 : decode cX10_copyRange 249 = .ok (.iload 8, 2) := by decide +kernel
theorem dX10_copyRange_251 : decode cX10_copyRange 251 = .ok (.iload 7, 2) := by decide +kernel
theorem dX10_copyRange_253 : decode cX10_copyRange 253 = .ok (.if_icmp .ge 19, 3) := by decide +kernel
theorem dX10_copyRange_256 : decode cX10_copyRange 256 = .ok (.iload 4, 2) := by decide +kernel
theorem dX10_copyRange_258 : decode cX10_copyRange 258 = .ok (.iconst 2, 1) := by decide +kernel

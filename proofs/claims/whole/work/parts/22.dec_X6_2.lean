theorem dX6_actsOf_12 : decode cX6_actsOf 12 = .ok (.ishr, 1) := by decide +kernel
theorem dX6_actsOf_13 : decode cX6_actsOf 13 = .ok (.iconst 1, 1) := by decide +kernel
theorem dX6_actsOf_14 : decode cX6_actsOf 14 = .ok (.iand, 1) := by decide +kernel
theorem dX6_actsOf_15 : decode cX6_actsOf 15 = .ok (.iconst 1, 1) := by decide +kernel
theorem dX6_actsOf_16 : decode cX6_actsOf 16 = .ok (.if_icmp .ne 15, 3) := by decide +kernel
theorem dX6_actsOf_19 : decode cX6_actsOf 19 = .ok (.iload_n 2, 1) := by decide +kernel
theorem dX6_actsOf_20 : decode cX6_actsOf 20 = .ok (.aload_n 0, 1) := by decide +kernel
theorem dX6_actsOf_21 : decode cX6_actsOf 21 = .ok (.getfield 54, 3) := by decide +kernel
theorem dX6_actsOf_24 : decode cX6_actsOf 24 = .ok (.iload_n 3, 1) := by decide +kernel
theorem dX6_actsOf_25 : decode cX6_actsOf 25 = .ok (.aaload, 1) := by decide +kernel
theorem dX6_actsOf_26 : decode cX6_actsOf 26 = .ok (.getfield 323, 3) := by decide +kernel
theorem dX6_actsOf_29 : decode cX6_actsOf 29 = .ok (.iadd, 1) := by decide +kernel
theorem dX6_actsOf_30 : decode cX6_actsOf 30 = .ok (.istore_n 2, 1) := by decide +kernel
theorem dX6_actsOf_31 : decode cX6_actsOf 31 = .ok (.iinc 3 1, 3) := by decide +kernel
theorem dX6_actsOf_34 : decode cX6_actsOf 34 = .ok (.goto (-30), 3) := by decide +kernel
theorem dX6_actsOf_37 : decode cX6_actsOf 37 = .ok (.iload_n 2, 1) := by decide +kernel
theorem dX6_actsOf_38 : decode cX6_actsOf 38 = .ok (.ireturn, 1) := by decide +kernel
theorem dX6_plansThere_0 : decode cX6_plansThere 0 = .ok (.iconst 0, 1) := by decide +kernel
theorem dX6_plansThere_1 : decode cX6_plansThere 1 = .ok (.istore_n 1, 1) := by decide +kernel
theorem dX6_plansThere_2 : decode cX6_plansThere 2 = .ok (.iconst 0, 1) := by decide +kernel
theorem dX6_plansThere_3 : decode cX6_plansThere 3 = .ok (.istore_n 2, 1) := by decide +kernel
theorem dX6_plansThere_4 : decode cX6_plansThere 4 = .ok (.iload_n 2, 1) := by decide +kernel
theorem dX6_plansThere_5 : decode cX6_plansThere 5 = .ok (.bipush 6, 2) := by decide +kernel
theorem dX6_plansThere_7 : decode cX6_plansThere 7 = .ok (.if_icmp .ge 24, 3) := by decide +kernel
theorem dX6_plansThere_10 : decode cX6_plansThere 10 = .ok (.aload_n 0, 1) := by decide +kernel
theorem dX6_plansThere_11 : decode cX6_plansThere 11 = .ok (.getfield 54, 3) := by decide +kernel
theorem dX6_plansThere_14 : decode cX6_plansThere 14 = .ok (.iload_n 2, 1) := by decide +kernel
theorem dX6_plansThere_15 : decode cX6_plansThere 15 = .ok (.aaload, 1) := by decide +kernel
theorem dX6_plansThere_16 : decode cX6_plansThere 16 = .ok (.getfield 323, 3) := by decide +kernel
theorem dX6_plansThere_19 : decode cX6_plansThere 19 = .ok (.ifCond .le 6, 3) := by decide +kernel
theorem dX6_plansThere_22 : decode cX6_plansThere 22 = .ok (.iinc 1 1, 3) := by decide +kernel
theorem dX6_plansThere_25 : decode cX6_plansThere 25 = .ok (.iinc 2 1, 3) := by decide +kernel
theorem dX6_plansThere_28 : decode cX6_plansThere 28 = .ok (.goto (-24), 3) := by decide +kernel
theorem dX6_plansThere_31 : decode cX6_plansThere 31 = .ok (.iload_n 1, 1) := by decide +kernel
theorem dX6_plansThere_32 : decode cX6_plansThere 32 = .ok (.ireturn, 1) := by decide +kernel
theorem dX6_savedLong_0 : decode cX6_savedLong 0 = .ok (.aload_n 0, 1) := by decide +kernel
theorem dX6_savedLong_1 : decode cX6_savedLong 1 = .ok (.getfield 10, 3) := by decide +kernel
theorem dX6_savedLong_4 : decode cX6_savedLong 4 = .ok (.iload_n 1, 1) := by decide +kernel
theorem dX6_savedLong_5 : decode cX6_savedLong 5 = .ok (.iload_n 2, 1) := by decide +kernel
theorem dX6_savedLong_6 : decode cX6_savedLong 6 = .ok (.iconst 1, 1) := by decide +kernel
theorem dX6_savedLong_7 : decode cX6_savedLong 7 = .ok (.invokevirtual 148, 3) := by decide +kernel
theorem dX6_savedLong_10 : decode cX6_savedLong 10 = .ok (.i2l, 1) := by decide +kernel
theorem dX6_savedLong_11 : decode cX6_savedLong 11 = .ok (.lstore_n 3, 1) := by decide +kernel
theorem dX6_savedLong_12 : decode cX6_savedLong 12 = .ok (.lload_n 3, 1) := by decide +kernel
theorem dX6_savedLong_13 : decode cX6_savedLong 13 = .ok (.ldc2_w 326, 3) := by decide +kernel
theorem dX6_savedLong_16 : decode cX6_savedLong 16 = .ok (.lmul, 1) := by decide +kernel
theorem dX6_savedLong_17 : decode cX6_savedLong 17 = .ok (.iload_n 2, 1) := by decide +kernel
theorem dX6_savedLong_18 : decode cX6_savedLong 18 = .ok (.sipush 1000, 3) := by decide +kernel
theorem dX6_savedLong_21 : decode cX6_savedLong 21 = .ok (.imul, 1) := by decide +kernel
theorem dX6_savedLong_22 : decode cX6_savedLong 22 = .ok (.i2l, 1) := by decide +kernel
theorem dX6_savedLong_23 : decode cX6_savedLong 23 = .ok (.ladd, 1) := by decide +kernel
theorem dX6_savedLong_24 : decode cX6_savedLong 24 = .ok (.aload_n 0, 1) := by decide +kernel
theorem dX6_savedLong_25 : decode cX6_savedLong 25 = .ok (.getfield 10, 3) := by decide +kernel
theorem dX6_savedLong_28 : decode cX6_savedLong 28 = .ok (.iload_n 1, 1) := by decide +kernel
theorem dX6_savedLong_29 : decode cX6_savedLong 29 = .ok (.iload_n 2, 1) := by decide +kernel
theorem dX6_savedLong_30 : decode cX6_savedLong 30 = .ok (.iconst 0, 1) := by decide +kernel
theorem dX6_savedLong_31 : decode cX6_savedLong 31 = .ok (.invokevirtual 148, 3) := by decide +kernel
theorem dX6_savedLong_34 : decode cX6_savedLong 34 = .ok (.i2l, 1) := by decide +kernel
theorem dX6_savedLong_35 : decode cX6_savedLong 35 = .ok (.ladd, 1) := by decide +kernel
theorem dX6_savedLong_36 : decode cX6_savedLong 36 = .ok (.lreturn, 1) := by decide +kernel
theorem dX6_restoreOne_0 : decode cX6_restoreOne 0 = .ok (.lload_n 1, 1) := by decide +kernel
theorem dX6_restoreOne_1 : decode cX6_restoreOne 1 = .ok (.lconst 0, 1) := by decide +kernel
theorem dX6_restoreOne_2 : decode cX6_restoreOne 2 = .ok (.lcmp, 1) := by decide +kernel
theorem dX6_restoreOne_3 : decode cX6_restoreOne 3 = .ok (.ifCond .ge 5, 3) := by decide +kernel
theorem dX6_restoreOne_6 : decode cX6_restoreOne 6 = .ok (.iconst 0, 1) := by decide +kernel
theorem dX6_restoreOne_7 : decode cX6_restoreOne 7 = .ok (.ireturn, 1) := by decide +kernel
theorem dX6_restoreOne_8 : decode cX6_restoreOne 8 = .ok (.lload_n 1, 1) := by decide +kernel
theorem dX6_restoreOne_9 : decode cX6_restoreOne 9 = .ok (.ldc2_w 326, 3) := by decide +kernel
theorem dX6_restoreOne_12 : decode cX6_restoreOne 12 = .ok (.ldiv, 1) := by decide +kernel
theorem dX6_restoreOne_13 : decode cX6_restoreOne 13 = .ok (.lstore 4, 2) := by decide +kernel
theorem dX6_restoreOne_15 : decode cX6_restoreOne 15 = .ok (.lload_n 1, 1) := by decide +kernel
theorem dX6_restoreOne_16 : decode cX6_restoreOne 16 = .ok (.ldc2_w 328, 3) := by decide +kernel
theorem dX6_restoreOne_19 : decode cX6_restoreOne 19 = .ok (.ldiv, 1) := by decide +kernel
theorem dX6_restoreOne_20 : decode cX6_restoreOne 20 = .ok (.ldc2_w 328, 3) := by decide +kernel
theorem dX6_restoreOne_23 : decode cX6_restoreOne 23 = .ok (.lrem, 1) := by decide +kernel
theorem dX6_restoreOne_24 : decode cX6_restoreOne 24 = .ok (.l2i, 1) := by decide +kernel
theorem dX6_restoreOne_25 : decode cX6_restoreOne 25 = .ok (.istore 6, 2) := by decide +kernel
theorem dX6_restoreOne_27 : decode cX6_restoreOne 27 = .ok (.lload_n 1, 1) := by decide +kernel
theorem dX6_restoreOne_28 : decode cX6_restoreOne 28 = .ok (.ldc2_w 328, 3) := by decide +kernel
theorem dX6_restoreOne_31 : decode cX6_restoreOne 31 = .ok (.lrem, 1) := by decide +kernel
theorem dX6_restoreOne_32 : decode cX6_restoreOne 32 = .ok (.l2i, 1) := by decide +kernel
theorem dX6_restoreOne_33 : decode cX6_restoreOne 33 = .ok (.istore 7, 2) := by decide +kernel
theorem dX6_restoreOne_35 : decode cX6_restoreOne 35 = .ok (.iload 6, 2) := by decide +kernel
theorem dX6_restoreOne_37 : decode cX6_restoreOne 37 = .ok (.bipush 10, 2) := by decide +kernel
theorem dX6_restoreOne_39 : decode cX6_restoreOne 39 = .ok (.if_icmp .ge 34, 3) := by decide +kernel
theorem dX6_restoreOne_42 : decode cX6_restoreOne 42 = .ok (.lload 4, 2) := by decide +kernel
theorem dX6_restoreOne_44 : decode cX6_restoreOne 44 = .ok (.aload_n 0, 1) := by decide +kernel
theorem dX6_restoreOne_45 : decode cX6_restoreOne 45 = .ok (.getfield 10, 3) := by decide +kernel
theorem dX6_restoreOne_48 : decode cX6_restoreOne 48 = .ok (.invokevirtual 169, 3) := by decide +kernel
theorem dX6_restoreOne_51 : decode cX6_restoreOne 51 = .ok (.i2l, 1) := by decide +kernel
theorem dX6_restoreOne_52 : decode cX6_restoreOne 52 = .ok (.lcmp, 1) := by decide +kernel
theorem dX6_restoreOne_53 : decode cX6_restoreOne 53 = .ok (.ifCond .gt 20, 3) := by decide +kernel
theorem dX6_restoreOne_56 : decode cX6_restoreOne 56 = .ok (.aload_n 0, 1) := by decide +kernel
theorem dX6_restoreOne_57 : decode cX6_restoreOne 57 = .ok (.getfield 10, 3) := by decide +kernel
theorem dX6_restoreOne_60 : decode cX6_restoreOne 60 = .ok (.lload 4, 2) := by decide +kernel
theorem dX6_restoreOne_62 : decode cX6_restoreOne 62 = .ok (.l2i, 1) := by decide +kernel
theorem dX6_restoreOne_63 : decode cX6_restoreOne 63 = .ok (.iload 6, 2) := by decide +kernel
theorem dX6_restoreOne_65 : decode cX6_restoreOne 65 = .ok (.iload 7, 2) := by decide +kernel
theorem dX6_restoreOne_67 : decode cX6_restoreOne 67 = .ok (.invokevirtual 330, 3) := by decide +kernel
theorem dX6_restoreOne_70 : decode cX6_restoreOne 70 = .ok (.ifCond .ne 5, 3) := by decide +kernel
theorem dX6_restoreOne_73 : decode cX6_restoreOne 73 = .ok (.iconst 0, 1) := by decide +kernel
theorem dX6_restoreOne_74 : decode cX6_restoreOne 74 = .ok (.ireturn, 1) := by decide +kernel
theorem dX6_restoreOne_75 : decode cX6_restoreOne 75 = .ok (.aload_n 0, 1) := by decide +kernel
theorem dX6_restoreOne_76 : decode cX6_restoreOne 76 = .ok (.getfield 10, 3) := by decide +kernel
theorem dX6_restoreOne_79 : decode cX6_restoreOne 79 = .ok (.iload_n 3, 1) := by decide +kernel
theorem dX6_restoreOne_80 : decode cX6_restoreOne 80 = .ok (.iload 6, 2) := by decide +kernel
theorem dX6_restoreOne_82 : decode cX6_restoreOne 82 = .ok (.iload 7, 2) := by decide +kernel
theorem dX6_restoreOne_84 : decode cX6_restoreOne 84 = .ok (.lload 4, 2) := by decide +kernel
theorem dX6_restoreOne_86 : decode cX6_restoreOne 86 = .ok (.l2i, 1) := by decide +kernel
theorem dX6_restoreOne_87 : decode cX6_restoreOne 87 = .ok (.aload_n 0, 1) := by decide +kernel
theorem dX6_restoreOne_88 : decode cX6_restoreOne 88 = .ok (.getfield 10, 3) := by decide +kernel
theorem dX6_restoreOne_91 : decode cX6_restoreOne 91 = .ok (.iconst 5, 1) := by decide +kernel
theorem dX6_restoreOne_92 : decode cX6_restoreOne 92 = .ok (.invokevirtual 142, 3) := by decide +kernel
theorem dX6_restoreOne_95 : decode cX6_restoreOne 95 = .ok (.invokevirtual 333, 3) := by decide +kernel
theorem dX6_restoreOne_98 : decode cX6_restoreOne 98 = .ok (.iconst 1, 1) := by decide +kernel
theorem dX6_restoreOne_99 : decode cX6_restoreOne 99 = .ok (.ireturn, 1) := by decide +kernel

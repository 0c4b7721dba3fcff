theorem dX7_put_13 : decode cX7_put 13 = .ok (.iload 5, 2) := by decide +kernel
theorem dX7_put_15 : decode cX7_put 15 = .ok (.ireturn, 1) := by decide +kernel
theorem dX7_put_16 : decode cX7_put 16 = .ok (.aload_n 0, 1) := by decide +kernel
theorem dX7_put_17 : decode cX7_put 17 = .ok (.getfield 73, 3) := by decide +kernel
theorem dX7_put_20 : decode cX7_put 20 = .ok (.bipush 40, 2) := by decide +kernel
theorem dX7_put_22 : decode cX7_put 22 = .ok (.iload_n 1, 1) := by decide +kernel
theorem dX7_put_23 : decode cX7_put 23 = .ok (.imul, 1) := by decide +kernel
theorem dX7_put_24 : decode cX7_put 24 = .ok (.iload_n 2, 1) := by decide +kernel
theorem dX7_put_25 : decode cX7_put 25 = .ok (.iadd, 1) := by decide +kernel
theorem dX7_put_26 : decode cX7_put 26 = .ok (.lload_n 3, 1) := by decide +kernel
theorem dX7_put_27 : decode cX7_put 27 = .ok (.lastore, 1) := by decide +kernel
theorem dX7_put_28 : decode cX7_put 28 = .ok (.iconst 1, 1) := by decide +kernel
theorem dX7_put_29 : decode cX7_put 29 = .ok (.ireturn, 1) := by decide +kernel
theorem dX7_element_0 : decode cX7_element 0 = .ok (.aload_n 0, 1) := by decide +kernel
theorem dX7_element_1 : decode cX7_element 1 = .ok (.iload_n 1, 1) := by decide +kernel
theorem dX7_element_2 : decode cX7_element 2 = .ok (.iload_n 2, 1) := by decide +kernel
theorem dX7_element_3 : decode cX7_element 3 = .ok (.invokevirtual 335, 3) := by decide +kernel
theorem dX7_element_6 : decode cX7_element 6 = .ok (.ifCond .ge 9, 3) := by decide +kernel
theorem dX7_element_9 : decode cX7_element 9 = .ok (.ldc2_w 340, 3) := by decide +kernel
theorem dX7_element_12 : decode cX7_element 12 = .ok (.goto 14, 3) := by decide +kernel
theorem dX7_element_15 : decode cX7_element 15 = .ok (.aload_n 0, 1) := by decide +kernel
theorem dX7_element_16 : decode cX7_element 16 = .ok (.getfield 73, 3) := by decide +kernel
theorem dX7_element_19 : decode cX7_element 19 = .ok (.bipush 40, 2) := by decide +kernel
theorem dX7_element_21 : decode cX7_element 21 = .ok (.iload_n 1, 1) := by decide +kernel
theorem dX7_element_22 : decode cX7_element 22 = .ok (.imul, 1) := by decide +kernel
theorem dX7_element_23 : decode cX7_element 23 = .ok (.iload_n 2, 1) := by decide +kernel
theorem dX7_element_24 : decode cX7_element 24 = .ok (.iadd, 1) := by decide +kernel
theorem dX7_element_25 : decode cX7_element 25 = .ok (.laload, 1) := by decide +kernel
theorem dX7_element_26 : decode cX7_element 26 = .ok (.lreturn, 1) := by decide +kernel
theorem dX7_save_0 : decode cX7_save 0 = .ok (.iload_n 1, 1) := by decide +kernel
theorem dX7_save_1 : decode cX7_save 1 = .ok (.invokestatic 323, 3) := by decide +kernel
theorem dX7_save_4 : decode cX7_save 4 = .ok (.ifCond .eq 10, 3) := by decide +kernel
theorem dX7_save_7 : decode cX7_save 7 = .ok (.iload_n 3, 1) := by decide +kernel
theorem dX7_save_8 : decode cX7_save 8 = .ok (.invokestatic 187, 3) := by decide +kernel
theorem dX7_save_11 : decode cX7_save 11 = .ok (.ifCond .ne 5, 3) := by decide +kernel
theorem dX7_save_14 : decode cX7_save 14 = .ok (.iconst (-1), 1) := by decide +kernel
theorem dX7_save_15 : decode cX7_save 15 = .ok (.ireturn, 1) := by decide +kernel
theorem dX7_save_16 : decode cX7_save 16 = .ok (.aload_n 0, 1) := by decide +kernel
theorem dX7_save_17 : decode cX7_save 17 = .ok (.getfield 76, 3) := by decide +kernel
theorem dX7_save_20 : decode cX7_save 20 = .ok (.iload_n 1, 1) := by decide +kernel
theorem dX7_save_21 : decode cX7_save 21 = .ok (.iaload, 1) := by decide +kernel
theorem dX7_save_22 : decode cX7_save 22 = .ok (.iconst (-1), 1) := by decide +kernel
theorem dX7_save_23 : decode cX7_save 23 = .ok (.if_icmp .ne 6, 3) := by decide +kernel
theorem dX7_save_26 : decode cX7_save 26 = .ok (.bipush (-11), 2) := by decide +kernel
theorem dX7_save_28 : decode cX7_save 28 = .ok (.ireturn, 1) := by decide +kernel
theorem dX7_save_29 : decode cX7_save 29 = .ok (.aload_n 0, 1) := by decide +kernel
theorem dX7_save_30 : decode cX7_save 30 = .ok (.iload_n 3, 1) := by decide +kernel
theorem dX7_save_31 : decode cX7_save 31 = .ok (.invokevirtual 131, 3) := by decide +kernel
theorem dX7_save_34 : decode cX7_save 34 = .ok (.istore 4, 2) := by decide +kernel
theorem dX7_save_36 : decode cX7_save 36 = .ok (.iload_n 2, 1) := by decide +kernel
theorem dX7_save_37 : decode cX7_save 37 = .ok (.ifCond .lt 16, 3) := by decide +kernel
theorem dX7_save_40 : decode cX7_save 40 = .ok (.iload_n 2, 1) := by decide +kernel
theorem dX7_save_41 : decode cX7_save 41 = .ok (.aload_n 0, 1) := by decide +kernel
theorem dX7_save_42 : decode cX7_save 42 = .ok (.getfield 76, 3) := by decide +kernel
theorem dX7_save_45 : decode cX7_save 45 = .ok (.iload_n 1, 1) := by decide +kernel
theorem dX7_save_46 : decode cX7_save 46 = .ok (.iaload, 1) := by decide +kernel
theorem dX7_save_47 : decode cX7_save 47 = .ok (.iload 4, 2) := by decide +kernel
theorem dX7_save_49 : decode cX7_save 49 = .ok (.isub, 1) := by decide +kernel
theorem dX7_save_50 : decode cX7_save 50 = .ok (.if_icmp .le 6, 3) := by decide +kernel
theorem dX7_save_53 : decode cX7_save 53 = .ok (.bipush (-13), 2) := by decide +kernel
theorem dX7_save_55 : decode cX7_save 55 = .ok (.ireturn, 1) := by decide +kernel
theorem dX7_save_56 : decode cX7_save 56 = .ok (.bipush 40, 2) := by decide +kernel
theorem dX7_save_58 : decode cX7_save 58 = .ok (.iload_n 1, 1) := by decide +kernel
theorem dX7_save_59 : decode cX7_save 59 = .ok (.imul, 1) := by decide +kernel
theorem dX7_save_60 : decode cX7_save 60 = .ok (.iload_n 2, 1) := by decide +kernel
theorem dX7_save_61 : decode cX7_save 61 = .ok (.iadd, 1) := by decide +kernel
theorem dX7_save_62 : decode cX7_save 62 = .ok (.istore 5, 2) := by decide +kernel
theorem dX7_save_64 : decode cX7_save 64 = .ok (.iconst 0, 1) := by decide +kernel
theorem dX7_save_65 : decode cX7_save 65 = .ok (.istore 6, 2) := by decide +kernel
theorem dX7_save_67 : decode cX7_save 67 = .ok (.iload 6, 2) := by decide +kernel
theorem dX7_save_69 : decode cX7_save 69 = .ok (.bipush 10, 2) := by decide +kernel
theorem dX7_save_71 : decode cX7_save 71 = .ok (.if_icmp .ge 69, 3) := by decide +kernel
theorem dX7_save_74 : decode cX7_save 74 = .ok (.iload_n 3, 1) := by decide +kernel
theorem dX7_save_75 : decode cX7_save 75 = .ok (.iload 6, 2) := by decide +kernel
theorem dX7_save_77 : decode cX7_save 77 = .ok (.invokestatic 112, 3) := by decide +kernel
theorem dX7_save_80 : decode cX7_save 80 = .ok (.istore 7, 2) := by decide +kernel
theorem dX7_save_82 : decode cX7_save 82 = .ok (.aload_n 0, 1) := by decide +kernel
theorem dX7_save_83 : decode cX7_save 83 = .ok (.iload 7, 2) := by decide +kernel
theorem dX7_save_85 : decode cX7_save 85 = .ok (.invokevirtual 115, 3) := by decide +kernel
theorem dX7_save_88 : decode cX7_save 88 = .ok (.ifCond .eq 46, 3) := by decide +kernel
theorem dX7_save_91 : decode cX7_save 91 = .ok (.aload_n 0, 1) := by decide +kernel
theorem dX7_save_92 : decode cX7_save 92 = .ok (.getfield 73, 3) := by decide +kernel
theorem dX7_save_95 : decode cX7_save 95 = .ok (.iload 5, 2) := by decide +kernel
theorem dX7_save_97 : decode cX7_save 97 = .ok (.ldc2_w 342, 3) := by decide +kernel
theorem dX7_save_100 : decode cX7_save 100 = .ok (.aload_n 0, 1) := by decide +kernel
theorem dX7_save_101 : decode cX7_save 101 = .ok (.getfield 9, 3) := by decide +kernel
theorem dX7_save_104 : decode cX7_save 104 = .ok (.iload 7, 2) := by decide +kernel
theorem dX7_save_106 : decode cX7_save 106 = .ok (.iconst 2, 1) := by decide +kernel
theorem dX7_save_107 : decode cX7_save 107 = .ok (.iadd, 1) := by decide +kernel
theorem dX7_save_108 : decode cX7_save 108 = .ok (.iaload, 1) := by decide +kernel
theorem dX7_save_109 : decode cX7_save 109 = .ok (.i2l, 1) := by decide +kernel
theorem dX7_save_110 : decode cX7_save 110 = .ok (.lmul, 1) := by decide +kernel
theorem dX7_save_111 : decode cX7_save 111 = .ok (.ldc2_w 212, 3) := by decide +kernel
theorem dX7_save_114 : decode cX7_save 114 = .ok (.iload 6, 2) := by decide +kernel
theorem dX7_save_116 : decode cX7_save 116 = .ok (.i2l, 1) := by decide +kernel
theorem dX7_save_117 : decode cX7_save 117 = .ok (.lmul, 1) := by decide +kernel
theorem dX7_save_118 : decode cX7_save 118 = .ok (.ladd, 1) := by decide +kernel
theorem dX7_save_119 : decode cX7_save 119 = .ok (.aload_n 0, 1) := by decide +kernel
theorem dX7_save_120 : decode cX7_save 120 = .ok (.getfield 9, 3) := by decide +kernel
theorem dX7_save_123 : decode cX7_save 123 = .ok (.iload 7, 2) := by decide +kernel
theorem dX7_save_125 : decode cX7_save 125 = .ok (.iconst 1, 1) := by decide +kernel
theorem dX7_save_126 : decode cX7_save 126 = .ok (.iadd, 1) := by decide +kernel
theorem dX7_save_127 : decode cX7_save 127 = .ok (.iaload, 1) := by decide +kernel
theorem dX7_save_128 : decode cX7_save 128 = .ok (.i2l, 1) := by decide +kernel
theorem dX7_save_129 : decode cX7_save 129 = .ok (.ladd, 1) := by decide +kernel
theorem dX7_save_130 : decode cX7_save 130 = .ok (.lastore, 1) := by decide +kernel
theorem dX7_save_131 : decode cX7_save 131 = .ok (.iinc 5 1, 3) := by decide +kernel
theorem dX7_save_134 : decode cX7_save 134 = .ok (.iinc 6 1, 3) := by decide +kernel
theorem dX7_save_137 : decode cX7_save 137 = .ok (.goto (-70), 3) := by decide +kernel
theorem dX7_save_140 : decode cX7_save 140 = .ok (.iload 4, 2) := by decide +kernel
theorem dX7_save_142 : decode cX7_save 142 = .ok (.ireturn, 1) := by decide +kernel
theorem dX7_restore_0 : decode cX7_restore 0 = .ok (.iload_n 1, 1) := by decide +kernel
theorem dX7_restore_1 : decode cX7_restore 1 = .ok (.invokestatic 323, 3) := by decide +kernel
theorem dX7_restore_4 : decode cX7_restore 4 = .ok (.ifCond .eq 23, 3) := by decide +kernel
theorem dX7_restore_7 : decode cX7_restore 7 = .ok (.iload_n 3, 1) := by decide +kernel
theorem dX7_restore_8 : decode cX7_restore 8 = .ok (.i2l, 1) := by decide +kernel
theorem dX7_restore_9 : decode cX7_restore 9 = .ok (.lconst 0, 1) := by decide +kernel
theorem dX7_restore_10 : decode cX7_restore 10 = .ok (.ldc2_w 214, 3) := by decide +kernel
theorem dX7_restore_13 : decode cX7_restore 13 = .ok (.invokestatic 94, 3) := by decide +kernel
theorem dX7_restore_16 : decode cX7_restore 16 = .ok (.ifCond .eq 11, 3) := by decide +kernel
theorem dX7_restore_19 : decode cX7_restore 19 = .ok (.iload 4, 2) := by decide +kernel
theorem dX7_restore_21 : decode cX7_restore 21 = .ok (.invokestatic 187, 3) := by decide +kernel
theorem dX7_restore_24 : decode cX7_restore 24 = .ok (.ifCond .ne 5, 3) := by decide +kernel
theorem dX7_restore_27 : decode cX7_restore 27 = .ok (.iconst (-1), 1) := by decide +kernel
theorem dX7_restore_28 : decode cX7_restore 28 = .ok (.ireturn, 1) := by decide +kernel
theorem dX7_restore_29 : decode cX7_restore 29 = .ok (.aload_n 0, 1) := by decide +kernel
theorem dX7_restore_30 : decode cX7_restore 30 = .ok (.getfield 76, 3) := by decide +kernel
theorem dX7_restore_33 : decode cX7_restore 33 = .ok (.iload_n 1, 1) := by decide +kernel
theorem dX7_restore_34 : decode cX7_restore 34 = .ok (.iaload, 1) := by decide +kernel
theorem dX7_restore_35 : decode cX7_restore 35 = .ok (.iconst (-1), 1) := by decide +kernel
theorem dX7_restore_36 : decode cX7_restore 36 = .ok (.if_icmp .ne 6, 3) := by decide +kernel
theorem dX7_restore_39 : decode cX7_restore 39 = .ok (.bipush (-11), 2) := by decide +kernel
theorem dX7_restore_41 : decode cX7_restore 41 = .ok (.ireturn, 1) := by decide +kernel
theorem dX7_restore_42 : decode cX7_restore 42 = .ok (.iload_n 2, 1) := by decide +kernel
theorem dX7_restore_43 : decode cX7_restore 43 = .ok (.ifCond .lt 15, 3) := by decide +kernel
theorem dX7_restore_46 : decode cX7_restore 46 = .ok (.iload_n 2, 1) := by decide +kernel
theorem dX7_restore_47 : decode cX7_restore 47 = .ok (.aload_n 0, 1) := by decide +kernel
theorem dX7_restore_48 : decode cX7_restore 48 = .ok (.getfield 76, 3) := by decide +kernel
theorem dX7_restore_51 : decode cX7_restore 51 = .ok (.iload_n 1, 1) := by decide +kernel
theorem dX7_restore_52 : decode cX7_restore 52 = .ok (.iaload, 1) := by decide +kernel
theorem dX7_restore_53 : decode cX7_restore 53 = .ok (.iload_n 3, 1) := by decide +kernel
theorem dX7_restore_54 : decode cX7_restore 54 = .ok (.isub, 1) := by decide +kernel
theorem dX7_restore_55 : decode cX7_restore 55 = .ok (.if_icmp .le 6, 3) := by decide +kernel
theorem dX7_restore_58 : decode cX7_restore 58 = .ok (.bipush (-13), 2) := by decide +kernel
theorem dX7_restore_60 : decode cX7_restore 60 = .ok (.ireturn, 1) := by decide +kernel
theorem dX7_restore_61 : decode cX7_restore 61 = .ok (.iconst 0, 1) := by decide +kernel
theorem dX7_restore_62 : decode cX7_restore 62 = .ok (.istore 5, 2) := by decide +kernel
theorem dX7_restore_64 : decode cX7_restore 64 = .ok (.iload 5, 2) := by decide +kernel
theorem dX7_restore_66 : decode cX7_restore 66 = .ok (.iload_n 3, 1) := by decide +kernel
theorem dX7_restore_67 : decode cX7_restore 67 = .ok (.if_icmp .ge 32, 3) := by decide +kernel
theorem dX7_restore_70 : decode cX7_restore 70 = .ok (.aload_n 0, 1) := by decide +kernel
theorem dX7_restore_71 : decode cX7_restore 71 = .ok (.aload_n 0, 1) := by decide +kernel
theorem dX7_restore_72 : decode cX7_restore 72 = .ok (.getfield 73, 3) := by decide +kernel
theorem dX7_restore_75 : decode cX7_restore 75 = .ok (.bipush 40, 2) := by decide +kernel
theorem dX7_restore_77 : decode cX7_restore 77 = .ok (.iload_n 1, 1) := by decide +kernel
theorem dX7_restore_78 : decode cX7_restore 78 = .ok (.imul, 1) := by decide +kernel
theorem dX7_restore_79 : decode cX7_restore 79 = .ok (.iload_n 2, 1) := by decide +kernel
theorem dX7_restore_80 : decode cX7_restore 80 = .ok (.iadd, 1) := by decide +kernel
theorem dX7_restore_81 : decode cX7_restore 81 = .ok (.iload 5, 2) := by decide +kernel
theorem dX7_restore_83 : decode cX7_restore 83 = .ok (.iadd, 1) := by decide +kernel
theorem dX7_restore_84 : decode cX7_restore 84 = .ok (.laload, 1) := by decide +kernel
theorem dX7_restore_85 : decode cX7_restore 85 = .ok (.iload 4, 2) := by decide +kernel
theorem dX7_restore_87 : decode cX7_restore 87 = .ok (.invokevirtual 344, 3) := by decide +kernel
theorem dX7_restore_90 : decode cX7_restore 90 = .ok (.ifCond .eq 9, 3) := by decide +kernel
theorem dX7_restore_93 : decode cX7_restore 93 = .ok (.iinc 5 1, 3) := by decide +kernel
theorem dX7_restore_96 : decode cX7_restore 96 = .ok (.goto (-32), 3) := by decide +kernel
theorem dX7_restore_99 : decode cX7_restore 99 = .ok (.aload_n 0, 1) := by decide +kernel
theorem dX7_restore_100 : decode cX7_restore 100 = .ok (.iload 5, 2) := by decide +kernel
theorem dX7_restore_102 : decode cX7_restore 102 = .ok (.invokevirtual 164, 3) := by decide +kernel
theorem dX7_restore_105 : decode cX7_restore 105 = .ok (.ireturn, 1) := by decide +kernel
theorem dX7_restores_0 : decode cX7_restores 0 = .ok (.lload_n 1, 1) := by decide +kernel
theorem dX7_restores_1 : decode cX7_restores 1 = .ok (.ldc2_w 342, 3) := by decide +kernel
theorem dX7_restores_4 : decode cX7_restores 4 = .ok (.ldiv, 1) := by decide +kernel
theorem dX7_restores_5 : decode cX7_restores 5 = .ok (.lstore 4, 2) := by decide +kernel
theorem dX7_restores_7 : decode cX7_restores 7 = .ok (.lload_n 1, 1) := by decide +kernel
theorem dX7_restores_8 : decode cX7_restores 8 = .ok (.ldc2_w 212, 3) := by decide +kernel
theorem dX7_restores_11 : decode cX7_restores 11 = .ok (.ldiv, 1) := by decide +kernel
theorem dX7_restores_12 : decode cX7_restores 12 = .ok (.ldc2_w 212, 3) := by decide +kernel
theorem dX7_restores_15 : decode cX7_restores 15 = .ok (.lrem, 1) := by decide +kernel
theorem dX7_restores_16 : decode cX7_restores 16 = .ok (.lstore 6, 2) := by decide +kernel
theorem dX7_restores_18 : decode cX7_restores 18 = .ok (.lload_n 1, 1) := by decide +kernel
theorem dX7_restores_19 : decode cX7_restores 19 = .ok (.ldc2_w 212, 3) := by decide +kernel
theorem dX7_restores_22 : decode cX7_restores 22 = .ok (.lrem, 1) := by decide +kernel
theorem dX7_restores_23 : decode cX7_restores 23 = .ok (.l2i, 1) := by decide +kernel
theorem dX7_restores_24 : decode cX7_restores 24 = .ok (.istore 8, 2) := by decide +kernel
theorem dX7_restores_26 : decode cX7_restores 26 = .ok (.lload_n 1, 1) := by decide +kernel
theorem dX7_restores_27 : decode cX7_restores 27 = .ok (.lconst 0, 1) := by decide +kernel
theorem dX7_restores_28 : decode cX7_restores 28 = .ok (.lcmp, 1) := by decide +kernel
theorem dX7_restores_29 : decode cX7_restores 29 = .ok (.ifCond .lt 25, 3) := by decide +kernel
theorem dX7_restores_32 : decode cX7_restores 32 = .ok (.lload 6, 2) := by decide +kernel
theorem dX7_restores_34 : decode cX7_restores 34 = .ok (.ldc2_w 214, 3) := by decide +kernel
theorem dX7_restores_37 : decode cX7_restores 37 = .ok (.lcmp, 1) := by decide +kernel
theorem dX7_restores_38 : decode cX7_restores 38 = .ok (.ifCond .ge 16, 3) := by decide +kernel
theorem dX7_restores_41 : decode cX7_restores 41 = .ok (.lload 4, 2) := by decide +kernel
theorem dX7_restores_43 : decode cX7_restores 43 = .ok (.aload_n 0, 1) := by decide +kernel
theorem dX7_restores_44 : decode cX7_restores 44 = .ok (.getfield 9, 3) := by decide +kernel
theorem dX7_restores_47 : decode cX7_restores 47 = .ok (.iconst 2, 1) := by decide +kernel
theorem dX7_restores_48 : decode cX7_restores 48 = .ok (.iaload, 1) := by decide +kernel
theorem dX7_restores_49 : decode cX7_restores 49 = .ok (.i2l, 1) := by decide +kernel
theorem dX7_restores_50 : decode cX7_restores 50 = .ok (.lcmp, 1) := by decide +kernel
theorem dX7_restores_51 : decode cX7_restores 51 = .ok (.ifCond .le 5, 3) := by decide +kernel
theorem dX7_restores_54 : decode cX7_restores 54 = .ok (.iconst 0, 1) := by decide +kernel
theorem dX7_restores_55 : decode cX7_restores 55 = .ok (.ireturn, 1) := by decide +kernel
theorem dX7_restores_56 : decode cX7_restores 56 = .ok (.lload 4, 2) := by decide +kernel
theorem dX7_restores_58 : decode cX7_restores 58 = .ok (.l2i, 1) := by decide +kernel
theorem dX7_restores_59 : decode cX7_restores 59 = .ok (.istore 9, 2) := by decide +kernel
theorem dX7_restores_61 : decode cX7_restores 61 = .ok (.iload 9, 2) := by decide +kernel
theorem dX7_restores_63 : decode cX7_restores 63 = .ok (.ifCond .ne 11, 3) := by decide +kernel
theorem dX7_restores_66 : decode cX7_restores 66 = .ok (.iload 8, 2) := by decide +kernel
theorem dX7_restores_68 : decode cX7_restores 68 = .ok (.ifCond .eq 32, 3) := by decide +kernel
theorem dX7_restores_71 : decode cX7_restores 71 = .ok (.goto 27, 3) := by decide +kernel
theorem dX7_restores_74 : decode cX7_restores 74 = .ok (.aload_n 0, 1) := by decide +kernel
theorem dX7_restores_75 : decode cX7_restores 75 = .ok (.iload 9, 2) := by decide +kernel
theorem dX7_restores_77 : decode cX7_restores 77 = .ok (.invokevirtual 102, 3) := by decide +kernel
theorem dX7_restores_80 : decode cX7_restores 80 = .ok (.i2l, 1) := by decide +kernel
theorem dX7_restores_81 : decode cX7_restores 81 = .ok (.lload 6, 2) := by decide +kernel
theorem dX7_restores_83 : decode cX7_restores 83 = .ok (.lcmp, 1) := by decide +kernel
theorem dX7_restores_84 : decode cX7_restores 84 = .ok (.ifCond .ne 14, 3) := by decide +kernel
theorem dX7_restores_87 : decode cX7_restores 87 = .ok (.aload_n 0, 1) := by decide +kernel
theorem dX7_restores_88 : decode cX7_restores 88 = .ok (.iload 9, 2) := by decide +kernel
theorem dX7_restores_90 : decode cX7_restores 90 = .ok (.invokevirtual 128, 3) := by decide +kernel
theorem dX7_restores_93 : decode cX7_restores 93 = .ok (.iload 8, 2) := by decide +kernel
theorem dX7_restores_95 : decode cX7_restores 95 = .ok (.if_icmp .eq 5, 3) := by decide +kernel
theorem dX7_restores_98 : decode cX7_restores 98 = .ok (.iconst 0, 1) := by decide +kernel
theorem dX7_restores_99 : decode cX7_restores 99 = .ok (.ireturn, 1) := by decide +kernel
theorem dX7_restores_100 : decode cX7_restores 100 = .ok (.aload_n 0, 1) := by decide +kernel
theorem dX7_restores_101 : decode cX7_restores 101 = .ok (.iload_n 3, 1) := by decide +kernel
theorem dX7_restores_102 : decode cX7_restores 102 = .ok (.lload 6, 2) := by decide +kernel
theorem dX7_restores_104 : decode cX7_restores 104 = .ok (.l2i, 1) := by decide +kernel
theorem dX7_restores_105 : decode cX7_restores 105 = .ok (.iload 8, 2) := by decide +kernel
theorem dX7_restores_107 : decode cX7_restores 107 = .ok (.iload 9, 2) := by decide +kernel
theorem dX7_restores_109 : decode cX7_restores 109 = .ok (.invokevirtual 140, 3) := by decide +kernel
theorem dX7_restores_112 : decode cX7_restores 112 = .ok (.aload_n 0, 1) := by decide +kernel
theorem dX7_restores_113 : decode cX7_restores 113 = .ok (.getfield 9, 3) := by decide +kernel
theorem dX7_restores_116 : decode cX7_restores 116 = .ok (.bipush 20, 2) := by decide +kernel
theorem dX7_restores_118 : decode cX7_restores 118 = .ok (.dup2, 1) := by decide +kernel
theorem dX7_restores_119 : decode cX7_restores 119 = .ok (.iaload, 1) := by decide +kernel
theorem dX7_restores_120 : decode cX7_restores 120 = .ok (.iconst 1, 1) := by decide +kernel
theorem dX7_restores_121 : decode cX7_restores 121 = .ok (.iadd, 1) := by decide +kernel
theorem dX7_restores_122 : decode cX7_restores 122 = .ok (.iastore, 1) := by decide +kernel
theorem dX7_restores_123 : decode cX7_restores 123 = .ok (.iconst 1, 1) := by decide +kernel
theorem dX7_restores_124 : decode cX7_restores 124 = .ok (.ireturn, 1) := by decide +kernel
theorem dX7_image_0 : decode cX7_image 0 = .ok (.aload_n 0, 1) := by decide +kernel
theorem dX7_image_1 : decode cX7_image 1 = .ok (.getfield 9, 3) := by decide +kernel
theorem dX7_image_4 : decode cX7_image 4 = .ok (.iconst 0, 1) := by decide +kernel
theorem dX7_image_5 : decode cX7_image 5 = .ok (.aload_n 0, 1) := by decide +kernel
theorem dX7_image_6 : decode cX7_image 6 = .ok (.getfield 79, 3) := by decide +kernel
theorem dX7_image_9 : decode cX7_image 9 = .ok (.iconst 0, 1) := by decide +kernel
theorem dX7_image_10 : decode cX7_image 10 = .ok (.sipush 1014, 3) := by decide +kernel
theorem dX7_image_13 : decode cX7_image 13 = .ok (.invokestatic 86, 3) := by decide +kernel
theorem dX7_image_16 : decode cX7_image 16 = .ok (.aload_n 0, 1) := by decide +kernel
theorem dX7_image_17 : decode cX7_image 17 = .ok (.iconst 1, 1) := by decide +kernel
theorem dX7_image_18 : decode cX7_image 18 = .ok (.putfield 348, 3) := by decide +kernel
theorem dX7_image_21 : decode cX7_image 21 = .ok (.aload_n 0, 1) := by decide +kernel
theorem dX7_image_22 : decode cX7_image 22 = .ok (.getfield 9, 3) := by decide +kernel
theorem dX7_image_25 : decode cX7_image 25 = .ok (.iconst 0, 1) := by decide +kernel
theorem dX7_image_26 : decode cX7_image 26 = .ok (.iaload, 1) := by decide +kernel
theorem dX7_image_27 : decode cX7_image 27 = .ok (.ireturn, 1) := by decide +kernel
theorem dX7_back_0 : decode cX7_back 0 = .ok (.aload_n 0, 1) := by decide +kernel
theorem dX7_back_1 : decode cX7_back 1 = .ok (.getfield 348, 3) := by decide +kernel
theorem dX7_back_4 : decode cX7_back 4 = .ok (.ifCond .ne 6, 3) := by decide +kernel
theorem dX7_back_7 : decode cX7_back 7 = .ok (.bipush (-5), 2) := by decide +kernel
theorem dX7_back_9 : decode cX7_back 9 = .ok (.ireturn, 1) := by decide +kernel
theorem dX7_back_10 : decode cX7_back 10 = .ok (.aload_n 0, 1) := by decide +kernel
theorem dX7_back_11 : decode cX7_back 11 = .ok (.getfield 79, 3) := by decide +kernel
theorem dX7_back_14 : decode cX7_back 14 = .ok (.iconst 0, 1) := by decide +kernel
theorem dX7_back_15 : decode cX7_back 15 = .ok (.aload_n 0, 1) := by decide +kernel
theorem dX7_back_16 : decode cX7_back 16 = .ok (.getfield 9, 3) := by decide +kernel
theorem dX7_back_19 : decode cX7_back 19 = .ok (.iconst 0, 1) := by decide +kernel
theorem dX7_back_20 : decode cX7_back 20 = .ok (.sipush 1014, 3) := by decide +kernel
theorem dX7_back_23 : decode cX7_back 23 = .ok (.invokestatic 86, 3) := by decide +kernel
theorem dX7_back_26 : decode cX7_back 26 = .ok (.aload_n 0, 1) := by decide +kernel
theorem dX7_back_27 : decode cX7_back 27 = .ok (.getfield 79, 3) := by decide +kernel
theorem dX7_back_30 : decode cX7_back 30 = .ok (.iconst 0, 1) := by decide +kernel
theorem dX7_back_31 : decode cX7_back 31 = .ok (.aload_n 0, 1) := by decide +kernel
theorem dX7_back_32 : decode cX7_back 32 = .ok (.getfield 13, 3) := by decide +kernel
theorem dX7_back_35 : decode cX7_back 35 = .ok (.iconst 0, 1) := by decide +kernel
theorem dX7_back_36 : decode cX7_back 36 = .ok (.sipush 1014, 3) := by decide +kernel
theorem dX7_back_39 : decode cX7_back 39 = .ok (.invokestatic 86, 3) := by decide +kernel
theorem dX7_back_42 : decode cX7_back 42 = .ok (.aload_n 0, 1) := by decide +kernel
theorem dX7_back_43 : decode cX7_back 43 = .ok (.iconst 0, 1) := by decide +kernel
theorem dX7_back_44 : decode cX7_back 44 = .ok (.putfield 148, 3) := by decide +kernel
theorem dX7_back_47 : decode cX7_back 47 = .ok (.aload_n 0, 1) := by decide +kernel
theorem dX7_back_48 : decode cX7_back 48 = .ok (.iconst 0, 1) := by decide +kernel
theorem dX7_back_49 : decode cX7_back 49 = .ok (.putfield 152, 3) := by decide +kernel
theorem dX7_back_52 : decode cX7_back 52 = .ok (.aload_n 0, 1) := by decide +kernel
theorem dX7_back_53 : decode cX7_back 53 = .ok (.getfield 9, 3) := by decide +kernel
theorem dX7_back_56 : decode cX7_back 56 = .ok (.iconst 0, 1) := by decide +kernel
theorem dX7_back_57 : decode cX7_back 57 = .ok (.iaload, 1) := by decide +kernel
theorem dX7_back_58 : decode cX7_back 58 = .ok (.ireturn, 1) := by decide +kernel
theorem dX7_count_0 : decode cX7_count 0 = .ok (.iconst 0, 1) := by decide +kernel
theorem dX7_count_1 : decode cX7_count 1 = .ok (.istore_n 2, 1) := by decide +kernel
theorem dX7_count_2 : decode cX7_count 2 = .ok (.iload_n 1, 1) := by decide +kernel
theorem dX7_count_3 : decode cX7_count 3 = .ok (.tableswitch 244 0 8 #[49, 56, 80, 118, 155, 194, 199, 232, 239], 49) := by decide +kernel
theorem dX7_count_52 : decode cX7_count 52 = .ok (.aload_n 0, 1) := by decide +kernel
theorem dX7_count_53 : decode cX7_count 53 = .ok (.getfield 9, 3) := by decide +kernel
theorem dX7_count_56 : decode cX7_count 56 = .ok (.iconst 2, 1) := by decide +kernel
theorem dX7_count_57 : decode cX7_count 57 = .ok (.iaload, 1) := by decide +kernel
theorem dX7_count_58 : decode cX7_count 58 = .ok (.ireturn, 1) := by decide +kernel
theorem dX7_count_59 : decode cX7_count 59 = .ok (.iconst 0, 1) := by decide +kernel
theorem dX7_count_60 : decode cX7_count 60 = .ok (.istore_n 3, 1) := by decide +kernel
theorem dX7_count_61 : decode cX7_count 61 = .ok (.iload_n 3, 1) := by decide +kernel
theorem dX7_count_62 : decode cX7_count 62 = .ok (.bipush 6, 2) := by decide +kernel
theorem dX7_count_64 : decode cX7_count 64 = .ok (.if_icmp .ge 17, 3) := by decide +kernel
theorem dX7_count_67 : decode cX7_count 67 = .ok (.iload_n 2, 1) := by decide +kernel
theorem dX7_count_68 : decode cX7_count 68 = .ok (.aload_n 0, 1) := by decide +kernel
theorem dX7_count_69 : decode cX7_count 69 = .ok (.iload_n 3, 1) := by decide +kernel
theorem dX7_count_70 : decode cX7_count 70 = .ok (.invokevirtual 131, 3) := by decide +kernel
theorem dX7_count_73 : decode cX7_count 73 = .ok (.iadd, 1) := by decide +kernel
theorem dX7_count_74 : decode cX7_count 74 = .ok (.istore_n 2, 1) := by decide +kernel
theorem dX7_count_75 : decode cX7_count 75 = .ok (.iinc 3 1, 3) := by decide +kernel
theorem dX7_count_78 : decode cX7_count 78 = .ok (.goto (-17), 3) := by decide +kernel
theorem dX7_count_81 : decode cX7_count 81 = .ok (.iload_n 2, 1) := by decide +kernel
theorem dX7_count_82 : decode cX7_count 82 = .ok (.ireturn, 1) := by decide +kernel
theorem dX7_count_83 : decode cX7_count 83 = .ok (.iconst 0, 1) := by decide +kernel
theorem dX7_count_84 : decode cX7_count 84 = .ok (.istore_n 3, 1) := by decide +kernel
theorem dX7_count_85 : decode cX7_count 85 = .ok (.iload_n 3, 1) := by decide +kernel
theorem dX7_count_86 : decode cX7_count 86 = .ok (.bipush 60, 2) := by decide +kernel
theorem dX7_count_88 : decode cX7_count 88 = .ok (.if_icmp .ge 31, 3) := by decide +kernel
theorem dX7_count_91 : decode cX7_count 91 = .ok (.iload_n 2, 1) := by decide +kernel
theorem dX7_count_92 : decode cX7_count 92 = .ok (.aload_n 0, 1) := by decide +kernel
theorem dX7_count_93 : decode cX7_count 93 = .ok (.sipush 702, 3) := by decide +kernel
theorem dX7_count_96 : decode cX7_count 96 = .ok (.iconst 3, 1) := by decide +kernel
theorem dX7_count_97 : decode cX7_count 97 = .ok (.iload_n 3, 1) := by decide +kernel
theorem dX7_count_98 : decode cX7_count 98 = .ok (.imul, 1) := by decide +kernel
theorem dX7_count_99 : decode cX7_count 99 = .ok (.iadd, 1) := by decide +kernel
theorem dX7_count_100 : decode cX7_count 100 = .ok (.invokevirtual 115, 3) := by decide +kernel
theorem dX7_count_103 : decode cX7_count 103 = .ok (.ifCond .eq 7, 3) := by decide +kernel
theorem dX7_count_106 : decode cX7_count 106 = .ok (.iconst 1, 1) := by decide +kernel
theorem dX7_count_107 : decode cX7_count 107 = .ok (.goto 4, 3) := by decide +kernel
theorem dX7_count_110 : decode cX7_count 110 = .ok (.iconst 0, 1) := by decide +kernel
theorem dX7_count_111 : decode cX7_count 111 = .ok (.iadd, 1) := by decide +kernel
theorem dX7_count_112 : decode cX7_count 112 = .ok (.istore_n 2, 1) := by decide +kernel
theorem dX7_count_113 : decode cX7_count 113 = .ok (.iinc 3 1, 3) := by decide +kernel
theorem dX7_count_116 : decode cX7_count 116 = .ok (.goto (-31), 3) := by decide +kernel
theorem dX7_count_119 : decode cX7_count 119 = .ok (.iload_n 2, 1) := by decide +kernel
theorem dX7_count_120 : decode cX7_count 120 = .ok (.ireturn, 1) := by decide +kernel
theorem dX7_count_121 : decode cX7_count 121 = .ok (.iconst 0, 1) := by decide +kernel
theorem dX7_count_122 : decode cX7_count 122 = .ok (.istore_n 3, 1) := by decide +kernel
theorem dX7_count_123 : decode cX7_count 123 = .ok (.iload_n 3, 1) := by decide +kernel
theorem dX7_count_124 : decode cX7_count 124 = .ok (.bipush 30, 2) := by decide +kernel
theorem dX7_count_126 : decode cX7_count 126 = .ok (.if_icmp .ge 30, 3) := by decide +kernel
theorem dX7_count_129 : decode cX7_count 129 = .ok (.iload_n 2, 1) := by decide +kernel
theorem dX7_count_130 : decode cX7_count 130 = .ok (.aload_n 0, 1) := by decide +kernel
theorem dX7_count_131 : decode cX7_count 131 = .ok (.getfield 9, 3) := by decide +kernel
theorem dX7_count_134 : decode cX7_count 134 = .ok (.sipush 942, 3) := by decide +kernel
theorem dX7_count_137 : decode cX7_count 137 = .ok (.iload_n 3, 1) := by decide +kernel
theorem dX7_count_138 : decode cX7_count 138 = .ok (.iadd, 1) := by decide +kernel
theorem dX7_count_139 : decode cX7_count 139 = .ok (.iaload, 1) := by decide +kernel
theorem dX7_count_140 : decode cX7_count 140 = .ok (.ifCond .le 7, 3) := by decide +kernel
theorem dX7_count_143 : decode cX7_count 143 = .ok (.iconst 1, 1) := by decide +kernel
theorem dX7_count_144 : decode cX7_count 144 = .ok (.goto 4, 3) := by decide +kernel
theorem dX7_count_147 : decode cX7_count 147 = .ok (.iconst 0, 1) := by decide +kernel
theorem dX7_count_148 : decode cX7_count 148 = .ok (.iadd, 1) := by decide +kernel
theorem dX7_count_149 : decode cX7_count 149 = .ok (.istore_n 2, 1) := by decide +kernel
theorem dX7_count_150 : decode cX7_count 150 = .ok (.iinc 3 1, 3) := by decide +kernel
theorem dX7_count_153 : decode cX7_count 153 = .ok (.goto (-30), 3) := by decide +kernel
theorem dX7_count_156 : decode cX7_count 156 = .ok (.iload_n 2, 1) := by decide +kernel
theorem dX7_count_157 : decode cX7_count 157 = .ok (.ireturn, 1) := by decide +kernel
theorem dX7_count_158 : decode cX7_count 158 = .ok (.iconst 0, 1) := by decide +kernel
theorem dX7_count_159 : decode cX7_count 159 = .ok (.istore_n 3, 1) := by decide +kernel
theorem dX7_count_160 : decode cX7_count 160 = .ok (.iload_n 3, 1) := by decide +kernel
theorem dX7_count_161 : decode cX7_count 161 = .ok (.bipush 6, 2) := by decide +kernel
theorem dX7_count_163 : decode cX7_count 163 = .ok (.if_icmp .ge 32, 3) := by decide +kernel
theorem dX7_count_166 : decode cX7_count 166 = .ok (.iload_n 2, 1) := by decide +kernel
theorem dX7_count_167 : decode cX7_count 167 = .ok (.aload_n 0, 1) := by decide +kernel
theorem dX7_count_168 : decode cX7_count 168 = .ok (.getfield 9, 3) := by decide +kernel
theorem dX7_count_171 : decode cX7_count 171 = .ok (.iload_n 3, 1) := by decide +kernel
theorem dX7_count_172 : decode cX7_count 172 = .ok (.invokestatic 82, 3) := by decide +kernel
theorem dX7_count_175 : decode cX7_count 175 = .ok (.iconst 1, 1) := by decide +kernel
theorem dX7_count_176 : decode cX7_count 176 = .ok (.iadd, 1) := by decide +kernel
theorem dX7_count_177 : decode cX7_count 177 = .ok (.iaload, 1) := by decide +kernel
theorem dX7_count_178 : decode cX7_count 178 = .ok (.iconst (-1), 1) := by decide +kernel
theorem dX7_count_179 : decode cX7_count 179 = .ok (.if_icmp .ne 7, 3) := by decide +kernel
theorem dX7_count_182 : decode cX7_count 182 = .ok (.iconst 0, 1) := by decide +kernel
theorem dX7_count_183 : decode cX7_count 183 = .ok (.goto 4, 3) := by decide +kernel
theorem dX7_count_186 : decode cX7_count 186 = .ok (.iconst 1, 1) := by decide +kernel
theorem dX7_count_187 : decode cX7_count 187 = .ok (.iadd, 1) := by decide +kernel
theorem dX7_count_188 : decode cX7_count 188 = .ok (.istore_n 2, 1) := by decide +kernel
theorem dX7_count_189 : decode cX7_count 189 = .ok (.iinc 3 1, 3) := by decide +kernel
theorem dX7_count_192 : decode cX7_count 192 = .ok (.goto (-32), 3) := by decide +kernel
theorem dX7_count_195 : decode cX7_count 195 = .ok (.iload_n 2, 1) := by decide +kernel
theorem dX7_count_196 : decode cX7_count 196 = .ok (.ireturn, 1) := by decide +kernel
theorem dX7_count_197 : decode cX7_count 197 = .ok (.aload_n 0, 1) := by decide +kernel
theorem dX7_count_198 : decode cX7_count 198 = .ok (.getfield 218, 3) := by decide +kernel
theorem dX7_count_201 : decode cX7_count 201 = .ok (.ireturn, 1) := by decide +kernel
theorem dX7_count_202 : decode cX7_count 202 = .ok (.iconst 0, 1) := by decide +kernel
theorem dX7_count_203 : decode cX7_count 203 = .ok (.istore_n 3, 1) := by decide +kernel
theorem dX7_count_204 : decode cX7_count 204 = .ok (.iload_n 3, 1) := by decide +kernel
theorem dX7_count_205 : decode cX7_count 205 = .ok (.bipush 6, 2) := by decide +kernel
theorem dX7_count_207 : decode cX7_count 207 = .ok (.if_icmp .ge 26, 3) := by decide +kernel
theorem dX7_count_210 : decode cX7_count 210 = .ok (.iload_n 2, 1) := by decide +kernel
theorem dX7_count_211 : decode cX7_count 211 = .ok (.aload_n 0, 1) := by decide +kernel
theorem dX7_count_212 : decode cX7_count 212 = .ok (.getfield 25, 3) := by decide +kernel
theorem dX7_count_215 : decode cX7_count 215 = .ok (.iload_n 3, 1) := by decide +kernel
theorem dX7_count_216 : decode cX7_count 216 = .ok (.iaload, 1) := by decide +kernel
theorem dX7_count_217 : decode cX7_count 217 = .ok (.ifCond .le 7, 3) := by decide +kernel
theorem dX7_count_220 : decode cX7_count 220 = .ok (.iconst 1, 1) := by decide +kernel
theorem dX7_count_221 : decode cX7_count 221 = .ok (.goto 4, 3) := by decide +kernel
theorem dX7_count_224 : decode cX7_count 224 = .ok (.iconst 0, 1) := by decide +kernel
theorem dX7_count_225 : decode cX7_count 225 = .ok (.iadd, 1) := by decide +kernel
theorem dX7_count_226 : decode cX7_count 226 = .ok (.istore_n 2, 1) := by decide +kernel
theorem dX7_count_227 : decode cX7_count 227 = .ok (.iinc 3 1, 3) := by decide +kernel
theorem dX7_count_230 : decode cX7_count 230 = .ok (.goto (-26), 3) := by decide +kernel
theorem dX7_count_233 : decode cX7_count 233 = .ok (.iload_n 2, 1) := by decide +kernel
theorem dX7_count_234 : decode cX7_count 234 = .ok (.ireturn, 1) := by decide +kernel
theorem dX7_count_235 : decode cX7_count 235 = .ok (.aload_n 0, 1) := by decide +kernel
theorem dX7_count_236 : decode cX7_count 236 = .ok (.getfield 9, 3) := by decide +kernel
theorem dX7_count_239 : decode cX7_count 239 = .ok (.iconst 0, 1) := by decide +kernel
theorem dX7_count_240 : decode cX7_count 240 = .ok (.iaload, 1) := by decide +kernel
theorem dX7_count_241 : decode cX7_count 241 = .ok (.ireturn, 1) := by decide +kernel
theorem dX7_count_242 : decode cX7_count 242 = .ok (.aload_n 0, 1) := by decide +kernel
theorem dX7_count_243 : decode cX7_count 243 = .ok (.getfield 148, 3) := by decide +kernel
theorem dX7_count_246 : decode cX7_count 246 = .ok (.ireturn, 1) := by decide +kernel
theorem dX7_count_247 : decode cX7_count 247 = .ok (.iconst (-1), 1) := by decide +kernel
theorem dX7_count_248 : decode cX7_count 248 = .ok (.ireturn, 1) := by decide +kernel

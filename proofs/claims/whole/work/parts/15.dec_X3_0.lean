theorem dX3_init_0 : decode cX3_init 0 = .ok (.aload_n 0, 1) := by decide +kernel
theorem dX3_init_1 : decode cX3_init 1 = .ok (.invokespecial 3, 3) := by decide +kernel
theorem dX3_init_4 : decode cX3_init 4 = .ok (.aload_n 0, 1) := by decide +kernel
theorem dX3_init_5 : decode cX3_init 5 = .ok (.aload_n 1, 1) := by decide +kernel
theorem dX3_init_6 : decode cX3_init 6 = .ok (.putfield 9, 3) := by decide +kernel
theorem dX3_init_9 : decode cX3_init 9 = .ok (.return_, 1) := by decide +kernel
theorem dX3_run_0 : decode cX3_run 0 = .ok (.aload_n 0, 1) := by decide +kernel
theorem dX3_run_1 : decode cX3_run 1 = .ok (.getfield 9, 3) := by decide +kernel
theorem dX3_run_4 : decode cX3_run 4 = .ok (.invokevirtual 15, 3) := by decide +kernel
theorem dX3_run_7 : decode cX3_run 7 = .ok (.istore 4, 2) := by decide +kernel
theorem dX3_run_9 : decode cX3_run 9 = .ok (.aload_n 0, 1) := by decide +kernel
theorem dX3_run_10 : decode cX3_run 10 = .ok (.getfield 9, 3) := by decide +kernel
theorem dX3_run_13 : decode cX3_run 13 = .ok (.iconst 4, 1) := by decide +kernel
theorem dX3_run_14 : decode cX3_run 14 = .ok (.invokevirtual 21, 3) := by decide +kernel
theorem dX3_run_17 : decode cX3_run 17 = .ok (.istore 5, 2) := by decide +kernel
theorem dX3_run_19 : decode cX3_run 19 = .ok (.iload_n 1, 1) := by decide +kernel
theorem dX3_run_20 : decode cX3_run 20 = .ok (.istore 6, 2) := by decide +kernel
theorem dX3_run_22 : decode cX3_run 22 = .ok (.aload_n 0, 1) := by decide +kernel
theorem dX3_run_23 : decode cX3_run 23 = .ok (.iconst 0, 1) := by decide +kernel
theorem dX3_run_24 : decode cX3_run 24 = .ok (.putfield 25, 3) := by decide +kernel
theorem dX3_run_27 : decode cX3_run 27 = .ok (.iload 6, 2) := by decide +kernel
theorem dX3_run_29 : decode cX3_run 29 = .ok (.ifCond .eq 50, 3) := by decide +kernel
theorem dX3_run_32 : decode cX3_run 32 = .ok (.aload_n 0, 1) := by decide +kernel
theorem dX3_run_33 : decode cX3_run 33 = .ok (.getfield 25, 3) := by decide +kernel
theorem dX3_run_36 : decode cX3_run 36 = .ok (.bipush 6, 2) := by decide +kernel
theorem dX3_run_38 : decode cX3_run 38 = .ok (.if_icmp .ge 41, 3) := by decide +kernel
theorem dX3_run_41 : decode cX3_run 41 = .ok (.aload_n 0, 1) := by decide +kernel
theorem dX3_run_42 : decode cX3_run 42 = .ok (.iload 6, 2) := by decide +kernel
theorem dX3_run_44 : decode cX3_run 44 = .ok (.iload_n 2, 1) := by decide +kernel
theorem dX3_run_45 : decode cX3_run 45 = .ok (.iload_n 3, 1) := by decide +kernel
theorem dX3_run_46 : decode cX3_run 46 = .ok (.invokevirtual 29, 3) := by decide +kernel
theorem dX3_run_49 : decode cX3_run 49 = .ok (.istore 6, 2) := by decide +kernel
theorem dX3_run_51 : decode cX3_run 51 = .ok (.aload_n 0, 1) := by decide +kernel
theorem dX3_run_52 : decode cX3_run 52 = .ok (.iload 6, 2) := by decide +kernel
theorem dX3_run_54 : decode cX3_run 54 = .ok (.aload_n 0, 1) := by decide +kernel
theorem dX3_run_55 : decode cX3_run 55 = .ok (.iload 6, 2) := by decide +kernel
theorem dX3_run_57 : decode cX3_run 57 = .ok (.iload_n 2, 1) := by decide +kernel
theorem dX3_run_58 : decode cX3_run 58 = .ok (.invokevirtual 33, 3) := by decide +kernel
theorem dX3_run_61 : decode cX3_run 61 = .ok (.invokevirtual 37, 3) := by decide +kernel
theorem dX3_run_64 : decode cX3_run 64 = .ok (.istore 6, 2) := by decide +kernel
theorem dX3_run_66 : decode cX3_run 66 = .ok (.aload_n 0, 1) := by decide +kernel
theorem dX3_run_67 : decode cX3_run 67 = .ok (.dup, 1) := by decide +kernel
theorem dX3_run_68 : decode cX3_run 68 = .ok (.getfield 25, 3) := by decide +kernel
theorem dX3_run_71 : decode cX3_run 71 = .ok (.iconst 1, 1) := by decide +kernel
theorem dX3_run_72 : decode cX3_run 72 = .ok (.iadd, 1) := by decide +kernel
theorem dX3_run_73 : decode cX3_run 73 = .ok (.putfield 25, 3) := by decide +kernel
theorem dX3_run_76 : decode cX3_run 76 = .ok (.goto (-49), 3) := by decide +kernel
theorem dX3_run_79 : decode cX3_run 79 = .ok (.aload_n 0, 1) := by decide +kernel
theorem dX3_run_80 : decode cX3_run 80 = .ok (.iload_n 1, 1) := by decide +kernel
theorem dX3_run_81 : decode cX3_run 81 = .ok (.invokestatic 40, 3) := by decide +kernel
theorem dX3_run_84 : decode cX3_run 84 = .ok (.iload 6, 2) := by decide +kernel
theorem dX3_run_86 : decode cX3_run 86 = .ok (.invokestatic 40, 3) := by decide +kernel
theorem dX3_run_89 : decode cX3_run 89 = .ok (.isub, 1) := by decide +kernel
theorem dX3_run_90 : decode cX3_run 90 = .ok (.putfield 45, 3) := by decide +kernel
theorem dX3_run_93 : decode cX3_run 93 = .ok (.aload_n 0, 1) := by decide +kernel
theorem dX3_run_94 : decode cX3_run 94 = .ok (.aload_n 0, 1) := by decide +kernel
theorem dX3_run_95 : decode cX3_run 95 = .ok (.getfield 9, 3) := by decide +kernel
theorem dX3_run_98 : decode cX3_run 98 = .ok (.invokevirtual 15, 3) := by decide +kernel
theorem dX3_run_101 : decode cX3_run 101 = .ok (.iload 4, 2) := by decide +kernel
theorem dX3_run_103 : decode cX3_run 103 = .ok (.isub, 1) := by decide +kernel
theorem dX3_run_104 : decode cX3_run 104 = .ok (.putfield 48, 3) := by decide +kernel
theorem dX3_run_107 : decode cX3_run 107 = .ok (.aload_n 0, 1) := by decide +kernel
theorem dX3_run_108 : decode cX3_run 108 = .ok (.aload_n 0, 1) := by decide +kernel
theorem dX3_run_109 : decode cX3_run 109 = .ok (.getfield 9, 3) := by decide +kernel
theorem dX3_run_112 : decode cX3_run 112 = .ok (.iconst 4, 1) := by decide +kernel
theorem dX3_run_113 : decode cX3_run 113 = .ok (.invokevirtual 21, 3) := by decide +kernel
theorem dX3_run_116 : decode cX3_run 116 = .ok (.iload 5, 2) := by decide +kernel
theorem dX3_run_118 : decode cX3_run 118 = .ok (.isub, 1) := by decide +kernel
theorem dX3_run_119 : decode cX3_run 119 = .ok (.putfield 51, 3) := by decide +kernel
theorem dX3_run_122 : decode cX3_run 122 = .ok (.return_, 1) := by decide +kernel
theorem dX3_obtainAll_0 : decode cX3_obtainAll 0 = .ok (.iload_n 1, 1) := by decide +kernel
theorem dX3_obtainAll_1 : decode cX3_obtainAll 1 = .ok (.istore 4, 2) := by decide +kernel
theorem dX3_obtainAll_3 : decode cX3_obtainAll 3 = .ok (.iconst 0, 1) := by decide +kernel
theorem dX3_obtainAll_4 : decode cX3_obtainAll 4 = .ok (.istore 5, 2) := by decide +kernel
theorem dX3_obtainAll_6 : decode cX3_obtainAll 6 = .ok (.iload 5, 2) := by decide +kernel
theorem dX3_obtainAll_8 : decode cX3_obtainAll 8 = .ok (.bipush 6, 2) := by decide +kernel
theorem dX3_obtainAll_10 : decode cX3_obtainAll 10 = .ok (.if_icmp .ge 59, 3) := by decide +kernel
theorem dX3_obtainAll_13 : decode cX3_obtainAll 13 = .ok (.iload_n 1, 1) := by decide +kernel
theorem dX3_obtainAll_14 : decode cX3_obtainAll 14 = .ok (.iload 5, 2) := by decide +kernel
theorem dX3_obtainAll_16 : decode cX3_obtainAll 16 = .ok (.ishr, 1) := by decide +kernel
theorem dX3_obtainAll_17 : decode cX3_obtainAll 17 = .ok (.iconst 1, 1) := by decide +kernel
theorem dX3_obtainAll_18 : decode cX3_obtainAll 18 = .ok (.iand, 1) := by decide +kernel
theorem dX3_obtainAll_19 : decode cX3_obtainAll 19 = .ok (.iconst 1, 1) := by decide +kernel
theorem dX3_obtainAll_20 : decode cX3_obtainAll 20 = .ok (.if_icmp .ne 43, 3) := by decide +kernel
theorem dX3_obtainAll_23 : decode cX3_obtainAll 23 = .ok (.aload_n 0, 1) := by decide +kernel
theorem dX3_obtainAll_24 : decode cX3_obtainAll 24 = .ok (.getfield 9, 3) := by decide +kernel
theorem dX3_obtainAll_27 : decode cX3_obtainAll 27 = .ok (.iload 5, 2) := by decide +kernel
theorem dX3_obtainAll_29 : decode cX3_obtainAll 29 = .ok (.iload_n 2, 1) := by decide +kernel
theorem dX3_obtainAll_30 : decode cX3_obtainAll 30 = .ok (.invokevirtual 54, 3) := by decide +kernel
theorem dX3_obtainAll_33 : decode cX3_obtainAll 33 = .ok (.istore 6, 2) := by decide +kernel
theorem dX3_obtainAll_35 : decode cX3_obtainAll 35 = .ok (.iload 6, 2) := by decide +kernel
theorem dX3_obtainAll_37 : decode cX3_obtainAll 37 = .ok (.ifCond .lt 26, 3) := by decide +kernel
theorem dX3_obtainAll_40 : decode cX3_obtainAll 40 = .ok (.iload 6, 2) := by decide +kernel
theorem dX3_obtainAll_42 : decode cX3_obtainAll 42 = .ok (.sipush 1000, 3) := by decide +kernel
theorem dX3_obtainAll_45 : decode cX3_obtainAll 45 = .ok (.if_icmp .lt 7, 3) := by decide +kernel
theorem dX3_obtainAll_48 : decode cX3_obtainAll 48 = .ok (.iload_n 3, 1) := by decide +kernel
theorem dX3_obtainAll_49 : decode cX3_obtainAll 49 = .ok (.ifCond .eq 14, 3) := by decide +kernel
theorem dX3_obtainAll_52 : decode cX3_obtainAll 52 = .ok (.iload 4, 2) := by decide +kernel
theorem dX3_obtainAll_54 : decode cX3_obtainAll 54 = .ok (.iconst 1, 1) := by decide +kernel
theorem dX3_obtainAll_55 : decode cX3_obtainAll 55 = .ok (.iload 5, 2) := by decide +kernel
theorem dX3_obtainAll_57 : decode cX3_obtainAll 57 = .ok (.ishl, 1) := by decide +kernel
theorem dX3_obtainAll_58 : decode cX3_obtainAll 58 = .ok (.iconst (-1), 1) := by decide +kernel
theorem dX3_obtainAll_59 : decode cX3_obtainAll 59 = .ok (.ixor, 1) := by decide +kernel
theorem dX3_obtainAll_60 : decode cX3_obtainAll 60 = .ok (.iand, 1) := by decide +kernel
theorem dX3_obtainAll_61 : decode cX3_obtainAll 61 = .ok (.istore 4, 2) := by decide +kernel
theorem dX3_obtainAll_63 : decode cX3_obtainAll 63 = .ok (.iinc 5 1, 3) := by decide +kernel
theorem dX3_obtainAll_66 : decode cX3_obtainAll 66 = .ok (.goto (-60), 3) := by decide +kernel
theorem dX3_obtainAll_69 : decode cX3_obtainAll 69 = .ok (.iload 4, 2) := by decide +kernel
theorem dX3_obtainAll_71 : decode cX3_obtainAll 71 = .ok (.ireturn, 1) := by decide +kernel
theorem dX3_lookAll_0 : decode cX3_lookAll 0 = .ok (.iconst 0, 1) := by decide +kernel
theorem dX3_lookAll_1 : decode cX3_lookAll 1 = .ok (.istore_n 3, 1) := by decide +kernel
theorem dX3_lookAll_2 : decode cX3_lookAll 2 = .ok (.iconst 0, 1) := by decide +kernel
theorem dX3_lookAll_3 : decode cX3_lookAll 3 = .ok (.istore 4, 2) := by decide +kernel
theorem dX3_lookAll_5 : decode cX3_lookAll 5 = .ok (.iload 4, 2) := by decide +kernel
theorem dX3_lookAll_7 : decode cX3_lookAll 7 = .ok (.bipush 6, 2) := by decide +kernel
theorem dX3_lookAll_9 : decode cX3_lookAll 9 = .ok (.if_icmp .ge 49, 3) := by decide +kernel
theorem dX3_lookAll_12 : decode cX3_lookAll 12 = .ok (.iload_n 1, 1) := by decide +kernel
theorem dX3_lookAll_13 : decode cX3_lookAll 13 = .ok (.iload 4, 2) := by decide +kernel
theorem dX3_lookAll_15 : decode cX3_lookAll 15 = .ok (.ishr, 1) := by decide +kernel
theorem dX3_lookAll_16 : decode cX3_lookAll 16 = .ok (.iconst 1, 1) := by decide +kernel
theorem dX3_lookAll_17 : decode cX3_lookAll 17 = .ok (.iand, 1) := by decide +kernel
theorem dX3_lookAll_18 : decode cX3_lookAll 18 = .ok (.iconst 1, 1) := by decide +kernel
theorem dX3_lookAll_19 : decode cX3_lookAll 19 = .ok (.if_icmp .ne 33, 3) := by decide +kernel
theorem dX3_lookAll_22 : decode cX3_lookAll 22 = .ok (.aload_n 0, 1) := by decide +kernel
theorem dX3_lookAll_23 : decode cX3_lookAll 23 = .ok (.getfield 9, 3) := by decide +kernel
theorem dX3_lookAll_26 : decode cX3_lookAll 26 = .ok (.iload 4, 2) := by decide +kernel
theorem dX3_lookAll_28 : decode cX3_lookAll 28 = .ok (.iload_n 2, 1) := by decide +kernel
theorem dX3_lookAll_29 : decode cX3_lookAll 29 = .ok (.invokevirtual 57, 3) := by decide +kernel
theorem dX3_lookAll_32 : decode cX3_lookAll 32 = .ok (.ifCond .eq 20, 3) := by decide +kernel
theorem dX3_lookAll_35 : decode cX3_lookAll 35 = .ok (.aload_n 0, 1) := by decide +kernel
theorem dX3_lookAll_36 : decode cX3_lookAll 36 = .ok (.getfield 9, 3) := by decide +kernel
theorem dX3_lookAll_39 : decode cX3_lookAll 39 = .ok (.iload 4, 2) := by decide +kernel
theorem dX3_lookAll_41 : decode cX3_lookAll 41 = .ok (.invokevirtual 61, 3) := by decide +kernel
theorem dX3_lookAll_44 : decode cX3_lookAll 44 = .ok (.pop, 1) := by decide +kernel
theorem dX3_lookAll_45 : decode cX3_lookAll 45 = .ok (.iload_n 3, 1) := by decide +kernel
theorem dX3_lookAll_46 : decode cX3_lookAll 46 = .ok (.iconst 1, 1) := by decide +kernel
theorem dX3_lookAll_47 : decode cX3_lookAll 47 = .ok (.iload 4, 2) := by decide +kernel
theorem dX3_lookAll_49 : decode cX3_lookAll 49 = .ok (.ishl, 1) := by decide +kernel
theorem dX3_lookAll_50 : decode cX3_lookAll 50 = .ok (.ior, 1) := by decide +kernel
theorem dX3_lookAll_51 : decode cX3_lookAll 51 = .ok (.istore_n 3, 1) := by decide +kernel
theorem dX3_lookAll_52 : decode cX3_lookAll 52 = .ok (.iinc 4 1, 3) := by decide +kernel
theorem dX3_lookAll_55 : decode cX3_lookAll 55 = .ok (.goto (-50), 3) := by decide +kernel
theorem dX3_lookAll_58 : decode cX3_lookAll 58 = .ok (.iload_n 3, 1) := by decide +kernel
theorem dX3_lookAll_59 : decode cX3_lookAll 59 = .ok (.ireturn, 1) := by decide +kernel
theorem dX3_fillAll_0 : decode cX3_fillAll 0 = .ok (.iconst 0, 1) := by decide +kernel
theorem dX3_fillAll_1 : decode cX3_fillAll 1 = .ok (.istore_n 3, 1) := by decide +kernel
theorem dX3_fillAll_2 : decode cX3_fillAll 2 = .ok (.iload_n 3, 1) := by decide +kernel
theorem dX3_fillAll_3 : decode cX3_fillAll 3 = .ok (.bipush 6, 2) := by decide +kernel
theorem dX3_fillAll_5 : decode cX3_fillAll 5 = .ok (.if_icmp .ge 27, 3) := by decide +kernel
theorem dX3_fillAll_8 : decode cX3_fillAll 8 = .ok (.iload_n 2, 1) := by decide +kernel
theorem dX3_fillAll_9 : decode cX3_fillAll 9 = .ok (.iload_n 3, 1) := by decide +kernel
theorem dX3_fillAll_10 : decode cX3_fillAll 10 = .ok (.ishr, 1) := by decide +kernel
theorem dX3_fillAll_11 : decode cX3_fillAll 11 = .ok (.iconst 1, 1) := by decide +kernel
theorem dX3_fillAll_12 : decode cX3_fillAll 12 = .ok (.iand, 1) := by decide +kernel
theorem dX3_fillAll_13 : decode cX3_fillAll 13 = .ok (.iconst 1, 1) := by decide +kernel
theorem dX3_fillAll_14 : decode cX3_fillAll 14 = .ok (.if_icmp .ne 12, 3) := by decide +kernel
theorem dX3_fillAll_17 : decode cX3_fillAll 17 = .ok (.aload_n 0, 1) := by decide +kernel
theorem dX3_fillAll_18 : decode cX3_fillAll 18 = .ok (.getfield 9, 3) := by decide +kernel
theorem dX3_fillAll_21 : decode cX3_fillAll 21 = .ok (.iload_n 3, 1) := by decide +kernel
theorem dX3_fillAll_22 : decode cX3_fillAll 22 = .ok (.invokevirtual 64, 3) := by decide +kernel
theorem dX3_fillAll_25 : decode cX3_fillAll 25 = .ok (.pop, 1) := by decide +kernel
theorem dX3_fillAll_26 : decode cX3_fillAll 26 = .ok (.iinc 3 1, 3) := by decide +kernel
theorem dX3_fillAll_29 : decode cX3_fillAll 29 = .ok (.goto (-27), 3) := by decide +kernel
theorem dX3_fillAll_32 : decode cX3_fillAll 32 = .ok (.iload_n 1, 1) := by decide +kernel
theorem dX3_fillAll_33 : decode cX3_fillAll 33 = .ok (.iload_n 2, 1) := by decide +kernel
theorem dX3_fillAll_34 : decode cX3_fillAll 34 = .ok (.iconst (-1), 1) := by decide +kernel
theorem dX3_fillAll_35 : decode cX3_fillAll 35 = .ok (.ixor, 1) := by decide +kernel
theorem dX3_fillAll_36 : decode cX3_fillAll 36 = .ok (.iand, 1) := by decide +kernel
theorem dX3_fillAll_37 : decode cX3_fillAll 37 = .ok (.ireturn, 1) := by decide +kernel
theorem dX3_outcome_0 : decode cX3_outcome 0 = .ok (.iload_n 1, 1) := by decide +kernel
theorem dX3_outcome_1 : decode cX3_outcome 1 = .ok (.tableswitch 42 0 2 #[27, 32, 37], 27) := by decide +kernel
theorem dX3_outcome_28 : decode cX3_outcome 28 = .ok (.aload_n 0, 1) := by decide +kernel
theorem dX3_outcome_29 : decode cX3_outcome 29 = .ok (.getfield 25, 3) := by decide +kernel
theorem dX3_outcome_32 : decode cX3_outcome 32 = .ok (.ireturn, 1) := by decide +kernel
theorem dX3_outcome_33 : decode cX3_outcome 33 = .ok (.aload_n 0, 1) := by decide +kernel
theorem dX3_outcome_34 : decode cX3_outcome 34 = .ok (.getfield 48, 3) := by decide +kernel
theorem dX3_outcome_37 : decode cX3_outcome 37 = .ok (.ireturn, 1) := by decide +kernel
theorem dX3_outcome_38 : decode cX3_outcome 38 = .ok (.aload_n 0, 1) := by decide +kernel
theorem dX3_outcome_39 : decode cX3_outcome 39 = .ok (.getfield 45, 3) := by decide +kernel
theorem dX3_outcome_42 : decode cX3_outcome 42 = .ok (.ireturn, 1) := by decide +kernel
theorem dX3_outcome_43 : decode cX3_outcome 43 = .ok (.aload_n 0, 1) := by decide +kernel
theorem dX3_outcome_44 : decode cX3_outcome 44 = .ok (.getfield 51, 3) := by decide +kernel
theorem dX3_outcome_47 : decode cX3_outcome 47 = .ok (.ireturn, 1) := by decide +kernel

theorem dX5_install_186 : decode cX5_install 186 = .ok (.dup2, 1) := by decide +kernel
theorem dX5_install_187 : decode cX5_install 187 = .ok (.iaload, 1) := by decide +kernel
theorem dX5_install_188 : decode cX5_install 188 = .ok (.iconst 1, 1) := by decide +kernel
theorem dX5_install_189 : decode cX5_install 189 = .ok (.iadd, 1) := by decide +kernel
theorem dX5_install_190 : decode cX5_install 190 = .ok (.iastore, 1) := by decide +kernel
theorem dX5_install_191 : decode cX5_install 191 = .ok (.return_, 1) := by decide +kernel
theorem dX5_writeDown_0 : decode cX5_writeDown 0 = .ok (.aload_n 0, 1) := by decide +kernel
theorem dX5_writeDown_1 : decode cX5_writeDown 1 = .ok (.invokevirtual 45, 3) := by decide +kernel
theorem dX5_writeDown_4 : decode cX5_writeDown 4 = .ok (.bipush 60, 2) := by decide +kernel
theorem dX5_writeDown_6 : decode cX5_writeDown 6 = .ok (.if_icmp .lt 6, 3) := by decide +kernel
theorem dX5_writeDown_9 : decode cX5_writeDown 9 = .ok (.bipush (-3), 2) := by decide +kernel
theorem dX5_writeDown_11 : decode cX5_writeDown 11 = .ok (.ireturn, 1) := by decide +kernel
theorem dX5_writeDown_12 : decode cX5_writeDown 12 = .ok (.aload_n 0, 1) := by decide +kernel
theorem dX5_writeDown_13 : decode cX5_writeDown 13 = .ok (.invokevirtual 45, 3) := by decide +kernel
theorem dX5_writeDown_16 : decode cX5_writeDown 16 = .ok (.iconst 1, 1) := by decide +kernel
theorem dX5_writeDown_17 : decode cX5_writeDown 17 = .ok (.iadd, 1) := by decide +kernel
theorem dX5_writeDown_18 : decode cX5_writeDown 18 = .ok (.istore 4, 2) := by decide +kernel
theorem dX5_writeDown_20 : decode cX5_writeDown 20 = .ok (.iload 4, 2) := by decide +kernel
theorem dX5_writeDown_22 : decode cX5_writeDown 22 = .ok (.invokestatic 42, 3) := by decide +kernel
theorem dX5_writeDown_25 : decode cX5_writeDown 25 = .ok (.istore 5, 2) := by decide +kernel
theorem dX5_writeDown_27 : decode cX5_writeDown 27 = .ok (.aload_n 0, 1) := by decide +kernel
theorem dX5_writeDown_28 : decode cX5_writeDown 28 = .ok (.getfield 11, 3) := by decide +kernel
theorem dX5_writeDown_31 : decode cX5_writeDown 31 = .ok (.iload 5, 2) := by decide +kernel
theorem dX5_writeDown_33 : decode cX5_writeDown 33 = .ok (.iconst 0, 1) := by decide +kernel
theorem dX5_writeDown_34 : decode cX5_writeDown 34 = .ok (.iadd, 1) := by decide +kernel
theorem dX5_writeDown_35 : decode cX5_writeDown 35 = .ok (.iload_n 2, 1) := by decide +kernel
theorem dX5_writeDown_36 : decode cX5_writeDown 36 = .ok (.iastore, 1) := by decide +kernel
theorem dX5_writeDown_37 : decode cX5_writeDown 37 = .ok (.aload_n 0, 1) := by decide +kernel
theorem dX5_writeDown_38 : decode cX5_writeDown 38 = .ok (.getfield 11, 3) := by decide +kernel
theorem dX5_writeDown_41 : decode cX5_writeDown 41 = .ok (.iload 5, 2) := by decide +kernel
theorem dX5_writeDown_43 : decode cX5_writeDown 43 = .ok (.iconst 1, 1) := by decide +kernel
theorem dX5_writeDown_44 : decode cX5_writeDown 44 = .ok (.iadd, 1) := by decide +kernel
theorem dX5_writeDown_45 : decode cX5_writeDown 45 = .ok (.iload_n 3, 1) := by decide +kernel
theorem dX5_writeDown_46 : decode cX5_writeDown 46 = .ok (.iastore, 1) := by decide +kernel
theorem dX5_writeDown_47 : decode cX5_writeDown 47 = .ok (.aload_n 0, 1) := by decide +kernel
theorem dX5_writeDown_48 : decode cX5_writeDown 48 = .ok (.getfield 11, 3) := by decide +kernel
theorem dX5_writeDown_51 : decode cX5_writeDown 51 = .ok (.iload 5, 2) := by decide +kernel
theorem dX5_writeDown_53 : decode cX5_writeDown 53 = .ok (.iconst 2, 1) := by decide +kernel
theorem dX5_writeDown_54 : decode cX5_writeDown 54 = .ok (.iadd, 1) := by decide +kernel
theorem dX5_writeDown_55 : decode cX5_writeDown 55 = .ok (.iload_n 1, 1) := by decide +kernel
theorem dX5_writeDown_56 : decode cX5_writeDown 56 = .ok (.iastore, 1) := by decide +kernel
theorem dX5_writeDown_57 : decode cX5_writeDown 57 = .ok (.aload_n 0, 1) := by decide +kernel
theorem dX5_writeDown_58 : decode cX5_writeDown 58 = .ok (.getfield 11, 3) := by decide +kernel
theorem dX5_writeDown_61 : decode cX5_writeDown 61 = .ok (.iconst 1, 1) := by decide +kernel
theorem dX5_writeDown_62 : decode cX5_writeDown 62 = .ok (.iload 4, 2) := by decide +kernel
theorem dX5_writeDown_64 : decode cX5_writeDown 64 = .ok (.iastore, 1) := by decide +kernel
theorem dX5_writeDown_65 : decode cX5_writeDown 65 = .ok (.aload_n 0, 1) := by decide +kernel
theorem dX5_writeDown_66 : decode cX5_writeDown 66 = .ok (.getfield 11, 3) := by decide +kernel
theorem dX5_writeDown_69 : decode cX5_writeDown 69 = .ok (.bipush 102, 2) := by decide +kernel
theorem dX5_writeDown_71 : decode cX5_writeDown 71 = .ok (.iload_n 2, 1) := by decide +kernel
theorem dX5_writeDown_72 : decode cX5_writeDown 72 = .ok (.iadd, 1) := by decide +kernel
theorem dX5_writeDown_73 : decode cX5_writeDown 73 = .ok (.iload 4, 2) := by decide +kernel
theorem dX5_writeDown_75 : decode cX5_writeDown 75 = .ok (.iastore, 1) := by decide +kernel
theorem dX5_writeDown_76 : decode cX5_writeDown 76 = .ok (.aload_n 0, 1) := by decide +kernel
theorem dX5_writeDown_77 : decode cX5_writeDown 77 = .ok (.iload_n 1, 1) := by decide +kernel
theorem dX5_writeDown_78 : decode cX5_writeDown 78 = .ok (.invokevirtual 71, 3) := by decide +kernel
theorem dX5_writeDown_81 : decode cX5_writeDown 81 = .ok (.istore 6, 2) := by decide +kernel
theorem dX5_writeDown_83 : decode cX5_writeDown 83 = .ok (.iload 6, 2) := by decide +kernel
theorem dX5_writeDown_85 : decode cX5_writeDown 85 = .ok (.iconst 2, 1) := by decide +kernel
theorem dX5_writeDown_86 : decode cX5_writeDown 86 = .ok (.idiv, 1) := by decide +kernel
theorem dX5_writeDown_87 : decode cX5_writeDown 87 = .ok (.ifCond .eq 22, 3) := by decide +kernel
theorem dX5_writeDown_90 : decode cX5_writeDown 90 = .ok (.aload_n 0, 1) := by decide +kernel
theorem dX5_writeDown_91 : decode cX5_writeDown 91 = .ok (.getfield 11, 3) := by decide +kernel
theorem dX5_writeDown_94 : decode cX5_writeDown 94 = .ok (.bipush 42, 2) := by decide +kernel
theorem dX5_writeDown_96 : decode cX5_writeDown 96 = .ok (.iload 6, 2) := by decide +kernel
theorem dX5_writeDown_98 : decode cX5_writeDown 98 = .ok (.iconst 2, 1) := by decide +kernel
theorem dX5_writeDown_99 : decode cX5_writeDown 99 = .ok (.idiv, 1) := by decide +kernel
theorem dX5_writeDown_100 : decode cX5_writeDown 100 = .ok (.bipush 10, 2) := by decide +kernel
theorem dX5_writeDown_102 : decode cX5_writeDown 102 = .ok (.imul, 1) := by decide +kernel
theorem dX5_writeDown_103 : decode cX5_writeDown 103 = .ok (.iadd, 1) := by decide +kernel
theorem dX5_writeDown_104 : decode cX5_writeDown 104 = .ok (.iload_n 2, 1) := by decide +kernel
theorem dX5_writeDown_105 : decode cX5_writeDown 105 = .ok (.iadd, 1) := by decide +kernel
theorem dX5_writeDown_106 : decode cX5_writeDown 106 = .ok (.iload 4, 2) := by decide +kernel
theorem dX5_writeDown_108 : decode cX5_writeDown 108 = .ok (.iastore, 1) := by decide +kernel
theorem dX5_writeDown_109 : decode cX5_writeDown 109 = .ok (.aload_n 0, 1) := by decide +kernel
theorem dX5_writeDown_110 : decode cX5_writeDown 110 = .ok (.iload 6, 2) := by decide +kernel
theorem dX5_writeDown_112 : decode cX5_writeDown 112 = .ok (.iload_n 2, 1) := by decide +kernel
theorem dX5_writeDown_113 : decode cX5_writeDown 113 = .ok (.invokevirtual 135, 3) := by decide +kernel
theorem dX5_writeDown_116 : decode cX5_writeDown 116 = .ok (.iload 4, 2) := by decide +kernel
theorem dX5_writeDown_118 : decode cX5_writeDown 118 = .ok (.ireturn, 1) := by decide +kernel
theorem dX5_strike_0 : decode cX5_strike 0 = .ok (.iload_n 1, 1) := by decide +kernel
theorem dX5_strike_1 : decode cX5_strike 1 = .ok (.iload_n 2, 1) := by decide +kernel
theorem dX5_strike_2 : decode cX5_strike 2 = .ok (.invokestatic 31, 3) := by decide +kernel
theorem dX5_strike_5 : decode cX5_strike 5 = .ok (.istore_n 3, 1) := by decide +kernel
theorem dX5_strike_6 : decode cX5_strike 6 = .ok (.aload_n 0, 1) := by decide +kernel
theorem dX5_strike_7 : decode cX5_strike 7 = .ok (.iload_n 3, 1) := by decide +kernel
theorem dX5_strike_8 : decode cX5_strike 8 = .ok (.iconst 5, 1) := by decide +kernel
theorem dX5_strike_9 : decode cX5_strike 9 = .ok (.iadd, 1) := by decide +kernel
theorem dX5_strike_10 : decode cX5_strike 10 = .ok (.invokevirtual 35, 3) := by decide +kernel
theorem dX5_strike_13 : decode cX5_strike 13 = .ok (.ifCond .eq 58, 3) := by decide +kernel
theorem dX5_strike_16 : decode cX5_strike 16 = .ok (.aload_n 0, 1) := by decide +kernel
theorem dX5_strike_17 : decode cX5_strike 17 = .ok (.getfield 11, 3) := by decide +kernel
theorem dX5_strike_20 : decode cX5_strike 20 = .ok (.iload_n 3, 1) := by decide +kernel
theorem dX5_strike_21 : decode cX5_strike 21 = .ok (.iconst 5, 1) := by decide +kernel
theorem dX5_strike_22 : decode cX5_strike 22 = .ok (.iadd, 1) := by decide +kernel
theorem dX5_strike_23 : decode cX5_strike 23 = .ok (.iconst 0, 1) := by decide +kernel
theorem dX5_strike_24 : decode cX5_strike 24 = .ok (.iastore, 1) := by decide +kernel
theorem dX5_strike_25 : decode cX5_strike 25 = .ok (.aload_n 0, 1) := by decide +kernel
theorem dX5_strike_26 : decode cX5_strike 26 = .ok (.getfield 11, 3) := by decide +kernel
theorem dX5_strike_29 : decode cX5_strike 29 = .ok (.iload_n 3, 1) := by decide +kernel
theorem dX5_strike_30 : decode cX5_strike 30 = .ok (.bipush 6, 2) := by decide +kernel
theorem dX5_strike_32 : decode cX5_strike 32 = .ok (.iadd, 1) := by decide +kernel
theorem dX5_strike_33 : decode cX5_strike 33 = .ok (.aload_n 0, 1) := by decide +kernel
theorem dX5_strike_34 : decode cX5_strike 34 = .ok (.getfield 11, 3) := by decide +kernel
theorem dX5_strike_37 : decode cX5_strike 37 = .ok (.iload_n 3, 1) := by decide +kernel
theorem dX5_strike_38 : decode cX5_strike 38 = .ok (.iconst 0, 1) := by decide +kernel
theorem dX5_strike_39 : decode cX5_strike 39 = .ok (.iadd, 1) := by decide +kernel
theorem dX5_strike_40 : decode cX5_strike 40 = .ok (.iaload, 1) := by decide +kernel
theorem dX5_strike_41 : decode cX5_strike 41 = .ok (.iastore, 1) := by decide +kernel
theorem dX5_strike_42 : decode cX5_strike 42 = .ok (.aload_n 0, 1) := by decide +kernel
theorem dX5_strike_43 : decode cX5_strike 43 = .ok (.getfield 11, 3) := by decide +kernel
theorem dX5_strike_46 : decode cX5_strike 46 = .ok (.iload_n 3, 1) := by decide +kernel
theorem dX5_strike_47 : decode cX5_strike 47 = .ok (.bipush 7, 2) := by decide +kernel
theorem dX5_strike_49 : decode cX5_strike 49 = .ok (.iadd, 1) := by decide +kernel
theorem dX5_strike_50 : decode cX5_strike 50 = .ok (.aload_n 0, 1) := by decide +kernel
theorem dX5_strike_51 : decode cX5_strike 51 = .ok (.aload_n 0, 1) := by decide +kernel
theorem dX5_strike_52 : decode cX5_strike 52 = .ok (.iconst 2, 1) := by decide +kernel
theorem dX5_strike_53 : decode cX5_strike 53 = .ok (.invokevirtual 78, 3) := by decide +kernel
theorem dX5_strike_56 : decode cX5_strike 56 = .ok (.invokevirtual 139, 3) := by decide +kernel
theorem dX5_strike_59 : decode cX5_strike 59 = .ok (.iastore, 1) := by decide +kernel
theorem dX5_strike_60 : decode cX5_strike 60 = .ok (.aload_n 0, 1) := by decide +kernel
theorem dX5_strike_61 : decode cX5_strike 61 = .ok (.getfield 11, 3) := by decide +kernel
theorem dX5_strike_64 : decode cX5_strike 64 = .ok (.bipush 18, 2) := by decide +kernel
theorem dX5_strike_66 : decode cX5_strike 66 = .ok (.dup2, 1) := by decide +kernel
theorem dX5_strike_67 : decode cX5_strike 67 = .ok (.iaload, 1) := by decide +kernel
theorem dX5_strike_68 : decode cX5_strike 68 = .ok (.iconst 1, 1) := by decide +kernel
theorem dX5_strike_69 : decode cX5_strike 69 = .ok (.iadd, 1) := by decide +kernel
theorem dX5_strike_70 : decode cX5_strike 70 = .ok (.iastore, 1) := by decide +kernel
theorem dX5_strike_71 : decode cX5_strike 71 = .ok (.aload_n 0, 1) := by decide +kernel
theorem dX5_strike_72 : decode cX5_strike 72 = .ok (.iload_n 3, 1) := by decide +kernel
theorem dX5_strike_73 : decode cX5_strike 73 = .ok (.bipush 10, 2) := by decide +kernel
theorem dX5_strike_75 : decode cX5_strike 75 = .ok (.iadd, 1) := by decide +kernel
theorem dX5_strike_76 : decode cX5_strike 76 = .ok (.invokevirtual 35, 3) := by decide +kernel
theorem dX5_strike_79 : decode cX5_strike 79 = .ok (.ifCond .eq 24, 3) := by decide +kernel
theorem dX5_strike_82 : decode cX5_strike 82 = .ok (.aload_n 0, 1) := by decide +kernel
theorem dX5_strike_83 : decode cX5_strike 83 = .ok (.getfield 11, 3) := by decide +kernel
theorem dX5_strike_86 : decode cX5_strike 86 = .ok (.iload_n 3, 1) := by decide +kernel
theorem dX5_strike_87 : decode cX5_strike 87 = .ok (.bipush 10, 2) := by decide +kernel
theorem dX5_strike_89 : decode cX5_strike 89 = .ok (.iadd, 1) := by decide +kernel
theorem dX5_strike_90 : decode cX5_strike 90 = .ok (.iconst 0, 1) := by decide +kernel
theorem dX5_strike_91 : decode cX5_strike 91 = .ok (.iastore, 1) := by decide +kernel
theorem dX5_strike_92 : decode cX5_strike 92 = .ok (.aload_n 0, 1) := by decide +kernel
theorem dX5_strike_93 : decode cX5_strike 93 = .ok (.getfield 11, 3) := by decide +kernel
theorem dX5_strike_96 : decode cX5_strike 96 = .ok (.bipush 19, 2) := by decide +kernel
theorem dX5_strike_98 : decode cX5_strike 98 = .ok (.dup2, 1) := by decide +kernel
theorem dX5_strike_99 : decode cX5_strike 99 = .ok (.iaload, 1) := by decide +kernel
theorem dX5_strike_100 : decode cX5_strike 100 = .ok (.iconst 1, 1) := by decide +kernel
theorem dX5_strike_101 : decode cX5_strike 101 = .ok (.iadd, 1) := by decide +kernel
theorem dX5_strike_102 : decode cX5_strike 102 = .ok (.iastore, 1) := by decide +kernel
theorem dX5_strike_103 : decode cX5_strike 103 = .ok (.aload_n 0, 1) := by decide +kernel
theorem dX5_strike_104 : decode cX5_strike 104 = .ok (.getfield 11, 3) := by decide +kernel
theorem dX5_strike_107 : decode cX5_strike 107 = .ok (.bipush 36, 2) := by decide +kernel
theorem dX5_strike_109 : decode cX5_strike 109 = .ok (.iload_n 1, 1) := by decide +kernel
theorem dX5_strike_110 : decode cX5_strike 110 = .ok (.iadd, 1) := by decide +kernel
theorem dX5_strike_111 : decode cX5_strike 111 = .ok (.iaload, 1) := by decide +kernel
theorem dX5_strike_112 : decode cX5_strike 112 = .ok (.iconst 1, 1) := by decide +kernel
theorem dX5_strike_113 : decode cX5_strike 113 = .ok (.if_icmp .ne 21, 3) := by decide +kernel
theorem dX5_strike_116 : decode cX5_strike 116 = .ok (.aload_n 0, 1) := by decide +kernel
theorem dX5_strike_117 : decode cX5_strike 117 = .ok (.getfield 11, 3) := by decide +kernel
theorem dX5_strike_120 : decode cX5_strike 120 = .ok (.iload_n 3, 1) := by decide +kernel
theorem dX5_strike_121 : decode cX5_strike 121 = .ok (.bipush 11, 2) := by decide +kernel
theorem dX5_strike_123 : decode cX5_strike 123 = .ok (.iadd, 1) := by decide +kernel
theorem dX5_strike_124 : decode cX5_strike 124 = .ok (.aload_n 0, 1) := by decide +kernel
theorem dX5_strike_125 : decode cX5_strike 125 = .ok (.aload_n 0, 1) := by decide +kernel
theorem dX5_strike_126 : decode cX5_strike 126 = .ok (.iconst 4, 1) := by decide +kernel
theorem dX5_strike_127 : decode cX5_strike 127 = .ok (.invokevirtual 78, 3) := by decide +kernel
theorem dX5_strike_130 : decode cX5_strike 130 = .ok (.invokevirtual 139, 3) := by decide +kernel
theorem dX5_strike_133 : decode cX5_strike 133 = .ok (.iastore, 1) := by decide +kernel
theorem dX5_strike_134 : decode cX5_strike 134 = .ok (.return_, 1) := by decide +kernel
theorem dX5_endIn_0 : decode cX5_endIn 0 = .ok (.aload_n 0, 1) := by decide +kernel
theorem dX5_endIn_1 : decode cX5_endIn 1 = .ok (.invokevirtual 91, 3) := by decide +kernel
theorem dX5_endIn_4 : decode cX5_endIn 4 = .ok (.iload_n 1, 1) := by decide +kernel
theorem dX5_endIn_5 : decode cX5_endIn 5 = .ok (.iadd, 1) := by decide +kernel
theorem dX5_endIn_6 : decode cX5_endIn 6 = .ok (.ireturn, 1) := by decide +kernel
theorem dX5_applyNext_0 : decode cX5_applyNext 0 = .ok (.aload_n 0, 1) := by decide +kernel
theorem dX5_applyNext_1 : decode cX5_applyNext 1 = .ok (.iload_n 1, 1) := by decide +kernel
theorem dX5_applyNext_2 : decode cX5_applyNext 2 = .ok (.invokevirtual 56, 3) := by decide +kernel
theorem dX5_applyNext_5 : decode cX5_applyNext 5 = .ok (.aload_n 0, 1) := by decide +kernel
theorem dX5_applyNext_6 : decode cX5_applyNext 6 = .ok (.invokevirtual 45, 3) := by decide +kernel
theorem dX5_applyNext_9 : decode cX5_applyNext 9 = .ok (.if_icmp .lt 6, 3) := by decide +kernel
theorem dX5_applyNext_12 : decode cX5_applyNext 12 = .ok (.bipush (-2), 2) := by decide +kernel
theorem dX5_applyNext_14 : decode cX5_applyNext 14 = .ok (.ireturn, 1) := by decide +kernel
theorem dX5_applyNext_15 : decode cX5_applyNext 15 = .ok (.aload_n 0, 1) := by decide +kernel
theorem dX5_applyNext_16 : decode cX5_applyNext 16 = .ok (.iload_n 1, 1) := by decide +kernel
theorem dX5_applyNext_17 : decode cX5_applyNext 17 = .ok (.invokevirtual 56, 3) := by decide +kernel
theorem dX5_applyNext_20 : decode cX5_applyNext 20 = .ok (.iconst 1, 1) := by decide +kernel
theorem dX5_applyNext_21 : decode cX5_applyNext 21 = .ok (.iadd, 1) := by decide +kernel
theorem dX5_applyNext_22 : decode cX5_applyNext 22 = .ok (.istore_n 2, 1) := by decide +kernel
theorem dX5_applyNext_23 : decode cX5_applyNext 23 = .ok (.aload_n 0, 1) := by decide +kernel
theorem dX5_applyNext_24 : decode cX5_applyNext 24 = .ok (.getfield 11, 3) := by decide +kernel
theorem dX5_applyNext_27 : decode cX5_applyNext 27 = .ok (.iload_n 2, 1) := by decide +kernel
theorem dX5_applyNext_28 : decode cX5_applyNext 28 = .ok (.invokestatic 42, 3) := by decide +kernel
theorem dX5_applyNext_31 : decode cX5_applyNext 31 = .ok (.iconst 0, 1) := by decide +kernel
theorem dX5_applyNext_32 : decode cX5_applyNext 32 = .ok (.iadd, 1) := by decide +kernel
theorem dX5_applyNext_33 : decode cX5_applyNext 33 = .ok (.iaload, 1) := by decide +kernel
theorem dX5_applyNext_34 : decode cX5_applyNext 34 = .ok (.istore_n 3, 1) := by decide +kernel
theorem dX5_applyNext_35 : decode cX5_applyNext 35 = .ok (.aload_n 0, 1) := by decide +kernel
theorem dX5_applyNext_36 : decode cX5_applyNext 36 = .ok (.getfield 11, 3) := by decide +kernel
theorem dX5_applyNext_39 : decode cX5_applyNext 39 = .ok (.bipush 30, 2) := by decide +kernel
theorem dX5_applyNext_41 : decode cX5_applyNext 41 = .ok (.iload_n 1, 1) := by decide +kernel
theorem dX5_applyNext_42 : decode cX5_applyNext 42 = .ok (.iadd, 1) := by decide +kernel
theorem dX5_applyNext_43 : decode cX5_applyNext 43 = .ok (.iload_n 2, 1) := by decide +kernel
theorem dX5_applyNext_44 : decode cX5_applyNext 44 = .ok (.iastore, 1) := by decide +kernel
theorem dX5_applyNext_45 : decode cX5_applyNext 45 = .ok (.aload_n 0, 1) := by decide +kernel
theorem dX5_applyNext_46 : decode cX5_applyNext 46 = .ok (.getfield 11, 3) := by decide +kernel
theorem dX5_applyNext_49 : decode cX5_applyNext 49 = .ok (.bipush 72, 2) := by decide +kernel
theorem dX5_applyNext_51 : decode cX5_applyNext 51 = .ok (.iload_n 1, 1) := by decide +kernel
theorem dX5_applyNext_52 : decode cX5_applyNext 52 = .ok (.bipush 10, 2) := by decide +kernel
theorem dX5_applyNext_54 : decode cX5_applyNext 54 = .ok (.imul, 1) := by decide +kernel
theorem dX5_applyNext_55 : decode cX5_applyNext 55 = .ok (.iadd, 1) := by decide +kernel
theorem dX5_applyNext_56 : decode cX5_applyNext 56 = .ok (.iload_n 3, 1) := by decide +kernel
theorem dX5_applyNext_57 : decode cX5_applyNext 57 = .ok (.iadd, 1) := by decide +kernel
theorem dX5_applyNext_58 : decode cX5_applyNext 58 = .ok (.iload_n 2, 1) := by decide +kernel
theorem dX5_applyNext_59 : decode cX5_applyNext 59 = .ok (.iastore, 1) := by decide +kernel
theorem dX5_applyNext_60 : decode cX5_applyNext 60 = .ok (.aload_n 0, 1) := by decide +kernel
theorem dX5_applyNext_61 : decode cX5_applyNext 61 = .ok (.iconst 2, 1) := by decide +kernel
theorem dX5_applyNext_62 : decode cX5_applyNext 62 = .ok (.iload_n 1, 1) := by decide +kernel
theorem dX5_applyNext_63 : decode cX5_applyNext 63 = .ok (.imul, 1) := by decide +kernel
theorem dX5_applyNext_64 : decode cX5_applyNext 64 = .ok (.iload_n 3, 1) := by decide +kernel
theorem dX5_applyNext_65 : decode cX5_applyNext 65 = .ok (.invokevirtual 135, 3) := by decide +kernel
theorem dX5_applyNext_68 : decode cX5_applyNext 68 = .ok (.aload_n 0, 1) := by decide +kernel
theorem dX5_applyNext_69 : decode cX5_applyNext 69 = .ok (.iconst 2, 1) := by decide +kernel
theorem dX5_applyNext_70 : decode cX5_applyNext 70 = .ok (.iload_n 1, 1) := by decide +kernel
theorem dX5_applyNext_71 : decode cX5_applyNext 71 = .ok (.imul, 1) := by decide +kernel
theorem dX5_applyNext_72 : decode cX5_applyNext 72 = .ok (.iconst 1, 1) := by decide +kernel
theorem dX5_applyNext_73 : decode cX5_applyNext 73 = .ok (.iadd, 1) := by decide +kernel
theorem dX5_applyNext_74 : decode cX5_applyNext 74 = .ok (.iload_n 3, 1) := by decide +kernel
theorem dX5_applyNext_75 : decode cX5_applyNext 75 = .ok (.invokevirtual 135, 3) := by decide +kernel
theorem dX5_applyNext_78 : decode cX5_applyNext 78 = .ok (.aload_n 0, 1) := by decide +kernel
theorem dX5_applyNext_79 : decode cX5_applyNext 79 = .ok (.iload_n 1, 1) := by decide +kernel
theorem dX5_applyNext_80 : decode cX5_applyNext 80 = .ok (.iload_n 3, 1) := by decide +kernel
theorem dX5_applyNext_81 : decode cX5_applyNext 81 = .ok (.invokevirtual 105, 3) := by decide +kernel
theorem dX5_applyNext_84 : decode cX5_applyNext 84 = .ok (.iload_n 2, 1) := by decide +kernel
theorem dX5_applyNext_85 : decode cX5_applyNext 85 = .ok (.if_icmp .gt 18, 3) := by decide +kernel
theorem dX5_applyNext_88 : decode cX5_applyNext 88 = .ok (.aload_n 0, 1) := by decide +kernel
theorem dX5_applyNext_89 : decode cX5_applyNext 89 = .ok (.getfield 11, 3) := by decide +kernel
theorem dX5_applyNext_92 : decode cX5_applyNext 92 = .ok (.bipush 42, 2) := by decide +kernel
theorem dX5_applyNext_94 : decode cX5_applyNext 94 = .ok (.iload_n 1, 1) := by decide +kernel
theorem dX5_applyNext_95 : decode cX5_applyNext 95 = .ok (.bipush 10, 2) := by decide +kernel
theorem dX5_applyNext_97 : decode cX5_applyNext 97 = .ok (.imul, 1) := by decide +kernel
theorem dX5_applyNext_98 : decode cX5_applyNext 98 = .ok (.iadd, 1) := by decide +kernel
theorem dX5_applyNext_99 : decode cX5_applyNext 99 = .ok (.iload_n 3, 1) := by decide +kernel
theorem dX5_applyNext_100 : decode cX5_applyNext 100 = .ok (.iadd, 1) := by decide +kernel
theorem dX5_applyNext_101 : decode cX5_applyNext 101 = .ok (.iconst 0, 1) := by decide +kernel
theorem dX5_applyNext_102 : decode cX5_applyNext 102 = .ok (.iastore, 1) := by decide +kernel
theorem dX5_applyNext_103 : decode cX5_applyNext 103 = .ok (.iload_n 2, 1) := by decide +kernel
theorem dX5_applyNext_104 : decode cX5_applyNext 104 = .ok (.ireturn, 1) := by decide +kernel
theorem dX5_applyAll_0 : decode cX5_applyAll 0 = .ok (.iconst 0, 1) := by decide +kernel
theorem dX5_applyAll_1 : decode cX5_applyAll 1 = .ok (.istore_n 1, 1) := by decide +kernel
theorem dX5_applyAll_2 : decode cX5_applyAll 2 = .ok (.iconst 0, 1) := by decide +kernel
theorem dX5_applyAll_3 : decode cX5_applyAll 3 = .ok (.istore_n 2, 1) := by decide +kernel
theorem dX5_applyAll_4 : decode cX5_applyAll 4 = .ok (.iload_n 2, 1) := by decide +kernel
theorem dX5_applyAll_5 : decode cX5_applyAll 5 = .ok (.iconst 3, 1) := by decide +kernel
theorem dX5_applyAll_6 : decode cX5_applyAll 6 = .ok (.if_icmp .ge 39, 3) := by decide +kernel
theorem dX5_applyAll_9 : decode cX5_applyAll 9 = .ok (.aload_n 0, 1) := by decide +kernel
theorem dX5_applyAll_10 : decode cX5_applyAll 10 = .ok (.invokevirtual 45, 3) := by decide +kernel
theorem dX5_applyAll_13 : decode cX5_applyAll 13 = .ok (.aload_n 0, 1) := by decide +kernel
theorem dX5_applyAll_14 : decode cX5_applyAll 14 = .ok (.iload_n 2, 1) := by decide +kernel
theorem dX5_applyAll_15 : decode cX5_applyAll 15 = .ok (.invokevirtual 56, 3) := by decide +kernel
theorem dX5_applyAll_18 : decode cX5_applyAll 18 = .ok (.isub, 1) := by decide +kernel
theorem dX5_applyAll_19 : decode cX5_applyAll 19 = .ok (.istore_n 3, 1) := by decide +kernel
theorem dX5_applyAll_20 : decode cX5_applyAll 20 = .ok (.iload_n 3, 1) := by decide +kernel
theorem dX5_applyAll_21 : decode cX5_applyAll 21 = .ok (.ifCond .le 18, 3) := by decide +kernel
theorem dX5_applyAll_24 : decode cX5_applyAll 24 = .ok (.aload_n 0, 1) := by decide +kernel
theorem dX5_applyAll_25 : decode cX5_applyAll 25 = .ok (.iload_n 2, 1) := by decide +kernel
theorem dX5_applyAll_26 : decode cX5_applyAll 26 = .ok (.invokevirtual 142, 3) := by decide +kernel
theorem dX5_applyAll_29 : decode cX5_applyAll 29 = .ok (.pop, 1) := by decide +kernel
theorem dX5_applyAll_30 : decode cX5_applyAll 30 = .ok (.iinc 1 1, 3) := by decide +kernel
theorem dX5_applyAll_33 : decode cX5_applyAll 33 = .ok (.iinc 3 (-1), 3) := by decide +kernel
theorem dX5_applyAll_36 : decode cX5_applyAll 36 = .ok (.goto (-16), 3) := by decide +kernel
theorem dX5_applyAll_39 : decode cX5_applyAll 39 = .ok (.iinc 2 1, 3) := by decide +kernel
theorem dX5_applyAll_42 : decode cX5_applyAll 42 = .ok (.goto (-38), 3) := by decide +kernel
theorem dX5_applyAll_45 : decode cX5_applyAll 45 = .ok (.iload_n 1, 1) := by decide +kernel
theorem dX5_applyAll_46 : decode cX5_applyAll 46 = .ok (.ireturn, 1) := by decide +kernel
theorem dX5_pass_0 : decode cX5_pass 0 = .ok (.aload_n 0, 1) := by decide +kernel
theorem dX5_pass_1 : decode cX5_pass 1 = .ok (.getfield 11, 3) := by decide +kernel
theorem dX5_pass_4 : decode cX5_pass 4 = .ok (.iconst 0, 1) := by decide +kernel
theorem dX5_pass_5 : decode cX5_pass 5 = .ok (.dup2, 1) := by decide +kernel
theorem dX5_pass_6 : decode cX5_pass 6 = .ok (.iaload, 1) := by decide +kernel
theorem dX5_pass_7 : decode cX5_pass 7 = .ok (.iload_n 1, 1) := by decide +kernel
theorem dX5_pass_8 : decode cX5_pass 8 = .ok (.iadd, 1) := by decide +kernel
theorem dX5_pass_9 : decode cX5_pass 9 = .ok (.iastore, 1) := by decide +kernel
theorem dX5_pass_10 : decode cX5_pass 10 = .ok (.aload_n 0, 1) := by decide +kernel
theorem dX5_pass_11 : decode cX5_pass 11 = .ok (.invokevirtual 91, 3) := by decide +kernel
theorem dX5_pass_14 : decode cX5_pass 14 = .ok (.ireturn, 1) := by decide +kernel
theorem dX5_passToFirstDue_0 : decode cX5_passToFirstDue 0 = .ok (.aload_n 0, 1) := by decide +kernel
theorem dX5_passToFirstDue_1 : decode cX5_passToFirstDue 1 = .ok (.iconst (-1), 1) := by decide +kernel
theorem dX5_passToFirstDue_2 : decode cX5_passToFirstDue 2 = .ok (.invokevirtual 65, 3) := by decide +kernel
theorem dX5_passToFirstDue_5 : decode cX5_passToFirstDue 5 = .ok (.istore_n 1, 1) := by decide +kernel
theorem dX5_passToFirstDue_6 : decode cX5_passToFirstDue 6 = .ok (.iload_n 1, 1) := by decide +kernel
theorem dX5_passToFirstDue_7 : decode cX5_passToFirstDue 7 = .ok (.ifCond .ge 8, 3) := by decide +kernel
theorem dX5_passToFirstDue_10 : decode cX5_passToFirstDue 10 = .ok (.bipush (-2), 2) := by decide +kernel
theorem dX5_passToFirstDue_12 : decode cX5_passToFirstDue 12 = .ok (.goto 16, 3) := by decide +kernel
theorem dX5_passToFirstDue_15 : decode cX5_passToFirstDue 15 = .ok (.aload_n 0, 1) := by decide +kernel
theorem dX5_passToFirstDue_16 : decode cX5_passToFirstDue 16 = .ok (.iload_n 1, 1) := by decide +kernel
theorem dX5_passToFirstDue_17 : decode cX5_passToFirstDue 17 = .ok (.invokestatic 145, 3) := by decide +kernel
theorem dX5_passToFirstDue_20 : decode cX5_passToFirstDue 20 = .ok (.aload_n 0, 1) := by decide +kernel
theorem dX5_passToFirstDue_21 : decode cX5_passToFirstDue 21 = .ok (.invokevirtual 91, 3) := by decide +kernel
theorem dX5_passToFirstDue_24 : decode cX5_passToFirstDue 24 = .ok (.isub, 1) := by decide +kernel
theorem dX5_passToFirstDue_25 : decode cX5_passToFirstDue 25 = .ok (.invokevirtual 148, 3) := by decide +kernel
theorem dX5_passToFirstDue_28 : decode cX5_passToFirstDue 28 = .ok (.ireturn, 1) := by decide +kernel
theorem dX5_turn_0 : decode cX5_turn 0 = .ok (.aload_n 0, 1) := by decide +kernel
theorem dX5_turn_1 : decode cX5_turn 1 = .ok (.getfield 11, 3) := by decide +kernel
theorem dX5_turn_4 : decode cX5_turn 4 = .ok (.bipush 36, 2) := by decide +kernel
theorem dX5_turn_6 : decode cX5_turn 6 = .ok (.iload_n 1, 1) := by decide +kernel
theorem dX5_turn_7 : decode cX5_turn 7 = .ok (.iadd, 1) := by decide +kernel
theorem dX5_turn_8 : decode cX5_turn 8 = .ok (.iaload, 1) := by decide +kernel
theorem dX5_turn_9 : decode cX5_turn 9 = .ok (.istore_n 3, 1) := by decide +kernel
theorem dX5_turn_10 : decode cX5_turn 10 = .ok (.iload_n 3, 1) := by decide +kernel
theorem dX5_turn_11 : decode cX5_turn 11 = .ok (.iload_n 2, 1) := by decide +kernel
theorem dX5_turn_12 : decode cX5_turn 12 = .ok (.if_icmp .ne 5, 3) := by decide +kernel
theorem dX5_turn_15 : decode cX5_turn 15 = .ok (.iload_n 3, 1) := by decide +kernel
theorem dX5_turn_16 : decode cX5_turn 16 = .ok (.ireturn, 1) := by decide +kernel
theorem dX5_turn_17 : decode cX5_turn 17 = .ok (.aload_n 0, 1) := by decide +kernel
theorem dX5_turn_18 : decode cX5_turn 18 = .ok (.getfield 11, 3) := by decide +kernel
theorem dX5_turn_21 : decode cX5_turn 21 = .ok (.bipush 36, 2) := by decide +kernel
theorem dX5_turn_23 : decode cX5_turn 23 = .ok (.iload_n 1, 1) := by decide +kernel
theorem dX5_turn_24 : decode cX5_turn 24 = .ok (.iadd, 1) := by decide +kernel
theorem dX5_turn_25 : decode cX5_turn 25 = .ok (.iload_n 2, 1) := by decide +kernel
theorem dX5_turn_26 : decode cX5_turn 26 = .ok (.iastore, 1) := by decide +kernel
theorem dX5_turn_27 : decode cX5_turn 27 = .ok (.iconst 0, 1) := by decide +kernel
theorem dX5_turn_28 : decode cX5_turn 28 = .ok (.istore 4, 2) := by decide +kernel
theorem dX5_turn_30 : decode cX5_turn 30 = .ok (.iload 4, 2) := by decide +kernel
theorem dX5_turn_32 : decode cX5_turn 32 = .ok (.bipush 10, 2) := by decide +kernel
theorem dX5_turn_34 : decode cX5_turn 34 = .ok (.if_icmp .ge 65, 3) := by decide +kernel
theorem dX5_turn_37 : decode cX5_turn 37 = .ok (.iload_n 1, 1) := by decide +kernel
theorem dX5_turn_38 : decode cX5_turn 38 = .ok (.iload 4, 2) := by decide +kernel
theorem dX5_turn_40 : decode cX5_turn 40 = .ok (.invokestatic 31, 3) := by decide +kernel
theorem dX5_turn_43 : decode cX5_turn 43 = .ok (.istore 5, 2) := by decide +kernel
theorem dX5_turn_45 : decode cX5_turn 45 = .ok (.aload_n 0, 1) := by decide +kernel
theorem dX5_turn_46 : decode cX5_turn 46 = .ok (.getfield 11, 3) := by decide +kernel
theorem dX5_turn_49 : decode cX5_turn 49 = .ok (.iload 5, 2) := by decide +kernel
theorem dX5_turn_51 : decode cX5_turn 51 = .ok (.bipush 11, 2) := by decide +kernel
theorem dX5_turn_53 : decode cX5_turn 53 = .ok (.iadd, 1) := by decide +kernel
theorem dX5_turn_54 : decode cX5_turn 54 = .ok (.iconst 0, 1) := by decide +kernel
theorem dX5_turn_55 : decode cX5_turn 55 = .ok (.iastore, 1) := by decide +kernel
theorem dX5_turn_56 : decode cX5_turn 56 = .ok (.iload_n 2, 1) := by decide +kernel
theorem dX5_turn_57 : decode cX5_turn 57 = .ok (.iconst 1, 1) := by decide +kernel
theorem dX5_turn_58 : decode cX5_turn 58 = .ok (.if_icmp .ne 35, 3) := by decide +kernel
theorem dX5_turn_61 : decode cX5_turn 61 = .ok (.aload_n 0, 1) := by decide +kernel
theorem dX5_turn_62 : decode cX5_turn 62 = .ok (.getfield 11, 3) := by decide +kernel
theorem dX5_turn_65 : decode cX5_turn 65 = .ok (.iload 5, 2) := by decide +kernel
theorem dX5_turn_67 : decode cX5_turn 67 = .ok (.iconst 5, 1) := by decide +kernel
theorem dX5_turn_68 : decode cX5_turn 68 = .ok (.iadd, 1) := by decide +kernel
theorem dX5_turn_69 : decode cX5_turn 69 = .ok (.iconst 0, 1) := by decide +kernel
theorem dX5_turn_70 : decode cX5_turn 70 = .ok (.iastore, 1) := by decide +kernel
theorem dX5_turn_71 : decode cX5_turn 71 = .ok (.aload_n 0, 1) := by decide +kernel
theorem dX5_turn_72 : decode cX5_turn 72 = .ok (.getfield 11, 3) := by decide +kernel
theorem dX5_turn_75 : decode cX5_turn 75 = .ok (.iload 5, 2) := by decide +kernel
theorem dX5_turn_77 : decode cX5_turn 77 = .ok (.bipush 7, 2) := by decide +kernel
theorem dX5_turn_79 : decode cX5_turn 79 = .ok (.iadd, 1) := by decide +kernel
theorem dX5_turn_80 : decode cX5_turn 80 = .ok (.iconst 0, 1) := by decide +kernel
theorem dX5_turn_81 : decode cX5_turn 81 = .ok (.iastore, 1) := by decide +kernel
theorem dX5_turn_82 : decode cX5_turn 82 = .ok (.aload_n 0, 1) := by decide +kernel
theorem dX5_turn_83 : decode cX5_turn 83 = .ok (.getfield 11, 3) := by decide +kernel
theorem dX5_turn_86 : decode cX5_turn 86 = .ok (.iload 5, 2) := by decide +kernel
theorem dX5_turn_88 : decode cX5_turn 88 = .ok (.bipush 10, 2) := by decide +kernel
theorem dX5_turn_90 : decode cX5_turn 90 = .ok (.iadd, 1) := by decide +kernel
theorem dX5_turn_91 : decode cX5_turn 91 = .ok (.iconst 0, 1) := by decide +kernel
theorem dX5_turn_92 : decode cX5_turn 92 = .ok (.iastore, 1) := by decide +kernel
theorem dX5_turn_93 : decode cX5_turn 93 = .ok (.iinc 4 1, 3) := by decide +kernel
theorem dX5_turn_96 : decode cX5_turn 96 = .ok (.goto (-66), 3) := by decide +kernel
theorem dX5_turn_99 : decode cX5_turn 99 = .ok (.iload_n 3, 1) := by decide +kernel
theorem dX5_turn_100 : decode cX5_turn 100 = .ok (.ireturn, 1) := by decide +kernel
theorem dX5_move_0 : decode cX5_move 0 = .ok (.aload_n 0, 1) := by decide +kernel
theorem dX5_move_1 : decode cX5_move 1 = .ok (.iload_n 1, 1) := by decide +kernel
theorem dX5_move_2 : decode cX5_move 2 = .ok (.invokevirtual 71, 3) := by decide +kernel
theorem dX5_move_5 : decode cX5_move 5 = .ok (.istore_n 3, 1) := by decide +kernel
theorem dX5_move_6 : decode cX5_move 6 = .ok (.aload_n 0, 1) := by decide +kernel
theorem dX5_move_7 : decode cX5_move 7 = .ok (.getfield 11, 3) := by decide +kernel
theorem dX5_move_10 : decode cX5_move 10 = .ok (.iload_n 1, 1) := by decide +kernel
theorem dX5_move_11 : decode cX5_move 11 = .ok (.invokestatic 24, 3) := by decide +kernel
theorem dX5_move_14 : decode cX5_move 14 = .ok (.iconst 0, 1) := by decide +kernel
theorem dX5_move_15 : decode cX5_move 15 = .ok (.iadd, 1) := by decide +kernel
theorem dX5_move_16 : decode cX5_move 16 = .ok (.iload_n 2, 1) := by decide +kernel
theorem dX5_move_17 : decode cX5_move 17 = .ok (.iastore, 1) := by decide +kernel
theorem dX5_move_18 : decode cX5_move 18 = .ok (.aload_n 0, 1) := by decide +kernel
theorem dX5_move_19 : decode cX5_move 19 = .ok (.iload_n 1, 1) := by decide +kernel
theorem dX5_move_20 : decode cX5_move 20 = .ok (.invokevirtual 114, 3) := by decide +kernel
theorem dX5_move_23 : decode cX5_move 23 = .ok (.iload_n 3, 1) := by decide +kernel
theorem dX5_move_24 : decode cX5_move 24 = .ok (.ireturn, 1) := by decide +kernel
theorem dX5_change_0 : decode cX5_change 0 = .ok (.aload_n 0, 1) := by decide +kernel
theorem dX5_change_1 : decode cX5_change 1 = .ok (.iload_n 1, 1) := by decide +kernel
theorem dX5_change_2 : decode cX5_change 2 = .ok (.invokevirtual 78, 3) := by decide +kernel
theorem dX5_change_5 : decode cX5_change 5 = .ok (.istore_n 3, 1) := by decide +kernel
theorem dX5_change_6 : decode cX5_change 6 = .ok (.aload_n 0, 1) := by decide +kernel
theorem dX5_change_7 : decode cX5_change 7 = .ok (.getfield 11, 3) := by decide +kernel
theorem dX5_change_10 : decode cX5_change 10 = .ok (.iconst 3, 1) := by decide +kernel
theorem dX5_change_11 : decode cX5_change 11 = .ok (.iload_n 1, 1) := by decide +kernel
theorem dX5_change_12 : decode cX5_change 12 = .ok (.iadd, 1) := by decide +kernel
theorem dX5_change_13 : decode cX5_change 13 = .ok (.iload_n 2, 1) := by decide +kernel
theorem dX5_change_14 : decode cX5_change 14 = .ok (.iastore, 1) := by decide +kernel
theorem dX5_change_15 : decode cX5_change 15 = .ok (.iload_n 3, 1) := by decide +kernel
theorem dX5_change_16 : decode cX5_change 16 = .ok (.ireturn, 1) := by decide +kernel
theorem dX5_tryKey_0 : decode cX5_tryKey 0 = .ok (.aload_n 0, 1) := by decide +kernel
theorem dX5_tryKey_1 : decode cX5_tryKey 1 = .ok (.iload_n 1, 1) := by decide +kernel
theorem dX5_tryKey_2 : decode cX5_tryKey 2 = .ok (.iload_n 2, 1) := by decide +kernel
theorem dX5_tryKey_3 : decode cX5_tryKey 3 = .ok (.invokevirtual 97, 3) := by decide +kernel
theorem dX5_tryKey_6 : decode cX5_tryKey 6 = .ok (.ifCond .eq 14, 3) := by decide +kernel
theorem dX5_tryKey_9 : decode cX5_tryKey 9 = .ok (.aload_n 0, 1) := by decide +kernel
theorem dX5_tryKey_10 : decode cX5_tryKey 10 = .ok (.iload_n 1, 1) := by decide +kernel
theorem dX5_tryKey_11 : decode cX5_tryKey 11 = .ok (.iload_n 2, 1) := by decide +kernel
theorem dX5_tryKey_12 : decode cX5_tryKey 12 = .ok (.invokestatic 31, 3) := by decide +kernel
theorem dX5_tryKey_15 : decode cX5_tryKey 15 = .ok (.invokevirtual 74, 3) := by decide +kernel
theorem dX5_tryKey_18 : decode cX5_tryKey 18 = .ok (.iconst 1, 1) := by decide +kernel
theorem dX5_tryKey_19 : decode cX5_tryKey 19 = .ok (.ireturn, 1) := by decide +kernel
theorem dX5_tryKey_20 : decode cX5_tryKey 20 = .ok (.aload_n 0, 1) := by decide +kernel
theorem dX5_tryKey_21 : decode cX5_tryKey 21 = .ok (.iload_n 1, 1) := by decide +kernel
theorem dX5_tryKey_22 : decode cX5_tryKey 22 = .ok (.iconst 2, 1) := by decide +kernel
theorem dX5_tryKey_23 : decode cX5_tryKey 23 = .ok (.idiv, 1) := by decide +kernel
theorem dX5_tryKey_24 : decode cX5_tryKey 24 = .ok (.iload_n 2, 1) := by decide +kernel
theorem dX5_tryKey_25 : decode cX5_tryKey 25 = .ok (.invokevirtual 108, 3) := by decide +kernel
theorem dX5_tryKey_28 : decode cX5_tryKey 28 = .ok (.istore 4, 2) := by decide +kernel
theorem dX5_tryKey_30 : decode cX5_tryKey 30 = .ok (.aload_n 0, 1) := by decide +kernel
theorem dX5_tryKey_31 : decode cX5_tryKey 31 = .ok (.iload_n 1, 1) := by decide +kernel
theorem dX5_tryKey_32 : decode cX5_tryKey 32 = .ok (.iload_n 2, 1) := by decide +kernel
theorem dX5_tryKey_33 : decode cX5_tryKey 33 = .ok (.aload_n 0, 1) := by decide +kernel
theorem dX5_tryKey_34 : decode cX5_tryKey 34 = .ok (.iload 4, 2) := by decide +kernel
theorem dX5_tryKey_36 : decode cX5_tryKey 36 = .ok (.invokevirtual 111, 3) := by decide +kernel
theorem dX5_tryKey_39 : decode cX5_tryKey 39 = .ok (.iload 4, 2) := by decide +kernel
theorem dX5_tryKey_41 : decode cX5_tryKey 41 = .ok (.iload_n 3, 1) := by decide +kernel
theorem dX5_tryKey_42 : decode cX5_tryKey 42 = .ok (.invokevirtual 120, 3) := by decide +kernel
theorem dX5_tryKey_45 : decode cX5_tryKey 45 = .ok (.iconst 0, 1) := by decide +kernel
theorem dX5_tryKey_46 : decode cX5_tryKey 46 = .ok (.ireturn, 1) := by decide +kernel

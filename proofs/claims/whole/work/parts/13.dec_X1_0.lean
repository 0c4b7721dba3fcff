theorem dX1_init_0 : decode cX1_init 0 = .ok (.aload_n 0, 1) := by decide +kernel
theorem dX1_init_1 : decode cX1_init 1 = .ok (.invokespecial 3, 3) := by decide +kernel
theorem dX1_init_4 : decode cX1_init 4 = .ok (.aload_n 0, 1) := by decide +kernel
theorem dX1_init_5 : decode cX1_init 5 = .ok (.bipush 8, 2) := by decide +kernel
theorem dX1_init_7 : decode cX1_init 7 = .ok (.newarray .int, 2) := by decide +kernel
theorem dX1_init_9 : decode cX1_init 9 = .ok (.putfield 9, 3) := by decide +kernel
theorem dX1_init_12 : decode cX1_init 12 = .ok (.aload_n 0, 1) := by decide +kernel
theorem dX1_init_13 : decode cX1_init 13 = .ok (.bipush 8, 2) := by decide +kernel
theorem dX1_init_15 : decode cX1_init 15 = .ok (.newarray .int, 2) := by decide +kernel
theorem dX1_init_17 : decode cX1_init 17 = .ok (.putfield 15, 3) := by decide +kernel
theorem dX1_init_20 : decode cX1_init 20 = .ok (.aload_n 0, 1) := by decide +kernel
theorem dX1_init_21 : decode cX1_init 21 = .ok (.bipush 6, 2) := by decide +kernel
theorem dX1_init_23 : decode cX1_init 23 = .ok (.newarray .int, 2) := by decide +kernel
theorem dX1_init_25 : decode cX1_init 25 = .ok (.putfield 18, 3) := by decide +kernel
theorem dX1_init_28 : decode cX1_init 28 = .ok (.aload_n 0, 1) := by decide +kernel
theorem dX1_init_29 : decode cX1_init 29 = .ok (.bipush 16, 2) := by decide +kernel
theorem dX1_init_31 : decode cX1_init 31 = .ok (.newarray .long, 2) := by decide +kernel
theorem dX1_init_33 : decode cX1_init 33 = .ok (.putfield 21, 3) := by decide +kernel
theorem dX1_init_36 : decode cX1_init 36 = .ok (.aload_n 0, 1) := by decide +kernel
theorem dX1_init_37 : decode cX1_init 37 = .ok (.aload_n 1, 1) := by decide +kernel
theorem dX1_init_38 : decode cX1_init 38 = .ok (.putfield 25, 3) := by decide +kernel
theorem dX1_init_41 : decode cX1_init 41 = .ok (.return_, 1) := by decide +kernel
theorem dX1_goThrough_0 : decode cX1_goThrough 0 = .ok (.aload_n 0, 1) := by decide +kernel
theorem dX1_goThrough_1 : decode cX1_goThrough 1 = .ok (.iconst 0, 1) := by decide +kernel
theorem dX1_goThrough_2 : decode cX1_goThrough 2 = .ok (.putfield 29, 3) := by decide +kernel
theorem dX1_goThrough_5 : decode cX1_goThrough 5 = .ok (.aload_n 0, 1) := by decide +kernel
theorem dX1_goThrough_6 : decode cX1_goThrough 6 = .ok (.iconst 0, 1) := by decide +kernel
theorem dX1_goThrough_7 : decode cX1_goThrough 7 = .ok (.putfield 33, 3) := by decide +kernel
theorem dX1_goThrough_10 : decode cX1_goThrough 10 = .ok (.aload_n 0, 1) := by decide +kernel
theorem dX1_goThrough_11 : decode cX1_goThrough 11 = .ok (.ldc 38, 2) := by decide +kernel
theorem dX1_goThrough_13 : decode cX1_goThrough 13 = .ok (.putfield 39, 3) := by decide +kernel
theorem dX1_goThrough_16 : decode cX1_goThrough 16 = .ok (.aload_n 0, 1) := by decide +kernel
theorem dX1_goThrough_17 : decode cX1_goThrough 17 = .ok (.iconst 0, 1) := by decide +kernel
theorem dX1_goThrough_18 : decode cX1_goThrough 18 = .ok (.putfield 42, 3) := by decide +kernel
theorem dX1_goThrough_21 : decode cX1_goThrough 21 = .ok (.aload_n 0, 1) := by decide +kernel
theorem dX1_goThrough_22 : decode cX1_goThrough 22 = .ok (.getfield 21, 3) := by decide +kernel
theorem dX1_goThrough_25 : decode cX1_goThrough 25 = .ok (.lconst 0, 1) := by decide +kernel
theorem dX1_goThrough_26 : decode cX1_goThrough 26 = .ok (.invokestatic 45, 3) := by decide +kernel
theorem dX1_goThrough_29 : decode cX1_goThrough 29 = .ok (.aload_n 0, 1) := by decide +kernel
theorem dX1_goThrough_30 : decode cX1_goThrough 30 = .ok (.aload_n 2, 1) := by decide +kernel
theorem dX1_goThrough_31 : decode cX1_goThrough 31 = .ok (.iload_n 3, 1) := by decide +kernel
theorem dX1_goThrough_32 : decode cX1_goThrough 32 = .ok (.invokevirtual 51, 3) := by decide +kernel
theorem dX1_goThrough_35 : decode cX1_goThrough 35 = .ok (.iconst 1, 1) := by decide +kernel
theorem dX1_goThrough_36 : decode cX1_goThrough 36 = .ok (.istore 5, 2) := by decide +kernel
theorem dX1_goThrough_38 : decode cX1_goThrough 38 = .ok (.iconst 0, 1) := by decide +kernel
theorem dX1_goThrough_39 : decode cX1_goThrough 39 = .ok (.istore 6, 2) := by decide +kernel
theorem dX1_goThrough_41 : decode cX1_goThrough 41 = .ok (.iload 5, 2) := by decide +kernel
theorem dX1_goThrough_43 : decode cX1_goThrough 43 = .ok (.ifCond .eq 117, 3) := by decide +kernel
theorem dX1_goThrough_46 : decode cX1_goThrough 46 = .ok (.iload 6, 2) := by decide +kernel
theorem dX1_goThrough_48 : decode cX1_goThrough 48 = .ok (.ldc 55, 2) := by decide +kernel
theorem dX1_goThrough_50 : decode cX1_goThrough 50 = .ok (.if_icmp .ge 110, 3) := by decide +kernel
theorem dX1_goThrough_53 : decode cX1_goThrough 53 = .ok (.aload_n 0, 1) := by decide +kernel
theorem dX1_goThrough_54 : decode cX1_goThrough 54 = .ok (.getfield 25, 3) := by decide +kernel
theorem dX1_goThrough_57 : decode cX1_goThrough 57 = .ok (.aload_n 1, 1) := by decide +kernel
theorem dX1_goThrough_58 : decode cX1_goThrough 58 = .ok (.getfield 56, 3) := by decide +kernel
theorem dX1_goThrough_61 : decode cX1_goThrough 61 = .ok (.invokevirtual 61, 3) := by decide +kernel
theorem dX1_goThrough_64 : decode cX1_goThrough 64 = .ok (.aload_n 0, 1) := by decide +kernel
theorem dX1_goThrough_65 : decode cX1_goThrough 65 = .ok (.getfield 18, 3) := by decide +kernel
theorem dX1_goThrough_68 : decode cX1_goThrough 68 = .ok (.iconst 0, 1) := by decide +kernel
theorem dX1_goThrough_69 : decode cX1_goThrough 69 = .ok (.invokestatic 65, 3) := by decide +kernel
theorem dX1_goThrough_72 : decode cX1_goThrough 72 = .ok (.iconst 0, 1) := by decide +kernel
theorem dX1_goThrough_73 : decode cX1_goThrough 73 = .ok (.istore 7, 2) := by decide +kernel
theorem dX1_goThrough_75 : decode cX1_goThrough 75 = .ok (.iload 7, 2) := by decide +kernel
theorem dX1_goThrough_77 : decode cX1_goThrough 77 = .ok (.aload_n 0, 1) := by decide +kernel
theorem dX1_goThrough_78 : decode cX1_goThrough 78 = .ok (.getfield 68, 3) := by decide +kernel
theorem dX1_goThrough_81 : decode cX1_goThrough 81 = .ok (.if_icmp .ge 49, 3) := by decide +kernel
theorem dX1_goThrough_84 : decode cX1_goThrough 84 = .ok (.aload_n 0, 1) := by decide +kernel
theorem dX1_goThrough_85 : decode cX1_goThrough 85 = .ok (.getfield 9, 3) := by decide +kernel
theorem dX1_goThrough_88 : decode cX1_goThrough 88 = .ok (.iload 7, 2) := by decide +kernel
theorem dX1_goThrough_90 : decode cX1_goThrough 90 = .ok (.iaload, 1) := by decide +kernel
theorem dX1_goThrough_91 : decode cX1_goThrough 91 = .ok (.istore 8, 2) := by decide +kernel
theorem dX1_goThrough_93 : decode cX1_goThrough 93 = .ok (.aload_n 2, 1) := by decide +kernel
theorem dX1_goThrough_94 : decode cX1_goThrough 94 = .ok (.iload 8, 2) := by decide +kernel
theorem dX1_goThrough_96 : decode cX1_goThrough 96 = .ok (.aaload, 1) := by decide +kernel
theorem dX1_goThrough_97 : decode cX1_goThrough 97 = .ok (.aload_n 0, 1) := by decide +kernel
theorem dX1_goThrough_98 : decode cX1_goThrough 98 = .ok (.getfield 18, 3) := by decide +kernel
theorem dX1_goThrough_101 : decode cX1_goThrough 101 = .ok (.iload 8, 2) := by decide +kernel
theorem dX1_goThrough_103 : decode cX1_goThrough 103 = .ok (.iaload, 1) := by decide +kernel
theorem dX1_goThrough_104 : decode cX1_goThrough 104 = .ok (.iload 8, 2) := by decide +kernel
theorem dX1_goThrough_106 : decode cX1_goThrough 106 = .ok (.aload_n 0, 1) := by decide +kernel
theorem dX1_goThrough_107 : decode cX1_goThrough 107 = .ok (.getfield 25, 3) := by decide +kernel
theorem dX1_goThrough_110 : decode cX1_goThrough 110 = .ok (.invokevirtual 71, 3) := by decide +kernel
theorem dX1_goThrough_113 : decode cX1_goThrough 113 = .ok (.aload_n 0, 1) := by decide +kernel
theorem dX1_goThrough_114 : decode cX1_goThrough 114 = .ok (.getfield 18, 3) := by decide +kernel
theorem dX1_goThrough_117 : decode cX1_goThrough 117 = .ok (.iload 8, 2) := by decide +kernel
theorem dX1_goThrough_119 : decode cX1_goThrough 119 = .ok (.dup2, 1) := by decide +kernel
theorem dX1_goThrough_120 : decode cX1_goThrough 120 = .ok (.iaload, 1) := by decide +kernel
theorem dX1_goThrough_121 : decode cX1_goThrough 121 = .ok (.iconst 1, 1) := by decide +kernel
theorem dX1_goThrough_122 : decode cX1_goThrough 122 = .ok (.iadd, 1) := by decide +kernel
theorem dX1_goThrough_123 : decode cX1_goThrough 123 = .ok (.iastore, 1) := by decide +kernel
theorem dX1_goThrough_124 : decode cX1_goThrough 124 = .ok (.iinc 7 1, 3) := by decide +kernel
theorem dX1_goThrough_127 : decode cX1_goThrough 127 = .ok (.goto (-52), 3) := by decide +kernel
theorem dX1_goThrough_130 : decode cX1_goThrough 130 = .ok (.aload_n 0, 1) := by decide +kernel
theorem dX1_goThrough_131 : decode cX1_goThrough 131 = .ok (.aload_n 0, 1) := by decide +kernel
theorem dX1_goThrough_132 : decode cX1_goThrough 132 = .ok (.getfield 25, 3) := by decide +kernel
theorem dX1_goThrough_135 : decode cX1_goThrough 135 = .ok (.invokevirtual 77, 3) := by decide +kernel
theorem dX1_goThrough_138 : decode cX1_goThrough 138 = .ok (.aload_n 1, 1) := by decide +kernel
theorem dX1_goThrough_139 : decode cX1_goThrough 139 = .ok (.invokevirtual 77, 3) := by decide +kernel
theorem dX1_goThrough_142 : decode cX1_goThrough 142 = .ok (.isub, 1) := by decide +kernel
theorem dX1_goThrough_143 : decode cX1_goThrough 143 = .ok (.iload 4, 2) := by decide +kernel
theorem dX1_goThrough_145 : decode cX1_goThrough 145 = .ok (.invokevirtual 81, 3) := by decide +kernel
theorem dX1_goThrough_148 : decode cX1_goThrough 148 = .ok (.aload_n 0, 1) := by decide +kernel
theorem dX1_goThrough_149 : decode cX1_goThrough 149 = .ok (.invokevirtual 85, 3) := by decide +kernel
theorem dX1_goThrough_152 : decode cX1_goThrough 152 = .ok (.istore 5, 2) := by decide +kernel
theorem dX1_goThrough_154 : decode cX1_goThrough 154 = .ok (.iinc 6 1, 3) := by decide +kernel
theorem dX1_goThrough_157 : decode cX1_goThrough 157 = .ok (.goto (-116), 3) := by decide +kernel
theorem dX1_goThrough_160 : decode cX1_goThrough 160 = .ok (.return_, 1) := by decide +kernel
theorem dX1_beginOrder_0 : decode cX1_beginOrder 0 = .ok (.aload_n 0, 1) := by decide +kernel
theorem dX1_beginOrder_1 : decode cX1_beginOrder 1 = .ok (.iconst 0, 1) := by decide +kernel
theorem dX1_beginOrder_2 : decode cX1_beginOrder 2 = .ok (.putfield 68, 3) := by decide +kernel
theorem dX1_beginOrder_5 : decode cX1_beginOrder 5 = .ok (.iconst 0, 1) := by decide +kernel
theorem dX1_beginOrder_6 : decode cX1_beginOrder 6 = .ok (.istore_n 3, 1) := by decide +kernel
theorem dX1_beginOrder_7 : decode cX1_beginOrder 7 = .ok (.iload_n 3, 1) := by decide +kernel
theorem dX1_beginOrder_8 : decode cX1_beginOrder 8 = .ok (.bipush 6, 2) := by decide +kernel
theorem dX1_beginOrder_10 : decode cX1_beginOrder 10 = .ok (.if_icmp .ge 75, 3) := by decide +kernel
theorem dX1_beginOrder_13 : decode cX1_beginOrder 13 = .ok (.iload_n 2, 1) := by decide +kernel
theorem dX1_beginOrder_14 : decode cX1_beginOrder 14 = .ok (.iload_n 3, 1) := by decide +kernel
theorem dX1_beginOrder_15 : decode cX1_beginOrder 15 = .ok (.ishr, 1) := by decide +kernel
theorem dX1_beginOrder_16 : decode cX1_beginOrder 16 = .ok (.iconst 1, 1) := by decide +kernel
theorem dX1_beginOrder_17 : decode cX1_beginOrder 17 = .ok (.iand, 1) := by decide +kernel
theorem dX1_beginOrder_18 : decode cX1_beginOrder 18 = .ok (.iconst 1, 1) := by decide +kernel
theorem dX1_beginOrder_19 : decode cX1_beginOrder 19 = .ok (.if_icmp .ne 12, 3) := by decide +kernel
theorem dX1_beginOrder_22 : decode cX1_beginOrder 22 = .ok (.aload_n 1, 1) := by decide +kernel
theorem dX1_beginOrder_23 : decode cX1_beginOrder 23 = .ok (.iload_n 3, 1) := by decide +kernel
theorem dX1_beginOrder_24 : decode cX1_beginOrder 24 = .ok (.aaload, 1) := by decide +kernel
theorem dX1_beginOrder_25 : decode cX1_beginOrder 25 = .ok (.getfield 89, 3) := by decide +kernel
theorem dX1_beginOrder_28 : decode cX1_beginOrder 28 = .ok (.goto 4, 3) := by decide +kernel
theorem dX1_beginOrder_31 : decode cX1_beginOrder 31 = .ok (.iconst 0, 1) := by decide +kernel
theorem dX1_beginOrder_32 : decode cX1_beginOrder 32 = .ok (.istore 4, 2) := by decide +kernel
theorem dX1_beginOrder_34 : decode cX1_beginOrder 34 = .ok (.iconst 0, 1) := by decide +kernel
theorem dX1_beginOrder_35 : decode cX1_beginOrder 35 = .ok (.istore 5, 2) := by decide +kernel
theorem dX1_beginOrder_37 : decode cX1_beginOrder 37 = .ok (.iload 5, 2) := by decide +kernel
theorem dX1_beginOrder_39 : decode cX1_beginOrder 39 = .ok (.iload 4, 2) := by decide +kernel
theorem dX1_beginOrder_41 : decode cX1_beginOrder 41 = .ok (.if_icmp .ge 38, 3) := by decide +kernel
theorem dX1_beginOrder_44 : decode cX1_beginOrder 44 = .ok (.aload_n 0, 1) := by decide +kernel
theorem dX1_beginOrder_45 : decode cX1_beginOrder 45 = .ok (.getfield 68, 3) := by decide +kernel
theorem dX1_beginOrder_48 : decode cX1_beginOrder 48 = .ok (.bipush 8, 2) := by decide +kernel
theorem dX1_beginOrder_50 : decode cX1_beginOrder 50 = .ok (.if_icmp .ge 29, 3) := by decide +kernel
theorem dX1_beginOrder_53 : decode cX1_beginOrder 53 = .ok (.aload_n 0, 1) := by decide +kernel
theorem dX1_beginOrder_54 : decode cX1_beginOrder 54 = .ok (.getfield 9, 3) := by decide +kernel
theorem dX1_beginOrder_57 : decode cX1_beginOrder 57 = .ok (.aload_n 0, 1) := by decide +kernel
theorem dX1_beginOrder_58 : decode cX1_beginOrder 58 = .ok (.getfield 68, 3) := by decide +kernel
theorem dX1_beginOrder_61 : decode cX1_beginOrder 61 = .ok (.iload_n 3, 1) := by decide +kernel
theorem dX1_beginOrder_62 : decode cX1_beginOrder 62 = .ok (.iastore, 1) := by decide +kernel
theorem dX1_beginOrder_63 : decode cX1_beginOrder 63 = .ok (.aload_n 0, 1) := by decide +kernel
theorem dX1_beginOrder_64 : decode cX1_beginOrder 64 = .ok (.dup, 1) := by decide +kernel
theorem dX1_beginOrder_65 : decode cX1_beginOrder 65 = .ok (.getfield 68, 3) := by decide +kernel
theorem dX1_beginOrder_68 : decode cX1_beginOrder 68 = .ok (.iconst 1, 1) := by decide +kernel
theorem dX1_beginOrder_69 : decode cX1_beginOrder 69 = .ok (.iadd, 1) := by decide +kernel
theorem dX1_beginOrder_70 : decode cX1_beginOrder 70 = .ok (.putfield 68, 3) := by decide +kernel
theorem dX1_beginOrder_73 : decode cX1_beginOrder 73 = .ok (.iinc 5 1, 3) := by decide +kernel
theorem dX1_beginOrder_76 : decode cX1_beginOrder 76 = .ok (.goto (-39), 3) := by decide +kernel
theorem dX1_beginOrder_79 : decode cX1_beginOrder 79 = .ok (.iinc 3 1, 3) := by decide +kernel
theorem dX1_beginOrder_82 : decode cX1_beginOrder 82 = .ok (.goto (-75), 3) := by decide +kernel
theorem dX1_beginOrder_85 : decode cX1_beginOrder 85 = .ok (.return_, 1) := by decide +kernel
theorem dX1_weigh_0 : decode cX1_weigh 0 = .ok (.aload_n 0, 1) := by decide +kernel
theorem dX1_weigh_1 : decode cX1_weigh 1 = .ok (.dup, 1) := by decide +kernel
theorem dX1_weigh_2 : decode cX1_weigh 2 = .ok (.getfield 29, 3) := by decide +kernel
theorem dX1_weigh_5 : decode cX1_weigh 5 = .ok (.iconst 1, 1) := by decide +kernel
theorem dX1_weigh_6 : decode cX1_weigh 6 = .ok (.iadd, 1) := by decide +kernel
theorem dX1_weigh_7 : decode cX1_weigh 7 = .ok (.putfield 29, 3) := by decide +kernel
theorem dX1_weigh_10 : decode cX1_weigh 10 = .ok (.aload_n 0, 1) := by decide +kernel
theorem dX1_weigh_11 : decode cX1_weigh 11 = .ok (.aload_n 0, 1) := by decide +kernel
theorem dX1_weigh_12 : decode cX1_weigh 12 = .ok (.getfield 39, 3) := by decide +kernel
theorem dX1_weigh_15 : decode cX1_weigh 15 = .ok (.iload_n 1, 1) := by decide +kernel
theorem dX1_weigh_16 : decode cX1_weigh 16 = .ok (.invokestatic 92, 3) := by decide +kernel
theorem dX1_weigh_19 : decode cX1_weigh 19 = .ok (.putfield 39, 3) := by decide +kernel
theorem dX1_weigh_22 : decode cX1_weigh 22 = .ok (.aload_n 0, 1) := by decide +kernel
theorem dX1_weigh_23 : decode cX1_weigh 23 = .ok (.aload_n 0, 1) := by decide +kernel
theorem dX1_weigh_24 : decode cX1_weigh 24 = .ok (.getfield 42, 3) := by decide +kernel
theorem dX1_weigh_27 : decode cX1_weigh 27 = .ok (.iload_n 1, 1) := by decide +kernel
theorem dX1_weigh_28 : decode cX1_weigh 28 = .ok (.invokestatic 98, 3) := by decide +kernel
theorem dX1_weigh_31 : decode cX1_weigh 31 = .ok (.putfield 42, 3) := by decide +kernel
theorem dX1_weigh_34 : decode cX1_weigh 34 = .ok (.aload_n 0, 1) := by decide +kernel
theorem dX1_weigh_35 : decode cX1_weigh 35 = .ok (.getfield 25, 3) := by decide +kernel
theorem dX1_weigh_38 : decode cX1_weigh 38 = .ok (.invokevirtual 101, 3) := by decide +kernel
theorem dX1_weigh_41 : decode cX1_weigh 41 = .ok (.ifCond .le 37, 3) := by decide +kernel
theorem dX1_weigh_44 : decode cX1_weigh 44 = .ok (.aload_n 0, 1) := by decide +kernel
theorem dX1_weigh_45 : decode cX1_weigh 45 = .ok (.getfield 33, 3) := by decide +kernel
theorem dX1_weigh_48 : decode cX1_weigh 48 = .ok (.ifCond .ne 20, 3) := by decide +kernel
theorem dX1_weigh_51 : decode cX1_weigh 51 = .ok (.aload_n 0, 1) := by decide +kernel
theorem dX1_weigh_52 : decode cX1_weigh 52 = .ok (.getfield 9, 3) := by decide +kernel
theorem dX1_weigh_55 : decode cX1_weigh 55 = .ok (.iconst 0, 1) := by decide +kernel
theorem dX1_weigh_56 : decode cX1_weigh 56 = .ok (.aload_n 0, 1) := by decide +kernel
theorem dX1_weigh_57 : decode cX1_weigh 57 = .ok (.getfield 15, 3) := by decide +kernel
theorem dX1_weigh_60 : decode cX1_weigh 60 = .ok (.iconst 0, 1) := by decide +kernel
theorem dX1_weigh_61 : decode cX1_weigh 61 = .ok (.aload_n 0, 1) := by decide +kernel
theorem dX1_weigh_62 : decode cX1_weigh 62 = .ok (.getfield 68, 3) := by decide +kernel
theorem dX1_weigh_65 : decode cX1_weigh 65 = .ok (.invokestatic 104, 3) := by decide +kernel
theorem dX1_weigh_68 : decode cX1_weigh 68 = .ok (.aload_n 0, 1) := by decide +kernel
theorem dX1_weigh_69 : decode cX1_weigh 69 = .ok (.dup, 1) := by decide +kernel
theorem dX1_weigh_70 : decode cX1_weigh 70 = .ok (.getfield 33, 3) := by decide +kernel
theorem dX1_weigh_73 : decode cX1_weigh 73 = .ok (.iconst 1, 1) := by decide +kernel
theorem dX1_weigh_74 : decode cX1_weigh 74 = .ok (.iadd, 1) := by decide +kernel
theorem dX1_weigh_75 : decode cX1_weigh 75 = .ok (.putfield 33, 3) := by decide +kernel
theorem dX1_weigh_78 : decode cX1_weigh 78 = .ok (.aload_n 0, 1) := by decide +kernel
theorem dX1_weigh_79 : decode cX1_weigh 79 = .ok (.getfield 25, 3) := by decide +kernel
theorem dX1_weigh_82 : decode cX1_weigh 82 = .ok (.iconst 0, 1) := by decide +kernel
theorem dX1_weigh_83 : decode cX1_weigh 83 = .ok (.iload_n 2, 1) := by decide +kernel
theorem dX1_weigh_84 : decode cX1_weigh 84 = .ok (.invokevirtual 110, 3) := by decide +kernel
theorem dX1_weigh_87 : decode cX1_weigh 87 = .ok (.ifCond .eq 32, 3) := by decide +kernel
theorem dX1_weigh_90 : decode cX1_weigh 90 = .ok (.aload_n 0, 1) := by decide +kernel
theorem dX1_weigh_91 : decode cX1_weigh 91 = .ok (.getfield 25, 3) := by decide +kernel
theorem dX1_weigh_94 : decode cX1_weigh 94 = .ok (.iconst 0, 1) := by decide +kernel
theorem dX1_weigh_95 : decode cX1_weigh 95 = .ok (.iload_n 2, 1) := by decide +kernel
theorem dX1_weigh_96 : decode cX1_weigh 96 = .ok (.iconst 0, 1) := by decide +kernel
theorem dX1_weigh_97 : decode cX1_weigh 97 = .ok (.invokevirtual 114, 3) := by decide +kernel
theorem dX1_weigh_100 : decode cX1_weigh 100 = .ok (.istore_n 3, 1) := by decide +kernel
theorem dX1_weigh_101 : decode cX1_weigh 101 = .ok (.aload_n 0, 1) := by decide +kernel
theorem dX1_weigh_102 : decode cX1_weigh 102 = .ok (.getfield 21, 3) := by decide +kernel
theorem dX1_weigh_105 : decode cX1_weigh 105 = .ok (.iload_n 3, 1) := by decide +kernel
theorem dX1_weigh_106 : decode cX1_weigh 106 = .ok (.bipush 64, 2) := by decide +kernel
theorem dX1_weigh_108 : decode cX1_weigh 108 = .ok (.idiv, 1) := by decide +kernel
theorem dX1_weigh_109 : decode cX1_weigh 109 = .ok (.dup2, 1) := by decide +kernel
theorem dX1_weigh_110 : decode cX1_weigh 110 = .ok (.laload, 1) := by decide +kernel
theorem dX1_weigh_111 : decode cX1_weigh 111 = .ok (.lconst 1, 1) := by decide +kernel
theorem dX1_weigh_112 : decode cX1_weigh 112 = .ok (.iload_n 3, 1) := by decide +kernel
theorem dX1_weigh_113 : decode cX1_weigh 113 = .ok (.bipush 64, 2) := by decide +kernel
theorem dX1_weigh_115 : decode cX1_weigh 115 = .ok (.irem, 1) := by decide +kernel
theorem dX1_weigh_116 : decode cX1_weigh 116 = .ok (.lshl, 1) := by decide +kernel
theorem dX1_weigh_117 : decode cX1_weigh 117 = .ok (.lor, 1) := by decide +kernel
theorem dX1_weigh_118 : decode cX1_weigh 118 = .ok (.lastore, 1) := by decide +kernel
theorem dX1_weigh_119 : decode cX1_weigh 119 = .ok (.return_, 1) := by decide +kernel
theorem dX1_turnToNextOrder_0 : decode cX1_turnToNextOrder 0 = .ok (.aload_n 0, 1) := by decide +kernel
theorem dX1_turnToNextOrder_1 : decode cX1_turnToNextOrder 1 = .ok (.getfield 68, 3) := by decide +kernel
theorem dX1_turnToNextOrder_4 : decode cX1_turnToNextOrder 4 = .ok (.iconst 2, 1) := by decide +kernel
theorem dX1_turnToNextOrder_5 : decode cX1_turnToNextOrder 5 = .ok (.isub, 1) := by decide +kernel
theorem dX1_turnToNextOrder_6 : decode cX1_turnToNextOrder 6 = .ok (.istore_n 1, 1) := by decide +kernel
theorem dX1_turnToNextOrder_7 : decode cX1_turnToNextOrder 7 = .ok (.iload_n 1, 1) := by decide +kernel
theorem dX1_turnToNextOrder_8 : decode cX1_turnToNextOrder 8 = .ok (.ifCond .lt 26, 3) := by decide +kernel
theorem dX1_turnToNextOrder_11 : decode cX1_turnToNextOrder 11 = .ok (.aload_n 0, 1) := by decide +kernel
theorem dX1_turnToNextOrder_12 : decode cX1_turnToNextOrder 12 = .ok (.getfield 9, 3) := by decide +kernel
theorem dX1_turnToNextOrder_15 : decode cX1_turnToNextOrder 15 = .ok (.iload_n 1, 1) := by decide +kernel
theorem dX1_turnToNextOrder_16 : decode cX1_turnToNextOrder 16 = .ok (.iaload, 1) := by decide +kernel
theorem dX1_turnToNextOrder_17 : decode cX1_turnToNextOrder 17 = .ok (.aload_n 0, 1) := by decide +kernel
theorem dX1_turnToNextOrder_18 : decode cX1_turnToNextOrder 18 = .ok (.getfield 9, 3) := by decide +kernel
theorem dX1_turnToNextOrder_21 : decode cX1_turnToNextOrder 21 = .ok (.iload_n 1, 1) := by decide +kernel
theorem dX1_turnToNextOrder_22 : decode cX1_turnToNextOrder 22 = .ok (.iconst 1, 1) := by decide +kernel
theorem dX1_turnToNextOrder_23 : decode cX1_turnToNextOrder 23 = .ok (.iadd, 1) := by decide +kernel
theorem dX1_turnToNextOrder_24 : decode cX1_turnToNextOrder 24 = .ok (.iaload, 1) := by decide +kernel
theorem dX1_turnToNextOrder_25 : decode cX1_turnToNextOrder 25 = .ok (.if_icmp .lt 9, 3) := by decide +kernel
theorem dX1_turnToNextOrder_28 : decode cX1_turnToNextOrder 28 = .ok (.iinc 1 (-1), 3) := by decide +kernel
theorem dX1_turnToNextOrder_31 : decode cX1_turnToNextOrder 31 = .ok (.goto (-24), 3) := by decide +kernel
theorem dX1_turnToNextOrder_34 : decode cX1_turnToNextOrder 34 = .ok (.iload_n 1, 1) := by decide +kernel
theorem dX1_turnToNextOrder_35 : decode cX1_turnToNextOrder 35 = .ok (.ifCond .ge 5, 3) := by decide +kernel
theorem dX1_turnToNextOrder_38 : decode cX1_turnToNextOrder 38 = .ok (.iconst 0, 1) := by decide +kernel
theorem dX1_turnToNextOrder_39 : decode cX1_turnToNextOrder 39 = .ok (.ireturn, 1) := by decide +kernel
theorem dX1_turnToNextOrder_40 : decode cX1_turnToNextOrder 40 = .ok (.aload_n 0, 1) := by decide +kernel
theorem dX1_turnToNextOrder_41 : decode cX1_turnToNextOrder 41 = .ok (.getfield 68, 3) := by decide +kernel
theorem dX1_turnToNextOrder_44 : decode cX1_turnToNextOrder 44 = .ok (.iconst 1, 1) := by decide +kernel
theorem dX1_turnToNextOrder_45 : decode cX1_turnToNextOrder 45 = .ok (.isub, 1) := by decide +kernel
theorem dX1_turnToNextOrder_46 : decode cX1_turnToNextOrder 46 = .ok (.istore_n 2, 1) := by decide +kernel
theorem dX1_turnToNextOrder_47 : decode cX1_turnToNextOrder 47 = .ok (.iload_n 2, 1) := by decide +kernel
theorem dX1_turnToNextOrder_48 : decode cX1_turnToNextOrder 48 = .ok (.iload_n 1, 1) := by decide +kernel
theorem dX1_turnToNextOrder_49 : decode cX1_turnToNextOrder 49 = .ok (.if_icmp .le 24, 3) := by decide +kernel
theorem dX1_turnToNextOrder_52 : decode cX1_turnToNextOrder 52 = .ok (.aload_n 0, 1) := by decide +kernel
theorem dX1_turnToNextOrder_53 : decode cX1_turnToNextOrder 53 = .ok (.getfield 9, 3) := by decide +kernel
theorem dX1_turnToNextOrder_56 : decode cX1_turnToNextOrder 56 = .ok (.iload_n 2, 1) := by decide +kernel
theorem dX1_turnToNextOrder_57 : decode cX1_turnToNextOrder 57 = .ok (.iaload, 1) := by decide +kernel
theorem dX1_turnToNextOrder_58 : decode cX1_turnToNextOrder 58 = .ok (.aload_n 0, 1) := by decide +kernel
theorem dX1_turnToNextOrder_59 : decode cX1_turnToNextOrder 59 = .ok (.getfield 9, 3) := by decide +kernel
theorem dX1_turnToNextOrder_62 : decode cX1_turnToNextOrder 62 = .ok (.iload_n 1, 1) := by decide +kernel
theorem dX1_turnToNextOrder_63 : decode cX1_turnToNextOrder 63 = .ok (.iaload, 1) := by decide +kernel
theorem dX1_turnToNextOrder_64 : decode cX1_turnToNextOrder 64 = .ok (.if_icmp .gt 9, 3) := by decide +kernel
theorem dX1_turnToNextOrder_67 : decode cX1_turnToNextOrder 67 = .ok (.iinc 2 (-1), 3) := by decide +kernel
theorem dX1_turnToNextOrder_70 : decode cX1_turnToNextOrder 70 = .ok (.goto (-23), 3) := by decide +kernel
theorem dX1_turnToNextOrder_73 : decode cX1_turnToNextOrder 73 = .ok (.aload_n 0, 1) := by decide +kernel
theorem dX1_turnToNextOrder_74 : decode cX1_turnToNextOrder 74 = .ok (.iload_n 1, 1) := by decide +kernel
theorem dX1_turnToNextOrder_75 : decode cX1_turnToNextOrder 75 = .ok (.iload_n 2, 1) := by decide +kernel
theorem dX1_turnToNextOrder_76 : decode cX1_turnToNextOrder 76 = .ok (.invokevirtual 118, 3) := by decide +kernel
theorem dX1_turnToNextOrder_79 : decode cX1_turnToNextOrder 79 = .ok (.iload_n 1, 1) := by decide +kernel
theorem dX1_turnToNextOrder_80 : decode cX1_turnToNextOrder 80 = .ok (.iconst 1, 1) := by decide +kernel
theorem dX1_turnToNextOrder_81 : decode cX1_turnToNextOrder 81 = .ok (.iadd, 1) := by decide +kernel
theorem dX1_turnToNextOrder_82 : decode cX1_turnToNextOrder 82 = .ok (.istore_n 3, 1) := by decide +kernel
theorem dX1_turnToNextOrder_83 : decode cX1_turnToNextOrder 83 = .ok (.aload_n 0, 1) := by decide +kernel
theorem dX1_turnToNextOrder_84 : decode cX1_turnToNextOrder 84 = .ok (.getfield 68, 3) := by decide +kernel
theorem dX1_turnToNextOrder_87 : decode cX1_turnToNextOrder 87 = .ok (.iconst 1, 1) := by decide +kernel
theorem dX1_turnToNextOrder_88 : decode cX1_turnToNextOrder 88 = .ok (.isub, 1) := by decide +kernel
theorem dX1_turnToNextOrder_89 : decode cX1_turnToNextOrder 89 = .ok (.istore 4, 2) := by decide +kernel
theorem dX1_turnToNextOrder_91 : decode cX1_turnToNextOrder 91 = .ok (.iload_n 3, 1) := by decide +kernel
theorem dX1_turnToNextOrder_92 : decode cX1_turnToNextOrder 92 = .ok (.iload 4, 2) := by decide +kernel
theorem dX1_turnToNextOrder_94 : decode cX1_turnToNextOrder 94 = .ok (.if_icmp .ge 19, 3) := by decide +kernel
theorem dX1_turnToNextOrder_97 : decode cX1_turnToNextOrder 97 = .ok (.aload_n 0, 1) := by decide +kernel
theorem dX1_turnToNextOrder_98 : decode cX1_turnToNextOrder 98 = .ok (.iload_n 3, 1) := by decide +kernel
theorem dX1_turnToNextOrder_99 : decode cX1_turnToNextOrder 99 = .ok (.iload 4, 2) := by decide +kernel
theorem dX1_turnToNextOrder_101 : decode cX1_turnToNextOrder 101 = .ok (.invokevirtual 118, 3) := by decide +kernel
theorem dX1_turnToNextOrder_104 : decode cX1_turnToNextOrder 104 = .ok (.iinc 3 1, 3) := by decide +kernel
theorem dX1_turnToNextOrder_107 : decode cX1_turnToNextOrder 107 = .ok (.iinc 4 (-1), 3) := by decide +kernel
theorem dX1_turnToNextOrder_110 : decode cX1_turnToNextOrder 110 = .ok (.goto (-19), 3) := by decide +kernel
theorem dX1_turnToNextOrder_113 : decode cX1_turnToNextOrder 113 = .ok (.iconst 1, 1) := by decide +kernel
theorem dX1_turnToNextOrder_114 : decode cX1_turnToNextOrder 114 = .ok (.ireturn, 1) := by decide +kernel
theorem dX1_swap_0 : decode cX1_swap 0 = .ok (.aload_n 0, 1) := by decide +kernel
theorem dX1_swap_1 : decode cX1_swap 1 = .ok (.getfield 9, 3) := by decide +kernel
theorem dX1_swap_4 : decode cX1_swap 4 = .ok (.iload_n 1, 1) := by decide +kernel
theorem dX1_swap_5 : decode cX1_swap 5 = .ok (.iaload, 1) := by decide +kernel
theorem dX1_swap_6 : decode cX1_swap 6 = .ok (.istore_n 3, 1) := by decide +kernel
theorem dX1_swap_7 : decode cX1_swap 7 = .ok (.aload_n 0, 1) := by decide +kernel
theorem dX1_swap_8 : decode cX1_swap 8 = .ok (.getfield 9, 3) := by decide +kernel
theorem dX1_swap_11 : decode cX1_swap 11 = .ok (.iload_n 1, 1) := by decide +kernel
theorem dX1_swap_12 : decode cX1_swap 12 = .ok (.aload_n 0, 1) := by decide +kernel
theorem dX1_swap_13 : decode cX1_swap 13 = .ok (.getfield 9, 3) := by decide +kernel
theorem dX1_swap_16 : decode cX1_swap 16 = .ok (.iload_n 2, 1) := by decide +kernel
theorem dX1_swap_17 : decode cX1_swap 17 = .ok (.iaload, 1) := by decide +kernel
theorem dX1_swap_18 : decode cX1_swap 18 = .ok (.iastore, 1) := by decide +kernel
theorem dX1_swap_19 : decode cX1_swap 19 = .ok (.aload_n 0, 1) := by decide +kernel
theorem dX1_swap_20 : decode cX1_swap 20 = .ok (.getfield 9, 3) := by decide +kernel
theorem dX1_swap_23 : decode cX1_swap 23 = .ok (.iload_n 2, 1) := by decide +kernel
theorem dX1_swap_24 : decode cX1_swap 24 = .ok (.iload_n 3, 1) := by decide +kernel
theorem dX1_swap_25 : decode cX1_swap 25 = .ok (.iastore, 1) := by decide +kernel
theorem dX1_swap_26 : decode cX1_swap 26 = .ok (.return_, 1) := by decide +kernel
theorem dX1_outcome_0 : decode cX1_outcome 0 = .ok (.iload_n 1, 1) := by decide +kernel
theorem dX1_outcome_1 : decode cX1_outcome 1 = .ok (.tableswitch 51 0 3 #[31, 36, 41, 46], 31) := by decide +kernel
theorem dX1_outcome_32 : decode cX1_outcome 32 = .ok (.aload_n 0, 1) := by decide +kernel
theorem dX1_outcome_33 : decode cX1_outcome 33 = .ok (.getfield 29, 3) := by decide +kernel
theorem dX1_outcome_36 : decode cX1_outcome 36 = .ok (.ireturn, 1) := by decide +kernel
theorem dX1_outcome_37 : decode cX1_outcome 37 = .ok (.aload_n 0, 1) := by decide +kernel
theorem dX1_outcome_38 : decode cX1_outcome 38 = .ok (.getfield 33, 3) := by decide +kernel
theorem dX1_outcome_41 : decode cX1_outcome 41 = .ok (.ireturn, 1) := by decide +kernel
theorem dX1_outcome_42 : decode cX1_outcome 42 = .ok (.aload_n 0, 1) := by decide +kernel
theorem dX1_outcome_43 : decode cX1_outcome 43 = .ok (.getfield 39, 3) := by decide +kernel
theorem dX1_outcome_46 : decode cX1_outcome 46 = .ok (.ireturn, 1) := by decide +kernel
theorem dX1_outcome_47 : decode cX1_outcome 47 = .ok (.aload_n 0, 1) := by decide +kernel
theorem dX1_outcome_48 : decode cX1_outcome 48 = .ok (.getfield 42, 3) := by decide +kernel
theorem dX1_outcome_51 : decode cX1_outcome 51 = .ok (.ireturn, 1) := by decide +kernel
theorem dX1_outcome_52 : decode cX1_outcome 52 = .ok (.aload_n 0, 1) := by decide +kernel
theorem dX1_outcome_53 : decode cX1_outcome 53 = .ok (.invokevirtual 121, 3) := by decide +kernel
theorem dX1_outcome_56 : decode cX1_outcome 56 = .ok (.ireturn, 1) := by decide +kernel
theorem dX1_valuesFound_0 : decode cX1_valuesFound 0 = .ok (.iconst 0, 1) := by decide +kernel
theorem dX1_valuesFound_1 : decode cX1_valuesFound 1 = .ok (.istore_n 1, 1) := by decide +kernel
theorem dX1_valuesFound_2 : decode cX1_valuesFound 2 = .ok (.iconst 0, 1) := by decide +kernel
theorem dX1_valuesFound_3 : decode cX1_valuesFound 3 = .ok (.istore_n 2, 1) := by decide +kernel
theorem dX1_valuesFound_4 : decode cX1_valuesFound 4 = .ok (.iload_n 2, 1) := by decide +kernel
theorem dX1_valuesFound_5 : decode cX1_valuesFound 5 = .ok (.aload_n 0, 1) := by decide +kernel
theorem dX1_valuesFound_6 : decode cX1_valuesFound 6 = .ok (.getfield 21, 3) := by decide +kernel
theorem dX1_valuesFound_9 : decode cX1_valuesFound 9 = .ok (.arraylength, 1) := by decide +kernel
theorem dX1_valuesFound_10 : decode cX1_valuesFound 10 = .ok (.if_icmp .ge 21, 3) := by decide +kernel
theorem dX1_valuesFound_13 : decode cX1_valuesFound 13 = .ok (.iload_n 1, 1) := by decide +kernel
theorem dX1_valuesFound_14 : decode cX1_valuesFound 14 = .ok (.aload_n 0, 1) := by decide +kernel
theorem dX1_valuesFound_15 : decode cX1_valuesFound 15 = .ok (.getfield 21, 3) := by decide +kernel
theorem dX1_valuesFound_18 : decode cX1_valuesFound 18 = .ok (.iload_n 2, 1) := by decide +kernel
theorem dX1_valuesFound_19 : decode cX1_valuesFound 19 = .ok (.laload, 1) := by decide +kernel
theorem dX1_valuesFound_20 : decode cX1_valuesFound 20 = .ok (.invokestatic 124, 3) := by decide +kernel
theorem dX1_valuesFound_23 : decode cX1_valuesFound 23 = .ok (.iadd, 1) := by decide +kernel
theorem dX1_valuesFound_24 : decode cX1_valuesFound 24 = .ok (.istore_n 1, 1) := by decide +kernel
theorem dX1_valuesFound_25 : decode cX1_valuesFound 25 = .ok (.iinc 2 1, 3) := by decide +kernel
theorem dX1_valuesFound_28 : decode cX1_valuesFound 28 = .ok (.goto (-24), 3) := by decide +kernel
theorem dX1_valuesFound_31 : decode cX1_valuesFound 31 = .ok (.iload_n 1, 1) := by decide +kernel
theorem dX1_valuesFound_32 : decode cX1_valuesFound 32 = .ok (.ireturn, 1) := by decide +kernel
theorem dX1_witnessAt_0 : decode cX1_witnessAt 0 = .ok (.aload_n 0, 1) := by decide +kernel
theorem dX1_witnessAt_1 : decode cX1_witnessAt 1 = .ok (.getfield 33, 3) := by decide +kernel
theorem dX1_witnessAt_4 : decode cX1_witnessAt 4 = .ok (.ifCond .le 20, 3) := by decide +kernel
theorem dX1_witnessAt_7 : decode cX1_witnessAt 7 = .ok (.iload_n 1, 1) := by decide +kernel
theorem dX1_witnessAt_8 : decode cX1_witnessAt 8 = .ok (.aload_n 0, 1) := by decide +kernel
theorem dX1_witnessAt_9 : decode cX1_witnessAt 9 = .ok (.getfield 68, 3) := by decide +kernel
theorem dX1_witnessAt_12 : decode cX1_witnessAt 12 = .ok (.if_icmp .ge 12, 3) := by decide +kernel
theorem dX1_witnessAt_15 : decode cX1_witnessAt 15 = .ok (.aload_n 0, 1) := by decide +kernel
theorem dX1_witnessAt_16 : decode cX1_witnessAt 16 = .ok (.getfield 15, 3) := by decide +kernel
theorem dX1_witnessAt_19 : decode cX1_witnessAt 19 = .ok (.iload_n 1, 1) := by decide +kernel
theorem dX1_witnessAt_20 : decode cX1_witnessAt 20 = .ok (.iaload, 1) := by decide +kernel
theorem dX1_witnessAt_21 : decode cX1_witnessAt 21 = .ok (.goto 5, 3) := by decide +kernel
theorem dX1_witnessAt_24 : decode cX1_witnessAt 24 = .ok (.bipush (-2), 2) := by decide +kernel
theorem dX1_witnessAt_26 : decode cX1_witnessAt 26 = .ok (.ireturn, 1) := by decide +kernel

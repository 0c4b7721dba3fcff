theorem dX6_init_0 : decode cX6_init 0 = .ok (.aload_n 0, 1) := by decide +kernel
theorem dX6_init_1 : decode cX6_init 1 = .ok (.invokespecial 1, 3) := by decide +kernel
theorem dX6_init_4 : decode cX6_init 4 = .ok (.aload_n 0, 1) := by decide +kernel
theorem dX6_init_5 : decode cX6_init 5 = .ok (.new 7, 3) := by decide +kernel
theorem dX6_init_8 : decode cX6_init 8 = .ok (.dup, 1) := by decide +kernel
theorem dX6_init_9 : decode cX6_init 9 = .ok (.invokespecial 9, 3) := by decide +kernel
theorem dX6_init_12 : decode cX6_init 12 = .ok (.putfield 10, 3) := by decide +kernel
theorem dX6_init_15 : decode cX6_init 15 = .ok (.aload_n 0, 1) := by decide +kernel
theorem dX6_init_16 : decode cX6_init 16 = .ok (.new 7, 3) := by decide +kernel
theorem dX6_init_19 : decode cX6_init 19 = .ok (.dup, 1) := by decide +kernel
theorem dX6_init_20 : decode cX6_init 20 = .ok (.invokespecial 9, 3) := by decide +kernel
theorem dX6_init_23 : decode cX6_init 23 = .ok (.putfield 16, 3) := by decide +kernel
theorem dX6_init_26 : decode cX6_init 26 = .ok (.aload_n 0, 1) := by decide +kernel
theorem dX6_init_27 : decode cX6_init 27 = .ok (.new 19, 3) := by decide +kernel
theorem dX6_init_30 : decode cX6_init 30 = .ok (.dup, 1) := by decide +kernel
theorem dX6_init_31 : decode cX6_init 31 = .ok (.invokespecial 21, 3) := by decide +kernel
theorem dX6_init_34 : decode cX6_init 34 = .ok (.putfield 22, 3) := by decide +kernel
theorem dX6_init_37 : decode cX6_init 37 = .ok (.aload_n 0, 1) := by decide +kernel
theorem dX6_init_38 : decode cX6_init 38 = .ok (.getfield 22, 3) := by decide +kernel
theorem dX6_init_41 : decode cX6_init 41 = .ok (.aload_n 0, 1) := by decide +kernel
theorem dX6_init_42 : decode cX6_init 42 = .ok (.getfield 10, 3) := by decide +kernel
theorem dX6_init_45 : decode cX6_init 45 = .ok (.invokevirtual 26, 3) := by decide +kernel
theorem dX6_init_48 : decode cX6_init 48 = .ok (.aload_n 0, 1) := by decide +kernel
theorem dX6_init_49 : decode cX6_init 49 = .ok (.new 30, 3) := by decide +kernel
theorem dX6_init_52 : decode cX6_init 52 = .ok (.dup, 1) := by decide +kernel
theorem dX6_init_53 : decode cX6_init 53 = .ok (.aload_n 0, 1) := by decide +kernel
theorem dX6_init_54 : decode cX6_init 54 = .ok (.getfield 16, 3) := by decide +kernel
theorem dX6_init_57 : decode cX6_init 57 = .ok (.invokespecial 32, 3) := by decide +kernel
theorem dX6_init_60 : decode cX6_init 60 = .ok (.putfield 34, 3) := by decide +kernel
theorem dX6_init_63 : decode cX6_init 63 = .ok (.aload_n 0, 1) := by decide +kernel
theorem dX6_init_64 : decode cX6_init 64 = .ok (.new 38, 3) := by decide +kernel
theorem dX6_init_67 : decode cX6_init 67 = .ok (.dup, 1) := by decide +kernel
theorem dX6_init_68 : decode cX6_init 68 = .ok (.aload_n 0, 1) := by decide +kernel
theorem dX6_init_69 : decode cX6_init 69 = .ok (.getfield 16, 3) := by decide +kernel
theorem dX6_init_72 : decode cX6_init 72 = .ok (.invokespecial 40, 3) := by decide +kernel
theorem dX6_init_75 : decode cX6_init 75 = .ok (.putfield 41, 3) := by decide +kernel
theorem dX6_init_78 : decode cX6_init 78 = .ok (.aload_n 0, 1) := by decide +kernel
theorem dX6_init_79 : decode cX6_init 79 = .ok (.new 45, 3) := by decide +kernel
theorem dX6_init_82 : decode cX6_init 82 = .ok (.dup, 1) := by decide +kernel
theorem dX6_init_83 : decode cX6_init 83 = .ok (.invokespecial 47, 3) := by decide +kernel
theorem dX6_init_86 : decode cX6_init 86 = .ok (.putfield 48, 3) := by decide +kernel
theorem dX6_init_89 : decode cX6_init 89 = .ok (.aload_n 0, 1) := by decide +kernel
theorem dX6_init_90 : decode cX6_init 90 = .ok (.bipush 6, 2) := by decide +kernel
theorem dX6_init_92 : decode cX6_init 92 = .ok (.anewarray 52, 3) := by decide +kernel
theorem dX6_init_95 : decode cX6_init 95 = .ok (.putfield 54, 3) := by decide +kernel
theorem dX6_init_98 : decode cX6_init 98 = .ok (.iconst 0, 1) := by decide +kernel
theorem dX6_init_99 : decode cX6_init 99 = .ok (.istore_n 1, 1) := by decide +kernel
theorem dX6_init_100 : decode cX6_init 100 = .ok (.iload_n 1, 1) := by decide +kernel
theorem dX6_init_101 : decode cX6_init 101 = .ok (.bipush 6, 2) := by decide +kernel
theorem dX6_init_103 : decode cX6_init 103 = .ok (.if_icmp .ge 22, 3) := by decide +kernel
theorem dX6_init_106 : decode cX6_init 106 = .ok (.aload_n 0, 1) := by decide +kernel
theorem dX6_init_107 : decode cX6_init 107 = .ok (.getfield 54, 3) := by decide +kernel
theorem dX6_init_110 : decode cX6_init 110 = .ok (.iload_n 1, 1) := by decide +kernel
theorem dX6_init_111 : decode cX6_init 111 = .ok (.new 52, 3) := by decide +kernel
theorem dX6_init_114 : decode cX6_init 114 = .ok (.dup, 1) := by decide +kernel
theorem dX6_init_115 : decode cX6_init 115 = .ok (.invokespecial 58, 3) := by decide +kernel
theorem dX6_init_118 : decode cX6_init 118 = .ok (.aastore, 1) := by decide +kernel
theorem dX6_init_119 : decode cX6_init 119 = .ok (.iinc 1 1, 3) := by decide +kernel
theorem dX6_init_122 : decode cX6_init 122 = .ok (.goto (-22), 3) := by decide +kernel
theorem dX6_init_125 : decode cX6_init 125 = .ok (.aload_n 0, 1) := by decide +kernel
theorem dX6_init_126 : decode cX6_init 126 = .ok (.new 52, 3) := by decide +kernel
theorem dX6_init_129 : decode cX6_init 129 = .ok (.dup, 1) := by decide +kernel
theorem dX6_init_130 : decode cX6_init 130 = .ok (.invokespecial 58, 3) := by decide +kernel
theorem dX6_init_133 : decode cX6_init 133 = .ok (.putfield 59, 3) := by decide +kernel
theorem dX6_init_136 : decode cX6_init 136 = .ok (.aload_n 0, 1) := by decide +kernel
theorem dX6_init_137 : decode cX6_init 137 = .ok (.iconst 4, 1) := by decide +kernel
theorem dX6_init_138 : decode cX6_init 138 = .ok (.bipush 40, 2) := by decide +kernel
theorem dX6_init_140 : decode cX6_init 140 = .ok (.multianewarray 63 2, 4) := by decide +kernel
theorem dX6_init_144 : decode cX6_init 144 = .ok (.putfield 65, 3) := by decide +kernel
theorem dX6_init_147 : decode cX6_init 147 = .ok (.aload_n 0, 1) := by decide +kernel
theorem dX6_init_148 : decode cX6_init 148 = .ok (.iconst 4, 1) := by decide +kernel
theorem dX6_init_149 : decode cX6_init 149 = .ok (.newarray .int, 2) := by decide +kernel
theorem dX6_init_151 : decode cX6_init 151 = .ok (.putfield 68, 3) := by decide +kernel
theorem dX6_init_154 : decode cX6_init 154 = .ok (.aload_n 0, 1) := by decide +kernel
theorem dX6_init_155 : decode cX6_init 155 = .ok (.getfield 68, 3) := by decide +kernel
theorem dX6_init_158 : decode cX6_init 158 = .ok (.iconst (-1), 1) := by decide +kernel
theorem dX6_init_159 : decode cX6_init 159 = .ok (.invokestatic 72, 3) := by decide +kernel
theorem dX6_init_162 : decode cX6_init 162 = .ok (.aload_n 0, 1) := by decide +kernel
theorem dX6_init_163 : decode cX6_init 163 = .ok (.aconst_null, 1) := by decide +kernel
theorem dX6_init_164 : decode cX6_init 164 = .ok (.putfield 78, 3) := by decide +kernel
theorem dX6_init_167 : decode cX6_init 167 = .ok (.return_, 1) := by decide +kernel
theorem dX6_get_0 : decode cX6_get 0 = .ok (.iload_n 1, 1) := by decide +kernel
theorem dX6_get_1 : decode cX6_get 1 = .ok (.bipush 6, 2) := by decide +kernel
theorem dX6_get_3 : decode cX6_get 3 = .ok (.invokestatic 81, 3) := by decide +kernel
theorem dX6_get_6 : decode cX6_get 6 = .ok (.ifCond .eq 12, 3) := by decide +kernel
theorem dX6_get_9 : decode cX6_get 9 = .ok (.iload_n 2, 1) := by decide +kernel
theorem dX6_get_10 : decode cX6_get 10 = .ok (.bipush 10, 2) := by decide +kernel
theorem dX6_get_12 : decode cX6_get 12 = .ok (.invokestatic 81, 3) := by decide +kernel
theorem dX6_get_15 : decode cX6_get 15 = .ok (.ifCond .ne 5, 3) := by decide +kernel
theorem dX6_get_18 : decode cX6_get 18 = .ok (.iconst (-1), 1) := by decide +kernel
theorem dX6_get_19 : decode cX6_get 19 = .ok (.ireturn, 1) := by decide +kernel
theorem dX6_get_20 : decode cX6_get 20 = .ok (.aload_n 0, 1) := by decide +kernel
theorem dX6_get_21 : decode cX6_get 21 = .ok (.aload_n 0, 1) := by decide +kernel
theorem dX6_get_22 : decode cX6_get 22 = .ok (.getfield 10, 3) := by decide +kernel
theorem dX6_get_25 : decode cX6_get 25 = .ok (.iload_n 1, 1) := by decide +kernel
theorem dX6_get_26 : decode cX6_get 26 = .ok (.iload_n 2, 1) := by decide +kernel
theorem dX6_get_27 : decode cX6_get 27 = .ok (.invokevirtual 85, 3) := by decide +kernel
theorem dX6_get_30 : decode cX6_get 30 = .ok (.invokevirtual 89, 3) := by decide +kernel
theorem dX6_get_33 : decode cX6_get 33 = .ok (.ireturn, 1) := by decide +kernel
theorem dX6_look_0 : decode cX6_look 0 = .ok (.iload_n 1, 1) := by decide +kernel
theorem dX6_look_1 : decode cX6_look 1 = .ok (.bipush 6, 2) := by decide +kernel
theorem dX6_look_3 : decode cX6_look 3 = .ok (.invokestatic 81, 3) := by decide +kernel
theorem dX6_look_6 : decode cX6_look 6 = .ok (.ifCond .ne 5, 3) := by decide +kernel
theorem dX6_look_9 : decode cX6_look 9 = .ok (.iconst (-1), 1) := by decide +kernel
theorem dX6_look_10 : decode cX6_look 10 = .ok (.ireturn, 1) := by decide +kernel
theorem dX6_look_11 : decode cX6_look 11 = .ok (.aload_n 0, 1) := by decide +kernel
theorem dX6_look_12 : decode cX6_look 12 = .ok (.aload_n 0, 1) := by decide +kernel
theorem dX6_look_13 : decode cX6_look 13 = .ok (.getfield 10, 3) := by decide +kernel
theorem dX6_look_16 : decode cX6_look 16 = .ok (.iload_n 1, 1) := by decide +kernel
theorem dX6_look_17 : decode cX6_look 17 = .ok (.invokevirtual 93, 3) := by decide +kernel
theorem dX6_look_20 : decode cX6_look 20 = .ok (.invokevirtual 89, 3) := by decide +kernel
theorem dX6_look_23 : decode cX6_look 23 = .ok (.ireturn, 1) := by decide +kernel
theorem dX6_fill_0 : decode cX6_fill 0 = .ok (.iload_n 1, 1) := by decide +kernel
theorem dX6_fill_1 : decode cX6_fill 1 = .ok (.bipush 6, 2) := by decide +kernel
theorem dX6_fill_3 : decode cX6_fill 3 = .ok (.invokestatic 81, 3) := by decide +kernel
theorem dX6_fill_6 : decode cX6_fill 6 = .ok (.ifCond .ne 5, 3) := by decide +kernel
theorem dX6_fill_9 : decode cX6_fill 9 = .ok (.iconst (-1), 1) := by decide +kernel
theorem dX6_fill_10 : decode cX6_fill 10 = .ok (.ireturn, 1) := by decide +kernel
theorem dX6_fill_11 : decode cX6_fill 11 = .ok (.aload_n 0, 1) := by decide +kernel
theorem dX6_fill_12 : decode cX6_fill 12 = .ok (.aload_n 0, 1) := by decide +kernel
theorem dX6_fill_13 : decode cX6_fill 13 = .ok (.getfield 10, 3) := by decide +kernel
theorem dX6_fill_16 : decode cX6_fill 16 = .ok (.iload_n 1, 1) := by decide +kernel
theorem dX6_fill_17 : decode cX6_fill 17 = .ok (.invokevirtual 96, 3) := by decide +kernel
theorem dX6_fill_20 : decode cX6_fill 20 = .ok (.invokevirtual 89, 3) := by decide +kernel
theorem dX6_fill_23 : decode cX6_fill 23 = .ok (.ireturn, 1) := by decide +kernel
theorem dX6_write_0 : decode cX6_write 0 = .ok (.iload_n 1, 1) := by decide +kernel
theorem dX6_write_1 : decode cX6_write 1 = .ok (.bipush 6, 2) := by decide +kernel
theorem dX6_write_3 : decode cX6_write 3 = .ok (.invokestatic 81, 3) := by decide +kernel
theorem dX6_write_6 : decode cX6_write 6 = .ok (.ifCond .eq 22, 3) := by decide +kernel
theorem dX6_write_9 : decode cX6_write 9 = .ok (.iload_n 2, 1) := by decide +kernel
theorem dX6_write_10 : decode cX6_write 10 = .ok (.bipush 10, 2) := by decide +kernel
theorem dX6_write_12 : decode cX6_write 12 = .ok (.invokestatic 81, 3) := by decide +kernel
theorem dX6_write_15 : decode cX6_write 15 = .ok (.ifCond .eq 13, 3) := by decide +kernel
theorem dX6_write_18 : decode cX6_write 18 = .ok (.iload_n 3, 1) := by decide +kernel
theorem dX6_write_19 : decode cX6_write 19 = .ok (.sipush 1000, 3) := by decide +kernel
theorem dX6_write_22 : decode cX6_write 22 = .ok (.invokestatic 81, 3) := by decide +kernel
theorem dX6_write_25 : decode cX6_write 25 = .ok (.ifCond .ne 5, 3) := by decide +kernel
theorem dX6_write_28 : decode cX6_write 28 = .ok (.iconst (-1), 1) := by decide +kernel
theorem dX6_write_29 : decode cX6_write 29 = .ok (.ireturn, 1) := by decide +kernel
theorem dX6_write_30 : decode cX6_write 30 = .ok (.aload_n 0, 1) := by decide +kernel
theorem dX6_write_31 : decode cX6_write 31 = .ok (.aload_n 0, 1) := by decide +kernel
theorem dX6_write_32 : decode cX6_write 32 = .ok (.getfield 10, 3) := by decide +kernel
theorem dX6_write_35 : decode cX6_write 35 = .ok (.iload_n 1, 1) := by decide +kernel
theorem dX6_write_36 : decode cX6_write 36 = .ok (.iload_n 2, 1) := by decide +kernel
theorem dX6_write_37 : decode cX6_write 37 = .ok (.iload_n 3, 1) := by decide +kernel
theorem dX6_write_38 : decode cX6_write 38 = .ok (.invokevirtual 99, 3) := by decide +kernel
theorem dX6_write_41 : decode cX6_write 41 = .ok (.invokevirtual 89, 3) := by decide +kernel
theorem dX6_write_44 : decode cX6_write 44 = .ok (.ireturn, 1) := by decide +kernel
theorem dX6_apply_0 : decode cX6_apply 0 = .ok (.iload_n 1, 1) := by decide +kernel
theorem dX6_apply_1 : decode cX6_apply 1 = .ok (.iconst 3, 1) := by decide +kernel
theorem dX6_apply_2 : decode cX6_apply 2 = .ok (.invokestatic 81, 3) := by decide +kernel
theorem dX6_apply_5 : decode cX6_apply 5 = .ok (.ifCond .ne 5, 3) := by decide +kernel
theorem dX6_apply_8 : decode cX6_apply 8 = .ok (.iconst (-1), 1) := by decide +kernel
theorem dX6_apply_9 : decode cX6_apply 9 = .ok (.ireturn, 1) := by decide +kernel
theorem dX6_apply_10 : decode cX6_apply 10 = .ok (.aload_n 0, 1) := by decide +kernel
theorem dX6_apply_11 : decode cX6_apply 11 = .ok (.aload_n 0, 1) := by decide +kernel
theorem dX6_apply_12 : decode cX6_apply 12 = .ok (.getfield 10, 3) := by decide +kernel
theorem dX6_apply_15 : decode cX6_apply 15 = .ok (.iload_n 1, 1) := by decide +kernel
theorem dX6_apply_16 : decode cX6_apply 16 = .ok (.invokevirtual 103, 3) := by decide +kernel
theorem dX6_apply_19 : decode cX6_apply 19 = .ok (.invokevirtual 89, 3) := by decide +kernel
theorem dX6_apply_22 : decode cX6_apply 22 = .ok (.ireturn, 1) := by decide +kernel
theorem dX6_tick_0 : decode cX6_tick 0 = .ok (.iload_n 1, 1) := by decide +kernel
theorem dX6_tick_1 : decode cX6_tick 1 = .ok (.iconst 1, 1) := by decide +kernel
theorem dX6_tick_2 : decode cX6_tick 2 = .ok (.if_icmp .lt 9, 3) := by decide +kernel
theorem dX6_tick_5 : decode cX6_tick 5 = .ok (.iload_n 1, 1) := by decide +kernel
theorem dX6_tick_6 : decode cX6_tick 6 = .ok (.bipush 50, 2) := by decide +kernel
theorem dX6_tick_8 : decode cX6_tick 8 = .ok (.if_icmp .le 5, 3) := by decide +kernel
theorem dX6_tick_11 : decode cX6_tick 11 = .ok (.iconst (-1), 1) := by decide +kernel
theorem dX6_tick_12 : decode cX6_tick 12 = .ok (.ireturn, 1) := by decide +kernel
theorem dX6_tick_13 : decode cX6_tick 13 = .ok (.aload_n 0, 1) := by decide +kernel
theorem dX6_tick_14 : decode cX6_tick 14 = .ok (.aload_n 0, 1) := by decide +kernel
theorem dX6_tick_15 : decode cX6_tick 15 = .ok (.getfield 10, 3) := by decide +kernel
theorem dX6_tick_18 : decode cX6_tick 18 = .ok (.iload_n 1, 1) := by decide +kernel
theorem dX6_tick_19 : decode cX6_tick 19 = .ok (.invokevirtual 106, 3) := by decide +kernel
theorem dX6_tick_22 : decode cX6_tick 22 = .ok (.invokevirtual 89, 3) := by decide +kernel
theorem dX6_tick_25 : decode cX6_tick 25 = .ok (.ireturn, 1) := by decide +kernel
theorem dX6_cold_0 : decode cX6_cold 0 = .ok (.iload_n 1, 1) := by decide +kernel
theorem dX6_cold_1 : decode cX6_cold 1 = .ok (.bipush 6, 2) := by decide +kernel
theorem dX6_cold_3 : decode cX6_cold 3 = .ok (.invokestatic 81, 3) := by decide +kernel
theorem dX6_cold_6 : decode cX6_cold 6 = .ok (.ifCond .eq 11, 3) := by decide +kernel
theorem dX6_cold_9 : decode cX6_cold 9 = .ok (.iload_n 2, 1) := by decide +kernel
theorem dX6_cold_10 : decode cX6_cold 10 = .ok (.iconst 2, 1) := by decide +kernel
theorem dX6_cold_11 : decode cX6_cold 11 = .ok (.invokestatic 81, 3) := by decide +kernel
theorem dX6_cold_14 : decode cX6_cold 14 = .ok (.ifCond .ne 5, 3) := by decide +kernel
theorem dX6_cold_17 : decode cX6_cold 17 = .ok (.iconst (-1), 1) := by decide +kernel
theorem dX6_cold_18 : decode cX6_cold 18 = .ok (.ireturn, 1) := by decide +kernel
theorem dX6_cold_19 : decode cX6_cold 19 = .ok (.aload_n 0, 1) := by decide +kernel
theorem dX6_cold_20 : decode cX6_cold 20 = .ok (.aload_n 0, 1) := by decide +kernel
theorem dX6_cold_21 : decode cX6_cold 21 = .ok (.getfield 10, 3) := by decide +kernel
theorem dX6_cold_24 : decode cX6_cold 24 = .ok (.iload_n 1, 1) := by decide +kernel
theorem dX6_cold_25 : decode cX6_cold 25 = .ok (.iload_n 2, 1) := by decide +kernel
theorem dX6_cold_26 : decode cX6_cold 26 = .ok (.invokevirtual 109, 3) := by decide +kernel
theorem dX6_cold_29 : decode cX6_cold 29 = .ok (.invokevirtual 89, 3) := by decide +kernel
theorem dX6_cold_32 : decode cX6_cold 32 = .ok (.ireturn, 1) := by decide +kernel
theorem dX6_go_0 : decode cX6_go 0 = .ok (.iload_n 1, 1) := by decide +kernel
theorem dX6_go_1 : decode cX6_go 1 = .ok (.bipush 6, 2) := by decide +kernel
theorem dX6_go_3 : decode cX6_go 3 = .ok (.invokestatic 81, 3) := by decide +kernel
theorem dX6_go_6 : decode cX6_go 6 = .ok (.ifCond .eq 12, 3) := by decide +kernel
theorem dX6_go_9 : decode cX6_go 9 = .ok (.iload_n 2, 1) := by decide +kernel
theorem dX6_go_10 : decode cX6_go 10 = .ok (.bipush 6, 2) := by decide +kernel
theorem dX6_go_12 : decode cX6_go 12 = .ok (.invokestatic 81, 3) := by decide +kernel
theorem dX6_go_15 : decode cX6_go 15 = .ok (.ifCond .ne 5, 3) := by decide +kernel
theorem dX6_go_18 : decode cX6_go 18 = .ok (.iconst (-1), 1) := by decide +kernel
theorem dX6_go_19 : decode cX6_go 19 = .ok (.ireturn, 1) := by decide +kernel
theorem dX6_go_20 : decode cX6_go 20 = .ok (.aload_n 0, 1) := by decide +kernel
theorem dX6_go_21 : decode cX6_go 21 = .ok (.aload_n 0, 1) := by decide +kernel
theorem dX6_go_22 : decode cX6_go 22 = .ok (.getfield 10, 3) := by decide +kernel
theorem dX6_go_25 : decode cX6_go 25 = .ok (.iload_n 1, 1) := by decide +kernel
theorem dX6_go_26 : decode cX6_go 26 = .ok (.iload_n 2, 1) := by decide +kernel
theorem dX6_go_27 : decode cX6_go 27 = .ok (.invokevirtual 112, 3) := by decide +kernel
theorem dX6_go_30 : decode cX6_go 30 = .ok (.invokevirtual 89, 3) := by decide +kernel
theorem dX6_go_33 : decode cX6_go 33 = .ok (.ireturn, 1) := by decide +kernel
theorem dX6_set_0 : decode cX6_set 0 = .ok (.iload_n 1, 1) := by decide +kernel
theorem dX6_set_1 : decode cX6_set 1 = .ok (.bipush 7, 2) := by decide +kernel
theorem dX6_set_3 : decode cX6_set 3 = .ok (.invokestatic 81, 3) := by decide +kernel
theorem dX6_set_6 : decode cX6_set 6 = .ok (.ifCond .eq 21, 3) := by decide +kernel
theorem dX6_set_9 : decode cX6_set 9 = .ok (.iload_n 2, 1) := by decide +kernel
theorem dX6_set_10 : decode cX6_set 10 = .ok (.getstatic 115, 3) := by decide +kernel
theorem dX6_set_13 : decode cX6_set 13 = .ok (.iload_n 1, 1) := by decide +kernel
theorem dX6_set_14 : decode cX6_set 14 = .ok (.iaload, 1) := by decide +kernel
theorem dX6_set_15 : decode cX6_set 15 = .ok (.if_icmp .lt 12, 3) := by decide +kernel
theorem dX6_set_18 : decode cX6_set 18 = .ok (.iload_n 2, 1) := by decide +kernel
theorem dX6_set_19 : decode cX6_set 19 = .ok (.getstatic 118, 3) := by decide +kernel
theorem dX6_set_22 : decode cX6_set 22 = .ok (.iload_n 1, 1) := by decide +kernel
theorem dX6_set_23 : decode cX6_set 23 = .ok (.iaload, 1) := by decide +kernel
theorem dX6_set_24 : decode cX6_set 24 = .ok (.if_icmp .le 5, 3) := by decide +kernel
theorem dX6_set_27 : decode cX6_set 27 = .ok (.iconst (-1), 1) := by decide +kernel
theorem dX6_set_28 : decode cX6_set 28 = .ok (.ireturn, 1) := by decide +kernel
theorem dX6_set_29 : decode cX6_set 29 = .ok (.aload_n 0, 1) := by decide +kernel
theorem dX6_set_30 : decode cX6_set 30 = .ok (.aload_n 0, 1) := by decide +kernel
theorem dX6_set_31 : decode cX6_set 31 = .ok (.getfield 10, 3) := by decide +kernel
theorem dX6_set_34 : decode cX6_set 34 = .ok (.iload_n 1, 1) := by decide +kernel
theorem dX6_set_35 : decode cX6_set 35 = .ok (.iload_n 2, 1) := by decide +kernel
theorem dX6_set_36 : decode cX6_set 36 = .ok (.invokevirtual 121, 3) := by decide +kernel
theorem dX6_set_39 : decode cX6_set 39 = .ok (.invokevirtual 89, 3) := by decide +kernel
theorem dX6_set_42 : decode cX6_set 42 = .ok (.ireturn, 1) := by decide +kernel
theorem dX6_next_0 : decode cX6_next 0 = .ok (.aload_n 0, 1) := by decide +kernel
theorem dX6_next_1 : decode cX6_next 1 = .ok (.aload_n 0, 1) := by decide +kernel
theorem dX6_next_2 : decode cX6_next 2 = .ok (.getfield 10, 3) := by decide +kernel
theorem dX6_next_5 : decode cX6_next 5 = .ok (.invokevirtual 124, 3) := by decide +kernel
theorem dX6_next_8 : decode cX6_next 8 = .ok (.invokevirtual 89, 3) := by decide +kernel
theorem dX6_next_11 : decode cX6_next 11 = .ok (.ireturn, 1) := by decide +kernel
theorem dX6_undo_0 : decode cX6_undo 0 = .ok (.aload_n 0, 1) := by decide +kernel
theorem dX6_undo_1 : decode cX6_undo 1 = .ok (.getfield 22, 3) := by decide +kernel
theorem dX6_undo_4 : decode cX6_undo 4 = .ok (.aload_n 0, 1) := by decide +kernel
theorem dX6_undo_5 : decode cX6_undo 5 = .ok (.getfield 10, 3) := by decide +kernel
theorem dX6_undo_8 : decode cX6_undo 8 = .ok (.invokevirtual 128, 3) := by decide +kernel
theorem dX6_undo_11 : decode cX6_undo 11 = .ok (.ifCond .eq 13, 3) := by decide +kernel
theorem dX6_undo_14 : decode cX6_undo 14 = .ok (.aload_n 0, 1) := by decide +kernel
theorem dX6_undo_15 : decode cX6_undo 15 = .ok (.getfield 22, 3) := by decide +kernel
theorem dX6_undo_18 : decode cX6_undo 18 = .ok (.getfield 132, 3) := by decide +kernel
theorem dX6_undo_21 : decode cX6_undo 21 = .ok (.goto 5, 3) := by decide +kernel
theorem dX6_undo_24 : decode cX6_undo 24 = .ok (.bipush (-5), 2) := by decide +kernel
theorem dX6_undo_26 : decode cX6_undo 26 = .ok (.ireturn, 1) := by decide +kernel
theorem dX6_redo_0 : decode cX6_redo 0 = .ok (.aload_n 0, 1) := by decide +kernel
theorem dX6_redo_1 : decode cX6_redo 1 = .ok (.getfield 22, 3) := by decide +kernel
theorem dX6_redo_4 : decode cX6_redo 4 = .ok (.aload_n 0, 1) := by decide +kernel
theorem dX6_redo_5 : decode cX6_redo 5 = .ok (.getfield 10, 3) := by decide +kernel
theorem dX6_redo_8 : decode cX6_redo 8 = .ok (.invokevirtual 136, 3) := by decide +kernel
theorem dX6_redo_11 : decode cX6_redo 11 = .ok (.ifCond .eq 13, 3) := by decide +kernel
theorem dX6_redo_14 : decode cX6_redo 14 = .ok (.aload_n 0, 1) := by decide +kernel
theorem dX6_redo_15 : decode cX6_redo 15 = .ok (.getfield 22, 3) := by decide +kernel
theorem dX6_redo_18 : decode cX6_redo 18 = .ok (.getfield 139, 3) := by decide +kernel
theorem dX6_redo_21 : decode cX6_redo 21 = .ok (.goto 5, 3) := by decide +kernel
theorem dX6_redo_24 : decode cX6_redo 24 = .ok (.bipush (-5), 2) := by decide +kernel
theorem dX6_redo_26 : decode cX6_redo 26 = .ok (.ireturn, 1) := by decide +kernel
theorem dX6_setting_0 : decode cX6_setting 0 = .ok (.iload_n 1, 1) := by decide +kernel
theorem dX6_setting_1 : decode cX6_setting 1 = .ok (.bipush 7, 2) := by decide +kernel
theorem dX6_setting_3 : decode cX6_setting 3 = .ok (.invokestatic 81, 3) := by decide +kernel
theorem dX6_setting_6 : decode cX6_setting 6 = .ok (.ifCond .eq 14, 3) := by decide +kernel
theorem dX6_setting_9 : decode cX6_setting 9 = .ok (.aload_n 0, 1) := by decide +kernel
theorem dX6_setting_10 : decode cX6_setting 10 = .ok (.getfield 10, 3) := by decide +kernel
theorem dX6_setting_13 : decode cX6_setting 13 = .ok (.iload_n 1, 1) := by decide +kernel
theorem dX6_setting_14 : decode cX6_setting 14 = .ok (.invokevirtual 142, 3) := by decide +kernel
theorem dX6_setting_17 : decode cX6_setting 17 = .ok (.goto 4, 3) := by decide +kernel
theorem dX6_setting_20 : decode cX6_setting 20 = .ok (.iconst (-1), 1) := by decide +kernel
theorem dX6_setting_21 : decode cX6_setting 21 = .ok (.ireturn, 1) := by decide +kernel
theorem dX6_entry_0 : decode cX6_entry 0 = .ok (.iload_n 1, 1) := by decide +kernel
theorem dX6_entry_1 : decode cX6_entry 1 = .ok (.bipush 6, 2) := by decide +kernel
theorem dX6_entry_3 : decode cX6_entry 3 = .ok (.invokestatic 81, 3) := by decide +kernel
theorem dX6_entry_6 : decode cX6_entry 6 = .ok (.ifCond .eq 21, 3) := by decide +kernel
theorem dX6_entry_9 : decode cX6_entry 9 = .ok (.iload_n 2, 1) := by decide +kernel
theorem dX6_entry_10 : decode cX6_entry 10 = .ok (.bipush 10, 2) := by decide +kernel
theorem dX6_entry_12 : decode cX6_entry 12 = .ok (.invokestatic 81, 3) := by decide +kernel
theorem dX6_entry_15 : decode cX6_entry 15 = .ok (.ifCond .eq 12, 3) := by decide +kernel
theorem dX6_entry_18 : decode cX6_entry 18 = .ok (.iload_n 3, 1) := by decide +kernel
theorem dX6_entry_19 : decode cX6_entry 19 = .ok (.bipush 6, 2) := by decide +kernel
theorem dX6_entry_21 : decode cX6_entry 21 = .ok (.invokestatic 81, 3) := by decide +kernel
theorem dX6_entry_24 : decode cX6_entry 24 = .ok (.ifCond .ne 5, 3) := by decide +kernel
theorem dX6_entry_27 : decode cX6_entry 27 = .ok (.iconst (-1), 1) := by decide +kernel
theorem dX6_entry_28 : decode cX6_entry 28 = .ok (.ireturn, 1) := by decide +kernel
theorem dX6_entry_29 : decode cX6_entry 29 = .ok (.aload_n 0, 1) := by decide +kernel
theorem dX6_entry_30 : decode cX6_entry 30 = .ok (.getfield 10, 3) := by decide +kernel
theorem dX6_entry_33 : decode cX6_entry 33 = .ok (.iload_n 1, 1) := by decide +kernel
theorem dX6_entry_34 : decode cX6_entry 34 = .ok (.iload_n 2, 1) := by decide +kernel
theorem dX6_entry_35 : decode cX6_entry 35 = .ok (.invokevirtual 145, 3) := by decide +kernel
theorem dX6_entry_38 : decode cX6_entry 38 = .ok (.ifCond .eq 16, 3) := by decide +kernel
theorem dX6_entry_41 : decode cX6_entry 41 = .ok (.aload_n 0, 1) := by decide +kernel
theorem dX6_entry_42 : decode cX6_entry 42 = .ok (.getfield 10, 3) := by decide +kernel
theorem dX6_entry_45 : decode cX6_entry 45 = .ok (.iload_n 1, 1) := by decide +kernel
theorem dX6_entry_46 : decode cX6_entry 46 = .ok (.iload_n 2, 1) := by decide +kernel
theorem dX6_entry_47 : decode cX6_entry 47 = .ok (.iload_n 3, 1) := by decide +kernel
theorem dX6_entry_48 : decode cX6_entry 48 = .ok (.invokevirtual 148, 3) := by decide +kernel
theorem dX6_entry_51 : decode cX6_entry 51 = .ok (.goto 5, 3) := by decide +kernel
theorem dX6_entry_54 : decode cX6_entry 54 = .ok (.bipush (-2), 2) := by decide +kernel
theorem dX6_entry_56 : decode cX6_entry 56 = .ok (.ireturn, 1) := by decide +kernel
theorem dX6_beside_0 : decode cX6_beside 0 = .ok (.iload_n 1, 1) := by decide +kernel
theorem dX6_beside_1 : decode cX6_beside 1 = .ok (.bipush 6, 2) := by decide +kernel
theorem dX6_beside_3 : decode cX6_beside 3 = .ok (.invokestatic 81, 3) := by decide +kernel
theorem dX6_beside_6 : decode cX6_beside 6 = .ok (.ifCond .eq 21, 3) := by decide +kernel
theorem dX6_beside_9 : decode cX6_beside 9 = .ok (.iload_n 2, 1) := by decide +kernel
theorem dX6_beside_10 : decode cX6_beside 10 = .ok (.bipush 10, 2) := by decide +kernel
theorem dX6_beside_12 : decode cX6_beside 12 = .ok (.invokestatic 81, 3) := by decide +kernel
theorem dX6_beside_15 : decode cX6_beside 15 = .ok (.ifCond .eq 12, 3) := by decide +kernel
theorem dX6_beside_18 : decode cX6_beside 18 = .ok (.iload_n 3, 1) := by decide +kernel
theorem dX6_beside_19 : decode cX6_beside 19 = .ok (.bipush 6, 2) := by decide +kernel
theorem dX6_beside_21 : decode cX6_beside 21 = .ok (.invokestatic 81, 3) := by decide +kernel
theorem dX6_beside_24 : decode cX6_beside 24 = .ok (.ifCond .ne 5, 3) := by decide +kernel
theorem dX6_beside_27 : decode cX6_beside 27 = .ok (.iconst (-1), 1) := by decide +kernel
theorem dX6_beside_28 : decode cX6_beside 28 = .ok (.ireturn, 1) := by decide +kernel
theorem dX6_beside_29 : decode cX6_beside 29 = .ok (.aload_n 0, 1) := by decide +kernel
theorem dX6_beside_30 : decode cX6_beside 30 = .ok (.getfield 10, 3) := by decide +kernel
theorem dX6_beside_33 : decode cX6_beside 33 = .ok (.iload_n 1, 1) := by decide +kernel
theorem dX6_beside_34 : decode cX6_beside 34 = .ok (.iload_n 2, 1) := by decide +kernel
theorem dX6_beside_35 : decode cX6_beside 35 = .ok (.iload_n 3, 1) := by decide +kernel
theorem dX6_beside_36 : decode cX6_beside 36 = .ok (.invokevirtual 151, 3) := by decide +kernel
theorem dX6_beside_39 : decode cX6_beside 39 = .ok (.ireturn, 1) := by decide +kernel
theorem dX6_client_0 : decode cX6_client 0 = .ok (.iload_n 1, 1) := by decide +kernel
theorem dX6_client_1 : decode cX6_client 1 = .ok (.bipush 6, 2) := by decide +kernel
theorem dX6_client_3 : decode cX6_client 3 = .ok (.invokestatic 81, 3) := by decide +kernel
theorem dX6_client_6 : decode cX6_client 6 = .ok (.ifCond .eq 12, 3) := by decide +kernel
theorem dX6_client_9 : decode cX6_client 9 = .ok (.iload_n 2, 1) := by decide +kernel
theorem dX6_client_10 : decode cX6_client 10 = .ok (.bipush 7, 2) := by decide +kernel
theorem dX6_client_12 : decode cX6_client 12 = .ok (.invokestatic 81, 3) := by decide +kernel
theorem dX6_client_15 : decode cX6_client 15 = .ok (.ifCond .ne 5, 3) := by decide +kernel
theorem dX6_client_18 : decode cX6_client 18 = .ok (.iconst (-1), 1) := by decide +kernel
theorem dX6_client_19 : decode cX6_client 19 = .ok (.ireturn, 1) := by decide +kernel
theorem dX6_client_20 : decode cX6_client 20 = .ok (.aload_n 0, 1) := by decide +kernel
theorem dX6_client_21 : decode cX6_client 21 = .ok (.getfield 10, 3) := by decide +kernel
theorem dX6_client_24 : decode cX6_client 24 = .ok (.iload_n 1, 1) := by decide +kernel
theorem dX6_client_25 : decode cX6_client 25 = .ok (.iload_n 2, 1) := by decide +kernel
theorem dX6_client_26 : decode cX6_client 26 = .ok (.invokevirtual 154, 3) := by decide +kernel
theorem dX6_client_29 : decode cX6_client 29 = .ok (.ireturn, 1) := by decide +kernel
theorem dX6_store_0 : decode cX6_store 0 = .ok (.iload_n 1, 1) := by decide +kernel
theorem dX6_store_1 : decode cX6_store 1 = .ok (.iconst 3, 1) := by decide +kernel
theorem dX6_store_2 : decode cX6_store 2 = .ok (.invokestatic 81, 3) := by decide +kernel
theorem dX6_store_5 : decode cX6_store 5 = .ok (.ifCond .eq 20, 3) := by decide +kernel
theorem dX6_store_8 : decode cX6_store 8 = .ok (.iload_n 2, 1) := by decide +kernel
theorem dX6_store_9 : decode cX6_store 9 = .ok (.bipush 10, 2) := by decide +kernel
theorem dX6_store_11 : decode cX6_store 11 = .ok (.invokestatic 81, 3) := by decide +kernel
theorem dX6_store_14 : decode cX6_store 14 = .ok (.ifCond .eq 11, 3) := by decide +kernel
theorem dX6_store_17 : decode cX6_store 17 = .ok (.iload_n 3, 1) := by decide +kernel
theorem dX6_store_18 : decode cX6_store 18 = .ok (.iconst 3, 1) := by decide +kernel
theorem dX6_store_19 : decode cX6_store 19 = .ok (.invokestatic 81, 3) := by decide +kernel
theorem dX6_store_22 : decode cX6_store 22 = .ok (.ifCond .ne 5, 3) := by decide +kernel
theorem dX6_store_25 : decode cX6_store 25 = .ok (.iconst (-1), 1) := by decide +kernel
theorem dX6_store_26 : decode cX6_store 26 = .ok (.ireturn, 1) := by decide +kernel
theorem dX6_store_27 : decode cX6_store 27 = .ok (.iload_n 3, 1) := by decide +kernel
theorem dX6_store_28 : decode cX6_store 28 = .ok (.iconst 2, 1) := by decide +kernel
theorem dX6_store_29 : decode cX6_store 29 = .ok (.if_icmp .ne 30, 3) := by decide +kernel
theorem dX6_store_32 : decode cX6_store 32 = .ok (.aload_n 0, 1) := by decide +kernel
theorem dX6_store_33 : decode cX6_store 33 = .ok (.getfield 10, 3) := by decide +kernel
theorem dX6_store_36 : decode cX6_store 36 = .ok (.iload_n 1, 1) := by decide +kernel
theorem dX6_store_37 : decode cX6_store 37 = .ok (.iload_n 2, 1) := by decide +kernel
theorem dX6_store_38 : decode cX6_store 38 = .ok (.invokevirtual 157, 3) := by decide +kernel
theorem dX6_store_41 : decode cX6_store 41 = .ok (.ifCond .le 15, 3) := by decide +kernel
theorem dX6_store_44 : decode cX6_store 44 = .ok (.aload_n 0, 1) := by decide +kernel
theorem dX6_store_45 : decode cX6_store 45 = .ok (.getfield 10, 3) := by decide +kernel
theorem dX6_store_48 : decode cX6_store 48 = .ok (.iload_n 1, 1) := by decide +kernel
theorem dX6_store_49 : decode cX6_store 49 = .ok (.iload_n 2, 1) := by decide +kernel
theorem dX6_store_50 : decode cX6_store 50 = .ok (.invokevirtual 157, 3) := by decide +kernel
theorem dX6_store_53 : decode cX6_store 53 = .ok (.goto 5, 3) := by decide +kernel
theorem dX6_store_56 : decode cX6_store 56 = .ok (.bipush (-2), 2) := by decide +kernel
theorem dX6_store_58 : decode cX6_store 58 = .ok (.ireturn, 1) := by decide +kernel
theorem dX6_store_59 : decode cX6_store 59 = .ok (.aload_n 0, 1) := by decide +kernel
theorem dX6_store_60 : decode cX6_store 60 = .ok (.getfield 10, 3) := by decide +kernel
theorem dX6_store_63 : decode cX6_store 63 = .ok (.iload_n 1, 1) := by decide +kernel
theorem dX6_store_64 : decode cX6_store 64 = .ok (.iload_n 2, 1) := by decide +kernel
theorem dX6_store_65 : decode cX6_store 65 = .ok (.invokevirtual 160, 3) := by decide +kernel
theorem dX6_store_68 : decode cX6_store 68 = .ok (.istore 4, 2) := by decide +kernel
theorem dX6_store_70 : decode cX6_store 70 = .ok (.iload_n 3, 1) := by decide +kernel
theorem dX6_store_71 : decode cX6_store 71 = .ok (.ifCond .ne 15, 3) := by decide +kernel
theorem dX6_store_74 : decode cX6_store 74 = .ok (.aload_n 0, 1) := by decide +kernel
theorem dX6_store_75 : decode cX6_store 75 = .ok (.getfield 10, 3) := by decide +kernel
theorem dX6_store_78 : decode cX6_store 78 = .ok (.iload 4, 2) := by decide +kernel
theorem dX6_store_80 : decode cX6_store 80 = .ok (.invokevirtual 163, 3) := by decide +kernel
theorem dX6_store_83 : decode cX6_store 83 = .ok (.goto 5, 3) := by decide +kernel
theorem dX6_store_86 : decode cX6_store 86 = .ok (.iload 4, 2) := by decide +kernel
theorem dX6_store_88 : decode cX6_store 88 = .ok (.ireturn, 1) := by decide +kernel
theorem dX6_region_0 : decode cX6_region 0 = .ok (.iload_n 1, 1) := by decide +kernel
theorem dX6_region_1 : decode cX6_region 1 = .ok (.iconst 3, 1) := by decide +kernel
theorem dX6_region_2 : decode cX6_region 2 = .ok (.invokestatic 81, 3) := by decide +kernel
theorem dX6_region_5 : decode cX6_region 5 = .ok (.ifCond .eq 11, 3) := by decide +kernel
theorem dX6_region_8 : decode cX6_region 8 = .ok (.iload_n 2, 1) := by decide +kernel
theorem dX6_region_9 : decode cX6_region 9 = .ok (.iconst 3, 1) := by decide +kernel
theorem dX6_region_10 : decode cX6_region 10 = .ok (.invokestatic 81, 3) := by decide +kernel
theorem dX6_region_13 : decode cX6_region 13 = .ok (.ifCond .ne 5, 3) := by decide +kernel
theorem dX6_region_16 : decode cX6_region 16 = .ok (.iconst (-1), 1) := by decide +kernel
theorem dX6_region_17 : decode cX6_region 17 = .ok (.ireturn, 1) := by decide +kernel
theorem dX6_region_18 : decode cX6_region 18 = .ok (.iload_n 2, 1) := by decide +kernel
theorem dX6_region_19 : decode cX6_region 19 = .ok (.ifCond .ne 12, 3) := by decide +kernel
theorem dX6_region_22 : decode cX6_region 22 = .ok (.aload_n 0, 1) := by decide +kernel
theorem dX6_region_23 : decode cX6_region 23 = .ok (.getfield 10, 3) := by decide +kernel
theorem dX6_region_26 : decode cX6_region 26 = .ok (.iload_n 1, 1) := by decide +kernel
theorem dX6_region_27 : decode cX6_region 27 = .ok (.invokevirtual 166, 3) := by decide +kernel
theorem dX6_region_30 : decode cX6_region 30 = .ok (.ireturn, 1) := by decide +kernel
theorem dX6_region_31 : decode cX6_region 31 = .ok (.iload_n 2, 1) := by decide +kernel
theorem dX6_region_32 : decode cX6_region 32 = .ok (.iconst 1, 1) := by decide +kernel
theorem dX6_region_33 : decode cX6_region 33 = .ok (.if_icmp .ne 22, 3) := by decide +kernel
theorem dX6_region_36 : decode cX6_region 36 = .ok (.aload_n 0, 1) := by decide +kernel
theorem dX6_region_37 : decode cX6_region 37 = .ok (.getfield 10, 3) := by decide +kernel
theorem dX6_region_40 : decode cX6_region 40 = .ok (.invokevirtual 169, 3) := by decide +kernel
theorem dX6_region_43 : decode cX6_region 43 = .ok (.aload_n 0, 1) := by decide +kernel
theorem dX6_region_44 : decode cX6_region 44 = .ok (.getfield 10, 3) := by decide +kernel
theorem dX6_region_47 : decode cX6_region 47 = .ok (.iload_n 1, 1) := by decide +kernel
theorem dX6_region_48 : decode cX6_region 48 = .ok (.invokevirtual 166, 3) := by decide +kernel
theorem dX6_region_51 : decode cX6_region 51 = .ok (.isub, 1) := by decide +kernel
theorem dX6_region_52 : decode cX6_region 52 = .ok (.goto 11, 3) := by decide +kernel
theorem dX6_region_55 : decode cX6_region 55 = .ok (.aload_n 0, 1) := by decide +kernel
theorem dX6_region_56 : decode cX6_region 56 = .ok (.getfield 10, 3) := by decide +kernel
theorem dX6_region_59 : decode cX6_region 59 = .ok (.iload_n 1, 1) := by decide +kernel
theorem dX6_region_60 : decode cX6_region 60 = .ok (.invokevirtual 172, 3) := by decide +kernel
theorem dX6_region_63 : decode cX6_region 63 = .ok (.ireturn, 1) := by decide +kernel
theorem dX6_within_0 : decode cX6_within 0 = .ok (.iload_n 1, 1) := by decide +kernel
theorem dX6_within_1 : decode cX6_within 1 = .ok (.bipush 10, 2) := by decide +kernel
theorem dX6_within_3 : decode cX6_within 3 = .ok (.invokestatic 81, 3) := by decide +kernel
theorem dX6_within_6 : decode cX6_within 6 = .ok (.ifCond .eq 26, 3) := by decide +kernel
theorem dX6_within_9 : decode cX6_within 9 = .ok (.iload_n 2, 1) := by decide +kernel
theorem dX6_within_10 : decode cX6_within 10 = .ok (.ifCond .lt 22, 3) := by decide +kernel
theorem dX6_within_13 : decode cX6_within 13 = .ok (.iload_n 2, 1) := by decide +kernel
theorem dX6_within_14 : decode cX6_within 14 = .ok (.aload_n 0, 1) := by decide +kernel
theorem dX6_within_15 : decode cX6_within 15 = .ok (.getfield 10, 3) := by decide +kernel
theorem dX6_within_18 : decode cX6_within 18 = .ok (.invokevirtual 169, 3) := by decide +kernel
theorem dX6_within_21 : decode cX6_within 21 = .ok (.if_icmp .gt 11, 3) := by decide +kernel
theorem dX6_within_24 : decode cX6_within 24 = .ok (.iload_n 3, 1) := by decide +kernel
theorem dX6_within_25 : decode cX6_within 25 = .ok (.iconst 2, 1) := by decide +kernel
theorem dX6_within_26 : decode cX6_within 26 = .ok (.invokestatic 81, 3) := by decide +kernel
theorem dX6_within_29 : decode cX6_within 29 = .ok (.ifCond .ne 5, 3) := by decide +kernel
theorem dX6_within_32 : decode cX6_within 32 = .ok (.iconst (-1), 1) := by decide +kernel
theorem dX6_within_33 : decode cX6_within 33 = .ok (.ireturn, 1) := by decide +kernel
theorem dX6_within_34 : decode cX6_within 34 = .ok (.aload_n 0, 1) := by decide +kernel
theorem dX6_within_35 : decode cX6_within 35 = .ok (.getfield 10, 3) := by decide +kernel
theorem dX6_within_38 : decode cX6_within 38 = .ok (.iload_n 1, 1) := by decide +kernel
theorem dX6_within_39 : decode cX6_within 39 = .ok (.iload_n 2, 1) := by decide +kernel
theorem dX6_within_40 : decode cX6_within 40 = .ok (.invokevirtual 175, 3) := by decide +kernel
theorem dX6_within_43 : decode cX6_within 43 = .ok (.istore 4, 2) := by decide +kernel
theorem dX6_within_45 : decode cX6_within 45 = .ok (.iload_n 3, 1) := by decide +kernel
theorem dX6_within_46 : decode cX6_within 46 = .ok (.ifCond .ne 15, 3) := by decide +kernel
theorem dX6_within_49 : decode cX6_within 49 = .ok (.aload_n 0, 1) := by decide +kernel
theorem dX6_within_50 : decode cX6_within 50 = .ok (.getfield 10, 3) := by decide +kernel
theorem dX6_within_53 : decode cX6_within 53 = .ok (.iload 4, 2) := by decide +kernel
theorem dX6_within_55 : decode cX6_within 55 = .ok (.invokevirtual 163, 3) := by decide +kernel
theorem dX6_within_58 : decode cX6_within 58 = .ok (.goto 5, 3) := by decide +kernel
theorem dX6_within_61 : decode cX6_within 61 = .ok (.iload 4, 2) := by decide +kernel
theorem dX6_within_63 : decode cX6_within 63 = .ok (.ireturn, 1) := by decide +kernel
theorem dX6_least_0 : decode cX6_least 0 = .ok (.iload_n 1, 1) := by decide +kernel
theorem dX6_least_1 : decode cX6_least 1 = .ok (.bipush 6, 2) := by decide +kernel
theorem dX6_least_3 : decode cX6_least 3 = .ok (.invokestatic 81, 3) := by decide +kernel
theorem dX6_least_6 : decode cX6_least 6 = .ok (.ifCond .eq 11, 3) := by decide +kernel
theorem dX6_least_9 : decode cX6_least 9 = .ok (.iload_n 2, 1) := by decide +kernel
theorem dX6_least_10 : decode cX6_least 10 = .ok (.iconst 4, 1) := by decide +kernel
theorem dX6_least_11 : decode cX6_least 11 = .ok (.invokestatic 81, 3) := by decide +kernel
theorem dX6_least_14 : decode cX6_least 14 = .ok (.ifCond .ne 5, 3) := by decide +kernel
theorem dX6_least_17 : decode cX6_least 17 = .ok (.iconst (-1), 1) := by decide +kernel
theorem dX6_least_18 : decode cX6_least 18 = .ok (.ireturn, 1) := by decide +kernel
theorem dX6_least_19 : decode cX6_least 19 = .ok (.aload_n 0, 1) := by decide +kernel
theorem dX6_least_20 : decode cX6_least 20 = .ok (.getfield 10, 3) := by decide +kernel
theorem dX6_least_23 : decode cX6_least 23 = .ok (.iload_n 1, 1) := by decide +kernel
theorem dX6_least_24 : decode cX6_least 24 = .ok (.iload_n 2, 1) := by decide +kernel
theorem dX6_least_25 : decode cX6_least 25 = .ok (.invokevirtual 178, 3) := by decide +kernel
theorem dX6_least_28 : decode cX6_least 28 = .ok (.ireturn, 1) := by decide +kernel
theorem dX6_outdated_0 : decode cX6_outdated 0 = .ok (.iload_n 1, 1) := by decide +kernel
theorem dX6_outdated_1 : decode cX6_outdated 1 = .ok (.bipush 6, 2) := by decide +kernel
theorem dX6_outdated_3 : decode cX6_outdated 3 = .ok (.invokestatic 81, 3) := by decide +kernel
theorem dX6_outdated_6 : decode cX6_outdated 6 = .ok (.ifCond .eq 14, 3) := by decide +kernel
theorem dX6_outdated_9 : decode cX6_outdated 9 = .ok (.aload_n 0, 1) := by decide +kernel
theorem dX6_outdated_10 : decode cX6_outdated 10 = .ok (.getfield 10, 3) := by decide +kernel
theorem dX6_outdated_13 : decode cX6_outdated 13 = .ok (.iload_n 1, 1) := by decide +kernel
theorem dX6_outdated_14 : decode cX6_outdated 14 = .ok (.invokevirtual 181, 3) := by decide +kernel
theorem dX6_outdated_17 : decode cX6_outdated 17 = .ok (.goto 4, 3) := by decide +kernel
theorem dX6_outdated_20 : decode cX6_outdated 20 = .ok (.iconst (-1), 1) := by decide +kernel
theorem dX6_outdated_21 : decode cX6_outdated 21 = .ok (.ireturn, 1) := by decide +kernel
theorem dX6_lag_0 : decode cX6_lag 0 = .ok (.iload_n 1, 1) := by decide +kernel
theorem dX6_lag_1 : decode cX6_lag 1 = .ok (.bipush 6, 2) := by decide +kernel
theorem dX6_lag_3 : decode cX6_lag 3 = .ok (.invokestatic 81, 3) := by decide +kernel
theorem dX6_lag_6 : decode cX6_lag 6 = .ok (.ifCond .eq 12, 3) := by decide +kernel
theorem dX6_lag_9 : decode cX6_lag 9 = .ok (.iload_n 2, 1) := by decide +kernel
theorem dX6_lag_10 : decode cX6_lag 10 = .ok (.bipush 10, 2) := by decide +kernel
theorem dX6_lag_12 : decode cX6_lag 12 = .ok (.invokestatic 81, 3) := by decide +kernel
theorem dX6_lag_15 : decode cX6_lag 15 = .ok (.ifCond .ne 5, 3) := by decide +kernel
theorem dX6_lag_18 : decode cX6_lag 18 = .ok (.iconst (-1), 1) := by decide +kernel
theorem dX6_lag_19 : decode cX6_lag 19 = .ok (.ireturn, 1) := by decide +kernel
theorem dX6_lag_20 : decode cX6_lag 20 = .ok (.aload_n 0, 1) := by decide +kernel
theorem dX6_lag_21 : decode cX6_lag 21 = .ok (.getfield 10, 3) := by decide +kernel
theorem dX6_lag_24 : decode cX6_lag 24 = .ok (.iload_n 1, 1) := by decide +kernel
theorem dX6_lag_25 : decode cX6_lag 25 = .ok (.iload_n 2, 1) := by decide +kernel
theorem dX6_lag_26 : decode cX6_lag 26 = .ok (.invokevirtual 145, 3) := by decide +kernel
theorem dX6_lag_29 : decode cX6_lag 29 = .ok (.ifCond .ne 6, 3) := by decide +kernel
theorem dX6_lag_32 : decode cX6_lag 32 = .ok (.bipush (-2), 2) := by decide +kernel
theorem dX6_lag_34 : decode cX6_lag 34 = .ok (.ireturn, 1) := by decide +kernel
theorem dX6_lag_35 : decode cX6_lag 35 = .ok (.aload_n 0, 1) := by decide +kernel
theorem dX6_lag_36 : decode cX6_lag 36 = .ok (.getfield 10, 3) := by decide +kernel
theorem dX6_lag_39 : decode cX6_lag 39 = .ok (.iload_n 2, 1) := by decide +kernel
theorem dX6_lag_40 : decode cX6_lag 40 = .ok (.aload_n 0, 1) := by decide +kernel
theorem dX6_lag_41 : decode cX6_lag 41 = .ok (.getfield 10, 3) := by decide +kernel
theorem dX6_lag_44 : decode cX6_lag 44 = .ok (.iload_n 1, 1) := by decide +kernel
theorem dX6_lag_45 : decode cX6_lag 45 = .ok (.iload_n 2, 1) := by decide +kernel
theorem dX6_lag_46 : decode cX6_lag 46 = .ok (.iconst 1, 1) := by decide +kernel
theorem dX6_lag_47 : decode cX6_lag 47 = .ok (.invokevirtual 148, 3) := by decide +kernel
theorem dX6_lag_50 : decode cX6_lag 50 = .ok (.invokevirtual 184, 3) := by decide +kernel
theorem dX6_lag_53 : decode cX6_lag 53 = .ok (.ireturn, 1) := by decide +kernel
theorem dX6_own_0 : decode cX6_own 0 = .ok (.iload_n 1, 1) := by decide +kernel
theorem dX6_own_1 : decode cX6_own 1 = .ok (.bipush 6, 2) := by decide +kernel
theorem dX6_own_3 : decode cX6_own 3 = .ok (.invokestatic 81, 3) := by decide +kernel
theorem dX6_own_6 : decode cX6_own 6 = .ok (.ifCond .eq 12, 3) := by decide +kernel
theorem dX6_own_9 : decode cX6_own 9 = .ok (.iload_n 2, 1) := by decide +kernel
theorem dX6_own_10 : decode cX6_own 10 = .ok (.bipush 10, 2) := by decide +kernel
theorem dX6_own_12 : decode cX6_own 12 = .ok (.invokestatic 81, 3) := by decide +kernel
theorem dX6_own_15 : decode cX6_own 15 = .ok (.ifCond .ne 5, 3) := by decide +kernel
theorem dX6_own_18 : decode cX6_own 18 = .ok (.iconst (-1), 1) := by decide +kernel
theorem dX6_own_19 : decode cX6_own 19 = .ok (.ireturn, 1) := by decide +kernel
theorem dX6_own_20 : decode cX6_own 20 = .ok (.aload_n 0, 1) := by decide +kernel
theorem dX6_own_21 : decode cX6_own 21 = .ok (.getfield 10, 3) := by decide +kernel
theorem dX6_own_24 : decode cX6_own 24 = .ok (.iload_n 1, 1) := by decide +kernel
theorem dX6_own_25 : decode cX6_own 25 = .ok (.invokevirtual 187, 3) := by decide +kernel
theorem dX6_own_28 : decode cX6_own 28 = .ok (.istore_n 3, 1) := by decide +kernel
theorem dX6_own_29 : decode cX6_own 29 = .ok (.aload_n 0, 1) := by decide +kernel
theorem dX6_own_30 : decode cX6_own 30 = .ok (.getfield 10, 3) := by decide +kernel
theorem dX6_own_33 : decode cX6_own 33 = .ok (.iload_n 3, 1) := by decide +kernel
theorem dX6_own_34 : decode cX6_own 34 = .ok (.iload_n 2, 1) := by decide +kernel
theorem dX6_own_35 : decode cX6_own 35 = .ok (.invokevirtual 145, 3) := by decide +kernel
theorem dX6_own_38 : decode cX6_own 38 = .ok (.ifCond .ne 6, 3) := by decide +kernel
theorem dX6_own_41 : decode cX6_own 41 = .ok (.bipush (-2), 2) := by decide +kernel
theorem dX6_own_43 : decode cX6_own 43 = .ok (.ireturn, 1) := by decide +kernel
theorem dX6_own_44 : decode cX6_own 44 = .ok (.aload_n 0, 1) := by decide +kernel
theorem dX6_own_45 : decode cX6_own 45 = .ok (.getfield 10, 3) := by decide +kernel
theorem dX6_own_48 : decode cX6_own 48 = .ok (.iload_n 3, 1) := by decide +kernel
theorem dX6_own_49 : decode cX6_own 49 = .ok (.iload_n 2, 1) := by decide +kernel
theorem dX6_own_50 : decode cX6_own 50 = .ok (.iconst 1, 1) := by decide +kernel
theorem dX6_own_51 : decode cX6_own 51 = .ok (.invokevirtual 148, 3) := by decide +kernel
theorem dX6_own_54 : decode cX6_own 54 = .ok (.aload_n 0, 1) := by decide +kernel
theorem dX6_own_55 : decode cX6_own 55 = .ok (.getfield 10, 3) := by decide +kernel
theorem dX6_own_58 : decode cX6_own 58 = .ok (.iload_n 1, 1) := by decide +kernel
theorem dX6_own_59 : decode cX6_own 59 = .ok (.iload_n 2, 1) := by decide +kernel
theorem dX6_own_60 : decode cX6_own 60 = .ok (.invokevirtual 190, 3) := by decide +kernel
theorem dX6_own_63 : decode cX6_own 63 = .ok (.if_icmp .lt 7, 3) := by decide +kernel
theorem dX6_own_66 : decode cX6_own 66 = .ok (.iconst 1, 1) := by decide +kernel
theorem dX6_own_67 : decode cX6_own 67 = .ok (.goto 4, 3) := by decide +kernel
theorem dX6_own_70 : decode cX6_own 70 = .ok (.iconst 0, 1) := by decide +kernel
theorem dX6_own_71 : decode cX6_own 71 = .ok (.ireturn, 1) := by decide +kernel
theorem dX6_due_0 : decode cX6_due 0 = .ok (.iload_n 1, 1) := by decide +kernel
theorem dX6_due_1 : decode cX6_due 1 = .ok (.ifCond .lt 11, 3) := by decide +kernel
theorem dX6_due_4 : decode cX6_due 4 = .ok (.iload_n 2, 1) := by decide +kernel
theorem dX6_due_5 : decode cX6_due 5 = .ok (.iconst 3, 1) := by decide +kernel
theorem dX6_due_6 : decode cX6_due 6 = .ok (.invokestatic 81, 3) := by decide +kernel
theorem dX6_due_9 : decode cX6_due 9 = .ok (.ifCond .ne 5, 3) := by decide +kernel
theorem dX6_due_12 : decode cX6_due 12 = .ok (.iconst (-1), 1) := by decide +kernel
theorem dX6_due_13 : decode cX6_due 13 = .ok (.ireturn, 1) := by decide +kernel
theorem dX6_due_14 : decode cX6_due 14 = .ok (.aload_n 0, 1) := by decide +kernel
theorem dX6_due_15 : decode cX6_due 15 = .ok (.getfield 10, 3) := by decide +kernel
theorem dX6_due_18 : decode cX6_due 18 = .ok (.iload_n 1, 1) := by decide +kernel
theorem dX6_due_19 : decode cX6_due 19 = .ok (.invokevirtual 193, 3) := by decide +kernel
theorem dX6_due_22 : decode cX6_due 22 = .ok (.istore_n 3, 1) := by decide +kernel
theorem dX6_due_23 : decode cX6_due 23 = .ok (.iload_n 3, 1) := by decide +kernel
theorem dX6_due_24 : decode cX6_due 24 = .ok (.ifCond .ge 6, 3) := by decide +kernel
theorem dX6_due_27 : decode cX6_due 27 = .ok (.bipush (-2), 2) := by decide +kernel
theorem dX6_due_29 : decode cX6_due 29 = .ok (.ireturn, 1) := by decide +kernel
theorem dX6_due_30 : decode cX6_due 30 = .ok (.iload_n 2, 1) := by decide +kernel
theorem dX6_due_31 : decode cX6_due 31 = .ok (.ifCond .ne 8, 3) := by decide +kernel
theorem dX6_due_34 : decode cX6_due 34 = .ok (.iload_n 3, 1) := by decide +kernel
theorem dX6_due_35 : decode cX6_due 35 = .ok (.invokestatic 196, 3) := by decide +kernel
theorem dX6_due_38 : decode cX6_due 38 = .ok (.ireturn, 1) := by decide +kernel
theorem dX6_due_39 : decode cX6_due 39 = .ok (.iload_n 2, 1) := by decide +kernel
theorem dX6_due_40 : decode cX6_due 40 = .ok (.iconst 1, 1) := by decide +kernel
theorem dX6_due_41 : decode cX6_due 41 = .ok (.if_icmp .ne 10, 3) := by decide +kernel
theorem dX6_due_44 : decode cX6_due 44 = .ok (.iload_n 3, 1) := by decide +kernel
theorem dX6_due_45 : decode cX6_due 45 = .ok (.invokestatic 199, 3) := by decide +kernel
theorem dX6_due_48 : decode cX6_due 48 = .ok (.goto 7, 3) := by decide +kernel
theorem dX6_due_51 : decode cX6_due 51 = .ok (.iload_n 3, 1) := by decide +kernel
theorem dX6_due_52 : decode cX6_due 52 = .ok (.invokestatic 202, 3) := by decide +kernel
theorem dX6_due_55 : decode cX6_due 55 = .ok (.ireturn, 1) := by decide +kernel
theorem dX6_hottest_0 : decode cX6_hottest 0 = .ok (.iload_n 1, 1) := by decide +kernel
theorem dX6_hottest_1 : decode cX6_hottest 1 = .ok (.bipush 10, 2) := by decide +kernel
theorem dX6_hottest_3 : decode cX6_hottest 3 = .ok (.invokestatic 81, 3) := by decide +kernel
theorem dX6_hottest_6 : decode cX6_hottest 6 = .ok (.ifCond .eq 14, 3) := by decide +kernel
theorem dX6_hottest_9 : decode cX6_hottest 9 = .ok (.aload_n 0, 1) := by decide +kernel
theorem dX6_hottest_10 : decode cX6_hottest 10 = .ok (.getfield 10, 3) := by decide +kernel
theorem dX6_hottest_13 : decode cX6_hottest 13 = .ok (.iload_n 1, 1) := by decide +kernel
theorem dX6_hottest_14 : decode cX6_hottest 14 = .ok (.invokevirtual 205, 3) := by decide +kernel
theorem dX6_hottest_17 : decode cX6_hottest 17 = .ok (.goto 4, 3) := by decide +kernel
theorem dX6_hottest_20 : decode cX6_hottest 20 = .ok (.iconst (-1), 1) := by decide +kernel
theorem dX6_hottest_21 : decode cX6_hottest 21 = .ok (.ireturn, 1) := by decide +kernel
theorem dX6_led_0 : decode cX6_led 0 = .ok (.iload_n 1, 1) := by decide +kernel
theorem dX6_led_1 : decode cX6_led 1 = .ok (.bipush 10, 2) := by decide +kernel
theorem dX6_led_3 : decode cX6_led 3 = .ok (.invokestatic 81, 3) := by decide +kernel
theorem dX6_led_6 : decode cX6_led 6 = .ok (.ifCond .eq 14, 3) := by decide +kernel
theorem dX6_led_9 : decode cX6_led 9 = .ok (.aload_n 0, 1) := by decide +kernel
theorem dX6_led_10 : decode cX6_led 10 = .ok (.getfield 10, 3) := by decide +kernel
theorem dX6_led_13 : decode cX6_led 13 = .ok (.iload_n 1, 1) := by decide +kernel
theorem dX6_led_14 : decode cX6_led 14 = .ok (.invokevirtual 208, 3) := by decide +kernel
theorem dX6_led_17 : decode cX6_led 17 = .ok (.goto 4, 3) := by decide +kernel
theorem dX6_led_20 : decode cX6_led 20 = .ok (.iconst (-1), 1) := by decide +kernel
theorem dX6_led_21 : decode cX6_led 21 = .ok (.ireturn, 1) := by decide +kernel
theorem dX6_storm_0 : decode cX6_storm 0 = .ok (.iload_n 1, 1) := by decide +kernel
theorem dX6_storm_1 : decode cX6_storm 1 = .ok (.ifCond .le 13, 3) := by decide +kernel
theorem dX6_storm_4 : decode cX6_storm 4 = .ok (.iload_n 1, 1) := by decide +kernel
theorem dX6_storm_5 : decode cX6_storm 5 = .ok (.bipush 64, 2) := by decide +kernel
theorem dX6_storm_7 : decode cX6_storm 7 = .ok (.if_icmp .ge 7, 3) := by decide +kernel
theorem dX6_storm_10 : decode cX6_storm 10 = .ok (.iconst 1, 1) := by decide +kernel
theorem dX6_storm_11 : decode cX6_storm 11 = .ok (.goto 4, 3) := by decide +kernel
theorem dX6_storm_14 : decode cX6_storm 14 = .ok (.iconst 0, 1) := by decide +kernel
theorem dX6_storm_15 : decode cX6_storm 15 = .ok (.istore 5, 2) := by decide +kernel
theorem dX6_storm_17 : decode cX6_storm 17 = .ok (.iload 5, 2) := by decide +kernel
theorem dX6_storm_19 : decode cX6_storm 19 = .ok (.ifCond .eq 29, 3) := by decide +kernel
theorem dX6_storm_22 : decode cX6_storm 22 = .ok (.iload_n 2, 1) := by decide +kernel
theorem dX6_storm_23 : decode cX6_storm 23 = .ok (.bipush 10, 2) := by decide +kernel
theorem dX6_storm_25 : decode cX6_storm 25 = .ok (.invokestatic 81, 3) := by decide +kernel
theorem dX6_storm_28 : decode cX6_storm 28 = .ok (.ifCond .eq 20, 3) := by decide +kernel
theorem dX6_storm_31 : decode cX6_storm 31 = .ok (.iload_n 3, 1) := by decide +kernel
theorem dX6_storm_32 : decode cX6_storm 32 = .ok (.iconst 2, 1) := by decide +kernel
theorem dX6_storm_33 : decode cX6_storm 33 = .ok (.invokestatic 81, 3) := by decide +kernel
theorem dX6_storm_36 : decode cX6_storm 36 = .ok (.ifCond .eq 12, 3) := by decide +kernel
theorem dX6_storm_39 : decode cX6_storm 39 = .ok (.iload 4, 2) := by decide +kernel
theorem dX6_storm_41 : decode cX6_storm 41 = .ok (.iconst 4, 1) := by decide +kernel
theorem dX6_storm_42 : decode cX6_storm 42 = .ok (.invokestatic 81, 3) := by decide +kernel
theorem dX6_storm_45 : decode cX6_storm 45 = .ok (.ifCond .ne 5, 3) := by decide +kernel
theorem dX6_storm_48 : decode cX6_storm 48 = .ok (.iconst (-1), 1) := by decide +kernel
theorem dX6_storm_49 : decode cX6_storm 49 = .ok (.ireturn, 1) := by decide +kernel
theorem dX6_storm_50 : decode cX6_storm 50 = .ok (.aload_n 0, 1) := by decide +kernel
theorem dX6_storm_51 : decode cX6_storm 51 = .ok (.getfield 16, 3) := by decide +kernel
theorem dX6_storm_54 : decode cX6_storm 54 = .ok (.aload_n 0, 1) := by decide +kernel
theorem dX6_storm_55 : decode cX6_storm 55 = .ok (.getfield 10, 3) := by decide +kernel
theorem dX6_storm_58 : decode cX6_storm 58 = .ok (.getfield 211, 3) := by decide +kernel
theorem dX6_storm_61 : decode cX6_storm 61 = .ok (.invokevirtual 214, 3) := by decide +kernel
theorem dX6_storm_64 : decode cX6_storm 64 = .ok (.aload_n 0, 1) := by decide +kernel
theorem dX6_storm_65 : decode cX6_storm 65 = .ok (.getfield 34, 3) := by decide +kernel
theorem dX6_storm_68 : decode cX6_storm 68 = .ok (.iload_n 1, 1) := by decide +kernel
theorem dX6_storm_69 : decode cX6_storm 69 = .ok (.iload_n 2, 1) := by decide +kernel
theorem dX6_storm_70 : decode cX6_storm 70 = .ok (.iload_n 3, 1) := by decide +kernel
theorem dX6_storm_71 : decode cX6_storm 71 = .ok (.iconst 1, 1) := by decide +kernel
theorem dX6_storm_72 : decode cX6_storm 72 = .ok (.if_icmp .ne 7, 3) := by decide +kernel
theorem dX6_storm_75 : decode cX6_storm 75 = .ok (.iconst 1, 1) := by decide +kernel
theorem dX6_storm_76 : decode cX6_storm 76 = .ok (.goto 4, 3) := by decide +kernel
theorem dX6_storm_79 : decode cX6_storm 79 = .ok (.iconst 0, 1) := by decide +kernel
theorem dX6_storm_80 : decode cX6_storm 80 = .ok (.invokevirtual 218, 3) := by decide +kernel
theorem dX6_storm_83 : decode cX6_storm 83 = .ok (.aload_n 0, 1) := by decide +kernel
theorem dX6_storm_84 : decode cX6_storm 84 = .ok (.getfield 34, 3) := by decide +kernel
theorem dX6_storm_87 : decode cX6_storm 87 = .ok (.iload 4, 2) := by decide +kernel
theorem dX6_storm_89 : decode cX6_storm 89 = .ok (.invokevirtual 222, 3) := by decide +kernel
theorem dX6_storm_92 : decode cX6_storm 92 = .ok (.ireturn, 1) := by decide +kernel
theorem dX6_settled_0 : decode cX6_settled 0 = .ok (.iload_n 1, 1) := by decide +kernel
theorem dX6_settled_1 : decode cX6_settled 1 = .ok (.iconst 4, 1) := by decide +kernel
theorem dX6_settled_2 : decode cX6_settled 2 = .ok (.invokestatic 81, 3) := by decide +kernel
theorem dX6_settled_5 : decode cX6_settled 5 = .ok (.ifCond .ne 5, 3) := by decide +kernel
theorem dX6_settled_8 : decode cX6_settled 8 = .ok (.iconst (-1), 1) := by decide +kernel
theorem dX6_settled_9 : decode cX6_settled 9 = .ok (.ireturn, 1) := by decide +kernel
theorem dX6_settled_10 : decode cX6_settled 10 = .ok (.aload_n 0, 1) := by decide +kernel
theorem dX6_settled_11 : decode cX6_settled 11 = .ok (.getfield 16, 3) := by decide +kernel
theorem dX6_settled_14 : decode cX6_settled 14 = .ok (.aload_n 0, 1) := by decide +kernel
theorem dX6_settled_15 : decode cX6_settled 15 = .ok (.getfield 10, 3) := by decide +kernel
theorem dX6_settled_18 : decode cX6_settled 18 = .ok (.getfield 211, 3) := by decide +kernel
theorem dX6_settled_21 : decode cX6_settled 21 = .ok (.invokevirtual 214, 3) := by decide +kernel
theorem dX6_settled_24 : decode cX6_settled 24 = .ok (.aload_n 0, 1) := by decide +kernel
theorem dX6_settled_25 : decode cX6_settled 25 = .ok (.getfield 16, 3) := by decide +kernel
theorem dX6_settled_28 : decode cX6_settled 28 = .ok (.invokevirtual 225, 3) := by decide +kernel
theorem dX6_settled_31 : decode cX6_settled 31 = .ok (.istore_n 2, 1) := by decide +kernel
theorem dX6_settled_32 : decode cX6_settled 32 = .ok (.iload_n 1, 1) := by decide +kernel
theorem dX6_settled_33 : decode cX6_settled 33 = .ok (.tableswitch 48 0 2 #[27, 29, 38], 27) := by decide +kernel
theorem dX6_settled_60 : decode cX6_settled 60 = .ok (.iload_n 2, 1) := by decide +kernel
theorem dX6_settled_61 : decode cX6_settled 61 = .ok (.ireturn, 1) := by decide +kernel
theorem dX6_settled_62 : decode cX6_settled 62 = .ok (.aload_n 0, 1) := by decide +kernel
theorem dX6_settled_63 : decode cX6_settled 63 = .ok (.getfield 16, 3) := by decide +kernel
theorem dX6_settled_66 : decode cX6_settled 66 = .ok (.iconst 5, 1) := by decide +kernel
theorem dX6_settled_67 : decode cX6_settled 67 = .ok (.invokevirtual 228, 3) := by decide +kernel
theorem dX6_settled_70 : decode cX6_settled 70 = .ok (.ireturn, 1) := by decide +kernel
theorem dX6_settled_71 : decode cX6_settled 71 = .ok (.aload_n 0, 1) := by decide +kernel
theorem dX6_settled_72 : decode cX6_settled 72 = .ok (.getfield 16, 3) := by decide +kernel
theorem dX6_settled_75 : decode cX6_settled 75 = .ok (.bipush 7, 2) := by decide +kernel
theorem dX6_settled_77 : decode cX6_settled 77 = .ok (.invokevirtual 228, 3) := by decide +kernel
theorem dX6_settled_80 : decode cX6_settled 80 = .ok (.ireturn, 1) := by decide +kernel
theorem dX6_settled_81 : decode cX6_settled 81 = .ok (.aload_n 0, 1) := by decide +kernel
theorem dX6_settled_82 : decode cX6_settled 82 = .ok (.getfield 16, 3) := by decide +kernel
theorem dX6_settled_85 : decode cX6_settled 85 = .ok (.invokevirtual 231, 3) := by decide +kernel
theorem dX6_settled_88 : decode cX6_settled 88 = .ok (.ireturn, 1) := by decide +kernel
theorem dX6_tried_0 : decode cX6_tried 0 = .ok (.iload_n 1, 1) := by decide +kernel
theorem dX6_tried_1 : decode cX6_tried 1 = .ok (.iconst 4, 1) := by decide +kernel
theorem dX6_tried_2 : decode cX6_tried 2 = .ok (.invokestatic 81, 3) := by decide +kernel
theorem dX6_tried_5 : decode cX6_tried 5 = .ok (.ifCond .eq 20, 3) := by decide +kernel
theorem dX6_tried_8 : decode cX6_tried 8 = .ok (.iload_n 2, 1) := by decide +kernel
theorem dX6_tried_9 : decode cX6_tried 9 = .ok (.bipush 6, 2) := by decide +kernel
theorem dX6_tried_11 : decode cX6_tried 11 = .ok (.invokestatic 81, 3) := by decide +kernel
theorem dX6_tried_14 : decode cX6_tried 14 = .ok (.ifCond .eq 11, 3) := by decide +kernel
theorem dX6_tried_17 : decode cX6_tried 17 = .ok (.iload_n 3, 1) := by decide +kernel
theorem dX6_tried_18 : decode cX6_tried 18 = .ok (.iconst 4, 1) := by decide +kernel
theorem dX6_tried_19 : decode cX6_tried 19 = .ok (.invokestatic 81, 3) := by decide +kernel
theorem dX6_tried_22 : decode cX6_tried 22 = .ok (.ifCond .ne 5, 3) := by decide +kernel
theorem dX6_tried_25 : decode cX6_tried 25 = .ok (.iconst (-1), 1) := by decide +kernel
theorem dX6_tried_26 : decode cX6_tried 26 = .ok (.ireturn, 1) := by decide +kernel
theorem dX6_tried_27 : decode cX6_tried 27 = .ok (.aload_n 0, 1) := by decide +kernel
theorem dX6_tried_28 : decode cX6_tried 28 = .ok (.getfield 68, 3) := by decide +kernel

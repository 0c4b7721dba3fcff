theorem dX7_told_89 : decode cX7_told 89 = .ok (.putfield 152, 3) := by decide +kernel
theorem dX7_told_92 : decode cX7_told 92 = .ok (.aload_n 0, 1) := by decide +kernel
theorem dX7_told_93 : decode cX7_told 93 = .ok (.getfield 9, 3) := by decide +kernel
theorem dX7_told_96 : decode cX7_told 96 = .ok (.iconst 0, 1) := by decide +kernel
theorem dX7_told_97 : decode cX7_told 97 = .ok (.aload_n 0, 1) := by decide +kernel
theorem dX7_told_98 : decode cX7_told 98 = .ok (.getfield 13, 3) := by decide +kernel
theorem dX7_told_101 : decode cX7_told 101 = .ok (.aload_n 0, 1) := by decide +kernel
theorem dX7_told_102 : decode cX7_told 102 = .ok (.getfield 148, 3) := by decide +kernel
theorem dX7_told_105 : decode cX7_told 105 = .ok (.sipush 1014, 3) := by decide +kernel
theorem dX7_told_108 : decode cX7_told 108 = .ok (.imul, 1) := by decide +kernel
theorem dX7_told_109 : decode cX7_told 109 = .ok (.sipush 1014, 3) := by decide +kernel
theorem dX7_told_112 : decode cX7_told 112 = .ok (.invokestatic 86, 3) := by decide +kernel
theorem dX7_told_115 : decode cX7_told 115 = .ok (.iload_n 1, 1) := by decide +kernel
theorem dX7_told_116 : decode cX7_told 116 = .ok (.ireturn, 1) := by decide +kernel
theorem dX7_undo_0 : decode cX7_undo 0 = .ok (.aload_n 0, 1) := by decide +kernel
theorem dX7_undo_1 : decode cX7_undo 1 = .ok (.getfield 148, 3) := by decide +kernel
theorem dX7_undo_4 : decode cX7_undo 4 = .ok (.ifCond .ne 6, 3) := by decide +kernel
theorem dX7_undo_7 : decode cX7_undo 7 = .ok (.bipush (-5), 2) := by decide +kernel
theorem dX7_undo_9 : decode cX7_undo 9 = .ok (.ireturn, 1) := by decide +kernel
theorem dX7_undo_10 : decode cX7_undo 10 = .ok (.aload_n 0, 1) := by decide +kernel
theorem dX7_undo_11 : decode cX7_undo 11 = .ok (.dup, 1) := by decide +kernel
theorem dX7_undo_12 : decode cX7_undo 12 = .ok (.getfield 148, 3) := by decide +kernel
theorem dX7_undo_15 : decode cX7_undo 15 = .ok (.iconst 1, 1) := by decide +kernel
theorem dX7_undo_16 : decode cX7_undo 16 = .ok (.isub, 1) := by decide +kernel
theorem dX7_undo_17 : decode cX7_undo 17 = .ok (.putfield 148, 3) := by decide +kernel
theorem dX7_undo_20 : decode cX7_undo 20 = .ok (.aload_n 0, 1) := by decide +kernel
theorem dX7_undo_21 : decode cX7_undo 21 = .ok (.getfield 13, 3) := by decide +kernel
theorem dX7_undo_24 : decode cX7_undo 24 = .ok (.aload_n 0, 1) := by decide +kernel
theorem dX7_undo_25 : decode cX7_undo 25 = .ok (.getfield 148, 3) := by decide +kernel
theorem dX7_undo_28 : decode cX7_undo 28 = .ok (.sipush 1014, 3) := by decide +kernel
theorem dX7_undo_31 : decode cX7_undo 31 = .ok (.imul, 1) := by decide +kernel
theorem dX7_undo_32 : decode cX7_undo 32 = .ok (.aload_n 0, 1) := by decide +kernel
theorem dX7_undo_33 : decode cX7_undo 33 = .ok (.getfield 9, 3) := by decide +kernel
theorem dX7_undo_36 : decode cX7_undo 36 = .ok (.iconst 0, 1) := by decide +kernel
theorem dX7_undo_37 : decode cX7_undo 37 = .ok (.sipush 1014, 3) := by decide +kernel
theorem dX7_undo_40 : decode cX7_undo 40 = .ok (.invokestatic 86, 3) := by decide +kernel
theorem dX7_undo_43 : decode cX7_undo 43 = .ok (.aload_n 0, 1) := by decide +kernel
theorem dX7_undo_44 : decode cX7_undo 44 = .ok (.getfield 148, 3) := by decide +kernel
theorem dX7_undo_47 : decode cX7_undo 47 = .ok (.ireturn, 1) := by decide +kernel
theorem dX7_redo_0 : decode cX7_redo 0 = .ok (.aload_n 0, 1) := by decide +kernel
theorem dX7_redo_1 : decode cX7_redo 1 = .ok (.getfield 148, 3) := by decide +kernel
theorem dX7_redo_4 : decode cX7_redo 4 = .ok (.aload_n 0, 1) := by decide +kernel
theorem dX7_redo_5 : decode cX7_redo 5 = .ok (.getfield 152, 3) := by decide +kernel
theorem dX7_redo_8 : decode cX7_redo 8 = .ok (.if_icmp .ne 6, 3) := by decide +kernel
theorem dX7_redo_11 : decode cX7_redo 11 = .ok (.bipush (-5), 2) := by decide +kernel
theorem dX7_redo_13 : decode cX7_redo 13 = .ok (.ireturn, 1) := by decide +kernel
theorem dX7_redo_14 : decode cX7_redo 14 = .ok (.aload_n 0, 1) := by decide +kernel
theorem dX7_redo_15 : decode cX7_redo 15 = .ok (.dup, 1) := by decide +kernel
theorem dX7_redo_16 : decode cX7_redo 16 = .ok (.getfield 148, 3) := by decide +kernel
theorem dX7_redo_19 : decode cX7_redo 19 = .ok (.iconst 1, 1) := by decide +kernel
theorem dX7_redo_20 : decode cX7_redo 20 = .ok (.iadd, 1) := by decide +kernel
theorem dX7_redo_21 : decode cX7_redo 21 = .ok (.putfield 148, 3) := by decide +kernel
theorem dX7_redo_24 : decode cX7_redo 24 = .ok (.aload_n 0, 1) := by decide +kernel
theorem dX7_redo_25 : decode cX7_redo 25 = .ok (.getfield 13, 3) := by decide +kernel
theorem dX7_redo_28 : decode cX7_redo 28 = .ok (.aload_n 0, 1) := by decide +kernel
theorem dX7_redo_29 : decode cX7_redo 29 = .ok (.getfield 148, 3) := by decide +kernel
theorem dX7_redo_32 : decode cX7_redo 32 = .ok (.sipush 1014, 3) := by decide +kernel
theorem dX7_redo_35 : decode cX7_redo 35 = .ok (.imul, 1) := by decide +kernel
theorem dX7_redo_36 : decode cX7_redo 36 = .ok (.aload_n 0, 1) := by decide +kernel
theorem dX7_redo_37 : decode cX7_redo 37 = .ok (.getfield 9, 3) := by decide +kernel
theorem dX7_redo_40 : decode cX7_redo 40 = .ok (.iconst 0, 1) := by decide +kernel
theorem dX7_redo_41 : decode cX7_redo 41 = .ok (.sipush 1014, 3) := by decide +kernel
theorem dX7_redo_44 : decode cX7_redo 44 = .ok (.invokestatic 86, 3) := by decide +kernel
theorem dX7_redo_47 : decode cX7_redo 47 = .ok (.aload_n 0, 1) := by decide +kernel
theorem dX7_redo_48 : decode cX7_redo 48 = .ok (.getfield 152, 3) := by decide +kernel
theorem dX7_redo_51 : decode cX7_redo 51 = .ok (.aload_n 0, 1) := by decide +kernel
theorem dX7_redo_52 : decode cX7_redo 52 = .ok (.getfield 148, 3) := by decide +kernel
theorem dX7_redo_55 : decode cX7_redo 55 = .ok (.isub, 1) := by decide +kernel
theorem dX7_redo_56 : decode cX7_redo 56 = .ok (.ireturn, 1) := by decide +kernel
theorem dX7_get_0 : decode cX7_get 0 = .ok (.iload_n 1, 1) := by decide +kernel
theorem dX7_get_1 : decode cX7_get 1 = .ok (.invokestatic 155, 3) := by decide +kernel
theorem dX7_get_4 : decode cX7_get 4 = .ok (.ifCond .eq 23, 3) := by decide +kernel
theorem dX7_get_7 : decode cX7_get 7 = .ok (.iload_n 2, 1) := by decide +kernel
theorem dX7_get_8 : decode cX7_get 8 = .ok (.invokestatic 158, 3) := by decide +kernel
theorem dX7_get_11 : decode cX7_get 11 = .ok (.ifCond .eq 16, 3) := by decide +kernel
theorem dX7_get_14 : decode cX7_get 14 = .ok (.aload_n 0, 1) := by decide +kernel
theorem dX7_get_15 : decode cX7_get 15 = .ok (.aload_n 0, 1) := by decide +kernel
theorem dX7_get_16 : decode cX7_get 16 = .ok (.iload_n 1, 1) := by decide +kernel
theorem dX7_get_17 : decode cX7_get 17 = .ok (.iload_n 2, 1) := by decide +kernel
theorem dX7_get_18 : decode cX7_get 18 = .ok (.invokevirtual 161, 3) := by decide +kernel
theorem dX7_get_21 : decode cX7_get 21 = .ok (.invokevirtual 164, 3) := by decide +kernel
theorem dX7_get_24 : decode cX7_get 24 = .ok (.goto 4, 3) := by decide +kernel
theorem dX7_get_27 : decode cX7_get 27 = .ok (.iconst (-1), 1) := by decide +kernel
theorem dX7_get_28 : decode cX7_get 28 = .ok (.ireturn, 1) := by decide +kernel
theorem dX7_look_0 : decode cX7_look 0 = .ok (.iload_n 1, 1) := by decide +kernel
theorem dX7_look_1 : decode cX7_look 1 = .ok (.invokestatic 155, 3) := by decide +kernel
theorem dX7_look_4 : decode cX7_look 4 = .ok (.ifCond .eq 15, 3) := by decide +kernel
theorem dX7_look_7 : decode cX7_look 7 = .ok (.aload_n 0, 1) := by decide +kernel
theorem dX7_look_8 : decode cX7_look 8 = .ok (.aload_n 0, 1) := by decide +kernel
theorem dX7_look_9 : decode cX7_look 9 = .ok (.iload_n 1, 1) := by decide +kernel
theorem dX7_look_10 : decode cX7_look 10 = .ok (.invokevirtual 167, 3) := by decide +kernel
theorem dX7_look_13 : decode cX7_look 13 = .ok (.invokevirtual 164, 3) := by decide +kernel
theorem dX7_look_16 : decode cX7_look 16 = .ok (.goto 4, 3) := by decide +kernel
theorem dX7_look_19 : decode cX7_look 19 = .ok (.iconst (-1), 1) := by decide +kernel
theorem dX7_look_20 : decode cX7_look 20 = .ok (.ireturn, 1) := by decide +kernel
theorem dX7_fill_0 : decode cX7_fill 0 = .ok (.iload_n 1, 1) := by decide +kernel
theorem dX7_fill_1 : decode cX7_fill 1 = .ok (.invokestatic 155, 3) := by decide +kernel
theorem dX7_fill_4 : decode cX7_fill 4 = .ok (.ifCond .eq 15, 3) := by decide +kernel
theorem dX7_fill_7 : decode cX7_fill 7 = .ok (.aload_n 0, 1) := by decide +kernel
theorem dX7_fill_8 : decode cX7_fill 8 = .ok (.aload_n 0, 1) := by decide +kernel
theorem dX7_fill_9 : decode cX7_fill 9 = .ok (.iload_n 1, 1) := by decide +kernel
theorem dX7_fill_10 : decode cX7_fill 10 = .ok (.invokevirtual 170, 3) := by decide +kernel
theorem dX7_fill_13 : decode cX7_fill 13 = .ok (.invokevirtual 164, 3) := by decide +kernel
theorem dX7_fill_16 : decode cX7_fill 16 = .ok (.goto 4, 3) := by decide +kernel
theorem dX7_fill_19 : decode cX7_fill 19 = .ok (.iconst (-1), 1) := by decide +kernel
theorem dX7_fill_20 : decode cX7_fill 20 = .ok (.ireturn, 1) := by decide +kernel
theorem dX7_write_0 : decode cX7_write 0 = .ok (.iload_n 1, 1) := by decide +kernel
theorem dX7_write_1 : decode cX7_write 1 = .ok (.invokestatic 155, 3) := by decide +kernel
theorem dX7_write_4 : decode cX7_write 4 = .ok (.ifCond .eq 36, 3) := by decide +kernel
theorem dX7_write_7 : decode cX7_write 7 = .ok (.iload_n 2, 1) := by decide +kernel
theorem dX7_write_8 : decode cX7_write 8 = .ok (.invokestatic 158, 3) := by decide +kernel
theorem dX7_write_11 : decode cX7_write 11 = .ok (.ifCond .eq 29, 3) := by decide +kernel
theorem dX7_write_14 : decode cX7_write 14 = .ok (.iload_n 3, 1) := by decide +kernel
theorem dX7_write_15 : decode cX7_write 15 = .ok (.i2l, 1) := by decide +kernel
theorem dX7_write_16 : decode cX7_write 16 = .ok (.lconst 0, 1) := by decide +kernel
theorem dX7_write_17 : decode cX7_write 17 = .ok (.ldc2_w 173, 3) := by decide +kernel
theorem dX7_write_20 : decode cX7_write 20 = .ok (.invokestatic 94, 3) := by decide +kernel
theorem dX7_write_23 : decode cX7_write 23 = .ok (.ifCond .eq 17, 3) := by decide +kernel
theorem dX7_write_26 : decode cX7_write 26 = .ok (.aload_n 0, 1) := by decide +kernel
theorem dX7_write_27 : decode cX7_write 27 = .ok (.aload_n 0, 1) := by decide +kernel
theorem dX7_write_28 : decode cX7_write 28 = .ok (.iload_n 1, 1) := by decide +kernel
theorem dX7_write_29 : decode cX7_write 29 = .ok (.iload_n 2, 1) := by decide +kernel
theorem dX7_write_30 : decode cX7_write 30 = .ok (.iload_n 3, 1) := by decide +kernel
theorem dX7_write_31 : decode cX7_write 31 = .ok (.invokevirtual 175, 3) := by decide +kernel
theorem dX7_write_34 : decode cX7_write 34 = .ok (.invokevirtual 164, 3) := by decide +kernel
theorem dX7_write_37 : decode cX7_write 37 = .ok (.goto 4, 3) := by decide +kernel
theorem dX7_write_40 : decode cX7_write 40 = .ok (.iconst (-1), 1) := by decide +kernel
theorem dX7_write_41 : decode cX7_write 41 = .ok (.ireturn, 1) := by decide +kernel
theorem dX7_apply_0 : decode cX7_apply 0 = .ok (.iload_n 1, 1) := by decide +kernel
theorem dX7_apply_1 : decode cX7_apply 1 = .ok (.invokestatic 179, 3) := by decide +kernel
theorem dX7_apply_4 : decode cX7_apply 4 = .ok (.ifCond .eq 15, 3) := by decide +kernel
theorem dX7_apply_7 : decode cX7_apply 7 = .ok (.aload_n 0, 1) := by decide +kernel
theorem dX7_apply_8 : decode cX7_apply 8 = .ok (.aload_n 0, 1) := by decide +kernel
theorem dX7_apply_9 : decode cX7_apply 9 = .ok (.iload_n 1, 1) := by decide +kernel
theorem dX7_apply_10 : decode cX7_apply 10 = .ok (.invokevirtual 182, 3) := by decide +kernel
theorem dX7_apply_13 : decode cX7_apply 13 = .ok (.invokevirtual 164, 3) := by decide +kernel
theorem dX7_apply_16 : decode cX7_apply 16 = .ok (.goto 4, 3) := by decide +kernel
theorem dX7_apply_19 : decode cX7_apply 19 = .ok (.iconst (-1), 1) := by decide +kernel
theorem dX7_apply_20 : decode cX7_apply 20 = .ok (.ireturn, 1) := by decide +kernel
theorem dX7_tick_0 : decode cX7_tick 0 = .ok (.iload_n 1, 1) := by decide +kernel
theorem dX7_tick_1 : decode cX7_tick 1 = .ok (.i2l, 1) := by decide +kernel
theorem dX7_tick_2 : decode cX7_tick 2 = .ok (.lconst 1, 1) := by decide +kernel
theorem dX7_tick_3 : decode cX7_tick 3 = .ok (.ldc2_w 185, 3) := by decide +kernel
theorem dX7_tick_6 : decode cX7_tick 6 = .ok (.invokestatic 94, 3) := by decide +kernel
theorem dX7_tick_9 : decode cX7_tick 9 = .ok (.ifCond .ne 5, 3) := by decide +kernel
theorem dX7_tick_12 : decode cX7_tick 12 = .ok (.iconst (-1), 1) := by decide +kernel
theorem dX7_tick_13 : decode cX7_tick 13 = .ok (.ireturn, 1) := by decide +kernel
theorem dX7_tick_14 : decode cX7_tick 14 = .ok (.aload_n 0, 1) := by decide +kernel
theorem dX7_tick_15 : decode cX7_tick 15 = .ok (.getfield 9, 3) := by decide +kernel
theorem dX7_tick_18 : decode cX7_tick 18 = .ok (.iconst 0, 1) := by decide +kernel
theorem dX7_tick_19 : decode cX7_tick 19 = .ok (.dup2, 1) := by decide +kernel
theorem dX7_tick_20 : decode cX7_tick 20 = .ok (.iaload, 1) := by decide +kernel
theorem dX7_tick_21 : decode cX7_tick 21 = .ok (.iload_n 1, 1) := by decide +kernel
theorem dX7_tick_22 : decode cX7_tick 22 = .ok (.iadd, 1) := by decide +kernel
theorem dX7_tick_23 : decode cX7_tick 23 = .ok (.iastore, 1) := by decide +kernel
theorem dX7_tick_24 : decode cX7_tick 24 = .ok (.aload_n 0, 1) := by decide +kernel
theorem dX7_tick_25 : decode cX7_tick 25 = .ok (.aload_n 0, 1) := by decide +kernel
theorem dX7_tick_26 : decode cX7_tick 26 = .ok (.getfield 9, 3) := by decide +kernel
theorem dX7_tick_29 : decode cX7_tick 29 = .ok (.iconst 0, 1) := by decide +kernel
theorem dX7_tick_30 : decode cX7_tick 30 = .ok (.iaload, 1) := by decide +kernel
theorem dX7_tick_31 : decode cX7_tick 31 = .ok (.invokevirtual 164, 3) := by decide +kernel
theorem dX7_tick_34 : decode cX7_tick 34 = .ok (.ireturn, 1) := by decide +kernel
theorem dX7_cold_0 : decode cX7_cold 0 = .ok (.iload_n 1, 1) := by decide +kernel
theorem dX7_cold_1 : decode cX7_cold 1 = .ok (.invokestatic 187, 3) := by decide +kernel
theorem dX7_cold_4 : decode cX7_cold 4 = .ok (.ifCond .eq 13, 3) := by decide +kernel
theorem dX7_cold_7 : decode cX7_cold 7 = .ok (.iload_n 2, 1) := by decide +kernel
theorem dX7_cold_8 : decode cX7_cold 8 = .ok (.i2l, 1) := by decide +kernel
theorem dX7_cold_9 : decode cX7_cold 9 = .ok (.lconst 0, 1) := by decide +kernel
theorem dX7_cold_10 : decode cX7_cold 10 = .ok (.lconst 1, 1) := by decide +kernel
theorem dX7_cold_11 : decode cX7_cold 11 = .ok (.invokestatic 94, 3) := by decide +kernel
theorem dX7_cold_14 : decode cX7_cold 14 = .ok (.ifCond .ne 5, 3) := by decide +kernel
theorem dX7_cold_17 : decode cX7_cold 17 = .ok (.iconst (-1), 1) := by decide +kernel
theorem dX7_cold_18 : decode cX7_cold 18 = .ok (.ireturn, 1) := by decide +kernel
theorem dX7_cold_19 : decode cX7_cold 19 = .ok (.aload_n 0, 1) := by decide +kernel
theorem dX7_cold_20 : decode cX7_cold 20 = .ok (.getfield 9, 3) := by decide +kernel
theorem dX7_cold_23 : decode cX7_cold 23 = .ok (.sipush 216, 3) := by decide +kernel
theorem dX7_cold_26 : decode cX7_cold 26 = .ok (.iload_n 1, 1) := by decide +kernel
theorem dX7_cold_27 : decode cX7_cold 27 = .ok (.iadd, 1) := by decide +kernel
theorem dX7_cold_28 : decode cX7_cold 28 = .ok (.iaload, 1) := by decide +kernel
theorem dX7_cold_29 : decode cX7_cold 29 = .ok (.istore_n 3, 1) := by decide +kernel
theorem dX7_cold_30 : decode cX7_cold 30 = .ok (.aload_n 0, 1) := by decide +kernel
theorem dX7_cold_31 : decode cX7_cold 31 = .ok (.iload_n 1, 1) := by decide +kernel
theorem dX7_cold_32 : decode cX7_cold 32 = .ok (.iload_n 2, 1) := by decide +kernel
theorem dX7_cold_33 : decode cX7_cold 33 = .ok (.invokevirtual 190, 3) := by decide +kernel
theorem dX7_cold_36 : decode cX7_cold 36 = .ok (.aload_n 0, 1) := by decide +kernel
theorem dX7_cold_37 : decode cX7_cold 37 = .ok (.iload_n 3, 1) := by decide +kernel
theorem dX7_cold_38 : decode cX7_cold 38 = .ok (.invokevirtual 164, 3) := by decide +kernel
theorem dX7_cold_41 : decode cX7_cold 41 = .ok (.ireturn, 1) := by decide +kernel
theorem dX7_go_0 : decode cX7_go 0 = .ok (.iload_n 1, 1) := by decide +kernel
theorem dX7_go_1 : decode cX7_go 1 = .ok (.invokestatic 155, 3) := by decide +kernel
theorem dX7_go_4 : decode cX7_go 4 = .ok (.ifCond .eq 10, 3) := by decide +kernel
theorem dX7_go_7 : decode cX7_go 7 = .ok (.iload_n 2, 1) := by decide +kernel
theorem dX7_go_8 : decode cX7_go 8 = .ok (.invokestatic 187, 3) := by decide +kernel
theorem dX7_go_11 : decode cX7_go 11 = .ok (.ifCond .ne 5, 3) := by decide +kernel
theorem dX7_go_14 : decode cX7_go 14 = .ok (.iconst (-1), 1) := by decide +kernel
theorem dX7_go_15 : decode cX7_go 15 = .ok (.ireturn, 1) := by decide +kernel
theorem dX7_go_16 : decode cX7_go 16 = .ok (.aload_n 0, 1) := by decide +kernel
theorem dX7_go_17 : decode cX7_go 17 = .ok (.iload_n 1, 1) := by decide +kernel
theorem dX7_go_18 : decode cX7_go 18 = .ok (.invokevirtual 109, 3) := by decide +kernel
theorem dX7_go_21 : decode cX7_go 21 = .ok (.istore_n 3, 1) := by decide +kernel
theorem dX7_go_22 : decode cX7_go 22 = .ok (.aload_n 0, 1) := by decide +kernel
theorem dX7_go_23 : decode cX7_go 23 = .ok (.getfield 9, 3) := by decide +kernel
theorem dX7_go_26 : decode cX7_go 26 = .ok (.iload_n 1, 1) := by decide +kernel
theorem dX7_go_27 : decode cX7_go 27 = .ok (.invokestatic 82, 3) := by decide +kernel
theorem dX7_go_30 : decode cX7_go 30 = .ok (.iconst 0, 1) := by decide +kernel
theorem dX7_go_31 : decode cX7_go 31 = .ok (.iadd, 1) := by decide +kernel
theorem dX7_go_32 : decode cX7_go 32 = .ok (.iload_n 2, 1) := by decide +kernel
theorem dX7_go_33 : decode cX7_go 33 = .ok (.iastore, 1) := by decide +kernel
theorem dX7_go_34 : decode cX7_go 34 = .ok (.aload_n 0, 1) := by decide +kernel
theorem dX7_go_35 : decode cX7_go 35 = .ok (.getfield 9, 3) := by decide +kernel
theorem dX7_go_38 : decode cX7_go 38 = .ok (.iload_n 1, 1) := by decide +kernel
theorem dX7_go_39 : decode cX7_go 39 = .ok (.invokestatic 82, 3) := by decide +kernel
theorem dX7_go_42 : decode cX7_go 42 = .ok (.iconst 1, 1) := by decide +kernel
theorem dX7_go_43 : decode cX7_go 43 = .ok (.iadd, 1) := by decide +kernel
theorem dX7_go_44 : decode cX7_go 44 = .ok (.iconst (-1), 1) := by decide +kernel
theorem dX7_go_45 : decode cX7_go 45 = .ok (.iastore, 1) := by decide +kernel
theorem dX7_go_46 : decode cX7_go 46 = .ok (.aload_n 0, 1) := by decide +kernel
theorem dX7_go_47 : decode cX7_go 47 = .ok (.iload_n 3, 1) := by decide +kernel
theorem dX7_go_48 : decode cX7_go 48 = .ok (.invokevirtual 164, 3) := by decide +kernel
theorem dX7_go_51 : decode cX7_go 51 = .ok (.ireturn, 1) := by decide +kernel
theorem dX7_set_0 : decode cX7_set 0 = .ok (.iload_n 1, 1) := by decide +kernel
theorem dX7_set_1 : decode cX7_set 1 = .ok (.i2l, 1) := by decide +kernel
theorem dX7_set_2 : decode cX7_set 2 = .ok (.lconst 0, 1) := by decide +kernel
theorem dX7_set_3 : decode cX7_set 3 = .ok (.ldc2_w 193, 3) := by decide +kernel
theorem dX7_set_6 : decode cX7_set 6 = .ok (.invokestatic 94, 3) := by decide +kernel
theorem dX7_set_9 : decode cX7_set 9 = .ok (.ifCond .ne 5, 3) := by decide +kernel
theorem dX7_set_12 : decode cX7_set 12 = .ok (.iconst (-1), 1) := by decide +kernel
theorem dX7_set_13 : decode cX7_set 13 = .ok (.ireturn, 1) := by decide +kernel
theorem dX7_set_14 : decode cX7_set 14 = .ok (.iconst 0, 1) := by decide +kernel
theorem dX7_set_15 : decode cX7_set 15 = .ok (.istore_n 3, 1) := by decide +kernel
theorem dX7_set_16 : decode cX7_set 16 = .ok (.bipush 20, 2) := by decide +kernel
theorem dX7_set_18 : decode cX7_set 18 = .ok (.istore 4, 2) := by decide +kernel
theorem dX7_set_20 : decode cX7_set 20 = .ok (.iload_n 1, 1) := by decide +kernel
theorem dX7_set_21 : decode cX7_set 21 = .ok (.ifCond .eq 13, 3) := by decide +kernel
theorem dX7_set_24 : decode cX7_set 24 = .ok (.iload_n 1, 1) := by decide +kernel
theorem dX7_set_25 : decode cX7_set 25 = .ok (.iconst 1, 1) := by decide +kernel
theorem dX7_set_26 : decode cX7_set 26 = .ok (.if_icmp .eq 8, 3) := by decide +kernel
theorem dX7_set_29 : decode cX7_set 29 = .ok (.iload_n 1, 1) := by decide +kernel
theorem dX7_set_30 : decode cX7_set 30 = .ok (.iconst 3, 1) := by decide +kernel
theorem dX7_set_31 : decode cX7_set 31 = .ok (.if_icmp .ne 5, 3) := by decide +kernel
theorem dX7_set_34 : decode cX7_set 34 = .ok (.iconst 1, 1) := by decide +kernel
theorem dX7_set_35 : decode cX7_set 35 = .ok (.istore_n 3, 1) := by decide +kernel
theorem dX7_set_36 : decode cX7_set 36 = .ok (.iload_n 1, 1) := by decide +kernel
theorem dX7_set_37 : decode cX7_set 37 = .ok (.ifCond .ne 7, 3) := by decide +kernel
theorem dX7_set_40 : decode cX7_set 40 = .ok (.bipush 8, 2) := by decide +kernel
theorem dX7_set_42 : decode cX7_set 42 = .ok (.istore 4, 2) := by decide +kernel
theorem dX7_set_44 : decode cX7_set 44 = .ok (.iload_n 1, 1) := by decide +kernel
theorem dX7_set_45 : decode cX7_set 45 = .ok (.iconst 1, 1) := by decide +kernel
theorem dX7_set_46 : decode cX7_set 46 = .ok (.if_icmp .ne 7, 3) := by decide +kernel
theorem dX7_set_49 : decode cX7_set 49 = .ok (.bipush 99, 2) := by decide +kernel
theorem dX7_set_51 : decode cX7_set 51 = .ok (.istore 4, 2) := by decide +kernel
theorem dX7_set_53 : decode cX7_set 53 = .ok (.iload_n 1, 1) := by decide +kernel
theorem dX7_set_54 : decode cX7_set 54 = .ok (.iconst 5, 1) := by decide +kernel
theorem dX7_set_55 : decode cX7_set 55 = .ok (.if_icmp .ne 6, 3) := by decide +kernel
theorem dX7_set_58 : decode cX7_set 58 = .ok (.iconst 3, 1) := by decide +kernel
theorem dX7_set_59 : decode cX7_set 59 = .ok (.istore 4, 2) := by decide +kernel
theorem dX7_set_61 : decode cX7_set 61 = .ok (.iload_n 1, 1) := by decide +kernel
theorem dX7_set_62 : decode cX7_set 62 = .ok (.bipush 6, 2) := by decide +kernel
theorem dX7_set_64 : decode cX7_set 64 = .ok (.if_icmp .ne 6, 3) := by decide +kernel
theorem dX7_set_67 : decode cX7_set 67 = .ok (.iconst 1, 1) := by decide +kernel
theorem dX7_set_68 : decode cX7_set 68 = .ok (.istore 4, 2) := by decide +kernel
theorem dX7_set_70 : decode cX7_set 70 = .ok (.iload_n 2, 1) := by decide +kernel
theorem dX7_set_71 : decode cX7_set 71 = .ok (.i2l, 1) := by decide +kernel
theorem dX7_set_72 : decode cX7_set 72 = .ok (.iload_n 3, 1) := by decide +kernel
theorem dX7_set_73 : decode cX7_set 73 = .ok (.i2l, 1) := by decide +kernel
theorem dX7_set_74 : decode cX7_set 74 = .ok (.iload 4, 2) := by decide +kernel
theorem dX7_set_76 : decode cX7_set 76 = .ok (.i2l, 1) := by decide +kernel
theorem dX7_set_77 : decode cX7_set 77 = .ok (.invokestatic 94, 3) := by decide +kernel
theorem dX7_set_80 : decode cX7_set 80 = .ok (.ifCond .ne 5, 3) := by decide +kernel
theorem dX7_set_83 : decode cX7_set 83 = .ok (.iconst (-1), 1) := by decide +kernel
theorem dX7_set_84 : decode cX7_set 84 = .ok (.ireturn, 1) := by decide +kernel
theorem dX7_set_85 : decode cX7_set 85 = .ok (.aload_n 0, 1) := by decide +kernel
theorem dX7_set_86 : decode cX7_set 86 = .ok (.getfield 9, 3) := by decide +kernel
theorem dX7_set_89 : decode cX7_set 89 = .ok (.iconst 3, 1) := by decide +kernel
theorem dX7_set_90 : decode cX7_set 90 = .ok (.iload_n 1, 1) := by decide +kernel
theorem dX7_set_91 : decode cX7_set 91 = .ok (.iadd, 1) := by decide +kernel
theorem dX7_set_92 : decode cX7_set 92 = .ok (.iaload, 1) := by decide +kernel
theorem dX7_set_93 : decode cX7_set 93 = .ok (.istore 5, 2) := by decide +kernel
theorem dX7_set_95 : decode cX7_set 95 = .ok (.aload_n 0, 1) := by decide +kernel
theorem dX7_set_96 : decode cX7_set 96 = .ok (.getfield 9, 3) := by decide +kernel
theorem dX7_set_99 : decode cX7_set 99 = .ok (.iconst 3, 1) := by decide +kernel
theorem dX7_set_100 : decode cX7_set 100 = .ok (.iload_n 1, 1) := by decide +kernel
theorem dX7_set_101 : decode cX7_set 101 = .ok (.iadd, 1) := by decide +kernel
theorem dX7_set_102 : decode cX7_set 102 = .ok (.iload_n 2, 1) := by decide +kernel
theorem dX7_set_103 : decode cX7_set 103 = .ok (.iastore, 1) := by decide +kernel
theorem dX7_set_104 : decode cX7_set 104 = .ok (.aload_n 0, 1) := by decide +kernel
theorem dX7_set_105 : decode cX7_set 105 = .ok (.iload 5, 2) := by decide +kernel
theorem dX7_set_107 : decode cX7_set 107 = .ok (.invokevirtual 164, 3) := by decide +kernel
theorem dX7_set_110 : decode cX7_set 110 = .ok (.ireturn, 1) := by decide +kernel
theorem dX7_setting_0 : decode cX7_setting 0 = .ok (.iload_n 1, 1) := by decide +kernel
theorem dX7_setting_1 : decode cX7_setting 1 = .ok (.i2l, 1) := by decide +kernel
theorem dX7_setting_2 : decode cX7_setting 2 = .ok (.lconst 0, 1) := by decide +kernel
theorem dX7_setting_3 : decode cX7_setting 3 = .ok (.ldc2_w 193, 3) := by decide +kernel
theorem dX7_setting_6 : decode cX7_setting 6 = .ok (.invokestatic 94, 3) := by decide +kernel
theorem dX7_setting_9 : decode cX7_setting 9 = .ok (.ifCond .eq 14, 3) := by decide +kernel
theorem dX7_setting_12 : decode cX7_setting 12 = .ok (.aload_n 0, 1) := by decide +kernel
theorem dX7_setting_13 : decode cX7_setting 13 = .ok (.getfield 9, 3) := by decide +kernel
theorem dX7_setting_16 : decode cX7_setting 16 = .ok (.iconst 3, 1) := by decide +kernel
theorem dX7_setting_17 : decode cX7_setting 17 = .ok (.iload_n 1, 1) := by decide +kernel
theorem dX7_setting_18 : decode cX7_setting 18 = .ok (.iadd, 1) := by decide +kernel
theorem dX7_setting_19 : decode cX7_setting 19 = .ok (.iaload, 1) := by decide +kernel
theorem dX7_setting_20 : decode cX7_setting 20 = .ok (.goto 4, 3) := by decide +kernel
theorem dX7_setting_23 : decode cX7_setting 23 = .ok (.iconst (-1), 1) := by decide +kernel
theorem dX7_setting_24 : decode cX7_setting 24 = .ok (.ireturn, 1) := by decide +kernel
theorem dX7_entry_0 : decode cX7_entry 0 = .ok (.iload_n 1, 1) := by decide +kernel
theorem dX7_entry_1 : decode cX7_entry 1 = .ok (.invokestatic 187, 3) := by decide +kernel
theorem dX7_entry_4 : decode cX7_entry 4 = .ok (.ifCond .eq 22, 3) := by decide +kernel
theorem dX7_entry_7 : decode cX7_entry 7 = .ok (.iload_n 2, 1) := by decide +kernel
theorem dX7_entry_8 : decode cX7_entry 8 = .ok (.invokestatic 158, 3) := by decide +kernel
theorem dX7_entry_11 : decode cX7_entry 11 = .ok (.ifCond .eq 15, 3) := by decide +kernel
theorem dX7_entry_14 : decode cX7_entry 14 = .ok (.iload_n 3, 1) := by decide +kernel
theorem dX7_entry_15 : decode cX7_entry 15 = .ok (.i2l, 1) := by decide +kernel
theorem dX7_entry_16 : decode cX7_entry 16 = .ok (.lconst 0, 1) := by decide +kernel
theorem dX7_entry_17 : decode cX7_entry 17 = .ok (.ldc2_w 92, 3) := by decide +kernel
theorem dX7_entry_20 : decode cX7_entry 20 = .ok (.invokestatic 94, 3) := by decide +kernel
theorem dX7_entry_23 : decode cX7_entry 23 = .ok (.ifCond .ne 5, 3) := by decide +kernel
theorem dX7_entry_26 : decode cX7_entry 26 = .ok (.iconst (-1), 1) := by decide +kernel
theorem dX7_entry_27 : decode cX7_entry 27 = .ok (.ireturn, 1) := by decide +kernel
theorem dX7_entry_28 : decode cX7_entry 28 = .ok (.iload_n 1, 1) := by decide +kernel
theorem dX7_entry_29 : decode cX7_entry 29 = .ok (.iload_n 2, 1) := by decide +kernel
theorem dX7_entry_30 : decode cX7_entry 30 = .ok (.invokestatic 112, 3) := by decide +kernel
theorem dX7_entry_33 : decode cX7_entry 33 = .ok (.istore 4, 2) := by decide +kernel
theorem dX7_entry_35 : decode cX7_entry 35 = .ok (.aload_n 0, 1) := by decide +kernel
theorem dX7_entry_36 : decode cX7_entry 36 = .ok (.iload 4, 2) := by decide +kernel
theorem dX7_entry_38 : decode cX7_entry 38 = .ok (.invokevirtual 115, 3) := by decide +kernel
theorem dX7_entry_41 : decode cX7_entry 41 = .ok (.ifCond .ne 6, 3) := by decide +kernel
theorem dX7_entry_44 : decode cX7_entry 44 = .ok (.bipush (-2), 2) := by decide +kernel
theorem dX7_entry_46 : decode cX7_entry 46 = .ok (.ireturn, 1) := by decide +kernel
theorem dX7_entry_47 : decode cX7_entry 47 = .ok (.iload_n 3, 1) := by decide +kernel
theorem dX7_entry_48 : decode cX7_entry 48 = .ok (.iconst 5, 1) := by decide +kernel
theorem dX7_entry_49 : decode cX7_entry 49 = .ok (.if_icmp .ne 13, 3) := by decide +kernel
theorem dX7_entry_52 : decode cX7_entry 52 = .ok (.aload_n 0, 1) := by decide +kernel
theorem dX7_entry_53 : decode cX7_entry 53 = .ok (.getfield 9, 3) := by decide +kernel
theorem dX7_entry_56 : decode cX7_entry 56 = .ok (.iload 4, 2) := by decide +kernel
theorem dX7_entry_58 : decode cX7_entry 58 = .ok (.iaload, 1) := by decide +kernel
theorem dX7_entry_59 : decode cX7_entry 59 = .ok (.goto 14, 3) := by decide +kernel
theorem dX7_entry_62 : decode cX7_entry 62 = .ok (.aload_n 0, 1) := by decide +kernel
theorem dX7_entry_63 : decode cX7_entry 63 = .ok (.getfield 9, 3) := by decide +kernel
theorem dX7_entry_66 : decode cX7_entry 66 = .ok (.iload 4, 2) := by decide +kernel
theorem dX7_entry_68 : decode cX7_entry 68 = .ok (.iconst 1, 1) := by decide +kernel
theorem dX7_entry_69 : decode cX7_entry 69 = .ok (.iadd, 1) := by decide +kernel
theorem dX7_entry_70 : decode cX7_entry 70 = .ok (.iload_n 3, 1) := by decide +kernel
theorem dX7_entry_71 : decode cX7_entry 71 = .ok (.iadd, 1) := by decide +kernel
theorem dX7_entry_72 : decode cX7_entry 72 = .ok (.iaload, 1) := by decide +kernel
theorem dX7_entry_73 : decode cX7_entry 73 = .ok (.ireturn, 1) := by decide +kernel
theorem dX7_beside_0 : decode cX7_beside 0 = .ok (.iload_n 1, 1) := by decide +kernel
theorem dX7_beside_1 : decode cX7_beside 1 = .ok (.invokestatic 187, 3) := by decide +kernel
theorem dX7_beside_4 : decode cX7_beside 4 = .ok (.ifCond .eq 22, 3) := by decide +kernel
theorem dX7_beside_7 : decode cX7_beside 7 = .ok (.iload_n 2, 1) := by decide +kernel
theorem dX7_beside_8 : decode cX7_beside 8 = .ok (.invokestatic 158, 3) := by decide +kernel
theorem dX7_beside_11 : decode cX7_beside 11 = .ok (.ifCond .eq 15, 3) := by decide +kernel
theorem dX7_beside_14 : decode cX7_beside 14 = .ok (.iload_n 3, 1) := by decide +kernel
theorem dX7_beside_15 : decode cX7_beside 15 = .ok (.i2l, 1) := by decide +kernel
theorem dX7_beside_16 : decode cX7_beside 16 = .ok (.lconst 0, 1) := by decide +kernel
theorem dX7_beside_17 : decode cX7_beside 17 = .ok (.ldc2_w 92, 3) := by decide +kernel
theorem dX7_beside_20 : decode cX7_beside 20 = .ok (.invokestatic 94, 3) := by decide +kernel
theorem dX7_beside_23 : decode cX7_beside 23 = .ok (.ifCond .ne 5, 3) := by decide +kernel
theorem dX7_beside_26 : decode cX7_beside 26 = .ok (.iconst (-1), 1) := by decide +kernel
theorem dX7_beside_27 : decode cX7_beside 27 = .ok (.ireturn, 1) := by decide +kernel
theorem dX7_beside_28 : decode cX7_beside 28 = .ok (.iload_n 3, 1) := by decide +kernel
theorem dX7_beside_29 : decode cX7_beside 29 = .ok (.iconst 2, 1) := by decide +kernel
theorem dX7_beside_30 : decode cX7_beside 30 = .ok (.if_icmp .ge 11, 3) := by decide +kernel
theorem dX7_beside_33 : decode cX7_beside 33 = .ok (.iload_n 1, 1) := by decide +kernel
theorem dX7_beside_34 : decode cX7_beside 34 = .ok (.iload_n 2, 1) := by decide +kernel
theorem dX7_beside_35 : decode cX7_beside 35 = .ok (.invokestatic 122, 3) := by decide +kernel
theorem dX7_beside_38 : decode cX7_beside 38 = .ok (.goto 21, 3) := by decide +kernel
theorem dX7_beside_41 : decode cX7_beside 41 = .ok (.iload_n 3, 1) := by decide +kernel
theorem dX7_beside_42 : decode cX7_beside 42 = .ok (.iconst 5, 1) := by decide +kernel
theorem dX7_beside_43 : decode cX7_beside 43 = .ok (.if_icmp .ge 11, 3) := by decide +kernel
theorem dX7_beside_46 : decode cX7_beside 46 = .ok (.iload_n 1, 1) := by decide +kernel
theorem dX7_beside_47 : decode cX7_beside 47 = .ok (.iload_n 2, 1) := by decide +kernel
theorem dX7_beside_48 : decode cX7_beside 48 = .ok (.invokestatic 119, 3) := by decide +kernel
theorem dX7_beside_51 : decode cX7_beside 51 = .ok (.goto 8, 3) := by decide +kernel
theorem dX7_beside_54 : decode cX7_beside 54 = .ok (.iload_n 1, 1) := by decide +kernel
theorem dX7_beside_55 : decode cX7_beside 55 = .ok (.iload_n 2, 1) := by decide +kernel
theorem dX7_beside_56 : decode cX7_beside 56 = .ok (.invokestatic 137, 3) := by decide +kernel
theorem dX7_beside_59 : decode cX7_beside 59 = .ok (.istore 4, 2) := by decide +kernel
theorem dX7_beside_61 : decode cX7_beside 61 = .ok (.aload_n 0, 1) := by decide +kernel
theorem dX7_beside_62 : decode cX7_beside 62 = .ok (.iload 4, 2) := by decide +kernel
theorem dX7_beside_64 : decode cX7_beside 64 = .ok (.invokevirtual 115, 3) := by decide +kernel
theorem dX7_beside_67 : decode cX7_beside 67 = .ok (.ifCond .ne 6, 3) := by decide +kernel
theorem dX7_beside_70 : decode cX7_beside 70 = .ok (.bipush (-2), 2) := by decide +kernel
theorem dX7_beside_72 : decode cX7_beside 72 = .ok (.ireturn, 1) := by decide +kernel
theorem dX7_beside_73 : decode cX7_beside 73 = .ok (.iload_n 3, 1) := by decide +kernel
theorem dX7_beside_74 : decode cX7_beside 74 = .ok (.tableswitch 50 0 3 #[30, 50, 30, 40], 30) := by decide +kernel
theorem dX7_beside_104 : decode cX7_beside 104 = .ok (.aload_n 0, 1) := by decide +kernel
theorem dX7_beside_105 : decode cX7_beside 105 = .ok (.getfield 9, 3) := by decide +kernel
theorem dX7_beside_108 : decode cX7_beside 108 = .ok (.iload 4, 2) := by decide +kernel
theorem dX7_beside_110 : decode cX7_beside 110 = .ok (.iconst 1, 1) := by decide +kernel
theorem dX7_beside_111 : decode cX7_beside 111 = .ok (.iadd, 1) := by decide +kernel
theorem dX7_beside_112 : decode cX7_beside 112 = .ok (.iaload, 1) := by decide +kernel
theorem dX7_beside_113 : decode cX7_beside 113 = .ok (.ireturn, 1) := by decide +kernel
theorem dX7_beside_114 : decode cX7_beside 114 = .ok (.aload_n 0, 1) := by decide +kernel
theorem dX7_beside_115 : decode cX7_beside 115 = .ok (.getfield 9, 3) := by decide +kernel
theorem dX7_beside_118 : decode cX7_beside 118 = .ok (.iload 4, 2) := by decide +kernel
theorem dX7_beside_120 : decode cX7_beside 120 = .ok (.iconst 2, 1) := by decide +kernel
theorem dX7_beside_121 : decode cX7_beside 121 = .ok (.iadd, 1) := by decide +kernel
theorem dX7_beside_122 : decode cX7_beside 122 = .ok (.iaload, 1) := by decide +kernel
theorem dX7_beside_123 : decode cX7_beside 123 = .ok (.ireturn, 1) := by decide +kernel
theorem dX7_beside_124 : decode cX7_beside 124 = .ok (.aload_n 0, 1) := by decide +kernel
theorem dX7_beside_125 : decode cX7_beside 125 = .ok (.getfield 9, 3) := by decide +kernel
theorem dX7_beside_128 : decode cX7_beside 128 = .ok (.iload 4, 2) := by decide +kernel
theorem dX7_beside_130 : decode cX7_beside 130 = .ok (.iaload, 1) := by decide +kernel
theorem dX7_beside_131 : decode cX7_beside 131 = .ok (.ireturn, 1) := by decide +kernel
theorem dX7_client_0 : decode cX7_client 0 = .ok (.iload_n 1, 1) := by decide +kernel
theorem dX7_client_1 : decode cX7_client 1 = .ok (.invokestatic 155, 3) := by decide +kernel
theorem dX7_client_4 : decode cX7_client 4 = .ok (.ifCond .eq 15, 3) := by decide +kernel
theorem dX7_client_7 : decode cX7_client 7 = .ok (.iload_n 2, 1) := by decide +kernel
theorem dX7_client_8 : decode cX7_client 8 = .ok (.i2l, 1) := by decide +kernel
theorem dX7_client_9 : decode cX7_client 9 = .ok (.lconst 0, 1) := by decide +kernel
theorem dX7_client_10 : decode cX7_client 10 = .ok (.ldc2_w 193, 3) := by decide +kernel
theorem dX7_client_13 : decode cX7_client 13 = .ok (.invokestatic 94, 3) := by decide +kernel
theorem dX7_client_16 : decode cX7_client 16 = .ok (.ifCond .ne 5, 3) := by decide +kernel
theorem dX7_client_19 : decode cX7_client 19 = .ok (.iconst (-1), 1) := by decide +kernel
theorem dX7_client_20 : decode cX7_client 20 = .ok (.ireturn, 1) := by decide +kernel
theorem dX7_client_21 : decode cX7_client 21 = .ok (.iload_n 1, 1) := by decide +kernel
theorem dX7_client_22 : decode cX7_client 22 = .ok (.invokestatic 82, 3) := by decide +kernel
theorem dX7_client_25 : decode cX7_client 25 = .ok (.istore_n 3, 1) := by decide +kernel
theorem dX7_client_26 : decode cX7_client 26 = .ok (.iload_n 2, 1) := by decide +kernel
theorem dX7_client_27 : decode cX7_client 27 = .ok (.ifCond .le 15, 3) := by decide +kernel
theorem dX7_client_30 : decode cX7_client 30 = .ok (.aload_n 0, 1) := by decide +kernel
theorem dX7_client_31 : decode cX7_client 31 = .ok (.getfield 9, 3) := by decide +kernel
theorem dX7_client_34 : decode cX7_client 34 = .ok (.iload_n 3, 1) := by decide +kernel
theorem dX7_client_35 : decode cX7_client 35 = .ok (.iconst 1, 1) := by decide +kernel
theorem dX7_client_36 : decode cX7_client 36 = .ok (.iadd, 1) := by decide +kernel
theorem dX7_client_37 : decode cX7_client 37 = .ok (.iaload, 1) := by decide +kernel
theorem dX7_client_38 : decode cX7_client 38 = .ok (.iconst (-1), 1) := by decide +kernel
theorem dX7_client_39 : decode cX7_client 39 = .ok (.if_icmp .eq 19, 3) := by decide +kernel
theorem dX7_client_42 : decode cX7_client 42 = .ok (.iload_n 2, 1) := by decide +kernel
theorem dX7_client_43 : decode cX7_client 43 = .ok (.iconst 3, 1) := by decide +kernel
theorem dX7_client_44 : decode cX7_client 44 = .ok (.if_icmp .le 17, 3) := by decide +kernel
theorem dX7_client_47 : decode cX7_client 47 = .ok (.aload_n 0, 1) := by decide +kernel
theorem dX7_client_48 : decode cX7_client 48 = .ok (.getfield 9, 3) := by decide +kernel
theorem dX7_client_51 : decode cX7_client 51 = .ok (.iload_n 3, 1) := by decide +kernel
theorem dX7_client_52 : decode cX7_client 52 = .ok (.iconst 3, 1) := by decide +kernel
theorem dX7_client_53 : decode cX7_client 53 = .ok (.iadd, 1) := by decide +kernel
theorem dX7_client_54 : decode cX7_client 54 = .ok (.iaload, 1) := by decide +kernel
theorem dX7_client_55 : decode cX7_client 55 = .ok (.ifCond .ne 6, 3) := by decide +kernel
theorem dX7_client_58 : decode cX7_client 58 = .ok (.bipush (-2), 2) := by decide +kernel
theorem dX7_client_60 : decode cX7_client 60 = .ok (.ireturn, 1) := by decide +kernel
theorem dX7_client_61 : decode cX7_client 61 = .ok (.aload_n 0, 1) := by decide +kernel
theorem dX7_client_62 : decode cX7_client 62 = .ok (.getfield 9, 3) := by decide +kernel
theorem dX7_client_65 : decode cX7_client 65 = .ok (.iload_n 3, 1) := by decide +kernel
theorem dX7_client_66 : decode cX7_client 66 = .ok (.iload_n 2, 1) := by decide +kernel
theorem dX7_client_67 : decode cX7_client 67 = .ok (.iadd, 1) := by decide +kernel
theorem dX7_client_68 : decode cX7_client 68 = .ok (.iaload, 1) := by decide +kernel
theorem dX7_client_69 : decode cX7_client 69 = .ok (.ireturn, 1) := by decide +kernel
theorem dX7_store_0 : decode cX7_store 0 = .ok (.iload_n 1, 1) := by decide +kernel
theorem dX7_store_1 : decode cX7_store 1 = .ok (.invokestatic 179, 3) := by decide +kernel
theorem dX7_store_4 : decode cX7_store 4 = .ok (.ifCond .eq 22, 3) := by decide +kernel
theorem dX7_store_7 : decode cX7_store 7 = .ok (.iload_n 2, 1) := by decide +kernel
theorem dX7_store_8 : decode cX7_store 8 = .ok (.invokestatic 158, 3) := by decide +kernel
theorem dX7_store_11 : decode cX7_store 11 = .ok (.ifCond .eq 15, 3) := by decide +kernel
theorem dX7_store_14 : decode cX7_store 14 = .ok (.iload_n 3, 1) := by decide +kernel
theorem dX7_store_15 : decode cX7_store 15 = .ok (.i2l, 1) := by decide +kernel
theorem dX7_store_16 : decode cX7_store 16 = .ok (.lconst 0, 1) := by decide +kernel
theorem dX7_store_17 : decode cX7_store 17 = .ok (.ldc2_w 100, 3) := by decide +kernel
theorem dX7_store_20 : decode cX7_store 20 = .ok (.invokestatic 94, 3) := by decide +kernel
theorem dX7_store_23 : decode cX7_store 23 = .ok (.ifCond .ne 5, 3) := by decide +kernel
theorem dX7_store_26 : decode cX7_store 26 = .ok (.iconst (-1), 1) := by decide +kernel
theorem dX7_store_27 : decode cX7_store 27 = .ok (.ireturn, 1) := by decide +kernel
theorem dX7_store_28 : decode cX7_store 28 = .ok (.iload_n 3, 1) := by decide +kernel
theorem dX7_store_29 : decode cX7_store 29 = .ok (.iconst 2, 1) := by decide +kernel
theorem dX7_store_30 : decode cX7_store 30 = .ok (.if_icmp .ne 42, 3) := by decide +kernel
theorem dX7_store_33 : decode cX7_store 33 = .ok (.aload_n 0, 1) := by decide +kernel
theorem dX7_store_34 : decode cX7_store 34 = .ok (.getfield 9, 3) := by decide +kernel
theorem dX7_store_37 : decode cX7_store 37 = .ok (.sipush 942, 3) := by decide +kernel
theorem dX7_store_40 : decode cX7_store 40 = .ok (.bipush 10, 2) := by decide +kernel
theorem dX7_store_42 : decode cX7_store 42 = .ok (.iload_n 1, 1) := by decide +kernel
theorem dX7_store_43 : decode cX7_store 43 = .ok (.imul, 1) := by decide +kernel
theorem dX7_store_44 : decode cX7_store 44 = .ok (.iadd, 1) := by decide +kernel
theorem dX7_store_45 : decode cX7_store 45 = .ok (.iload_n 2, 1) := by decide +kernel
theorem dX7_store_46 : decode cX7_store 46 = .ok (.iadd, 1) := by decide +kernel
theorem dX7_store_47 : decode cX7_store 47 = .ok (.iaload, 1) := by decide +kernel
theorem dX7_store_48 : decode cX7_store 48 = .ok (.ifCond .le 21, 3) := by decide +kernel
theorem dX7_store_51 : decode cX7_store 51 = .ok (.aload_n 0, 1) := by decide +kernel
theorem dX7_store_52 : decode cX7_store 52 = .ok (.getfield 9, 3) := by decide +kernel
theorem dX7_store_55 : decode cX7_store 55 = .ok (.sipush 942, 3) := by decide +kernel
theorem dX7_store_58 : decode cX7_store 58 = .ok (.bipush 10, 2) := by decide +kernel
theorem dX7_store_60 : decode cX7_store 60 = .ok (.iload_n 1, 1) := by decide +kernel
theorem dX7_store_61 : decode cX7_store 61 = .ok (.imul, 1) := by decide +kernel
theorem dX7_store_62 : decode cX7_store 62 = .ok (.iadd, 1) := by decide +kernel
theorem dX7_store_63 : decode cX7_store 63 = .ok (.iload_n 2, 1) := by decide +kernel
theorem dX7_store_64 : decode cX7_store 64 = .ok (.iadd, 1) := by decide +kernel
theorem dX7_store_65 : decode cX7_store 65 = .ok (.iaload, 1) := by decide +kernel
theorem dX7_store_66 : decode cX7_store 66 = .ok (.goto 5, 3) := by decide +kernel
theorem dX7_store_69 : decode cX7_store 69 = .ok (.bipush (-2), 2) := by decide +kernel
theorem dX7_store_71 : decode cX7_store 71 = .ok (.ireturn, 1) := by decide +kernel
theorem dX7_store_72 : decode cX7_store 72 = .ok (.aload_n 0, 1) := by decide +kernel
theorem dX7_store_73 : decode cX7_store 73 = .ok (.iload_n 1, 1) := by decide +kernel
theorem dX7_store_74 : decode cX7_store 74 = .ok (.iload_n 2, 1) := by decide +kernel
theorem dX7_store_75 : decode cX7_store 75 = .ok (.invokevirtual 125, 3) := by decide +kernel
theorem dX7_store_78 : decode cX7_store 78 = .ok (.istore 4, 2) := by decide +kernel
theorem dX7_store_80 : decode cX7_store 80 = .ok (.iload_n 3, 1) := by decide +kernel
theorem dX7_store_81 : decode cX7_store 81 = .ok (.ifCond .ne 12, 3) := by decide +kernel
theorem dX7_store_84 : decode cX7_store 84 = .ok (.aload_n 0, 1) := by decide +kernel
theorem dX7_store_85 : decode cX7_store 85 = .ok (.iload 4, 2) := by decide +kernel
theorem dX7_store_87 : decode cX7_store 87 = .ok (.invokevirtual 128, 3) := by decide +kernel
theorem dX7_store_90 : decode cX7_store 90 = .ok (.goto 5, 3) := by decide +kernel
theorem dX7_store_93 : decode cX7_store 93 = .ok (.iload 4, 2) := by decide +kernel
theorem dX7_store_95 : decode cX7_store 95 = .ok (.ireturn, 1) := by decide +kernel
theorem dX7_region_0 : decode cX7_region 0 = .ok (.iload_n 1, 1) := by decide +kernel
theorem dX7_region_1 : decode cX7_region 1 = .ok (.invokestatic 179, 3) := by decide +kernel
theorem dX7_region_4 : decode cX7_region 4 = .ok (.ifCond .eq 15, 3) := by decide +kernel
theorem dX7_region_7 : decode cX7_region 7 = .ok (.iload_n 2, 1) := by decide +kernel
theorem dX7_region_8 : decode cX7_region 8 = .ok (.i2l, 1) := by decide +kernel
theorem dX7_region_9 : decode cX7_region 9 = .ok (.lconst 0, 1) := by decide +kernel
theorem dX7_region_10 : decode cX7_region 10 = .ok (.ldc2_w 100, 3) := by decide +kernel
theorem dX7_region_13 : decode cX7_region 13 = .ok (.invokestatic 94, 3) := by decide +kernel
theorem dX7_region_16 : decode cX7_region 16 = .ok (.ifCond .ne 5, 3) := by decide +kernel
theorem dX7_region_19 : decode cX7_region 19 = .ok (.iconst (-1), 1) := by decide +kernel
theorem dX7_region_20 : decode cX7_region 20 = .ok (.ireturn, 1) := by decide +kernel
theorem dX7_region_21 : decode cX7_region 21 = .ok (.iload_n 2, 1) := by decide +kernel
theorem dX7_region_22 : decode cX7_region 22 = .ok (.ifCond .ne 15, 3) := by decide +kernel
theorem dX7_region_25 : decode cX7_region 25 = .ok (.aload_n 0, 1) := by decide +kernel
theorem dX7_region_26 : decode cX7_region 26 = .ok (.getfield 9, 3) := by decide +kernel
theorem dX7_region_29 : decode cX7_region 29 = .ok (.bipush 10, 2) := by decide +kernel
theorem dX7_region_31 : decode cX7_region 31 = .ok (.iload_n 1, 1) := by decide +kernel
theorem dX7_region_32 : decode cX7_region 32 = .ok (.iadd, 1) := by decide +kernel
theorem dX7_region_33 : decode cX7_region 33 = .ok (.iaload, 1) := by decide +kernel
theorem dX7_region_34 : decode cX7_region 34 = .ok (.goto 36, 3) := by decide +kernel
theorem dX7_region_37 : decode cX7_region 37 = .ok (.iload_n 2, 1) := by decide +kernel
theorem dX7_region_38 : decode cX7_region 38 = .ok (.iconst 1, 1) := by decide +kernel
theorem dX7_region_39 : decode cX7_region 39 = .ok (.if_icmp .ne 22, 3) := by decide +kernel
theorem dX7_region_42 : decode cX7_region 42 = .ok (.aload_n 0, 1) := by decide +kernel
theorem dX7_region_43 : decode cX7_region 43 = .ok (.getfield 9, 3) := by decide +kernel
theorem dX7_region_46 : decode cX7_region 46 = .ok (.iconst 2, 1) := by decide +kernel
theorem dX7_region_47 : decode cX7_region 47 = .ok (.iaload, 1) := by decide +kernel
theorem dX7_region_48 : decode cX7_region 48 = .ok (.aload_n 0, 1) := by decide +kernel
theorem dX7_region_49 : decode cX7_region 49 = .ok (.getfield 9, 3) := by decide +kernel
theorem dX7_region_52 : decode cX7_region 52 = .ok (.bipush 10, 2) := by decide +kernel
theorem dX7_region_54 : decode cX7_region 54 = .ok (.iload_n 1, 1) := by decide +kernel
theorem dX7_region_55 : decode cX7_region 55 = .ok (.iadd, 1) := by decide +kernel
theorem dX7_region_56 : decode cX7_region 56 = .ok (.iaload, 1) := by decide +kernel
theorem dX7_region_57 : decode cX7_region 57 = .ok (.isub, 1) := by decide +kernel
theorem dX7_region_58 : decode cX7_region 58 = .ok (.goto 12, 3) := by decide +kernel
theorem dX7_region_61 : decode cX7_region 61 = .ok (.aload_n 0, 1) := by decide +kernel
theorem dX7_region_62 : decode cX7_region 62 = .ok (.getfield 9, 3) := by decide +kernel
theorem dX7_region_65 : decode cX7_region 65 = .ok (.bipush 13, 2) := by decide +kernel
theorem dX7_region_67 : decode cX7_region 67 = .ok (.iload_n 1, 1) := by decide +kernel
theorem dX7_region_68 : decode cX7_region 68 = .ok (.iadd, 1) := by decide +kernel
theorem dX7_region_69 : decode cX7_region 69 = .ok (.iaload, 1) := by decide +kernel
theorem dX7_region_70 : decode cX7_region 70 = .ok (.ireturn, 1) := by decide +kernel
theorem dX7_within_0 : decode cX7_within 0 = .ok (.iload_n 1, 1) := by decide +kernel
theorem dX7_within_1 : decode cX7_within 1 = .ok (.invokestatic 158, 3) := by decide +kernel
theorem dX7_within_4 : decode cX7_within 4 = .ok (.ifCond .eq 29, 3) := by decide +kernel
theorem dX7_within_7 : decode cX7_within 7 = .ok (.iload_n 2, 1) := by decide +kernel
theorem dX7_within_8 : decode cX7_within 8 = .ok (.i2l, 1) := by decide +kernel
theorem dX7_within_9 : decode cX7_within 9 = .ok (.lconst 0, 1) := by decide +kernel
theorem dX7_within_10 : decode cX7_within 10 = .ok (.aload_n 0, 1) := by decide +kernel
theorem dX7_within_11 : decode cX7_within 11 = .ok (.getfield 9, 3) := by decide +kernel
theorem dX7_within_14 : decode cX7_within 14 = .ok (.iconst 2, 1) := by decide +kernel
theorem dX7_within_15 : decode cX7_within 15 = .ok (.iaload, 1) := by decide +kernel
theorem dX7_within_16 : decode cX7_within 16 = .ok (.i2l, 1) := by decide +kernel
theorem dX7_within_17 : decode cX7_within 17 = .ok (.invokestatic 94, 3) := by decide +kernel
theorem dX7_within_20 : decode cX7_within 20 = .ok (.ifCond .eq 13, 3) := by decide +kernel
theorem dX7_within_23 : decode cX7_within 23 = .ok (.iload_n 3, 1) := by decide +kernel
theorem dX7_within_24 : decode cX7_within 24 = .ok (.i2l, 1) := by decide +kernel
theorem dX7_within_25 : decode cX7_within 25 = .ok (.lconst 0, 1) := by decide +kernel
theorem dX7_within_26 : decode cX7_within 26 = .ok (.lconst 1, 1) := by decide +kernel
theorem dX7_within_27 : decode cX7_within 27 = .ok (.invokestatic 94, 3) := by decide +kernel
theorem dX7_within_30 : decode cX7_within 30 = .ok (.ifCond .ne 5, 3) := by decide +kernel
theorem dX7_within_33 : decode cX7_within 33 = .ok (.iconst (-1), 1) := by decide +kernel
theorem dX7_within_34 : decode cX7_within 34 = .ok (.ireturn, 1) := by decide +kernel
theorem dX7_within_35 : decode cX7_within 35 = .ok (.aload_n 0, 1) := by decide +kernel
theorem dX7_within_36 : decode cX7_within 36 = .ok (.iload_n 1, 1) := by decide +kernel
theorem dX7_within_37 : decode cX7_within 37 = .ok (.iload_n 2, 1) := by decide +kernel
theorem dX7_within_38 : decode cX7_within 38 = .ok (.invokevirtual 105, 3) := by decide +kernel
theorem dX7_within_41 : decode cX7_within 41 = .ok (.istore 4, 2) := by decide +kernel
theorem dX7_within_43 : decode cX7_within 43 = .ok (.iload_n 3, 1) := by decide +kernel
theorem dX7_within_44 : decode cX7_within 44 = .ok (.ifCond .ne 12, 3) := by decide +kernel
theorem dX7_within_47 : decode cX7_within 47 = .ok (.aload_n 0, 1) := by decide +kernel
theorem dX7_within_48 : decode cX7_within 48 = .ok (.iload 4, 2) := by decide +kernel
theorem dX7_within_50 : decode cX7_within 50 = .ok (.invokevirtual 128, 3) := by decide +kernel
theorem dX7_within_53 : decode cX7_within 53 = .ok (.goto 5, 3) := by decide +kernel
theorem dX7_within_56 : decode cX7_within 56 = .ok (.iload 4, 2) := by decide +kernel
theorem dX7_within_58 : decode cX7_within 58 = .ok (.ireturn, 1) := by decide +kernel
theorem dX7_least_0 : decode cX7_least 0 = .ok (.iload_n 1, 1) := by decide +kernel
theorem dX7_least_1 : decode cX7_least 1 = .ok (.invokestatic 187, 3) := by decide +kernel
theorem dX7_least_4 : decode cX7_least 4 = .ok (.ifCond .eq 15, 3) := by decide +kernel
theorem dX7_least_7 : decode cX7_least 7 = .ok (.iload_n 2, 1) := by decide +kernel
theorem dX7_least_8 : decode cX7_least 8 = .ok (.i2l, 1) := by decide +kernel
theorem dX7_least_9 : decode cX7_least 9 = .ok (.lconst 0, 1) := by decide +kernel
theorem dX7_least_10 : decode cX7_least 10 = .ok (.ldc2_w 195, 3) := by decide +kernel
theorem dX7_least_13 : decode cX7_least 13 = .ok (.invokestatic 94, 3) := by decide +kernel
theorem dX7_least_16 : decode cX7_least 16 = .ok (.ifCond .ne 5, 3) := by decide +kernel
theorem dX7_least_19 : decode cX7_least 19 = .ok (.iconst (-1), 1) := by decide +kernel
theorem dX7_least_20 : decode cX7_least 20 = .ok (.ireturn, 1) := by decide +kernel
theorem dX7_least_21 : decode cX7_least 21 = .ok (.aload_n 0, 1) := by decide +kernel
theorem dX7_least_22 : decode cX7_least 22 = .ok (.iload_n 1, 1) := by decide +kernel
theorem dX7_least_23 : decode cX7_least 23 = .ok (.iload_n 2, 1) := by decide +kernel
theorem dX7_least_24 : decode cX7_least 24 = .ok (.invokevirtual 134, 3) := by decide +kernel
theorem dX7_least_27 : decode cX7_least 27 = .ok (.istore_n 3, 1) := by decide +kernel
theorem dX7_least_28 : decode cX7_least 28 = .ok (.iload_n 3, 1) := by decide +kernel
theorem dX7_least_29 : decode cX7_least 29 = .ok (.iconst (-1), 1) := by decide +kernel
theorem dX7_least_30 : decode cX7_least 30 = .ok (.if_icmp .ne 8, 3) := by decide +kernel
theorem dX7_least_33 : decode cX7_least 33 = .ok (.bipush (-2), 2) := by decide +kernel
theorem dX7_least_35 : decode cX7_least 35 = .ok (.goto 4, 3) := by decide +kernel
theorem dX7_least_38 : decode cX7_least 38 = .ok (.iload_n 3, 1) := by decide +kernel
theorem dX7_least_39 : decode cX7_least 39 = .ok (.ireturn, 1) := by decide +kernel
theorem dX7_isOutdated_0 : decode cX7_isOutdated 0 = .ok (.aload_n 0, 1) := by decide +kernel
theorem dX7_isOutdated_1 : decode cX7_isOutdated 1 = .ok (.iload_n 1, 1) := by decide +kernel
theorem dX7_isOutdated_2 : decode cX7_isOutdated 2 = .ok (.iload_n 2, 1) := by decide +kernel
theorem dX7_isOutdated_3 : decode cX7_isOutdated 3 = .ok (.invokestatic 112, 3) := by decide +kernel
theorem dX7_isOutdated_6 : decode cX7_isOutdated 6 = .ok (.invokevirtual 115, 3) := by decide +kernel
theorem dX7_isOutdated_9 : decode cX7_isOutdated 9 = .ok (.ifCond .eq 38, 3) := by decide +kernel
theorem dX7_isOutdated_12 : decode cX7_isOutdated 12 = .ok (.aload_n 0, 1) := by decide +kernel
theorem dX7_isOutdated_13 : decode cX7_isOutdated 13 = .ok (.getfield 9, 3) := by decide +kernel
theorem dX7_isOutdated_16 : decode cX7_isOutdated 16 = .ok (.iload_n 1, 1) := by decide +kernel
theorem dX7_isOutdated_17 : decode cX7_isOutdated 17 = .ok (.iload_n 2, 1) := by decide +kernel
theorem dX7_isOutdated_18 : decode cX7_isOutdated 18 = .ok (.invokestatic 112, 3) := by decide +kernel
theorem dX7_isOutdated_21 : decode cX7_isOutdated 21 = .ok (.iconst 2, 1) := by decide +kernel
theorem dX7_isOutdated_22 : decode cX7_isOutdated 22 = .ok (.iadd, 1) := by decide +kernel
theorem dX7_isOutdated_23 : decode cX7_isOutdated 23 = .ok (.iaload, 1) := by decide +kernel
theorem dX7_isOutdated_24 : decode cX7_isOutdated 24 = .ok (.aload_n 0, 1) := by decide +kernel
theorem dX7_isOutdated_25 : decode cX7_isOutdated 25 = .ok (.iload_n 2, 1) := by decide +kernel
theorem dX7_isOutdated_26 : decode cX7_isOutdated 26 = .ok (.aload_n 0, 1) := by decide +kernel
theorem dX7_isOutdated_27 : decode cX7_isOutdated 27 = .ok (.getfield 9, 3) := by decide +kernel
theorem dX7_isOutdated_30 : decode cX7_isOutdated 30 = .ok (.bipush 10, 2) := by decide +kernel
theorem dX7_isOutdated_32 : decode cX7_isOutdated 32 = .ok (.iload_n 1, 1) := by decide +kernel
theorem dX7_isOutdated_33 : decode cX7_isOutdated 33 = .ok (.iconst 2, 1) := by decide +kernel
theorem dX7_isOutdated_34 : decode cX7_isOutdated 34 = .ok (.idiv, 1) := by decide +kernel
theorem dX7_isOutdated_35 : decode cX7_isOutdated 35 = .ok (.iadd, 1) := by decide +kernel
theorem dX7_isOutdated_36 : decode cX7_isOutdated 36 = .ok (.iaload, 1) := by decide +kernel
theorem dX7_isOutdated_37 : decode cX7_isOutdated 37 = .ok (.invokevirtual 105, 3) := by decide +kernel
theorem dX7_isOutdated_40 : decode cX7_isOutdated 40 = .ok (.if_icmp .ge 7, 3) := by decide +kernel
theorem dX7_isOutdated_43 : decode cX7_isOutdated 43 = .ok (.iconst 1, 1) := by decide +kernel
theorem dX7_isOutdated_44 : decode cX7_isOutdated 44 = .ok (.goto 4, 3) := by decide +kernel
theorem dX7_isOutdated_47 : decode cX7_isOutdated 47 = .ok (.iconst 0, 1) := by decide +kernel
theorem dX7_isOutdated_48 : decode cX7_isOutdated 48 = .ok (.ireturn, 1) := by decide +kernel
theorem dX7_outdated_0 : decode cX7_outdated 0 = .ok (.iload_n 1, 1) := by decide +kernel
theorem dX7_outdated_1 : decode cX7_outdated 1 = .ok (.invokestatic 187, 3) := by decide +kernel
theorem dX7_outdated_4 : decode cX7_outdated 4 = .ok (.ifCond .ne 5, 3) := by decide +kernel
theorem dX7_outdated_7 : decode cX7_outdated 7 = .ok (.iconst (-1), 1) := by decide +kernel
theorem dX7_outdated_8 : decode cX7_outdated 8 = .ok (.ireturn, 1) := by decide +kernel
theorem dX7_outdated_9 : decode cX7_outdated 9 = .ok (.iconst 0, 1) := by decide +kernel
theorem dX7_outdated_10 : decode cX7_outdated 10 = .ok (.istore_n 2, 1) := by decide +kernel
theorem dX7_outdated_11 : decode cX7_outdated 11 = .ok (.iconst 0, 1) := by decide +kernel
theorem dX7_outdated_12 : decode cX7_outdated 12 = .ok (.istore_n 3, 1) := by decide +kernel
theorem dX7_outdated_13 : decode cX7_outdated 13 = .ok (.iload_n 3, 1) := by decide +kernel
theorem dX7_outdated_14 : decode cX7_outdated 14 = .ok (.bipush 10, 2) := by decide +kernel
theorem dX7_outdated_16 : decode cX7_outdated 16 = .ok (.if_icmp .ge 28, 3) := by decide +kernel
theorem dX7_outdated_19 : decode cX7_outdated 19 = .ok (.iload_n 2, 1) := by decide +kernel
theorem dX7_outdated_20 : decode cX7_outdated 20 = .ok (.aload_n 0, 1) := by decide +kernel
theorem dX7_outdated_21 : decode cX7_outdated 21 = .ok (.iload_n 1, 1) := by decide +kernel
theorem dX7_outdated_22 : decode cX7_outdated 22 = .ok (.iload_n 3, 1) := by decide +kernel
theorem dX7_outdated_23 : decode cX7_outdated 23 = .ok (.invokevirtual 197, 3) := by decide +kernel
theorem dX7_outdated_26 : decode cX7_outdated 26 = .ok (.ifCond .eq 9, 3) := by decide +kernel
theorem dX7_outdated_29 : decode cX7_outdated 29 = .ok (.iconst 1, 1) := by decide +kernel
theorem dX7_outdated_30 : decode cX7_outdated 30 = .ok (.iload_n 3, 1) := by decide +kernel
theorem dX7_outdated_31 : decode cX7_outdated 31 = .ok (.ishl, 1) := by decide +kernel
theorem dX7_outdated_32 : decode cX7_outdated 32 = .ok (.goto 4, 3) := by decide +kernel
theorem dX7_outdated_35 : decode cX7_outdated 35 = .ok (.iconst 0, 1) := by decide +kernel
theorem dX7_outdated_36 : decode cX7_outdated 36 = .ok (.ior, 1) := by decide +kernel
theorem dX7_outdated_37 : decode cX7_outdated 37 = .ok (.istore_n 2, 1) := by decide +kernel
theorem dX7_outdated_38 : decode cX7_outdated 38 = .ok (.iinc 3 1, 3) := by decide +kernel
theorem dX7_outdated_41 : decode cX7_outdated 41 = .ok (.goto (-28), 3) := by decide +kernel
theorem dX7_outdated_44 : decode cX7_outdated 44 = .ok (.iload_n 2, 1) := by decide +kernel
theorem dX7_outdated_45 : decode cX7_outdated 45 = .ok (.ireturn, 1) := by decide +kernel
theorem dX7_lag_0 : decode cX7_lag 0 = .ok (.iload_n 1, 1) := by decide +kernel
theorem dX7_lag_1 : decode cX7_lag 1 = .ok (.invokestatic 187, 3) := by decide +kernel
theorem dX7_lag_4 : decode cX7_lag 4 = .ok (.ifCond .eq 10, 3) := by decide +kernel
theorem dX7_lag_7 : decode cX7_lag 7 = .ok (.iload_n 2, 1) := by decide +kernel
theorem dX7_lag_8 : decode cX7_lag 8 = .ok (.invokestatic 158, 3) := by decide +kernel
theorem dX7_lag_11 : decode cX7_lag 11 = .ok (.ifCond .ne 5, 3) := by decide +kernel
theorem dX7_lag_14 : decode cX7_lag 14 = .ok (.iconst (-1), 1) := by decide +kernel
theorem dX7_lag_15 : decode cX7_lag 15 = .ok (.ireturn, 1) := by decide +kernel
theorem dX7_lag_16 : decode cX7_lag 16 = .ok (.aload_n 0, 1) := by decide +kernel
theorem dX7_lag_17 : decode cX7_lag 17 = .ok (.iload_n 1, 1) := by decide +kernel
theorem dX7_lag_18 : decode cX7_lag 18 = .ok (.iload_n 2, 1) := by decide +kernel
theorem dX7_lag_19 : decode cX7_lag 19 = .ok (.invokestatic 112, 3) := by decide +kernel
theorem dX7_lag_22 : decode cX7_lag 22 = .ok (.invokevirtual 115, 3) := by decide +kernel
theorem dX7_lag_25 : decode cX7_lag 25 = .ok (.ifCond .ne 6, 3) := by decide +kernel
theorem dX7_lag_28 : decode cX7_lag 28 = .ok (.bipush (-2), 2) := by decide +kernel
theorem dX7_lag_30 : decode cX7_lag 30 = .ok (.ireturn, 1) := by decide +kernel
theorem dX7_lag_31 : decode cX7_lag 31 = .ok (.iconst 0, 1) := by decide +kernel
theorem dX7_lag_32 : decode cX7_lag 32 = .ok (.istore_n 3, 1) := by decide +kernel
theorem dX7_lag_33 : decode cX7_lag 33 = .ok (.aload_n 0, 1) := by decide +kernel
theorem dX7_lag_34 : decode cX7_lag 34 = .ok (.getfield 9, 3) := by decide +kernel
theorem dX7_lag_37 : decode cX7_lag 37 = .ok (.iload_n 1, 1) := by decide +kernel
theorem dX7_lag_38 : decode cX7_lag 38 = .ok (.iload_n 2, 1) := by decide +kernel
theorem dX7_lag_39 : decode cX7_lag 39 = .ok (.invokestatic 112, 3) := by decide +kernel
theorem dX7_lag_42 : decode cX7_lag 42 = .ok (.iconst 2, 1) := by decide +kernel
theorem dX7_lag_43 : decode cX7_lag 43 = .ok (.iadd, 1) := by decide +kernel
theorem dX7_lag_44 : decode cX7_lag 44 = .ok (.iaload, 1) := by decide +kernel
theorem dX7_lag_45 : decode cX7_lag 45 = .ok (.iconst 1, 1) := by decide +kernel
theorem dX7_lag_46 : decode cX7_lag 46 = .ok (.iadd, 1) := by decide +kernel
theorem dX7_lag_47 : decode cX7_lag 47 = .ok (.istore 4, 2) := by decide +kernel
theorem dX7_lag_49 : decode cX7_lag 49 = .ok (.iload 4, 2) := by decide +kernel
theorem dX7_lag_51 : decode cX7_lag 51 = .ok (.aload_n 0, 1) := by decide +kernel
theorem dX7_lag_52 : decode cX7_lag 52 = .ok (.getfield 9, 3) := by decide +kernel
theorem dX7_lag_55 : decode cX7_lag 55 = .ok (.iconst 2, 1) := by decide +kernel
theorem dX7_lag_56 : decode cX7_lag 56 = .ok (.iaload, 1) := by decide +kernel
theorem dX7_lag_57 : decode cX7_lag 57 = .ok (.if_icmp .gt 27, 3) := by decide +kernel
theorem dX7_lag_60 : decode cX7_lag 60 = .ok (.iload_n 3, 1) := by decide +kernel
theorem dX7_lag_61 : decode cX7_lag 61 = .ok (.aload_n 0, 1) := by decide +kernel
theorem dX7_lag_62 : decode cX7_lag 62 = .ok (.iload 4, 2) := by decide +kernel
theorem dX7_lag_64 : decode cX7_lag 64 = .ok (.invokevirtual 102, 3) := by decide +kernel
theorem dX7_lag_67 : decode cX7_lag 67 = .ok (.iload_n 2, 1) := by decide +kernel
theorem dX7_lag_68 : decode cX7_lag 68 = .ok (.if_icmp .ne 7, 3) := by decide +kernel

theorem dX6_tried_31 : decode cX6_tried 31 = .ok (.iload_n 1, 1) := by decide +kernel
theorem dX6_tried_32 : decode cX6_tried 32 = .ok (.iaload, 1) := by decide +kernel
theorem dX6_tried_33 : decode cX6_tried 33 = .ok (.ifCond .ge 8, 3) := by decide +kernel
theorem dX6_tried_36 : decode cX6_tried 36 = .ok (.bipush (-11), 2) := by decide +kernel
theorem dX6_tried_38 : decode cX6_tried 38 = .ok (.goto 10, 3) := by decide +kernel
theorem dX6_tried_41 : decode cX6_tried 41 = .ok (.aload_n 0, 1) := by decide +kernel
theorem dX6_tried_42 : decode cX6_tried 42 = .ok (.iload_n 1, 1) := by decide +kernel
theorem dX6_tried_43 : decode cX6_tried 43 = .ok (.iload_n 2, 1) := by decide +kernel
theorem dX6_tried_44 : decode cX6_tried 44 = .ok (.iload_n 3, 1) := by decide +kernel
theorem dX6_tried_45 : decode cX6_tried 45 = .ok (.invokevirtual 234, 3) := by decide +kernel
theorem dX6_tried_48 : decode cX6_tried 48 = .ok (.ireturn, 1) := by decide +kernel
theorem dX6_best_0 : decode cX6_best 0 = .ok (.iload_n 1, 1) := by decide +kernel
theorem dX6_best_1 : decode cX6_best 1 = .ok (.iconst 4, 1) := by decide +kernel
theorem dX6_best_2 : decode cX6_best 2 = .ok (.invokestatic 81, 3) := by decide +kernel
theorem dX6_best_5 : decode cX6_best 5 = .ok (.ifCond .eq 12, 3) := by decide +kernel
theorem dX6_best_8 : decode cX6_best 8 = .ok (.iload_n 2, 1) := by decide +kernel
theorem dX6_best_9 : decode cX6_best 9 = .ok (.bipush 6, 2) := by decide +kernel
theorem dX6_best_11 : decode cX6_best 11 = .ok (.invokestatic 81, 3) := by decide +kernel
theorem dX6_best_14 : decode cX6_best 14 = .ok (.ifCond .ne 5, 3) := by decide +kernel
theorem dX6_best_17 : decode cX6_best 17 = .ok (.iconst (-1), 1) := by decide +kernel
theorem dX6_best_18 : decode cX6_best 18 = .ok (.ireturn, 1) := by decide +kernel
theorem dX6_best_19 : decode cX6_best 19 = .ok (.aload_n 0, 1) := by decide +kernel
theorem dX6_best_20 : decode cX6_best 20 = .ok (.getfield 68, 3) := by decide +kernel
theorem dX6_best_23 : decode cX6_best 23 = .ok (.iload_n 1, 1) := by decide +kernel
theorem dX6_best_24 : decode cX6_best 24 = .ok (.iaload, 1) := by decide +kernel
theorem dX6_best_25 : decode cX6_best 25 = .ok (.ifCond .ge 6, 3) := by decide +kernel
theorem dX6_best_28 : decode cX6_best 28 = .ok (.bipush (-11), 2) := by decide +kernel
theorem dX6_best_30 : decode cX6_best 30 = .ok (.ireturn, 1) := by decide +kernel
theorem dX6_best_31 : decode cX6_best 31 = .ok (.iconst 0, 1) := by decide +kernel
theorem dX6_best_32 : decode cX6_best 32 = .ok (.istore_n 3, 1) := by decide +kernel
theorem dX6_best_33 : decode cX6_best 33 = .ok (.iconst (-1), 1) := by decide +kernel
theorem dX6_best_34 : decode cX6_best 34 = .ok (.istore 4, 2) := by decide +kernel
theorem dX6_best_36 : decode cX6_best 36 = .ok (.iconst 0, 1) := by decide +kernel
theorem dX6_best_37 : decode cX6_best 37 = .ok (.istore 5, 2) := by decide +kernel
theorem dX6_best_39 : decode cX6_best 39 = .ok (.iload 5, 2) := by decide +kernel
theorem dX6_best_41 : decode cX6_best 41 = .ok (.iconst 4, 1) := by decide +kernel
theorem dX6_best_42 : decode cX6_best 42 = .ok (.if_icmp .ge 33, 3) := by decide +kernel
theorem dX6_best_45 : decode cX6_best 45 = .ok (.aload_n 0, 1) := by decide +kernel
theorem dX6_best_46 : decode cX6_best 46 = .ok (.iload_n 1, 1) := by decide +kernel
theorem dX6_best_47 : decode cX6_best 47 = .ok (.iload_n 2, 1) := by decide +kernel
theorem dX6_best_48 : decode cX6_best 48 = .ok (.iload 5, 2) := by decide +kernel
theorem dX6_best_50 : decode cX6_best 50 = .ok (.invokevirtual 234, 3) := by decide +kernel
theorem dX6_best_53 : decode cX6_best 53 = .ok (.istore 6, 2) := by decide +kernel
theorem dX6_best_55 : decode cX6_best 55 = .ok (.iload 6, 2) := by decide +kernel
theorem dX6_best_57 : decode cX6_best 57 = .ok (.iload 4, 2) := by decide +kernel
theorem dX6_best_59 : decode cX6_best 59 = .ok (.if_icmp .le 10, 3) := by decide +kernel
theorem dX6_best_62 : decode cX6_best 62 = .ok (.iload 6, 2) := by decide +kernel
theorem dX6_best_64 : decode cX6_best 64 = .ok (.istore 4, 2) := by decide +kernel
theorem dX6_best_66 : decode cX6_best 66 = .ok (.iload 5, 2) := by decide +kernel
theorem dX6_best_68 : decode cX6_best 68 = .ok (.istore_n 3, 1) := by decide +kernel
theorem dX6_best_69 : decode cX6_best 69 = .ok (.iinc 5 1, 3) := by decide +kernel
theorem dX6_best_72 : decode cX6_best 72 = .ok (.goto (-33), 3) := by decide +kernel
theorem dX6_best_75 : decode cX6_best 75 = .ok (.iload_n 3, 1) := by decide +kernel
theorem dX6_best_76 : decode cX6_best 76 = .ok (.ireturn, 1) := by decide +kernel
theorem dX6_foreseen_0 : decode cX6_foreseen 0 = .ok (.iload_n 1, 1) := by decide +kernel
theorem dX6_foreseen_1 : decode cX6_foreseen 1 = .ok (.iconst 4, 1) := by decide +kernel
theorem dX6_foreseen_2 : decode cX6_foreseen 2 = .ok (.invokestatic 81, 3) := by decide +kernel
theorem dX6_foreseen_5 : decode cX6_foreseen 5 = .ok (.ifCond .eq 12, 3) := by decide +kernel
theorem dX6_foreseen_8 : decode cX6_foreseen 8 = .ok (.iload_n 2, 1) := by decide +kernel
theorem dX6_foreseen_9 : decode cX6_foreseen 9 = .ok (.bipush 6, 2) := by decide +kernel
theorem dX6_foreseen_11 : decode cX6_foreseen 11 = .ok (.invokestatic 81, 3) := by decide +kernel
theorem dX6_foreseen_14 : decode cX6_foreseen 14 = .ok (.ifCond .ne 5, 3) := by decide +kernel
theorem dX6_foreseen_17 : decode cX6_foreseen 17 = .ok (.iconst (-1), 1) := by decide +kernel
theorem dX6_foreseen_18 : decode cX6_foreseen 18 = .ok (.ireturn, 1) := by decide +kernel
theorem dX6_foreseen_19 : decode cX6_foreseen 19 = .ok (.aload_n 0, 1) := by decide +kernel
theorem dX6_foreseen_20 : decode cX6_foreseen 20 = .ok (.getfield 68, 3) := by decide +kernel
theorem dX6_foreseen_23 : decode cX6_foreseen 23 = .ok (.iload_n 1, 1) := by decide +kernel
theorem dX6_foreseen_24 : decode cX6_foreseen 24 = .ok (.iaload, 1) := by decide +kernel
theorem dX6_foreseen_25 : decode cX6_foreseen 25 = .ok (.ifCond .ge 8, 3) := by decide +kernel
theorem dX6_foreseen_28 : decode cX6_foreseen 28 = .ok (.bipush (-11), 2) := by decide +kernel
theorem dX6_foreseen_30 : decode cX6_foreseen 30 = .ok (.goto 19, 3) := by decide +kernel
theorem dX6_foreseen_33 : decode cX6_foreseen 33 = .ok (.aload_n 0, 1) := by decide +kernel
theorem dX6_foreseen_34 : decode cX6_foreseen 34 = .ok (.aload_n 0, 1) := by decide +kernel
theorem dX6_foreseen_35 : decode cX6_foreseen 35 = .ok (.getfield 65, 3) := by decide +kernel
theorem dX6_foreseen_38 : decode cX6_foreseen 38 = .ok (.iload_n 1, 1) := by decide +kernel
theorem dX6_foreseen_39 : decode cX6_foreseen 39 = .ok (.aaload, 1) := by decide +kernel
theorem dX6_foreseen_40 : decode cX6_foreseen 40 = .ok (.aload_n 0, 1) := by decide +kernel
theorem dX6_foreseen_41 : decode cX6_foreseen 41 = .ok (.iload_n 1, 1) := by decide +kernel
theorem dX6_foreseen_42 : decode cX6_foreseen 42 = .ok (.invokevirtual 237, 3) := by decide +kernel
theorem dX6_foreseen_45 : decode cX6_foreseen 45 = .ok (.iload_n 2, 1) := by decide +kernel
theorem dX6_foreseen_46 : decode cX6_foreseen 46 = .ok (.invokevirtual 240, 3) := by decide +kernel
theorem dX6_foreseen_49 : decode cX6_foreseen 49 = .ok (.ireturn, 1) := by decide +kernel
theorem dX6_feed_0 : decode cX6_feed 0 = .ok (.iload_n 1, 1) := by decide +kernel
theorem dX6_feed_1 : decode cX6_feed 1 = .ok (.sipush 256, 3) := by decide +kernel
theorem dX6_feed_4 : decode cX6_feed 4 = .ok (.invokestatic 81, 3) := by decide +kernel
theorem dX6_feed_7 : decode cX6_feed 7 = .ok (.ifCond .ne 5, 3) := by decide +kernel
theorem dX6_feed_10 : decode cX6_feed 10 = .ok (.iconst (-1), 1) := by decide +kernel
theorem dX6_feed_11 : decode cX6_feed 11 = .ok (.ireturn, 1) := by decide +kernel
theorem dX6_feed_12 : decode cX6_feed 12 = .ok (.aload_n 0, 1) := by decide +kernel
theorem dX6_feed_13 : decode cX6_feed 13 = .ok (.getfield 48, 3) := by decide +kernel
theorem dX6_feed_16 : decode cX6_feed 16 = .ok (.iload_n 1, 1) := by decide +kernel
theorem dX6_feed_17 : decode cX6_feed 17 = .ok (.invokevirtual 244, 3) := by decide +kernel
theorem dX6_feed_20 : decode cX6_feed 20 = .ok (.ifCond .eq 13, 3) := by decide +kernel
theorem dX6_feed_23 : decode cX6_feed 23 = .ok (.aload_n 0, 1) := by decide +kernel
theorem dX6_feed_24 : decode cX6_feed 24 = .ok (.getfield 48, 3) := by decide +kernel
theorem dX6_feed_27 : decode cX6_feed 27 = .ok (.getfield 248, 3) := by decide +kernel
theorem dX6_feed_30 : decode cX6_feed 30 = .ok (.goto 5, 3) := by decide +kernel
theorem dX6_feed_33 : decode cX6_feed 33 = .ok (.bipush (-3), 2) := by decide +kernel
theorem dX6_feed_35 : decode cX6_feed 35 = .ok (.ireturn, 1) := by decide +kernel
theorem dX6_plan_0 : decode cX6_plan 0 = .ok (.iload_n 1, 1) := by decide +kernel
theorem dX6_plan_1 : decode cX6_plan 1 = .ok (.bipush 6, 2) := by decide +kernel
theorem dX6_plan_3 : decode cX6_plan 3 = .ok (.invokestatic 81, 3) := by decide +kernel
theorem dX6_plan_6 : decode cX6_plan 6 = .ok (.ifCond .ne 5, 3) := by decide +kernel
theorem dX6_plan_9 : decode cX6_plan 9 = .ok (.iconst (-1), 1) := by decide +kernel
theorem dX6_plan_10 : decode cX6_plan 10 = .ok (.ireturn, 1) := by decide +kernel
theorem dX6_plan_11 : decode cX6_plan 11 = .ok (.aload_n 0, 1) := by decide +kernel
theorem dX6_plan_12 : decode cX6_plan 12 = .ok (.getfield 48, 3) := by decide +kernel
theorem dX6_plan_15 : decode cX6_plan 15 = .ok (.aload_n 0, 1) := by decide +kernel
theorem dX6_plan_16 : decode cX6_plan 16 = .ok (.getfield 59, 3) := by decide +kernel
theorem dX6_plan_19 : decode cX6_plan 19 = .ok (.invokevirtual 251, 3) := by decide +kernel
theorem dX6_plan_22 : decode cX6_plan 22 = .ok (.istore_n 2, 1) := by decide +kernel
theorem dX6_plan_23 : decode cX6_plan 23 = .ok (.aload_n 0, 1) := by decide +kernel
theorem dX6_plan_24 : decode cX6_plan 24 = .ok (.getfield 48, 3) := by decide +kernel
theorem dX6_plan_27 : decode cX6_plan 27 = .ok (.iconst 0, 1) := by decide +kernel
theorem dX6_plan_28 : decode cX6_plan 28 = .ok (.putfield 248, 3) := by decide +kernel
theorem dX6_plan_31 : decode cX6_plan 31 = .ok (.iload_n 2, 1) := by decide +kernel
theorem dX6_plan_32 : decode cX6_plan 32 = .ok (.ifCond .le 25, 3) := by decide +kernel
theorem dX6_plan_35 : decode cX6_plan 35 = .ok (.aload_n 0, 1) := by decide +kernel
theorem dX6_plan_36 : decode cX6_plan 36 = .ok (.getfield 54, 3) := by decide +kernel
theorem dX6_plan_39 : decode cX6_plan 39 = .ok (.iload_n 1, 1) := by decide +kernel
theorem dX6_plan_40 : decode cX6_plan 40 = .ok (.aaload, 1) := by decide +kernel
theorem dX6_plan_41 : decode cX6_plan 41 = .ok (.astore_n 3, 1) := by decide +kernel
theorem dX6_plan_42 : decode cX6_plan 42 = .ok (.aload_n 0, 1) := by decide +kernel
theorem dX6_plan_43 : decode cX6_plan 43 = .ok (.getfield 54, 3) := by decide +kernel
theorem dX6_plan_46 : decode cX6_plan 46 = .ok (.iload_n 1, 1) := by decide +kernel
theorem dX6_plan_47 : decode cX6_plan 47 = .ok (.aload_n 0, 1) := by decide +kernel
theorem dX6_plan_48 : decode cX6_plan 48 = .ok (.getfield 59, 3) := by decide +kernel
theorem dX6_plan_51 : decode cX6_plan 51 = .ok (.aastore, 1) := by decide +kernel
theorem dX6_plan_52 : decode cX6_plan 52 = .ok (.aload_n 0, 1) := by decide +kernel
theorem dX6_plan_53 : decode cX6_plan 53 = .ok (.aload_n 3, 1) := by decide +kernel
theorem dX6_plan_54 : decode cX6_plan 54 = .ok (.putfield 59, 3) := by decide +kernel
theorem dX6_plan_57 : decode cX6_plan 57 = .ok (.iload_n 2, 1) := by decide +kernel
theorem dX6_plan_58 : decode cX6_plan 58 = .ok (.ireturn, 1) := by decide +kernel
theorem dX6_orders_0 : decode cX6_orders 0 = .ok (.aload_n 0, 1) := by decide +kernel
theorem dX6_orders_1 : decode cX6_orders 1 = .ok (.iload_n 1, 1) := by decide +kernel
theorem dX6_orders_2 : decode cX6_orders 2 = .ok (.invokevirtual 255, 3) := by decide +kernel
theorem dX6_orders_5 : decode cX6_orders 5 = .ok (.ifCond .eq 20, 3) := by decide +kernel
theorem dX6_orders_8 : decode cX6_orders 8 = .ok (.iload_n 2, 1) := by decide +kernel
theorem dX6_orders_9 : decode cX6_orders 9 = .ok (.bipush 10, 2) := by decide +kernel
theorem dX6_orders_11 : decode cX6_orders 11 = .ok (.invokestatic 81, 3) := by decide +kernel
theorem dX6_orders_14 : decode cX6_orders 14 = .ok (.ifCond .eq 11, 3) := by decide +kernel
theorem dX6_orders_17 : decode cX6_orders 17 = .ok (.iload_n 3, 1) := by decide +kernel
theorem dX6_orders_18 : decode cX6_orders 18 = .ok (.iconst 5, 1) := by decide +kernel
theorem dX6_orders_19 : decode cX6_orders 19 = .ok (.invokestatic 81, 3) := by decide +kernel
theorem dX6_orders_22 : decode cX6_orders 22 = .ok (.ifCond .ne 5, 3) := by decide +kernel
theorem dX6_orders_25 : decode cX6_orders 25 = .ok (.iconst (-1), 1) := by decide +kernel
theorem dX6_orders_26 : decode cX6_orders 26 = .ok (.ireturn, 1) := by decide +kernel
theorem dX6_orders_27 : decode cX6_orders 27 = .ok (.aload_n 0, 1) := by decide +kernel
theorem dX6_orders_28 : decode cX6_orders 28 = .ok (.iload_n 1, 1) := by decide +kernel
theorem dX6_orders_29 : decode cX6_orders 29 = .ok (.invokevirtual 258, 3) := by decide +kernel
theorem dX6_orders_32 : decode cX6_orders 32 = .ok (.bipush 8, 2) := by decide +kernel
theorem dX6_orders_34 : decode cX6_orders 34 = .ok (.if_icmp .le 6, 3) := by decide +kernel
theorem dX6_orders_37 : decode cX6_orders 37 = .ok (.bipush (-5), 2) := by decide +kernel
theorem dX6_orders_39 : decode cX6_orders 39 = .ok (.ireturn, 1) := by decide +kernel
theorem dX6_orders_40 : decode cX6_orders 40 = .ok (.aload_n 0, 1) := by decide +kernel
theorem dX6_orders_41 : decode cX6_orders 41 = .ok (.getfield 41, 3) := by decide +kernel
theorem dX6_orders_44 : decode cX6_orders 44 = .ok (.aload_n 0, 1) := by decide +kernel
theorem dX6_orders_45 : decode cX6_orders 45 = .ok (.getfield 10, 3) := by decide +kernel
theorem dX6_orders_48 : decode cX6_orders 48 = .ok (.aload_n 0, 1) := by decide +kernel
theorem dX6_orders_49 : decode cX6_orders 49 = .ok (.getfield 54, 3) := by decide +kernel
theorem dX6_orders_52 : decode cX6_orders 52 = .ok (.iload_n 1, 1) := by decide +kernel
theorem dX6_orders_53 : decode cX6_orders 53 = .ok (.iload_n 2, 1) := by decide +kernel
theorem dX6_orders_54 : decode cX6_orders 54 = .ok (.invokevirtual 261, 3) := by decide +kernel
theorem dX6_orders_57 : decode cX6_orders 57 = .ok (.aload_n 0, 1) := by decide +kernel
theorem dX6_orders_58 : decode cX6_orders 58 = .ok (.getfield 41, 3) := by decide +kernel
theorem dX6_orders_61 : decode cX6_orders 61 = .ok (.iload_n 3, 1) := by decide +kernel
theorem dX6_orders_62 : decode cX6_orders 62 = .ok (.invokevirtual 265, 3) := by decide +kernel
theorem dX6_orders_65 : decode cX6_orders 65 = .ok (.ireturn, 1) := by decide +kernel
theorem dX6_witness_0 : decode cX6_witness 0 = .ok (.aload_n 0, 1) := by decide +kernel
theorem dX6_witness_1 : decode cX6_witness 1 = .ok (.iload_n 1, 1) := by decide +kernel
theorem dX6_witness_2 : decode cX6_witness 2 = .ok (.invokevirtual 255, 3) := by decide +kernel
theorem dX6_witness_5 : decode cX6_witness 5 = .ok (.ifCond .eq 7, 3) := by decide +kernel
theorem dX6_witness_8 : decode cX6_witness 8 = .ok (.iload_n 2, 1) := by decide +kernel
theorem dX6_witness_9 : decode cX6_witness 9 = .ok (.ifCond .ge 5, 3) := by decide +kernel
theorem dX6_witness_12 : decode cX6_witness 12 = .ok (.iconst (-1), 1) := by decide +kernel
theorem dX6_witness_13 : decode cX6_witness 13 = .ok (.ireturn, 1) := by decide +kernel
theorem dX6_witness_14 : decode cX6_witness 14 = .ok (.aload_n 0, 1) := by decide +kernel
theorem dX6_witness_15 : decode cX6_witness 15 = .ok (.iload_n 1, 1) := by decide +kernel
theorem dX6_witness_16 : decode cX6_witness 16 = .ok (.invokevirtual 258, 3) := by decide +kernel
theorem dX6_witness_19 : decode cX6_witness 19 = .ok (.bipush 8, 2) := by decide +kernel
theorem dX6_witness_21 : decode cX6_witness 21 = .ok (.if_icmp .le 6, 3) := by decide +kernel
theorem dX6_witness_24 : decode cX6_witness 24 = .ok (.bipush (-5), 2) := by decide +kernel
theorem dX6_witness_26 : decode cX6_witness 26 = .ok (.ireturn, 1) := by decide +kernel
theorem dX6_witness_27 : decode cX6_witness 27 = .ok (.aload_n 0, 1) := by decide +kernel
theorem dX6_witness_28 : decode cX6_witness 28 = .ok (.getfield 41, 3) := by decide +kernel
theorem dX6_witness_31 : decode cX6_witness 31 = .ok (.aload_n 0, 1) := by decide +kernel
theorem dX6_witness_32 : decode cX6_witness 32 = .ok (.getfield 10, 3) := by decide +kernel
theorem dX6_witness_35 : decode cX6_witness 35 = .ok (.aload_n 0, 1) := by decide +kernel
theorem dX6_witness_36 : decode cX6_witness 36 = .ok (.getfield 54, 3) := by decide +kernel
theorem dX6_witness_39 : decode cX6_witness 39 = .ok (.iload_n 1, 1) := by decide +kernel
theorem dX6_witness_40 : decode cX6_witness 40 = .ok (.iconst 0, 1) := by decide +kernel
theorem dX6_witness_41 : decode cX6_witness 41 = .ok (.invokevirtual 261, 3) := by decide +kernel
theorem dX6_witness_44 : decode cX6_witness 44 = .ok (.aload_n 0, 1) := by decide +kernel
theorem dX6_witness_45 : decode cX6_witness 45 = .ok (.getfield 41, 3) := by decide +kernel
theorem dX6_witness_48 : decode cX6_witness 48 = .ok (.iload_n 2, 1) := by decide +kernel
theorem dX6_witness_49 : decode cX6_witness 49 = .ok (.invokevirtual 266, 3) := by decide +kernel
theorem dX6_witness_52 : decode cX6_witness 52 = .ok (.ireturn, 1) := by decide +kernel
theorem dX6_row_0 : decode cX6_row 0 = .ok (.iload_n 1, 1) := by decide +kernel
theorem dX6_row_1 : decode cX6_row 1 = .ok (.iconst 4, 1) := by decide +kernel
theorem dX6_row_2 : decode cX6_row 2 = .ok (.invokestatic 81, 3) := by decide +kernel
theorem dX6_row_5 : decode cX6_row 5 = .ok (.ifCond .eq 9, 3) := by decide +kernel
theorem dX6_row_8 : decode cX6_row 8 = .ok (.iload_n 2, 1) := by decide +kernel
theorem dX6_row_9 : decode cX6_row 9 = .ok (.bipush 40, 2) := by decide +kernel
theorem dX6_row_11 : decode cX6_row 11 = .ok (.if_icmp .le 5, 3) := by decide +kernel
theorem dX6_row_14 : decode cX6_row 14 = .ok (.iconst (-1), 1) := by decide +kernel
theorem dX6_row_15 : decode cX6_row 15 = .ok (.ireturn, 1) := by decide +kernel
theorem dX6_row_16 : decode cX6_row 16 = .ok (.iload_n 2, 1) := by decide +kernel
theorem dX6_row_17 : decode cX6_row 17 = .ok (.ifCond .ge 6, 3) := by decide +kernel
theorem dX6_row_20 : decode cX6_row 20 = .ok (.bipush (-14), 2) := by decide +kernel
theorem dX6_row_22 : decode cX6_row 22 = .ok (.ireturn, 1) := by decide +kernel
theorem dX6_row_23 : decode cX6_row 23 = .ok (.aload_n 0, 1) := by decide +kernel
theorem dX6_row_24 : decode cX6_row 24 = .ok (.getfield 65, 3) := by decide +kernel
theorem dX6_row_27 : decode cX6_row 27 = .ok (.iload_n 1, 1) := by decide +kernel
theorem dX6_row_28 : decode cX6_row 28 = .ok (.aaload, 1) := by decide +kernel
theorem dX6_row_29 : decode cX6_row 29 = .ok (.lconst 0, 1) := by decide +kernel
theorem dX6_row_30 : decode cX6_row 30 = .ok (.invokestatic 269, 3) := by decide +kernel
theorem dX6_row_33 : decode cX6_row 33 = .ok (.aload_n 0, 1) := by decide +kernel
theorem dX6_row_34 : decode cX6_row 34 = .ok (.getfield 68, 3) := by decide +kernel
theorem dX6_row_37 : decode cX6_row 37 = .ok (.iload_n 1, 1) := by decide +kernel
theorem dX6_row_38 : decode cX6_row 38 = .ok (.iload_n 2, 1) := by decide +kernel
theorem dX6_row_39 : decode cX6_row 39 = .ok (.iastore, 1) := by decide +kernel
theorem dX6_row_40 : decode cX6_row 40 = .ok (.iconst 1, 1) := by decide +kernel
theorem dX6_row_41 : decode cX6_row 41 = .ok (.ireturn, 1) := by decide +kernel
theorem dX6_put_0 : decode cX6_put 0 = .ok (.aload_n 0, 1) := by decide +kernel
theorem dX6_put_1 : decode cX6_put 1 = .ok (.iload_n 1, 1) := by decide +kernel
theorem dX6_put_2 : decode cX6_put 2 = .ok (.iload_n 2, 1) := by decide +kernel
theorem dX6_put_3 : decode cX6_put 3 = .ok (.invokevirtual 272, 3) := by decide +kernel
theorem dX6_put_6 : decode cX6_put 6 = .ok (.istore 5, 2) := by decide +kernel
theorem dX6_put_8 : decode cX6_put 8 = .ok (.iload 5, 2) := by decide +kernel
theorem dX6_put_10 : decode cX6_put 10 = .ok (.ifCond .ge 6, 3) := by decide +kernel
theorem dX6_put_13 : decode cX6_put 13 = .ok (.iload 5, 2) := by decide +kernel
theorem dX6_put_15 : decode cX6_put 15 = .ok (.ireturn, 1) := by decide +kernel
theorem dX6_put_16 : decode cX6_put 16 = .ok (.aload_n 0, 1) := by decide +kernel
theorem dX6_put_17 : decode cX6_put 17 = .ok (.getfield 65, 3) := by decide +kernel
theorem dX6_put_20 : decode cX6_put 20 = .ok (.iload_n 1, 1) := by decide +kernel
theorem dX6_put_21 : decode cX6_put 21 = .ok (.aaload, 1) := by decide +kernel
theorem dX6_put_22 : decode cX6_put 22 = .ok (.iload_n 2, 1) := by decide +kernel
theorem dX6_put_23 : decode cX6_put 23 = .ok (.lload_n 3, 1) := by decide +kernel
theorem dX6_put_24 : decode cX6_put 24 = .ok (.lastore, 1) := by decide +kernel
theorem dX6_put_25 : decode cX6_put 25 = .ok (.iconst 1, 1) := by decide +kernel
theorem dX6_put_26 : decode cX6_put 26 = .ok (.ireturn, 1) := by decide +kernel
theorem dX6_element_0 : decode cX6_element 0 = .ok (.aload_n 0, 1) := by decide +kernel
theorem dX6_element_1 : decode cX6_element 1 = .ok (.iload_n 1, 1) := by decide +kernel
theorem dX6_element_2 : decode cX6_element 2 = .ok (.iload_n 2, 1) := by decide +kernel
theorem dX6_element_3 : decode cX6_element 3 = .ok (.invokevirtual 272, 3) := by decide +kernel
theorem dX6_element_6 : decode cX6_element 6 = .ok (.ifCond .ge 9, 3) := by decide +kernel
theorem dX6_element_9 : decode cX6_element 9 = .ok (.ldc2_w 277, 3) := by decide +kernel
theorem dX6_element_12 : decode cX6_element 12 = .ok (.goto 11, 3) := by decide +kernel
theorem dX6_element_15 : decode cX6_element 15 = .ok (.aload_n 0, 1) := by decide +kernel
theorem dX6_element_16 : decode cX6_element 16 = .ok (.getfield 65, 3) := by decide +kernel
theorem dX6_element_19 : decode cX6_element 19 = .ok (.iload_n 1, 1) := by decide +kernel
theorem dX6_element_20 : decode cX6_element 20 = .ok (.aaload, 1) := by decide +kernel
theorem dX6_element_21 : decode cX6_element 21 = .ok (.iload_n 2, 1) := by decide +kernel
theorem dX6_element_22 : decode cX6_element 22 = .ok (.laload, 1) := by decide +kernel
theorem dX6_element_23 : decode cX6_element 23 = .ok (.lreturn, 1) := by decide +kernel
theorem dX6_save_0 : decode cX6_save 0 = .ok (.iload_n 1, 1) := by decide +kernel
theorem dX6_save_1 : decode cX6_save 1 = .ok (.iconst 4, 1) := by decide +kernel
theorem dX6_save_2 : decode cX6_save 2 = .ok (.invokestatic 81, 3) := by decide +kernel
theorem dX6_save_5 : decode cX6_save 5 = .ok (.ifCond .eq 12, 3) := by decide +kernel
theorem dX6_save_8 : decode cX6_save 8 = .ok (.iload_n 3, 1) := by decide +kernel
theorem dX6_save_9 : decode cX6_save 9 = .ok (.bipush 6, 2) := by decide +kernel
theorem dX6_save_11 : decode cX6_save 11 = .ok (.invokestatic 81, 3) := by decide +kernel
theorem dX6_save_14 : decode cX6_save 14 = .ok (.ifCond .ne 5, 3) := by decide +kernel
theorem dX6_save_17 : decode cX6_save 17 = .ok (.iconst (-1), 1) := by decide +kernel
theorem dX6_save_18 : decode cX6_save 18 = .ok (.ireturn, 1) := by decide +kernel
theorem dX6_save_19 : decode cX6_save 19 = .ok (.aload_n 0, 1) := by decide +kernel
theorem dX6_save_20 : decode cX6_save 20 = .ok (.getfield 68, 3) := by decide +kernel
theorem dX6_save_23 : decode cX6_save 23 = .ok (.iload_n 1, 1) := by decide +kernel
theorem dX6_save_24 : decode cX6_save 24 = .ok (.iaload, 1) := by decide +kernel
theorem dX6_save_25 : decode cX6_save 25 = .ok (.ifCond .ge 6, 3) := by decide +kernel
theorem dX6_save_28 : decode cX6_save 28 = .ok (.bipush (-11), 2) := by decide +kernel
theorem dX6_save_30 : decode cX6_save 30 = .ok (.ireturn, 1) := by decide +kernel
theorem dX6_save_31 : decode cX6_save 31 = .ok (.aload_n 0, 1) := by decide +kernel
theorem dX6_save_32 : decode cX6_save 32 = .ok (.getfield 10, 3) := by decide +kernel
theorem dX6_save_35 : decode cX6_save 35 = .ok (.iload_n 3, 1) := by decide +kernel
theorem dX6_save_36 : decode cX6_save 36 = .ok (.invokevirtual 279, 3) := by decide +kernel
theorem dX6_save_39 : decode cX6_save 39 = .ok (.invokestatic 282, 3) := by decide +kernel
theorem dX6_save_42 : decode cX6_save 42 = .ok (.istore 4, 2) := by decide +kernel
theorem dX6_save_44 : decode cX6_save 44 = .ok (.iload_n 2, 1) := by decide +kernel
theorem dX6_save_45 : decode cX6_save 45 = .ok (.ifCond .lt 16, 3) := by decide +kernel
theorem dX6_save_48 : decode cX6_save 48 = .ok (.iload_n 2, 1) := by decide +kernel
theorem dX6_save_49 : decode cX6_save 49 = .ok (.aload_n 0, 1) := by decide +kernel
theorem dX6_save_50 : decode cX6_save 50 = .ok (.getfield 68, 3) := by decide +kernel
theorem dX6_save_53 : decode cX6_save 53 = .ok (.iload_n 1, 1) := by decide +kernel
theorem dX6_save_54 : decode cX6_save 54 = .ok (.iaload, 1) := by decide +kernel
theorem dX6_save_55 : decode cX6_save 55 = .ok (.iload 4, 2) := by decide +kernel
theorem dX6_save_57 : decode cX6_save 57 = .ok (.isub, 1) := by decide +kernel
theorem dX6_save_58 : decode cX6_save 58 = .ok (.if_icmp .le 6, 3) := by decide +kernel
theorem dX6_save_61 : decode cX6_save 61 = .ok (.bipush (-13), 2) := by decide +kernel
theorem dX6_save_63 : decode cX6_save 63 = .ok (.ireturn, 1) := by decide +kernel
theorem dX6_save_64 : decode cX6_save 64 = .ok (.iload_n 2, 1) := by decide +kernel
theorem dX6_save_65 : decode cX6_save 65 = .ok (.istore 5, 2) := by decide +kernel
theorem dX6_save_67 : decode cX6_save 67 = .ok (.iconst 0, 1) := by decide +kernel
theorem dX6_save_68 : decode cX6_save 68 = .ok (.istore 6, 2) := by decide +kernel
theorem dX6_save_70 : decode cX6_save 70 = .ok (.iload 6, 2) := by decide +kernel
theorem dX6_save_72 : decode cX6_save 72 = .ok (.bipush 10, 2) := by decide +kernel
theorem dX6_save_74 : decode cX6_save 74 = .ok (.if_icmp .ge 41, 3) := by decide +kernel
theorem dX6_save_77 : decode cX6_save 77 = .ok (.aload_n 0, 1) := by decide +kernel
theorem dX6_save_78 : decode cX6_save 78 = .ok (.getfield 10, 3) := by decide +kernel
theorem dX6_save_81 : decode cX6_save 81 = .ok (.iload_n 3, 1) := by decide +kernel
theorem dX6_save_82 : decode cX6_save 82 = .ok (.iload 6, 2) := by decide +kernel
theorem dX6_save_84 : decode cX6_save 84 = .ok (.invokevirtual 145, 3) := by decide +kernel
theorem dX6_save_87 : decode cX6_save 87 = .ok (.ifCond .eq 22, 3) := by decide +kernel
theorem dX6_save_90 : decode cX6_save 90 = .ok (.aload_n 0, 1) := by decide +kernel
theorem dX6_save_91 : decode cX6_save 91 = .ok (.getfield 65, 3) := by decide +kernel
theorem dX6_save_94 : decode cX6_save 94 = .ok (.iload_n 1, 1) := by decide +kernel
theorem dX6_save_95 : decode cX6_save 95 = .ok (.aaload, 1) := by decide +kernel
theorem dX6_save_96 : decode cX6_save 96 = .ok (.iload 5, 2) := by decide +kernel
theorem dX6_save_98 : decode cX6_save 98 = .ok (.aload_n 0, 1) := by decide +kernel
theorem dX6_save_99 : decode cX6_save 99 = .ok (.iload_n 3, 1) := by decide +kernel
theorem dX6_save_100 : decode cX6_save 100 = .ok (.iload 6, 2) := by decide +kernel
theorem dX6_save_102 : decode cX6_save 102 = .ok (.invokevirtual 287, 3) := by decide +kernel
theorem dX6_save_105 : decode cX6_save 105 = .ok (.lastore, 1) := by decide +kernel
theorem dX6_save_106 : decode cX6_save 106 = .ok (.iinc 5 1, 3) := by decide +kernel
theorem dX6_save_109 : decode cX6_save 109 = .ok (.iinc 6 1, 3) := by decide +kernel
theorem dX6_save_112 : decode cX6_save 112 = .ok (.goto (-42), 3) := by decide +kernel
theorem dX6_save_115 : decode cX6_save 115 = .ok (.iload 4, 2) := by decide +kernel
theorem dX6_save_117 : decode cX6_save 117 = .ok (.ireturn, 1) := by decide +kernel
theorem dX6_restore_0 : decode cX6_restore 0 = .ok (.iload_n 1, 1) := by decide +kernel
theorem dX6_restore_1 : decode cX6_restore 1 = .ok (.iconst 4, 1) := by decide +kernel
theorem dX6_restore_2 : decode cX6_restore 2 = .ok (.invokestatic 81, 3) := by decide +kernel
theorem dX6_restore_5 : decode cX6_restore 5 = .ok (.ifCond .eq 23, 3) := by decide +kernel
theorem dX6_restore_8 : decode cX6_restore 8 = .ok (.iload_n 3, 1) := by decide +kernel
theorem dX6_restore_9 : decode cX6_restore 9 = .ok (.ifCond .lt 19, 3) := by decide +kernel
theorem dX6_restore_12 : decode cX6_restore 12 = .ok (.iload_n 3, 1) := by decide +kernel
theorem dX6_restore_13 : decode cX6_restore 13 = .ok (.bipush 10, 2) := by decide +kernel
theorem dX6_restore_15 : decode cX6_restore 15 = .ok (.if_icmp .gt 13, 3) := by decide +kernel
theorem dX6_restore_18 : decode cX6_restore 18 = .ok (.iload 4, 2) := by decide +kernel
theorem dX6_restore_20 : decode cX6_restore 20 = .ok (.bipush 6, 2) := by decide +kernel
theorem dX6_restore_22 : decode cX6_restore 22 = .ok (.invokestatic 81, 3) := by decide +kernel
theorem dX6_restore_25 : decode cX6_restore 25 = .ok (.ifCond .ne 5, 3) := by decide +kernel
theorem dX6_restore_28 : decode cX6_restore 28 = .ok (.iconst (-1), 1) := by decide +kernel
theorem dX6_restore_29 : decode cX6_restore 29 = .ok (.ireturn, 1) := by decide +kernel
theorem dX6_restore_30 : decode cX6_restore 30 = .ok (.aload_n 0, 1) := by decide +kernel
theorem dX6_restore_31 : decode cX6_restore 31 = .ok (.getfield 68, 3) := by decide +kernel
theorem dX6_restore_34 : decode cX6_restore 34 = .ok (.iload_n 1, 1) := by decide +kernel
theorem dX6_restore_35 : decode cX6_restore 35 = .ok (.iaload, 1) := by decide +kernel
theorem dX6_restore_36 : decode cX6_restore 36 = .ok (.ifCond .ge 6, 3) := by decide +kernel
theorem dX6_restore_39 : decode cX6_restore 39 = .ok (.bipush (-11), 2) := by decide +kernel
theorem dX6_restore_41 : decode cX6_restore 41 = .ok (.ireturn, 1) := by decide +kernel
theorem dX6_restore_42 : decode cX6_restore 42 = .ok (.iload_n 2, 1) := by decide +kernel
theorem dX6_restore_43 : decode cX6_restore 43 = .ok (.ifCond .lt 15, 3) := by decide +kernel
theorem dX6_restore_46 : decode cX6_restore 46 = .ok (.iload_n 2, 1) := by decide +kernel
theorem dX6_restore_47 : decode cX6_restore 47 = .ok (.aload_n 0, 1) := by decide +kernel
theorem dX6_restore_48 : decode cX6_restore 48 = .ok (.getfield 68, 3) := by decide +kernel
theorem dX6_restore_51 : decode cX6_restore 51 = .ok (.iload_n 1, 1) := by decide +kernel
theorem dX6_restore_52 : decode cX6_restore 52 = .ok (.iaload, 1) := by decide +kernel
theorem dX6_restore_53 : decode cX6_restore 53 = .ok (.iload_n 3, 1) := by decide +kernel
theorem dX6_restore_54 : decode cX6_restore 54 = .ok (.isub, 1) := by decide +kernel
theorem dX6_restore_55 : decode cX6_restore 55 = .ok (.if_icmp .le 6, 3) := by decide +kernel
theorem dX6_restore_58 : decode cX6_restore 58 = .ok (.bipush (-13), 2) := by decide +kernel
theorem dX6_restore_60 : decode cX6_restore 60 = .ok (.ireturn, 1) := by decide +kernel
theorem dX6_restore_61 : decode cX6_restore 61 = .ok (.iconst 0, 1) := by decide +kernel
theorem dX6_restore_62 : decode cX6_restore 62 = .ok (.istore 5, 2) := by decide +kernel
theorem dX6_restore_64 : decode cX6_restore 64 = .ok (.iload 5, 2) := by decide +kernel
theorem dX6_restore_66 : decode cX6_restore 66 = .ok (.iload_n 3, 1) := by decide +kernel
theorem dX6_restore_67 : decode cX6_restore 67 = .ok (.if_icmp .ge 29, 3) := by decide +kernel
theorem dX6_restore_70 : decode cX6_restore 70 = .ok (.aload_n 0, 1) := by decide +kernel
theorem dX6_restore_71 : decode cX6_restore 71 = .ok (.aload_n 0, 1) := by decide +kernel
theorem dX6_restore_72 : decode cX6_restore 72 = .ok (.getfield 65, 3) := by decide +kernel
theorem dX6_restore_75 : decode cX6_restore 75 = .ok (.iload_n 1, 1) := by decide +kernel
theorem dX6_restore_76 : decode cX6_restore 76 = .ok (.aaload, 1) := by decide +kernel
theorem dX6_restore_77 : decode cX6_restore 77 = .ok (.iload_n 2, 1) := by decide +kernel
theorem dX6_restore_78 : decode cX6_restore 78 = .ok (.iload 5, 2) := by decide +kernel
theorem dX6_restore_80 : decode cX6_restore 80 = .ok (.iadd, 1) := by decide +kernel
theorem dX6_restore_81 : decode cX6_restore 81 = .ok (.laload, 1) := by decide +kernel
theorem dX6_restore_82 : decode cX6_restore 82 = .ok (.iload 4, 2) := by decide +kernel
theorem dX6_restore_84 : decode cX6_restore 84 = .ok (.invokevirtual 291, 3) := by decide +kernel
theorem dX6_restore_87 : decode cX6_restore 87 = .ok (.ifCond .eq 9, 3) := by decide +kernel
theorem dX6_restore_90 : decode cX6_restore 90 = .ok (.iinc 5 1, 3) := by decide +kernel
theorem dX6_restore_93 : decode cX6_restore 93 = .ok (.goto (-29), 3) := by decide +kernel
theorem dX6_restore_96 : decode cX6_restore 96 = .ok (.aload_n 0, 1) := by decide +kernel
theorem dX6_restore_97 : decode cX6_restore 97 = .ok (.iload 5, 2) := by decide +kernel
theorem dX6_restore_99 : decode cX6_restore 99 = .ok (.invokevirtual 89, 3) := by decide +kernel
theorem dX6_restore_102 : decode cX6_restore 102 = .ok (.ireturn, 1) := by decide +kernel
theorem dX6_image_0 : decode cX6_image 0 = .ok (.aload_n 0, 1) := by decide +kernel
theorem dX6_image_1 : decode cX6_image 1 = .ok (.getfield 78, 3) := by decide +kernel
theorem dX6_image_4 : decode cX6_image 4 = .ok (.ifnonnull 12, 3) := by decide +kernel
theorem dX6_image_7 : decode cX6_image 7 = .ok (.aload_n 0, 1) := by decide +kernel
theorem dX6_image_8 : decode cX6_image 8 = .ok (.sipush 1060, 3) := by decide +kernel
theorem dX6_image_11 : decode cX6_image 11 = .ok (.newarray .int, 2) := by decide +kernel
theorem dX6_image_13 : decode cX6_image 13 = .ok (.putfield 78, 3) := by decide +kernel
theorem dX6_image_16 : decode cX6_image 16 = .ok (.aload_n 0, 1) := by decide +kernel
theorem dX6_image_17 : decode cX6_image 17 = .ok (.getfield 10, 3) := by decide +kernel
theorem dX6_image_20 : decode cX6_image 20 = .ok (.aload_n 0, 1) := by decide +kernel
theorem dX6_image_21 : decode cX6_image 21 = .ok (.getfield 78, 3) := by decide +kernel
theorem dX6_image_24 : decode cX6_image 24 = .ok (.invokevirtual 295, 3) := by decide +kernel
theorem dX6_image_27 : decode cX6_image 27 = .ok (.aload_n 0, 1) := by decide +kernel
theorem dX6_image_28 : decode cX6_image 28 = .ok (.getfield 10, 3) := by decide +kernel
theorem dX6_image_31 : decode cX6_image 31 = .ok (.invokevirtual 298, 3) := by decide +kernel
theorem dX6_image_34 : decode cX6_image 34 = .ok (.ireturn, 1) := by decide +kernel
theorem dX6_back_0 : decode cX6_back 0 = .ok (.aload_n 0, 1) := by decide +kernel
theorem dX6_back_1 : decode cX6_back 1 = .ok (.getfield 78, 3) := by decide +kernel
theorem dX6_back_4 : decode cX6_back 4 = .ok (.ifnonnull 6, 3) := by decide +kernel
theorem dX6_back_7 : decode cX6_back 7 = .ok (.bipush (-5), 2) := by decide +kernel
theorem dX6_back_9 : decode cX6_back 9 = .ok (.ireturn, 1) := by decide +kernel
theorem dX6_back_10 : decode cX6_back 10 = .ok (.aload_n 0, 1) := by decide +kernel
theorem dX6_back_11 : decode cX6_back 11 = .ok (.getfield 10, 3) := by decide +kernel
theorem dX6_back_14 : decode cX6_back 14 = .ok (.aload_n 0, 1) := by decide +kernel
theorem dX6_back_15 : decode cX6_back 15 = .ok (.getfield 78, 3) := by decide +kernel
theorem dX6_back_18 : decode cX6_back 18 = .ok (.invokevirtual 214, 3) := by decide +kernel
theorem dX6_back_21 : decode cX6_back 21 = .ok (.aload_n 0, 1) := by decide +kernel
theorem dX6_back_22 : decode cX6_back 22 = .ok (.getfield 22, 3) := by decide +kernel
theorem dX6_back_25 : decode cX6_back 25 = .ok (.aload_n 0, 1) := by decide +kernel
theorem dX6_back_26 : decode cX6_back 26 = .ok (.getfield 10, 3) := by decide +kernel
theorem dX6_back_29 : decode cX6_back 29 = .ok (.invokevirtual 26, 3) := by decide +kernel
theorem dX6_back_32 : decode cX6_back 32 = .ok (.aload_n 0, 1) := by decide +kernel
theorem dX6_back_33 : decode cX6_back 33 = .ok (.getfield 10, 3) := by decide +kernel
theorem dX6_back_36 : decode cX6_back 36 = .ok (.invokevirtual 298, 3) := by decide +kernel
theorem dX6_back_39 : decode cX6_back 39 = .ok (.ireturn, 1) := by decide +kernel
theorem dX6_count_0 : decode cX6_count 0 = .ok (.iload_n 1, 1) := by decide +kernel
theorem dX6_count_1 : decode cX6_count 1 = .ok (.tableswitch 123 0 8 #[51, 59, 68, 78, 86, 94, 102, 107, 115], 51) := by decide +kernel
theorem dX6_count_52 : decode cX6_count 52 = .ok (.aload_n 0, 1) := by decide +kernel
theorem dX6_count_53 : decode cX6_count 53 = .ok (.getfield 10, 3) := by decide +kernel
theorem dX6_count_56 : decode cX6_count 56 = .ok (.invokevirtual 169, 3) := by decide +kernel
theorem dX6_count_59 : decode cX6_count 59 = .ok (.ireturn, 1) := by decide +kernel
theorem dX6_count_60 : decode cX6_count 60 = .ok (.aload_n 0, 1) := by decide +kernel
theorem dX6_count_61 : decode cX6_count 61 = .ok (.getfield 10, 3) := by decide +kernel
theorem dX6_count_64 : decode cX6_count 64 = .ok (.iconst 5, 1) := by decide +kernel
theorem dX6_count_65 : decode cX6_count 65 = .ok (.invokevirtual 228, 3) := by decide +kernel
theorem dX6_count_68 : decode cX6_count 68 = .ok (.ireturn, 1) := by decide +kernel
theorem dX6_count_69 : decode cX6_count 69 = .ok (.aload_n 0, 1) := by decide +kernel
theorem dX6_count_70 : decode cX6_count 70 = .ok (.getfield 10, 3) := by decide +kernel
theorem dX6_count_73 : decode cX6_count 73 = .ok (.bipush 10, 2) := by decide +kernel
theorem dX6_count_75 : decode cX6_count 75 = .ok (.invokevirtual 228, 3) := by decide +kernel
theorem dX6_count_78 : decode cX6_count 78 = .ok (.ireturn, 1) := by decide +kernel
theorem dX6_count_79 : decode cX6_count 79 = .ok (.aload_n 0, 1) := by decide +kernel
theorem dX6_count_80 : decode cX6_count 80 = .ok (.getfield 10, 3) := by decide +kernel
theorem dX6_count_83 : decode cX6_count 83 = .ok (.invokevirtual 301, 3) := by decide +kernel
theorem dX6_count_86 : decode cX6_count 86 = .ok (.ireturn, 1) := by decide +kernel
theorem dX6_count_87 : decode cX6_count 87 = .ok (.aload_n 0, 1) := by decide +kernel
theorem dX6_count_88 : decode cX6_count 88 = .ok (.getfield 10, 3) := by decide +kernel
theorem dX6_count_91 : decode cX6_count 91 = .ok (.invokevirtual 304, 3) := by decide +kernel
theorem dX6_count_94 : decode cX6_count 94 = .ok (.ireturn, 1) := by decide +kernel
theorem dX6_count_95 : decode cX6_count 95 = .ok (.aload_n 0, 1) := by decide +kernel
theorem dX6_count_96 : decode cX6_count 96 = .ok (.getfield 48, 3) := by decide +kernel
theorem dX6_count_99 : decode cX6_count 99 = .ok (.getfield 248, 3) := by decide +kernel
theorem dX6_count_102 : decode cX6_count 102 = .ok (.ireturn, 1) := by decide +kernel
theorem dX6_count_103 : decode cX6_count 103 = .ok (.aload_n 0, 1) := by decide +kernel
theorem dX6_count_104 : decode cX6_count 104 = .ok (.invokevirtual 307, 3) := by decide +kernel
theorem dX6_count_107 : decode cX6_count 107 = .ok (.ireturn, 1) := by decide +kernel
theorem dX6_count_108 : decode cX6_count 108 = .ok (.aload_n 0, 1) := by decide +kernel
theorem dX6_count_109 : decode cX6_count 109 = .ok (.getfield 10, 3) := by decide +kernel
theorem dX6_count_112 : decode cX6_count 112 = .ok (.invokevirtual 298, 3) := by decide +kernel
theorem dX6_count_115 : decode cX6_count 115 = .ok (.ireturn, 1) := by decide +kernel
theorem dX6_count_116 : decode cX6_count 116 = .ok (.aload_n 0, 1) := by decide +kernel
theorem dX6_count_117 : decode cX6_count 117 = .ok (.getfield 22, 3) := by decide +kernel
theorem dX6_count_120 : decode cX6_count 120 = .ok (.getfield 132, 3) := by decide +kernel
theorem dX6_count_123 : decode cX6_count 123 = .ok (.ireturn, 1) := by decide +kernel
theorem dX6_count_124 : decode cX6_count 124 = .ok (.iconst (-1), 1) := by decide +kernel
theorem dX6_count_125 : decode cX6_count 125 = .ok (.ireturn, 1) := by decide +kernel
theorem dX6_below_0 : decode cX6_below 0 = .ok (.iload_n 0, 1) := by decide +kernel
theorem dX6_below_1 : decode cX6_below 1 = .ok (.ifCond .lt 12, 3) := by decide +kernel
theorem dX6_below_4 : decode cX6_below 4 = .ok (.iload_n 0, 1) := by decide +kernel
theorem dX6_below_5 : decode cX6_below 5 = .ok (.iload_n 1, 1) := by decide +kernel
theorem dX6_below_6 : decode cX6_below 6 = .ok (.if_icmp .ge 7, 3) := by decide +kernel
theorem dX6_below_9 : decode cX6_below 9 = .ok (.iconst 1, 1) := by decide +kernel
theorem dX6_below_10 : decode cX6_below 10 = .ok (.goto 4, 3) := by decide +kernel
theorem dX6_below_13 : decode cX6_below 13 = .ok (.iconst 0, 1) := by decide +kernel
theorem dX6_below_14 : decode cX6_below 14 = .ok (.ireturn, 1) := by decide +kernel
theorem dX6_noted_0 : decode cX6_noted 0 = .ok (.iload_n 1, 1) := by decide +kernel
theorem dX6_noted_1 : decode cX6_noted 1 = .ok (.ifCond .ge 15, 3) := by decide +kernel
theorem dX6_noted_4 : decode cX6_noted 4 = .ok (.iload_n 1, 1) := by decide +kernel
theorem dX6_noted_5 : decode cX6_noted 5 = .ok (.bipush (-4), 2) := by decide +kernel
theorem dX6_noted_7 : decode cX6_noted 7 = .ok (.if_icmp .eq 9, 3) := by decide +kernel
theorem dX6_noted_10 : decode cX6_noted 10 = .ok (.iload_n 1, 1) := by decide +kernel
theorem dX6_noted_11 : decode cX6_noted 11 = .ok (.bipush (-6), 2) := by decide +kernel
theorem dX6_noted_13 : decode cX6_noted 13 = .ok (.if_icmp .ne 14, 3) := by decide +kernel
theorem dX6_noted_16 : decode cX6_noted 16 = .ok (.aload_n 0, 1) := by decide +kernel
theorem dX6_noted_17 : decode cX6_noted 17 = .ok (.getfield 22, 3) := by decide +kernel
theorem dX6_noted_20 : decode cX6_noted 20 = .ok (.aload_n 0, 1) := by decide +kernel
theorem dX6_noted_21 : decode cX6_noted 21 = .ok (.getfield 10, 3) := by decide +kernel
theorem dX6_noted_24 : decode cX6_noted 24 = .ok (.invokevirtual 310, 3) := by decide +kernel
theorem dX6_noted_27 : decode cX6_noted 27 = .ok (.iload_n 1, 1) := by decide +kernel
theorem dX6_noted_28 : decode cX6_noted 28 = .ok (.ireturn, 1) := by decide +kernel
theorem dX6_placeRefusal_0 : decode cX6_placeRefusal 0 = .ok (.iload_n 1, 1) := by decide +kernel
theorem dX6_placeRefusal_1 : decode cX6_placeRefusal 1 = .ok (.iconst 4, 1) := by decide +kernel
theorem dX6_placeRefusal_2 : decode cX6_placeRefusal 2 = .ok (.invokestatic 81, 3) := by decide +kernel
theorem dX6_placeRefusal_5 : decode cX6_placeRefusal 5 = .ok (.ifCond .ne 5, 3) := by decide +kernel
theorem dX6_placeRefusal_8 : decode cX6_placeRefusal 8 = .ok (.iconst (-1), 1) := by decide +kernel
theorem dX6_placeRefusal_9 : decode cX6_placeRefusal 9 = .ok (.ireturn, 1) := by decide +kernel
theorem dX6_placeRefusal_10 : decode cX6_placeRefusal 10 = .ok (.aload_n 0, 1) := by decide +kernel
theorem dX6_placeRefusal_11 : decode cX6_placeRefusal 11 = .ok (.getfield 68, 3) := by decide +kernel
theorem dX6_placeRefusal_14 : decode cX6_placeRefusal 14 = .ok (.iload_n 1, 1) := by decide +kernel
theorem dX6_placeRefusal_15 : decode cX6_placeRefusal 15 = .ok (.iaload, 1) := by decide +kernel
theorem dX6_placeRefusal_16 : decode cX6_placeRefusal 16 = .ok (.ifCond .ge 6, 3) := by decide +kernel
theorem dX6_placeRefusal_19 : decode cX6_placeRefusal 19 = .ok (.bipush (-11), 2) := by decide +kernel
theorem dX6_placeRefusal_21 : decode cX6_placeRefusal 21 = .ok (.ireturn, 1) := by decide +kernel
theorem dX6_placeRefusal_22 : decode cX6_placeRefusal 22 = .ok (.iload_n 2, 1) := by decide +kernel
theorem dX6_placeRefusal_23 : decode cX6_placeRefusal 23 = .ok (.aload_n 0, 1) := by decide +kernel
theorem dX6_placeRefusal_24 : decode cX6_placeRefusal 24 = .ok (.getfield 68, 3) := by decide +kernel
theorem dX6_placeRefusal_27 : decode cX6_placeRefusal 27 = .ok (.iload_n 1, 1) := by decide +kernel
theorem dX6_placeRefusal_28 : decode cX6_placeRefusal 28 = .ok (.iaload, 1) := by decide +kernel
theorem dX6_placeRefusal_29 : decode cX6_placeRefusal 29 = .ok (.invokestatic 81, 3) := by decide +kernel
theorem dX6_placeRefusal_32 : decode cX6_placeRefusal 32 = .ok (.ifCond .eq 7, 3) := by decide +kernel
theorem dX6_placeRefusal_35 : decode cX6_placeRefusal 35 = .ok (.iconst 0, 1) := by decide +kernel
theorem dX6_placeRefusal_36 : decode cX6_placeRefusal 36 = .ok (.goto 5, 3) := by decide +kernel
theorem dX6_placeRefusal_39 : decode cX6_placeRefusal 39 = .ok (.bipush (-13), 2) := by decide +kernel
theorem dX6_placeRefusal_41 : decode cX6_placeRefusal 41 = .ok (.ireturn, 1) := by decide +kernel
theorem dX6_keysAhead_0 : decode cX6_keysAhead 0 = .ok (.iconst 0, 1) := by decide +kernel
theorem dX6_keysAhead_1 : decode cX6_keysAhead 1 = .ok (.istore_n 2, 1) := by decide +kernel
theorem dX6_keysAhead_2 : decode cX6_keysAhead 2 = .ok (.iload_n 2, 1) := by decide +kernel
theorem dX6_keysAhead_3 : decode cX6_keysAhead 3 = .ok (.aload_n 0, 1) := by decide +kernel
theorem dX6_keysAhead_4 : decode cX6_keysAhead 4 = .ok (.getfield 68, 3) := by decide +kernel
theorem dX6_keysAhead_7 : decode cX6_keysAhead 7 = .ok (.iload_n 1, 1) := by decide +kernel
theorem dX6_keysAhead_8 : decode cX6_keysAhead 8 = .ok (.iaload, 1) := by decide +kernel
theorem dX6_keysAhead_9 : decode cX6_keysAhead 9 = .ok (.if_icmp .ge 37, 3) := by decide +kernel
theorem dX6_keysAhead_12 : decode cX6_keysAhead 12 = .ok (.aload_n 0, 1) := by decide +kernel
theorem dX6_keysAhead_13 : decode cX6_keysAhead 13 = .ok (.getfield 65, 3) := by decide +kernel
theorem dX6_keysAhead_16 : decode cX6_keysAhead 16 = .ok (.iload_n 1, 1) := by decide +kernel
theorem dX6_keysAhead_17 : decode cX6_keysAhead 17 = .ok (.aaload, 1) := by decide +kernel
theorem dX6_keysAhead_18 : decode cX6_keysAhead 18 = .ok (.iload_n 2, 1) := by decide +kernel
theorem dX6_keysAhead_19 : decode cX6_keysAhead 19 = .ok (.laload, 1) := by decide +kernel
theorem dX6_keysAhead_20 : decode cX6_keysAhead 20 = .ok (.lconst 0, 1) := by decide +kernel
theorem dX6_keysAhead_21 : decode cX6_keysAhead 21 = .ok (.lcmp, 1) := by decide +kernel
theorem dX6_keysAhead_22 : decode cX6_keysAhead 22 = .ok (.ifCond .lt 24, 3) := by decide +kernel
theorem dX6_keysAhead_25 : decode cX6_keysAhead 25 = .ok (.aload_n 0, 1) := by decide +kernel
theorem dX6_keysAhead_26 : decode cX6_keysAhead 26 = .ok (.getfield 65, 3) := by decide +kernel
theorem dX6_keysAhead_29 : decode cX6_keysAhead 29 = .ok (.iload_n 1, 1) := by decide +kernel
theorem dX6_keysAhead_30 : decode cX6_keysAhead 30 = .ok (.aaload, 1) := by decide +kernel
theorem dX6_keysAhead_31 : decode cX6_keysAhead 31 = .ok (.iload_n 2, 1) := by decide +kernel
theorem dX6_keysAhead_32 : decode cX6_keysAhead 32 = .ok (.laload, 1) := by decide +kernel
theorem dX6_keysAhead_33 : decode cX6_keysAhead 33 = .ok (.ldc2_w 313, 3) := by decide +kernel
theorem dX6_keysAhead_36 : decode cX6_keysAhead 36 = .ok (.lcmp, 1) := by decide +kernel
theorem dX6_keysAhead_37 : decode cX6_keysAhead 37 = .ok (.ifCond .ge 9, 3) := by decide +kernel
theorem dX6_keysAhead_40 : decode cX6_keysAhead 40 = .ok (.iinc 2 1, 3) := by decide +kernel
theorem dX6_keysAhead_43 : decode cX6_keysAhead 43 = .ok (.goto (-41), 3) := by decide +kernel
theorem dX6_keysAhead_46 : decode cX6_keysAhead 46 = .ok (.iload_n 2, 1) := by decide +kernel
theorem dX6_keysAhead_47 : decode cX6_keysAhead 47 = .ok (.ireturn, 1) := by decide +kernel
theorem dX6_hitsTried_0 : decode cX6_hitsTried 0 = .ok (.aload_n 0, 1) := by decide +kernel
theorem dX6_hitsTried_1 : decode cX6_hitsTried 1 = .ok (.getfield 16, 3) := by decide +kernel
theorem dX6_hitsTried_4 : decode cX6_hitsTried 4 = .ok (.aload_n 0, 1) := by decide +kernel
theorem dX6_hitsTried_5 : decode cX6_hitsTried 5 = .ok (.getfield 10, 3) := by decide +kernel
theorem dX6_hitsTried_8 : decode cX6_hitsTried 8 = .ok (.getfield 211, 3) := by decide +kernel
theorem dX6_hitsTried_11 : decode cX6_hitsTried 11 = .ok (.invokevirtual 214, 3) := by decide +kernel
theorem dX6_hitsTried_14 : decode cX6_hitsTried 14 = .ok (.aload_n 0, 1) := by decide +kernel
theorem dX6_hitsTried_15 : decode cX6_hitsTried 15 = .ok (.iload_n 1, 1) := by decide +kernel
theorem dX6_hitsTried_16 : decode cX6_hitsTried 16 = .ok (.invokevirtual 237, 3) := by decide +kernel
theorem dX6_hitsTried_19 : decode cX6_hitsTried 19 = .ok (.istore 4, 2) := by decide +kernel
theorem dX6_hitsTried_21 : decode cX6_hitsTried 21 = .ok (.iconst 0, 1) := by decide +kernel
theorem dX6_hitsTried_22 : decode cX6_hitsTried 22 = .ok (.istore 5, 2) := by decide +kernel
theorem dX6_hitsTried_24 : decode cX6_hitsTried 24 = .ok (.iconst 0, 1) := by decide +kernel
theorem dX6_hitsTried_25 : decode cX6_hitsTried 25 = .ok (.istore 6, 2) := by decide +kernel
theorem dX6_hitsTried_27 : decode cX6_hitsTried 27 = .ok (.iload 6, 2) := by decide +kernel
theorem dX6_hitsTried_29 : decode cX6_hitsTried 29 = .ok (.iload 4, 2) := by decide +kernel
theorem dX6_hitsTried_31 : decode cX6_hitsTried 31 = .ok (.if_icmp .ge 43, 3) := by decide +kernel
theorem dX6_hitsTried_34 : decode cX6_hitsTried 34 = .ok (.aload_n 0, 1) := by decide +kernel
theorem dX6_hitsTried_35 : decode cX6_hitsTried 35 = .ok (.getfield 16, 3) := by decide +kernel
theorem dX6_hitsTried_38 : decode cX6_hitsTried 38 = .ok (.iconst 1, 1) := by decide +kernel
theorem dX6_hitsTried_39 : decode cX6_hitsTried 39 = .ok (.invokevirtual 106, 3) := by decide +kernel
theorem dX6_hitsTried_42 : decode cX6_hitsTried 42 = .ok (.pop, 1) := by decide +kernel
theorem dX6_hitsTried_43 : decode cX6_hitsTried 43 = .ok (.aload_n 0, 1) := by decide +kernel
theorem dX6_hitsTried_44 : decode cX6_hitsTried 44 = .ok (.getfield 16, 3) := by decide +kernel
theorem dX6_hitsTried_47 : decode cX6_hitsTried 47 = .ok (.iload_n 2, 1) := by decide +kernel
theorem dX6_hitsTried_48 : decode cX6_hitsTried 48 = .ok (.aload_n 0, 1) := by decide +kernel
theorem dX6_hitsTried_49 : decode cX6_hitsTried 49 = .ok (.getfield 65, 3) := by decide +kernel
theorem dX6_hitsTried_52 : decode cX6_hitsTried 52 = .ok (.iload_n 1, 1) := by decide +kernel
theorem dX6_hitsTried_53 : decode cX6_hitsTried 53 = .ok (.aaload, 1) := by decide +kernel
theorem dX6_hitsTried_54 : decode cX6_hitsTried 54 = .ok (.iload 6, 2) := by decide +kernel
theorem dX6_hitsTried_56 : decode cX6_hitsTried 56 = .ok (.laload, 1) := by decide +kernel
theorem dX6_hitsTried_57 : decode cX6_hitsTried 57 = .ok (.l2i, 1) := by decide +kernel
theorem dX6_hitsTried_58 : decode cX6_hitsTried 58 = .ok (.iload_n 3, 1) := by decide +kernel
theorem dX6_hitsTried_59 : decode cX6_hitsTried 59 = .ok (.invokevirtual 315, 3) := by decide +kernel
theorem dX6_hitsTried_62 : decode cX6_hitsTried 62 = .ok (.ifCond .eq 6, 3) := by decide +kernel
theorem dX6_hitsTried_65 : decode cX6_hitsTried 65 = .ok (.iinc 5 1, 3) := by decide +kernel
theorem dX6_hitsTried_68 : decode cX6_hitsTried 68 = .ok (.iinc 6 1, 3) := by decide +kernel
theorem dX6_hitsTried_71 : decode cX6_hitsTried 71 = .ok (.goto (-44), 3) := by decide +kernel
theorem dX6_hitsTried_74 : decode cX6_hitsTried 74 = .ok (.iload 5, 2) := by decide +kernel
theorem dX6_hitsTried_76 : decode cX6_hitsTried 76 = .ok (.ireturn, 1) := by decide +kernel
theorem dX6_hitsForeseen_0 : decode cX6_hitsForeseen 0 = .ok (.aload_n 0, 1) := by decide +kernel
theorem dX6_hitsForeseen_1 : decode cX6_hitsForeseen 1 = .ok (.getfield 10, 3) := by decide +kernel
theorem dX6_hitsForeseen_4 : decode cX6_hitsForeseen 4 = .ok (.iload_n 3, 1) := by decide +kernel
theorem dX6_hitsForeseen_5 : decode cX6_hitsForeseen 5 = .ok (.invokevirtual 279, 3) := by decide +kernel
theorem dX6_hitsForeseen_8 : decode cX6_hitsForeseen 8 = .ok (.istore 4, 2) := by decide +kernel
theorem dX6_hitsForeseen_10 : decode cX6_hitsForeseen 10 = .ok (.aload_n 0, 1) := by decide +kernel
theorem dX6_hitsForeseen_11 : decode cX6_hitsForeseen 11 = .ok (.getfield 10, 3) := by decide +kernel
theorem dX6_hitsForeseen_14 : decode cX6_hitsForeseen 14 = .ok (.iconst 0, 1) := by decide +kernel
theorem dX6_hitsForeseen_15 : decode cX6_hitsForeseen 15 = .ok (.invokevirtual 142, 3) := by decide +kernel
theorem dX6_hitsForeseen_18 : decode cX6_hitsForeseen 18 = .ok (.istore 5, 2) := by decide +kernel
theorem dX6_hitsForeseen_20 : decode cX6_hitsForeseen 20 = .ok (.iconst 0, 1) := by decide +kernel
theorem dX6_hitsForeseen_21 : decode cX6_hitsForeseen 21 = .ok (.istore 6, 2) := by decide +kernel
theorem dX6_hitsForeseen_23 : decode cX6_hitsForeseen 23 = .ok (.iconst 0, 1) := by decide +kernel
theorem dX6_hitsForeseen_24 : decode cX6_hitsForeseen 24 = .ok (.istore 7, 2) := by decide +kernel
theorem dX6_hitsForeseen_26 : decode cX6_hitsForeseen 26 = .ok (.iload 7, 2) := by decide +kernel
theorem dX6_hitsForeseen_28 : decode cX6_hitsForeseen 28 = .ok (.iload_n 2, 1) := by decide +kernel
theorem dX6_hitsForeseen_29 : decode cX6_hitsForeseen 29 = .ok (.if_icmp .ge 77, 3) := by decide +kernel
theorem dX6_hitsForeseen_32 : decode cX6_hitsForeseen 32 = .ok (.iconst 1, 1) := by decide +kernel
theorem dX6_hitsForeseen_33 : decode cX6_hitsForeseen 33 = .ok (.aload_n 1, 1) := by decide +kernel
theorem dX6_hitsForeseen_34 : decode cX6_hitsForeseen 34 = .ok (.iload 7, 2) := by decide +kernel
theorem dX6_hitsForeseen_36 : decode cX6_hitsForeseen 36 = .ok (.laload, 1) := by decide +kernel
theorem dX6_hitsForeseen_37 : decode cX6_hitsForeseen 37 = .ok (.l2i, 1) := by decide +kernel
theorem dX6_hitsForeseen_38 : decode cX6_hitsForeseen 38 = .ok (.ishl, 1) := by decide +kernel
theorem dX6_hitsForeseen_39 : decode cX6_hitsForeseen 39 = .ok (.istore 8, 2) := by decide +kernel
theorem dX6_hitsForeseen_41 : decode cX6_hitsForeseen 41 = .ok (.iload 4, 2) := by decide +kernel
theorem dX6_hitsForeseen_43 : decode cX6_hitsForeseen 43 = .ok (.iload 8, 2) := by decide +kernel
theorem dX6_hitsForeseen_45 : decode cX6_hitsForeseen 45 = .ok (.iand, 1) := by decide +kernel
theorem dX6_hitsForeseen_46 : decode cX6_hitsForeseen 46 = .ok (.ifCond .eq 9, 3) := by decide +kernel
theorem dX6_hitsForeseen_49 : decode cX6_hitsForeseen 49 = .ok (.iinc 6 1, 3) := by decide +kernel
theorem dX6_hitsForeseen_52 : decode cX6_hitsForeseen 52 = .ok (.goto 48, 3) := by decide +kernel
theorem dX6_hitsForeseen_55 : decode cX6_hitsForeseen 55 = .ok (.iload 4, 2) := by decide +kernel
theorem dX6_hitsForeseen_57 : decode cX6_hitsForeseen 57 = .ok (.invokestatic 282, 3) := by decide +kernel
theorem dX6_hitsForeseen_60 : decode cX6_hitsForeseen 60 = .ok (.istore 9, 2) := by decide +kernel
theorem dX6_hitsForeseen_62 : decode cX6_hitsForeseen 62 = .ok (.iload 9, 2) := by decide +kernel
theorem dX6_hitsForeseen_64 : decode cX6_hitsForeseen 64 = .ok (.iload 5, 2) := by decide +kernel
theorem dX6_hitsForeseen_66 : decode cX6_hitsForeseen 66 = .ok (.if_icmp .lt 27, 3) := by decide +kernel
theorem dX6_hitsForeseen_69 : decode cX6_hitsForeseen 69 = .ok (.iload 4, 2) := by decide +kernel
theorem dX6_hitsForeseen_71 : decode cX6_hitsForeseen 71 = .ok (.aload_n 1, 1) := by decide +kernel
theorem dX6_hitsForeseen_72 : decode cX6_hitsForeseen 72 = .ok (.iload 7, 2) := by decide +kernel
theorem dX6_hitsForeseen_74 : decode cX6_hitsForeseen 74 = .ok (.iconst 1, 1) := by decide +kernel
theorem dX6_hitsForeseen_75 : decode cX6_hitsForeseen 75 = .ok (.iadd, 1) := by decide +kernel
theorem dX6_hitsForeseen_76 : decode cX6_hitsForeseen 76 = .ok (.iload_n 2, 1) := by decide +kernel
theorem dX6_hitsForeseen_77 : decode cX6_hitsForeseen 77 = .ok (.iload 4, 2) := by decide +kernel
theorem dX6_hitsForeseen_79 : decode cX6_hitsForeseen 79 = .ok (.invokestatic 319, 3) := by decide +kernel
theorem dX6_hitsForeseen_82 : decode cX6_hitsForeseen 82 = .ok (.iconst (-1), 1) := by decide +kernel
theorem dX6_hitsForeseen_83 : decode cX6_hitsForeseen 83 = .ok (.ixor, 1) := by decide +kernel
theorem dX6_hitsForeseen_84 : decode cX6_hitsForeseen 84 = .ok (.iand, 1) := by decide +kernel
theorem dX6_hitsForeseen_85 : decode cX6_hitsForeseen 85 = .ok (.istore 4, 2) := by decide +kernel
theorem dX6_hitsForeseen_87 : decode cX6_hitsForeseen 87 = .ok (.iinc 9 (-1), 3) := by decide +kernel
theorem dX6_hitsForeseen_90 : decode cX6_hitsForeseen 90 = .ok (.goto (-28), 3) := by decide +kernel
theorem dX6_hitsForeseen_93 : decode cX6_hitsForeseen 93 = .ok (.iload 4, 2) := by decide +kernel
theorem dX6_hitsForeseen_95 : decode cX6_hitsForeseen 95 = .ok (.iload 8, 2) := by decide +kernel
theorem dX6_hitsForeseen_97 : decode cX6_hitsForeseen 97 = .ok (.ior, 1) := by decide +kernel
theorem dX6_hitsForeseen_98 : decode cX6_hitsForeseen 98 = .ok (.istore 4, 2) := by decide +kernel
theorem dX6_hitsForeseen_100 : decode cX6_hitsForeseen 100 = .ok (.iinc 7 1, 3) := by decide +kernel
theorem dX6_hitsForeseen_103 : decode cX6_hitsForeseen 103 = .ok (.goto (-77), 3) := by decide +kernel
theorem dX6_hitsForeseen_106 : decode cX6_hitsForeseen 106 = .ok (.iload 6, 2) := by decide +kernel
theorem dX6_hitsForeseen_108 : decode cX6_hitsForeseen 108 = .ok (.ireturn, 1) := by decide +kernel
theorem dX6_wantedLast_0 : decode cX6_wantedLast 0 = .ok (.iload_n 3, 1) := by decide +kernel
theorem dX6_wantedLast_1 : decode cX6_wantedLast 1 = .ok (.istore 4, 2) := by decide +kernel
theorem dX6_wantedLast_3 : decode cX6_wantedLast 3 = .ok (.iload_n 1, 1) := by decide +kernel
theorem dX6_wantedLast_4 : decode cX6_wantedLast 4 = .ok (.istore 5, 2) := by decide +kernel
theorem dX6_wantedLast_6 : decode cX6_wantedLast 6 = .ok (.iload 5, 2) := by decide +kernel
theorem dX6_wantedLast_8 : decode cX6_wantedLast 8 = .ok (.iload_n 2, 1) := by decide +kernel
theorem dX6_wantedLast_9 : decode cX6_wantedLast 9 = .ok (.if_icmp .ge 32, 3) := by decide +kernel
theorem dX6_wantedLast_12 : decode cX6_wantedLast 12 = .ok (.iload 4, 2) := by decide +kernel
theorem dX6_wantedLast_14 : decode cX6_wantedLast 14 = .ok (.invokestatic 282, 3) := by decide +kernel
theorem dX6_wantedLast_17 : decode cX6_wantedLast 17 = .ok (.iconst 1, 1) := by decide +kernel
theorem dX6_wantedLast_18 : decode cX6_wantedLast 18 = .ok (.if_icmp .le 23, 3) := by decide +kernel
theorem dX6_wantedLast_21 : decode cX6_wantedLast 21 = .ok (.iload 4, 2) := by decide +kernel
theorem dX6_wantedLast_23 : decode cX6_wantedLast 23 = .ok (.iconst 1, 1) := by decide +kernel
theorem dX6_wantedLast_24 : decode cX6_wantedLast 24 = .ok (.aload_n 0, 1) := by decide +kernel
theorem dX6_wantedLast_25 : decode cX6_wantedLast 25 = .ok (.iload 5, 2) := by decide +kernel
theorem dX6_wantedLast_27 : decode cX6_wantedLast 27 = .ok (.laload, 1) := by decide +kernel
theorem dX6_wantedLast_28 : decode cX6_wantedLast 28 = .ok (.l2i, 1) := by decide +kernel
theorem dX6_wantedLast_29 : decode cX6_wantedLast 29 = .ok (.ishl, 1) := by decide +kernel
theorem dX6_wantedLast_30 : decode cX6_wantedLast 30 = .ok (.iconst (-1), 1) := by decide +kernel
theorem dX6_wantedLast_31 : decode cX6_wantedLast 31 = .ok (.ixor, 1) := by decide +kernel
theorem dX6_wantedLast_32 : decode cX6_wantedLast 32 = .ok (.iand, 1) := by decide +kernel
theorem dX6_wantedLast_33 : decode cX6_wantedLast 33 = .ok (.istore 4, 2) := by decide +kernel
theorem dX6_wantedLast_35 : decode cX6_wantedLast 35 = .ok (.iinc 5 1, 3) := by decide +kernel
theorem dX6_wantedLast_38 : decode cX6_wantedLast 38 = .ok (.goto (-32), 3) := by decide +kernel
theorem dX6_wantedLast_41 : decode cX6_wantedLast 41 = .ok (.iload 4, 2) := by decide +kernel
theorem dX6_wantedLast_43 : decode cX6_wantedLast 43 = .ok (.iload 4, 2) := by decide +kernel
theorem dX6_wantedLast_45 : decode cX6_wantedLast 45 = .ok (.ineg, 1) := by decide +kernel
theorem dX6_wantedLast_46 : decode cX6_wantedLast 46 = .ok (.iand, 1) := by decide +kernel
theorem dX6_wantedLast_47 : decode cX6_wantedLast 47 = .ok (.ireturn, 1) := by decide +kernel
theorem dX6_arePlanners_0 : decode cX6_arePlanners 0 = .ok (.iload_n 1, 1) := by decide +kernel
theorem dX6_arePlanners_1 : decode cX6_arePlanners 1 = .ok (.ifCond .le 17, 3) := by decide +kernel
theorem dX6_arePlanners_4 : decode cX6_arePlanners 4 = .ok (.iload_n 1, 1) := by decide +kernel
theorem dX6_arePlanners_5 : decode cX6_arePlanners 5 = .ok (.bipush 64, 2) := by decide +kernel
theorem dX6_arePlanners_7 : decode cX6_arePlanners 7 = .ok (.if_icmp .ge 11, 3) := by decide +kernel
theorem dX6_arePlanners_10 : decode cX6_arePlanners 10 = .ok (.iload_n 1, 1) := by decide +kernel
theorem dX6_arePlanners_11 : decode cX6_arePlanners 11 = .ok (.invokestatic 282, 3) := by decide +kernel
theorem dX6_arePlanners_14 : decode cX6_arePlanners 14 = .ok (.iconst 3, 1) := by decide +kernel
theorem dX6_arePlanners_15 : decode cX6_arePlanners 15 = .ok (.if_icmp .le 5, 3) := by decide +kernel
theorem dX6_arePlanners_18 : decode cX6_arePlanners 18 = .ok (.iconst 0, 1) := by decide +kernel
theorem dX6_arePlanners_19 : decode cX6_arePlanners 19 = .ok (.ireturn, 1) := by decide +kernel
theorem dX6_arePlanners_20 : decode cX6_arePlanners 20 = .ok (.iconst 0, 1) := by decide +kernel
theorem dX6_arePlanners_21 : decode cX6_arePlanners 21 = .ok (.istore_n 2, 1) := by decide +kernel
theorem dX6_arePlanners_22 : decode cX6_arePlanners 22 = .ok (.iload_n 2, 1) := by decide +kernel
theorem dX6_arePlanners_23 : decode cX6_arePlanners 23 = .ok (.bipush 6, 2) := by decide +kernel
theorem dX6_arePlanners_25 : decode cX6_arePlanners 25 = .ok (.if_icmp .ge 32, 3) := by decide +kernel
theorem dX6_arePlanners_28 : decode cX6_arePlanners 28 = .ok (.iload_n 1, 1) := by decide +kernel
theorem dX6_arePlanners_29 : decode cX6_arePlanners 29 = .ok (.iload_n 2, 1) := by decide +kernel
theorem dX6_arePlanners_30 : decode cX6_arePlanners 30 = .ok (.ishr, 1) := by decide +kernel
theorem dX6_arePlanners_31 : decode cX6_arePlanners 31 = .ok (.iconst 1, 1) := by decide +kernel
theorem dX6_arePlanners_32 : decode cX6_arePlanners 32 = .ok (.iand, 1) := by decide +kernel
theorem dX6_arePlanners_33 : decode cX6_arePlanners 33 = .ok (.iconst 1, 1) := by decide +kernel
theorem dX6_arePlanners_34 : decode cX6_arePlanners 34 = .ok (.if_icmp .ne 17, 3) := by decide +kernel
theorem dX6_arePlanners_37 : decode cX6_arePlanners 37 = .ok (.aload_n 0, 1) := by decide +kernel
theorem dX6_arePlanners_38 : decode cX6_arePlanners 38 = .ok (.getfield 54, 3) := by decide +kernel
theorem dX6_arePlanners_41 : decode cX6_arePlanners 41 = .ok (.iload_n 2, 1) := by decide +kernel
theorem dX6_arePlanners_42 : decode cX6_arePlanners 42 = .ok (.aaload, 1) := by decide +kernel
theorem dX6_arePlanners_43 : decode cX6_arePlanners 43 = .ok (.getfield 323, 3) := by decide +kernel
theorem dX6_arePlanners_46 : decode cX6_arePlanners 46 = .ok (.ifCond .ne 5, 3) := by decide +kernel
theorem dX6_arePlanners_49 : decode cX6_arePlanners 49 = .ok (.iconst 0, 1) := by decide +kernel
theorem dX6_arePlanners_50 : decode cX6_arePlanners 50 = .ok (.ireturn, 1) := by decide +kernel
theorem dX6_arePlanners_51 : decode cX6_arePlanners 51 = .ok (.iinc 2 1, 3) := by decide +kernel
theorem dX6_arePlanners_54 : decode cX6_arePlanners 54 = .ok (.goto (-32), 3) := by decide +kernel
theorem dX6_arePlanners_57 : decode cX6_arePlanners 57 = .ok (.iconst 1, 1) := by decide +kernel
theorem dX6_arePlanners_58 : decode cX6_arePlanners 58 = .ok (.ireturn, 1) := by decide +kernel
theorem dX6_actsOf_0 : decode cX6_actsOf 0 = .ok (.iconst 0, 1) := by decide +kernel
theorem dX6_actsOf_1 : decode cX6_actsOf 1 = .ok (.istore_n 2, 1) := by decide +kernel
theorem dX6_actsOf_2 : decode cX6_actsOf 2 = .ok (.iconst 0, 1) := by decide +kernel
theorem dX6_actsOf_3 : decode cX6_actsOf 3 = .ok (.istore_n 3, 1) := by decide +kernel
theorem dX6_actsOf_4 : decode cX6_actsOf 4 = .ok (.iload_n 3, 1) := by decide +kernel
theorem dX6_actsOf_5 : decode cX6_actsOf 5 = .ok (.bipush 6, 2) := by decide +kernel
theorem dX6_actsOf_7 : decode cX6_actsOf 7 = .ok (.if_icmp .ge 30, 3) := by decide +kernel
theorem dX6_actsOf_10 : decode cX6_actsOf 10 = .ok (.iload_n 1, 1) := by decide +kernel
theorem dX6_actsOf_11 : decode cX6_actsOf 11 = .ok (.iload_n 3, 1) := by decide +kernel

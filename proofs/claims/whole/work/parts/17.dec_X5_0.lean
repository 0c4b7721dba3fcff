theorem dX5_init_0 : decode cX5_init 0 = .ok (.aload_n 0, 1) := by decide +kernel
theorem dX5_init_1 : decode cX5_init 1 = .ok (.invokespecial 5, 3) := by decide +kernel
theorem dX5_init_4 : decode cX5_init 4 = .ok (.aload_n 0, 1) := by decide +kernel
theorem dX5_init_5 : decode cX5_init 5 = .ok (.sipush 1060, 3) := by decide +kernel
theorem dX5_init_8 : decode cX5_init 8 = .ok (.newarray .int, 2) := by decide +kernel
theorem dX5_init_10 : decode cX5_init 10 = .ok (.putfield 11, 3) := by decide +kernel
theorem dX5_init_13 : decode cX5_init 13 = .ok (.getstatic 15, 3) := by decide +kernel
theorem dX5_init_16 : decode cX5_init 16 = .ok (.iconst 0, 1) := by decide +kernel
theorem dX5_init_17 : decode cX5_init 17 = .ok (.aload_n 0, 1) := by decide +kernel
theorem dX5_init_18 : decode cX5_init 18 = .ok (.getfield 11, 3) := by decide +kernel
theorem dX5_init_21 : decode cX5_init 21 = .ok (.iconst 3, 1) := by decide +kernel
theorem dX5_init_22 : decode cX5_init 22 = .ok (.bipush 7, 2) := by decide +kernel
theorem dX5_init_24 : decode cX5_init 24 = .ok (.invokestatic 18, 3) := by decide +kernel
theorem dX5_init_27 : decode cX5_init 27 = .ok (.iconst 0, 1) := by decide +kernel
theorem dX5_init_28 : decode cX5_init 28 = .ok (.istore_n 1, 1) := by decide +kernel
theorem dX5_init_29 : decode cX5_init 29 = .ok (.iload_n 1, 1) := by decide +kernel
theorem dX5_init_30 : decode cX5_init 30 = .ok (.bipush 6, 2) := by decide +kernel
theorem dX5_init_32 : decode cX5_init 32 = .ok (.if_icmp .ge 21, 3) := by decide +kernel
theorem dX5_init_35 : decode cX5_init 35 = .ok (.aload_n 0, 1) := by decide +kernel
theorem dX5_init_36 : decode cX5_init 36 = .ok (.getfield 11, 3) := by decide +kernel
theorem dX5_init_39 : decode cX5_init 39 = .ok (.iload_n 1, 1) := by decide +kernel
theorem dX5_init_40 : decode cX5_init 40 = .ok (.invokestatic 24, 3) := by decide +kernel
theorem dX5_init_43 : decode cX5_init 43 = .ok (.iconst 0, 1) := by decide +kernel
theorem dX5_init_44 : decode cX5_init 44 = .ok (.iadd, 1) := by decide +kernel
theorem dX5_init_45 : decode cX5_init 45 = .ok (.iload_n 1, 1) := by decide +kernel
theorem dX5_init_46 : decode cX5_init 46 = .ok (.iastore, 1) := by decide +kernel
theorem dX5_init_47 : decode cX5_init 47 = .ok (.iinc 1 1, 3) := by decide +kernel
theorem dX5_init_50 : decode cX5_init 50 = .ok (.goto (-21), 3) := by decide +kernel
theorem dX5_init_53 : decode cX5_init 53 = .ok (.return_, 1) := by decide +kernel
theorem dX5_copyFrom_0 : decode cX5_copyFrom 0 = .ok (.aload_n 1, 1) := by decide +kernel
theorem dX5_copyFrom_1 : decode cX5_copyFrom 1 = .ok (.iconst 0, 1) := by decide +kernel
theorem dX5_copyFrom_2 : decode cX5_copyFrom 2 = .ok (.aload_n 0, 1) := by decide +kernel
theorem dX5_copyFrom_3 : decode cX5_copyFrom 3 = .ok (.getfield 11, 3) := by decide +kernel
theorem dX5_copyFrom_6 : decode cX5_copyFrom 6 = .ok (.iconst 0, 1) := by decide +kernel
theorem dX5_copyFrom_7 : decode cX5_copyFrom 7 = .ok (.sipush 1060, 3) := by decide +kernel
theorem dX5_copyFrom_10 : decode cX5_copyFrom 10 = .ok (.invokestatic 18, 3) := by decide +kernel
theorem dX5_copyFrom_13 : decode cX5_copyFrom 13 = .ok (.return_, 1) := by decide +kernel
theorem dX5_copyTo_0 : decode cX5_copyTo 0 = .ok (.aload_n 0, 1) := by decide +kernel
theorem dX5_copyTo_1 : decode cX5_copyTo 1 = .ok (.getfield 11, 3) := by decide +kernel
theorem dX5_copyTo_4 : decode cX5_copyTo 4 = .ok (.iconst 0, 1) := by decide +kernel
theorem dX5_copyTo_5 : decode cX5_copyTo 5 = .ok (.aload_n 1, 1) := by decide +kernel
theorem dX5_copyTo_6 : decode cX5_copyTo 6 = .ok (.iconst 0, 1) := by decide +kernel
theorem dX5_copyTo_7 : decode cX5_copyTo 7 = .ok (.sipush 1060, 3) := by decide +kernel
theorem dX5_copyTo_10 : decode cX5_copyTo 10 = .ok (.invokestatic 18, 3) := by decide +kernel
theorem dX5_copyTo_13 : decode cX5_copyTo 13 = .ok (.return_, 1) := by decide +kernel
theorem dX5_spotAt_0 : decode cX5_spotAt 0 = .ok (.sipush 340, 3) := by decide +kernel
theorem dX5_spotAt_3 : decode cX5_spotAt 3 = .ok (.iload_n 0, 1) := by decide +kernel
theorem dX5_spotAt_4 : decode cX5_spotAt 4 = .ok (.bipush 10, 2) := by decide +kernel
theorem dX5_spotAt_6 : decode cX5_spotAt 6 = .ok (.imul, 1) := by decide +kernel
theorem dX5_spotAt_7 : decode cX5_spotAt 7 = .ok (.iload_n 1, 1) := by decide +kernel
theorem dX5_spotAt_8 : decode cX5_spotAt 8 = .ok (.iadd, 1) := by decide +kernel
theorem dX5_spotAt_9 : decode cX5_spotAt 9 = .ok (.bipush 12, 2) := by decide +kernel
theorem dX5_spotAt_11 : decode cX5_spotAt 11 = .ok (.imul, 1) := by decide +kernel
theorem dX5_spotAt_12 : decode cX5_spotAt 12 = .ok (.iadd, 1) := by decide +kernel
theorem dX5_spotAt_13 : decode cX5_spotAt 13 = .ok (.ireturn, 1) := by decide +kernel
theorem dX5_handAt_0 : decode cX5_handAt 0 = .ok (.sipush 292, 3) := by decide +kernel
theorem dX5_handAt_3 : decode cX5_handAt 3 = .ok (.iload_n 0, 1) := by decide +kernel
theorem dX5_handAt_4 : decode cX5_handAt 4 = .ok (.bipush 8, 2) := by decide +kernel
theorem dX5_handAt_6 : decode cX5_handAt 6 = .ok (.imul, 1) := by decide +kernel
theorem dX5_handAt_7 : decode cX5_handAt 7 = .ok (.iadd, 1) := by decide +kernel
theorem dX5_handAt_8 : decode cX5_handAt 8 = .ok (.ireturn, 1) := by decide +kernel
theorem dX5_writeAt_0 : decode cX5_writeAt 0 = .ok (.bipush 112, 2) := by decide +kernel
theorem dX5_writeAt_2 : decode cX5_writeAt 2 = .ok (.iload_n 0, 1) := by decide +kernel
theorem dX5_writeAt_3 : decode cX5_writeAt 3 = .ok (.iconst 1, 1) := by decide +kernel
theorem dX5_writeAt_4 : decode cX5_writeAt 4 = .ok (.isub, 1) := by decide +kernel
theorem dX5_writeAt_5 : decode cX5_writeAt 5 = .ok (.iconst 3, 1) := by decide +kernel
theorem dX5_writeAt_6 : decode cX5_writeAt 6 = .ok (.imul, 1) := by decide +kernel
theorem dX5_writeAt_7 : decode cX5_writeAt 7 = .ok (.iadd, 1) := by decide +kernel
theorem dX5_writeAt_8 : decode cX5_writeAt 8 = .ok (.ireturn, 1) := by decide +kernel
theorem dX5_isAhead_0 : decode cX5_isAhead 0 = .ok (.aload_n 0, 1) := by decide +kernel
theorem dX5_isAhead_1 : decode cX5_isAhead 1 = .ok (.getfield 11, 3) := by decide +kernel
theorem dX5_isAhead_4 : decode cX5_isAhead 4 = .ok (.iload_n 1, 1) := by decide +kernel
theorem dX5_isAhead_5 : decode cX5_isAhead 5 = .ok (.iaload, 1) := by decide +kernel
theorem dX5_isAhead_6 : decode cX5_isAhead 6 = .ok (.aload_n 0, 1) := by decide +kernel
theorem dX5_isAhead_7 : decode cX5_isAhead 7 = .ok (.getfield 11, 3) := by decide +kernel
theorem dX5_isAhead_10 : decode cX5_isAhead 10 = .ok (.iconst 0, 1) := by decide +kernel
theorem dX5_isAhead_11 : decode cX5_isAhead 11 = .ok (.iaload, 1) := by decide +kernel
theorem dX5_isAhead_12 : decode cX5_isAhead 12 = .ok (.if_icmp .le 7, 3) := by decide +kernel
theorem dX5_isAhead_15 : decode cX5_isAhead 15 = .ok (.iconst 1, 1) := by decide +kernel
theorem dX5_isAhead_16 : decode cX5_isAhead 16 = .ok (.goto 4, 3) := by decide +kernel
theorem dX5_isAhead_19 : decode cX5_isAhead 19 = .ok (.iconst 0, 1) := by decide +kernel
theorem dX5_isAhead_20 : decode cX5_isAhead 20 = .ok (.ireturn, 1) := by decide +kernel
theorem dX5_now_0 : decode cX5_now 0 = .ok (.aload_n 0, 1) := by decide +kernel
theorem dX5_now_1 : decode cX5_now 1 = .ok (.getfield 11, 3) := by decide +kernel
theorem dX5_now_4 : decode cX5_now 4 = .ok (.iconst 0, 1) := by decide +kernel
theorem dX5_now_5 : decode cX5_now 5 = .ok (.iaload, 1) := by decide +kernel
theorem dX5_now_6 : decode cX5_now 6 = .ok (.ireturn, 1) := by decide +kernel
theorem dX5_writes_0 : decode cX5_writes 0 = .ok (.aload_n 0, 1) := by decide +kernel
theorem dX5_writes_1 : decode cX5_writes 1 = .ok (.getfield 11, 3) := by decide +kernel
theorem dX5_writes_4 : decode cX5_writes 4 = .ok (.iconst 1, 1) := by decide +kernel
theorem dX5_writes_5 : decode cX5_writes 5 = .ok (.iaload, 1) := by decide +kernel
theorem dX5_writes_6 : decode cX5_writes 6 = .ok (.ireturn, 1) := by decide +kernel
theorem dX5_settingOf_0 : decode cX5_settingOf 0 = .ok (.aload_n 0, 1) := by decide +kernel
theorem dX5_settingOf_1 : decode cX5_settingOf 1 = .ok (.getfield 11, 3) := by decide +kernel
theorem dX5_settingOf_4 : decode cX5_settingOf 4 = .ok (.iconst 3, 1) := by decide +kernel
theorem dX5_settingOf_5 : decode cX5_settingOf 5 = .ok (.iload_n 1, 1) := by decide +kernel
theorem dX5_settingOf_6 : decode cX5_settingOf 6 = .ok (.iadd, 1) := by decide +kernel
theorem dX5_settingOf_7 : decode cX5_settingOf 7 = .ok (.iaload, 1) := by decide +kernel
theorem dX5_settingOf_8 : decode cX5_settingOf 8 = .ok (.ireturn, 1) := by decide +kernel
theorem dX5_ledOf_0 : decode cX5_ledOf 0 = .ok (.aload_n 0, 1) := by decide +kernel
theorem dX5_ledOf_1 : decode cX5_ledOf 1 = .ok (.getfield 11, 3) := by decide +kernel
theorem dX5_ledOf_4 : decode cX5_ledOf 4 = .ok (.bipush 10, 2) := by decide +kernel
theorem dX5_ledOf_6 : decode cX5_ledOf 6 = .ok (.iload_n 1, 1) := by decide +kernel
theorem dX5_ledOf_7 : decode cX5_ledOf 7 = .ok (.iadd, 1) := by decide +kernel
theorem dX5_ledOf_8 : decode cX5_ledOf 8 = .ok (.iaload, 1) := by decide +kernel
theorem dX5_ledOf_9 : decode cX5_ledOf 9 = .ok (.ireturn, 1) := by decide +kernel
theorem dX5_placeOf_0 : decode cX5_placeOf 0 = .ok (.aload_n 0, 1) := by decide +kernel
theorem dX5_placeOf_1 : decode cX5_placeOf 1 = .ok (.getfield 11, 3) := by decide +kernel
theorem dX5_placeOf_4 : decode cX5_placeOf 4 = .ok (.bipush 30, 2) := by decide +kernel
theorem dX5_placeOf_6 : decode cX5_placeOf 6 = .ok (.iload_n 1, 1) := by decide +kernel
theorem dX5_placeOf_7 : decode cX5_placeOf 7 = .ok (.iadd, 1) := by decide +kernel
theorem dX5_placeOf_8 : decode cX5_placeOf 8 = .ok (.iaload, 1) := by decide +kernel
theorem dX5_placeOf_9 : decode cX5_placeOf 9 = .ok (.ireturn, 1) := by decide +kernel
theorem dX5_loadsOf_0 : decode cX5_loadsOf 0 = .ok (.aload_n 0, 1) := by decide +kernel
theorem dX5_loadsOf_1 : decode cX5_loadsOf 1 = .ok (.getfield 11, 3) := by decide +kernel
theorem dX5_loadsOf_4 : decode cX5_loadsOf 4 = .ok (.bipush 33, 2) := by decide +kernel
theorem dX5_loadsOf_6 : decode cX5_loadsOf 6 = .ok (.iload_n 1, 1) := by decide +kernel
theorem dX5_loadsOf_7 : decode cX5_loadsOf 7 = .ok (.iadd, 1) := by decide +kernel
theorem dX5_loadsOf_8 : decode cX5_loadsOf 8 = .ok (.iaload, 1) := by decide +kernel
theorem dX5_loadsOf_9 : decode cX5_loadsOf 9 = .ok (.ireturn, 1) := by decide +kernel
theorem dX5_allLoads_0 : decode cX5_allLoads 0 = .ok (.iconst 0, 1) := by decide +kernel
theorem dX5_allLoads_1 : decode cX5_allLoads 1 = .ok (.istore_n 1, 1) := by decide +kernel
theorem dX5_allLoads_2 : decode cX5_allLoads 2 = .ok (.iconst 0, 1) := by decide +kernel
theorem dX5_allLoads_3 : decode cX5_allLoads 3 = .ok (.istore_n 2, 1) := by decide +kernel
theorem dX5_allLoads_4 : decode cX5_allLoads 4 = .ok (.iload_n 2, 1) := by decide +kernel
theorem dX5_allLoads_5 : decode cX5_allLoads 5 = .ok (.iconst 3, 1) := by decide +kernel
theorem dX5_allLoads_6 : decode cX5_allLoads 6 = .ok (.if_icmp .ge 17, 3) := by decide +kernel
theorem dX5_allLoads_9 : decode cX5_allLoads 9 = .ok (.iload_n 1, 1) := by decide +kernel
theorem dX5_allLoads_10 : decode cX5_allLoads 10 = .ok (.aload_n 0, 1) := by decide +kernel
theorem dX5_allLoads_11 : decode cX5_allLoads 11 = .ok (.iload_n 2, 1) := by decide +kernel
theorem dX5_allLoads_12 : decode cX5_allLoads 12 = .ok (.invokevirtual 28, 3) := by decide +kernel
theorem dX5_allLoads_15 : decode cX5_allLoads 15 = .ok (.iadd, 1) := by decide +kernel
theorem dX5_allLoads_16 : decode cX5_allLoads 16 = .ok (.istore_n 1, 1) := by decide +kernel
theorem dX5_allLoads_17 : decode cX5_allLoads 17 = .ok (.iinc 2 1, 3) := by decide +kernel
theorem dX5_allLoads_20 : decode cX5_allLoads 20 = .ok (.goto (-16), 3) := by decide +kernel
theorem dX5_allLoads_23 : decode cX5_allLoads 23 = .ok (.iload_n 1, 1) := by decide +kernel
theorem dX5_allLoads_24 : decode cX5_allLoads 24 = .ok (.ireturn, 1) := by decide +kernel
theorem dX5_markerOf_0 : decode cX5_markerOf 0 = .ok (.aload_n 0, 1) := by decide +kernel
theorem dX5_markerOf_1 : decode cX5_markerOf 1 = .ok (.getfield 11, 3) := by decide +kernel
theorem dX5_markerOf_4 : decode cX5_markerOf 4 = .ok (.bipush 42, 2) := by decide +kernel
theorem dX5_markerOf_6 : decode cX5_markerOf 6 = .ok (.iload_n 1, 1) := by decide +kernel
theorem dX5_markerOf_7 : decode cX5_markerOf 7 = .ok (.bipush 10, 2) := by decide +kernel
theorem dX5_markerOf_9 : decode cX5_markerOf 9 = .ok (.imul, 1) := by decide +kernel
theorem dX5_markerOf_10 : decode cX5_markerOf 10 = .ok (.iadd, 1) := by decide +kernel
theorem dX5_markerOf_11 : decode cX5_markerOf 11 = .ok (.iload_n 2, 1) := by decide +kernel
theorem dX5_markerOf_12 : decode cX5_markerOf 12 = .ok (.iadd, 1) := by decide +kernel
theorem dX5_markerOf_13 : decode cX5_markerOf 13 = .ok (.iaload, 1) := by decide +kernel
theorem dX5_markerOf_14 : decode cX5_markerOf 14 = .ok (.ireturn, 1) := by decide +kernel
theorem dX5_markers_0 : decode cX5_markers 0 = .ok (.iconst 0, 1) := by decide +kernel
theorem dX5_markers_1 : decode cX5_markers 1 = .ok (.istore_n 1, 1) := by decide +kernel
theorem dX5_markers_2 : decode cX5_markers 2 = .ok (.iconst 0, 1) := by decide +kernel
theorem dX5_markers_3 : decode cX5_markers 3 = .ok (.istore_n 2, 1) := by decide +kernel
theorem dX5_markers_4 : decode cX5_markers 4 = .ok (.iload_n 2, 1) := by decide +kernel
theorem dX5_markers_5 : decode cX5_markers 5 = .ok (.bipush 30, 2) := by decide +kernel
theorem dX5_markers_7 : decode cX5_markers 7 = .ok (.if_icmp .ge 24, 3) := by decide +kernel
theorem dX5_markers_10 : decode cX5_markers 10 = .ok (.aload_n 0, 1) := by decide +kernel
theorem dX5_markers_11 : decode cX5_markers 11 = .ok (.getfield 11, 3) := by decide +kernel
theorem dX5_markers_14 : decode cX5_markers 14 = .ok (.bipush 42, 2) := by decide +kernel
theorem dX5_markers_16 : decode cX5_markers 16 = .ok (.iload_n 2, 1) := by decide +kernel
theorem dX5_markers_17 : decode cX5_markers 17 = .ok (.iadd, 1) := by decide +kernel
theorem dX5_markers_18 : decode cX5_markers 18 = .ok (.iaload, 1) := by decide +kernel
theorem dX5_markers_19 : decode cX5_markers 19 = .ok (.ifCond .le 6, 3) := by decide +kernel
theorem dX5_markers_22 : decode cX5_markers 22 = .ok (.iinc 1 1, 3) := by decide +kernel
theorem dX5_markers_25 : decode cX5_markers 25 = .ok (.iinc 2 1, 3) := by decide +kernel
theorem dX5_markers_28 : decode cX5_markers 28 = .ok (.goto (-24), 3) := by decide +kernel
theorem dX5_markers_31 : decode cX5_markers 31 = .ok (.iload_n 1, 1) := by decide +kernel
theorem dX5_markers_32 : decode cX5_markers 32 = .ok (.ireturn, 1) := by decide +kernel
theorem dX5_groupOf_0 : decode cX5_groupOf 0 = .ok (.aload_n 0, 1) := by decide +kernel
theorem dX5_groupOf_1 : decode cX5_groupOf 1 = .ok (.getfield 11, 3) := by decide +kernel
theorem dX5_groupOf_4 : decode cX5_groupOf 4 = .ok (.iload_n 1, 1) := by decide +kernel
theorem dX5_groupOf_5 : decode cX5_groupOf 5 = .ok (.invokestatic 24, 3) := by decide +kernel
theorem dX5_groupOf_8 : decode cX5_groupOf 8 = .ok (.iconst 0, 1) := by decide +kernel
theorem dX5_groupOf_9 : decode cX5_groupOf 9 = .ok (.iadd, 1) := by decide +kernel
theorem dX5_groupOf_10 : decode cX5_groupOf 10 = .ok (.iaload, 1) := by decide +kernel
theorem dX5_groupOf_11 : decode cX5_groupOf 11 = .ok (.ireturn, 1) := by decide +kernel
theorem dX5_hasHandFor_0 : decode cX5_hasHandFor 0 = .ok (.iload_n 1, 1) := by decide +kernel
theorem dX5_hasHandFor_1 : decode cX5_hasHandFor 1 = .ok (.invokestatic 24, 3) := by decide +kernel
theorem dX5_hasHandFor_4 : decode cX5_hasHandFor 4 = .ok (.istore_n 3, 1) := by decide +kernel
theorem dX5_hasHandFor_5 : decode cX5_hasHandFor 5 = .ok (.aload_n 0, 1) := by decide +kernel
theorem dX5_hasHandFor_6 : decode cX5_hasHandFor 6 = .ok (.getfield 11, 3) := by decide +kernel
theorem dX5_hasHandFor_9 : decode cX5_hasHandFor 9 = .ok (.iload_n 3, 1) := by decide +kernel
theorem dX5_hasHandFor_10 : decode cX5_hasHandFor 10 = .ok (.bipush 7, 2) := by decide +kernel
theorem dX5_hasHandFor_12 : decode cX5_hasHandFor 12 = .ok (.iadd, 1) := by decide +kernel
theorem dX5_hasHandFor_13 : decode cX5_hasHandFor 13 = .ok (.iaload, 1) := by decide +kernel
theorem dX5_hasHandFor_14 : decode cX5_hasHandFor 14 = .ok (.iconst 1, 1) := by decide +kernel
theorem dX5_hasHandFor_15 : decode cX5_hasHandFor 15 = .ok (.if_icmp .ne 19, 3) := by decide +kernel
theorem dX5_hasHandFor_18 : decode cX5_hasHandFor 18 = .ok (.aload_n 0, 1) := by decide +kernel
theorem dX5_hasHandFor_19 : decode cX5_hasHandFor 19 = .ok (.getfield 11, 3) := by decide +kernel
theorem dX5_hasHandFor_22 : decode cX5_hasHandFor 22 = .ok (.iload_n 3, 1) := by decide +kernel
theorem dX5_hasHandFor_23 : decode cX5_hasHandFor 23 = .ok (.iconst 1, 1) := by decide +kernel
theorem dX5_hasHandFor_24 : decode cX5_hasHandFor 24 = .ok (.iadd, 1) := by decide +kernel
theorem dX5_hasHandFor_25 : decode cX5_hasHandFor 25 = .ok (.iaload, 1) := by decide +kernel
theorem dX5_hasHandFor_26 : decode cX5_hasHandFor 26 = .ok (.iload_n 2, 1) := by decide +kernel
theorem dX5_hasHandFor_27 : decode cX5_hasHandFor 27 = .ok (.if_icmp .ne 7, 3) := by decide +kernel
theorem dX5_hasHandFor_30 : decode cX5_hasHandFor 30 = .ok (.iconst 1, 1) := by decide +kernel
theorem dX5_hasHandFor_31 : decode cX5_hasHandFor 31 = .ok (.goto 4, 3) := by decide +kernel
theorem dX5_hasHandFor_34 : decode cX5_hasHandFor 34 = .ok (.iconst 0, 1) := by decide +kernel
theorem dX5_hasHandFor_35 : decode cX5_hasHandFor 35 = .ok (.ireturn, 1) := by decide +kernel
theorem dX5_hands_0 : decode cX5_hands 0 = .ok (.iconst 0, 1) := by decide +kernel
theorem dX5_hands_1 : decode cX5_hands 1 = .ok (.istore_n 1, 1) := by decide +kernel
theorem dX5_hands_2 : decode cX5_hands 2 = .ok (.iconst 0, 1) := by decide +kernel
theorem dX5_hands_3 : decode cX5_hands 3 = .ok (.istore_n 2, 1) := by decide +kernel
theorem dX5_hands_4 : decode cX5_hands 4 = .ok (.iload_n 2, 1) := by decide +kernel
theorem dX5_hands_5 : decode cX5_hands 5 = .ok (.bipush 6, 2) := by decide +kernel
theorem dX5_hands_7 : decode cX5_hands 7 = .ok (.if_icmp .ge 24, 3) := by decide +kernel
theorem dX5_hands_10 : decode cX5_hands 10 = .ok (.iload_n 1, 1) := by decide +kernel
theorem dX5_hands_11 : decode cX5_hands 11 = .ok (.aload_n 0, 1) := by decide +kernel
theorem dX5_hands_12 : decode cX5_hands 12 = .ok (.getfield 11, 3) := by decide +kernel
theorem dX5_hands_15 : decode cX5_hands 15 = .ok (.iload_n 2, 1) := by decide +kernel
theorem dX5_hands_16 : decode cX5_hands 16 = .ok (.invokestatic 24, 3) := by decide +kernel
theorem dX5_hands_19 : decode cX5_hands 19 = .ok (.bipush 7, 2) := by decide +kernel
theorem dX5_hands_21 : decode cX5_hands 21 = .ok (.iadd, 1) := by decide +kernel
theorem dX5_hands_22 : decode cX5_hands 22 = .ok (.iaload, 1) := by decide +kernel
theorem dX5_hands_23 : decode cX5_hands 23 = .ok (.iadd, 1) := by decide +kernel
theorem dX5_hands_24 : decode cX5_hands 24 = .ok (.istore_n 1, 1) := by decide +kernel
theorem dX5_hands_25 : decode cX5_hands 25 = .ok (.iinc 2 1, 3) := by decide +kernel
theorem dX5_hands_28 : decode cX5_hands 28 = .ok (.goto (-24), 3) := by decide +kernel
theorem dX5_hands_31 : decode cX5_hands 31 = .ok (.iload_n 1, 1) := by decide +kernel
theorem dX5_hands_32 : decode cX5_hands 32 = .ok (.ireturn, 1) := by decide +kernel
theorem dX5_clientPart_0 : decode cX5_clientPart 0 = .ok (.iload_n 1, 1) := by decide +kernel
theorem dX5_clientPart_1 : decode cX5_clientPart 1 = .ok (.invokestatic 24, 3) := by decide +kernel
theorem dX5_clientPart_4 : decode cX5_clientPart 4 = .ok (.istore_n 3, 1) := by decide +kernel
theorem dX5_clientPart_5 : decode cX5_clientPart 5 = .ok (.iload_n 2, 1) := by decide +kernel
theorem dX5_clientPart_6 : decode cX5_clientPart 6 = .ok (.ifCond .eq 7, 3) := by decide +kernel
theorem dX5_clientPart_9 : decode cX5_clientPart 9 = .ok (.iconst 1, 1) := by decide +kernel
theorem dX5_clientPart_10 : decode cX5_clientPart 10 = .ok (.goto 4, 3) := by decide +kernel
theorem dX5_clientPart_13 : decode cX5_clientPart 13 = .ok (.iconst 0, 1) := by decide +kernel
theorem dX5_clientPart_14 : decode cX5_clientPart 14 = .ok (.istore 4, 2) := by decide +kernel
theorem dX5_clientPart_16 : decode cX5_clientPart 16 = .ok (.iload_n 2, 1) := by decide +kernel
theorem dX5_clientPart_17 : decode cX5_clientPart 17 = .ok (.iconst 4, 1) := by decide +kernel
theorem dX5_clientPart_18 : decode cX5_clientPart 18 = .ok (.if_icmp .lt 7, 3) := by decide +kernel
theorem dX5_clientPart_21 : decode cX5_clientPart 21 = .ok (.iconst 1, 1) := by decide +kernel
theorem dX5_clientPart_22 : decode cX5_clientPart 22 = .ok (.goto 4, 3) := by decide +kernel
theorem dX5_clientPart_25 : decode cX5_clientPart 25 = .ok (.iconst 0, 1) := by decide +kernel
theorem dX5_clientPart_26 : decode cX5_clientPart 26 = .ok (.istore 5, 2) := by decide +kernel
theorem dX5_clientPart_28 : decode cX5_clientPart 28 = .ok (.iload 4, 2) := by decide +kernel
theorem dX5_clientPart_30 : decode cX5_clientPart 30 = .ok (.ifCond .eq 15, 3) := by decide +kernel
theorem dX5_clientPart_33 : decode cX5_clientPart 33 = .ok (.aload_n 0, 1) := by decide +kernel
theorem dX5_clientPart_34 : decode cX5_clientPart 34 = .ok (.getfield 11, 3) := by decide +kernel
theorem dX5_clientPart_37 : decode cX5_clientPart 37 = .ok (.iload_n 3, 1) := by decide +kernel
theorem dX5_clientPart_38 : decode cX5_clientPart 38 = .ok (.bipush 7, 2) := by decide +kernel
theorem dX5_clientPart_40 : decode cX5_clientPart 40 = .ok (.iadd, 1) := by decide +kernel
theorem dX5_clientPart_41 : decode cX5_clientPart 41 = .ok (.iaload, 1) := by decide +kernel
theorem dX5_clientPart_42 : decode cX5_clientPart 42 = .ok (.ifCond .eq 19, 3) := by decide +kernel
theorem dX5_clientPart_45 : decode cX5_clientPart 45 = .ok (.iload 5, 2) := by decide +kernel
theorem dX5_clientPart_47 : decode cX5_clientPart 47 = .ok (.ifCond .eq 17, 3) := by decide +kernel
theorem dX5_clientPart_50 : decode cX5_clientPart 50 = .ok (.aload_n 0, 1) := by decide +kernel
theorem dX5_clientPart_51 : decode cX5_clientPart 51 = .ok (.getfield 11, 3) := by decide +kernel
theorem dX5_clientPart_54 : decode cX5_clientPart 54 = .ok (.iload_n 3, 1) := by decide +kernel
theorem dX5_clientPart_55 : decode cX5_clientPart 55 = .ok (.iconst 3, 1) := by decide +kernel
theorem dX5_clientPart_56 : decode cX5_clientPart 56 = .ok (.iadd, 1) := by decide +kernel
theorem dX5_clientPart_57 : decode cX5_clientPart 57 = .ok (.iaload, 1) := by decide +kernel
theorem dX5_clientPart_58 : decode cX5_clientPart 58 = .ok (.ifCond .ne 6, 3) := by decide +kernel
theorem dX5_clientPart_61 : decode cX5_clientPart 61 = .ok (.bipush (-2), 2) := by decide +kernel
theorem dX5_clientPart_63 : decode cX5_clientPart 63 = .ok (.ireturn, 1) := by decide +kernel
theorem dX5_clientPart_64 : decode cX5_clientPart 64 = .ok (.aload_n 0, 1) := by decide +kernel
theorem dX5_clientPart_65 : decode cX5_clientPart 65 = .ok (.getfield 11, 3) := by decide +kernel
theorem dX5_clientPart_68 : decode cX5_clientPart 68 = .ok (.iload_n 3, 1) := by decide +kernel
theorem dX5_clientPart_69 : decode cX5_clientPart 69 = .ok (.iload_n 2, 1) := by decide +kernel
theorem dX5_clientPart_70 : decode cX5_clientPart 70 = .ok (.iadd, 1) := by decide +kernel
theorem dX5_clientPart_71 : decode cX5_clientPart 71 = .ok (.iaload, 1) := by decide +kernel
theorem dX5_clientPart_72 : decode cX5_clientPart 72 = .ok (.ireturn, 1) := by decide +kernel
theorem dX5_hasEntry_0 : decode cX5_hasEntry 0 = .ok (.aload_n 0, 1) := by decide +kernel
theorem dX5_hasEntry_1 : decode cX5_hasEntry 1 = .ok (.iload_n 1, 1) := by decide +kernel
theorem dX5_hasEntry_2 : decode cX5_hasEntry 2 = .ok (.iload_n 2, 1) := by decide +kernel
theorem dX5_hasEntry_3 : decode cX5_hasEntry 3 = .ok (.invokestatic 31, 3) := by decide +kernel
theorem dX5_hasEntry_6 : decode cX5_hasEntry 6 = .ok (.iconst 5, 1) := by decide +kernel
theorem dX5_hasEntry_7 : decode cX5_hasEntry 7 = .ok (.iadd, 1) := by decide +kernel
theorem dX5_hasEntry_8 : decode cX5_hasEntry 8 = .ok (.invokevirtual 35, 3) := by decide +kernel
theorem dX5_hasEntry_11 : decode cX5_hasEntry 11 = .ok (.ireturn, 1) := by decide +kernel
theorem dX5_entryPart_0 : decode cX5_entryPart 0 = .ok (.aload_n 0, 1) := by decide +kernel
theorem dX5_entryPart_1 : decode cX5_entryPart 1 = .ok (.getfield 11, 3) := by decide +kernel
theorem dX5_entryPart_4 : decode cX5_entryPart 4 = .ok (.iload_n 1, 1) := by decide +kernel
theorem dX5_entryPart_5 : decode cX5_entryPart 5 = .ok (.iload_n 2, 1) := by decide +kernel
theorem dX5_entryPart_6 : decode cX5_entryPart 6 = .ok (.invokestatic 31, 3) := by decide +kernel
theorem dX5_entryPart_9 : decode cX5_entryPart 9 = .ok (.iload_n 3, 1) := by decide +kernel
theorem dX5_entryPart_10 : decode cX5_entryPart 10 = .ok (.iadd, 1) := by decide +kernel
theorem dX5_entryPart_11 : decode cX5_entryPart 11 = .ok (.iaload, 1) := by decide +kernel
theorem dX5_entryPart_12 : decode cX5_entryPart 12 = .ok (.ireturn, 1) := by decide +kernel
theorem dX5_besidePart_0 : decode cX5_besidePart 0 = .ok (.iload_n 1, 1) := by decide +kernel
theorem dX5_besidePart_1 : decode cX5_besidePart 1 = .ok (.iload_n 2, 1) := by decide +kernel
theorem dX5_besidePart_2 : decode cX5_besidePart 2 = .ok (.invokestatic 31, 3) := by decide +kernel
theorem dX5_besidePart_5 : decode cX5_besidePart 5 = .ok (.istore 4, 2) := by decide +kernel
theorem dX5_besidePart_7 : decode cX5_besidePart 7 = .ok (.aload_n 0, 1) := by decide +kernel
theorem dX5_besidePart_8 : decode cX5_besidePart 8 = .ok (.iload 4, 2) := by decide +kernel
theorem dX5_besidePart_10 : decode cX5_besidePart 10 = .ok (.getstatic 39, 3) := by decide +kernel
theorem dX5_besidePart_13 : decode cX5_besidePart 13 = .ok (.iload_n 3, 1) := by decide +kernel
theorem dX5_besidePart_14 : decode cX5_besidePart 14 = .ok (.iaload, 1) := by decide +kernel
theorem dX5_besidePart_15 : decode cX5_besidePart 15 = .ok (.iadd, 1) := by decide +kernel
theorem dX5_besidePart_16 : decode cX5_besidePart 16 = .ok (.invokevirtual 35, 3) := by decide +kernel
theorem dX5_besidePart_19 : decode cX5_besidePart 19 = .ok (.ifCond .eq 18, 3) := by decide +kernel
theorem dX5_besidePart_22 : decode cX5_besidePart 22 = .ok (.aload_n 0, 1) := by decide +kernel
theorem dX5_besidePart_23 : decode cX5_besidePart 23 = .ok (.getfield 11, 3) := by decide +kernel
theorem dX5_besidePart_26 : decode cX5_besidePart 26 = .ok (.iload 4, 2) := by decide +kernel
theorem dX5_besidePart_28 : decode cX5_besidePart 28 = .ok (.bipush 6, 2) := by decide +kernel
theorem dX5_besidePart_30 : decode cX5_besidePart 30 = .ok (.iadd, 1) := by decide +kernel
theorem dX5_besidePart_31 : decode cX5_besidePart 31 = .ok (.iload_n 3, 1) := by decide +kernel
theorem dX5_besidePart_32 : decode cX5_besidePart 32 = .ok (.iadd, 1) := by decide +kernel
theorem dX5_besidePart_33 : decode cX5_besidePart 33 = .ok (.iaload, 1) := by decide +kernel
theorem dX5_besidePart_34 : decode cX5_besidePart 34 = .ok (.goto 5, 3) := by decide +kernel
theorem dX5_besidePart_37 : decode cX5_besidePart 37 = .ok (.bipush (-2), 2) := by decide +kernel
theorem dX5_besidePart_39 : decode cX5_besidePart 39 = .ok (.ireturn, 1) := by decide +kernel
theorem dX5_entryKeys_0 : decode cX5_entryKeys 0 = .ok (.iconst 0, 1) := by decide +kernel
theorem dX5_entryKeys_1 : decode cX5_entryKeys 1 = .ok (.istore_n 2, 1) := by decide +kernel
theorem dX5_entryKeys_2 : decode cX5_entryKeys 2 = .ok (.iconst 0, 1) := by decide +kernel
theorem dX5_entryKeys_3 : decode cX5_entryKeys 3 = .ok (.istore_n 3, 1) := by decide +kernel
theorem dX5_entryKeys_4 : decode cX5_entryKeys 4 = .ok (.iload_n 3, 1) := by decide +kernel
theorem dX5_entryKeys_5 : decode cX5_entryKeys 5 = .ok (.bipush 10, 2) := by decide +kernel
theorem dX5_entryKeys_7 : decode cX5_entryKeys 7 = .ok (.if_icmp .ge 29, 3) := by decide +kernel
theorem dX5_entryKeys_10 : decode cX5_entryKeys 10 = .ok (.aload_n 0, 1) := by decide +kernel
theorem dX5_entryKeys_11 : decode cX5_entryKeys 11 = .ok (.iload_n 1, 1) := by decide +kernel
theorem dX5_entryKeys_12 : decode cX5_entryKeys 12 = .ok (.iload_n 3, 1) := by decide +kernel
theorem dX5_entryKeys_13 : decode cX5_entryKeys 13 = .ok (.invokestatic 31, 3) := by decide +kernel
theorem dX5_entryKeys_16 : decode cX5_entryKeys 16 = .ok (.iconst 5, 1) := by decide +kernel
theorem dX5_entryKeys_17 : decode cX5_entryKeys 17 = .ok (.iadd, 1) := by decide +kernel
theorem dX5_entryKeys_18 : decode cX5_entryKeys 18 = .ok (.invokevirtual 35, 3) := by decide +kernel
theorem dX5_entryKeys_21 : decode cX5_entryKeys 21 = .ok (.ifCond .eq 9, 3) := by decide +kernel
theorem dX5_entryKeys_24 : decode cX5_entryKeys 24 = .ok (.iload_n 2, 1) := by decide +kernel
theorem dX5_entryKeys_25 : decode cX5_entryKeys 25 = .ok (.iconst 1, 1) := by decide +kernel
theorem dX5_entryKeys_26 : decode cX5_entryKeys 26 = .ok (.iload_n 3, 1) := by decide +kernel
theorem dX5_entryKeys_27 : decode cX5_entryKeys 27 = .ok (.ishl, 1) := by decide +kernel
theorem dX5_entryKeys_28 : decode cX5_entryKeys 28 = .ok (.ior, 1) := by decide +kernel
theorem dX5_entryKeys_29 : decode cX5_entryKeys 29 = .ok (.istore_n 2, 1) := by decide +kernel
theorem dX5_entryKeys_30 : decode cX5_entryKeys 30 = .ok (.iinc 3 1, 3) := by decide +kernel
theorem dX5_entryKeys_33 : decode cX5_entryKeys 33 = .ok (.goto (-29), 3) := by decide +kernel
theorem dX5_entryKeys_36 : decode cX5_entryKeys 36 = .ok (.iload_n 2, 1) := by decide +kernel
theorem dX5_entryKeys_37 : decode cX5_entryKeys 37 = .ok (.ireturn, 1) := by decide +kernel
theorem dX5_countThere_0 : decode cX5_countThere 0 = .ok (.iconst 0, 1) := by decide +kernel
theorem dX5_countThere_1 : decode cX5_countThere 1 = .ok (.istore_n 2, 1) := by decide +kernel
theorem dX5_countThere_2 : decode cX5_countThere 2 = .ok (.iconst 0, 1) := by decide +kernel
theorem dX5_countThere_3 : decode cX5_countThere 3 = .ok (.istore_n 3, 1) := by decide +kernel
theorem dX5_countThere_4 : decode cX5_countThere 4 = .ok (.iload_n 3, 1) := by decide +kernel
theorem dX5_countThere_5 : decode cX5_countThere 5 = .ok (.bipush 60, 2) := by decide +kernel
theorem dX5_countThere_7 : decode cX5_countThere 7 = .ok (.if_icmp .ge 29, 3) := by decide +kernel
theorem dX5_countThere_10 : decode cX5_countThere 10 = .ok (.aload_n 0, 1) := by decide +kernel
theorem dX5_countThere_11 : decode cX5_countThere 11 = .ok (.sipush 340, 3) := by decide +kernel
theorem dX5_countThere_14 : decode cX5_countThere 14 = .ok (.iload_n 3, 1) := by decide +kernel
theorem dX5_countThere_15 : decode cX5_countThere 15 = .ok (.bipush 12, 2) := by decide +kernel
theorem dX5_countThere_17 : decode cX5_countThere 17 = .ok (.imul, 1) := by decide +kernel
theorem dX5_countThere_18 : decode cX5_countThere 18 = .ok (.iadd, 1) := by decide +kernel
theorem dX5_countThere_19 : decode cX5_countThere 19 = .ok (.iload_n 1, 1) := by decide +kernel
theorem dX5_countThere_20 : decode cX5_countThere 20 = .ok (.iadd, 1) := by decide +kernel
theorem dX5_countThere_21 : decode cX5_countThere 21 = .ok (.invokevirtual 35, 3) := by decide +kernel
theorem dX5_countThere_24 : decode cX5_countThere 24 = .ok (.ifCond .eq 6, 3) := by decide +kernel
theorem dX5_countThere_27 : decode cX5_countThere 27 = .ok (.iinc 2 1, 3) := by decide +kernel
theorem dX5_countThere_30 : decode cX5_countThere 30 = .ok (.iinc 3 1, 3) := by decide +kernel
theorem dX5_countThere_33 : decode cX5_countThere 33 = .ok (.goto (-29), 3) := by decide +kernel
theorem dX5_countThere_36 : decode cX5_countThere 36 = .ok (.iload_n 2, 1) := by decide +kernel
theorem dX5_countThere_37 : decode cX5_countThere 37 = .ok (.ireturn, 1) := by decide +kernel
theorem dX5_valueOf_0 : decode cX5_valueOf 0 = .ok (.iload_n 1, 1) := by decide +kernel
theorem dX5_valueOf_1 : decode cX5_valueOf 1 = .ok (.ifCond .ne 7, 3) := by decide +kernel
theorem dX5_valueOf_4 : decode cX5_valueOf 4 = .ok (.iconst 0, 1) := by decide +kernel
theorem dX5_valueOf_5 : decode cX5_valueOf 5 = .ok (.goto 14, 3) := by decide +kernel
theorem dX5_valueOf_8 : decode cX5_valueOf 8 = .ok (.aload_n 0, 1) := by decide +kernel
theorem dX5_valueOf_9 : decode cX5_valueOf 9 = .ok (.getfield 11, 3) := by decide +kernel
theorem dX5_valueOf_12 : decode cX5_valueOf 12 = .ok (.iload_n 1, 1) := by decide +kernel
theorem dX5_valueOf_13 : decode cX5_valueOf 13 = .ok (.invokestatic 42, 3) := by decide +kernel
theorem dX5_valueOf_16 : decode cX5_valueOf 16 = .ok (.iconst 1, 1) := by decide +kernel
theorem dX5_valueOf_17 : decode cX5_valueOf 17 = .ok (.iadd, 1) := by decide +kernel
theorem dX5_valueOf_18 : decode cX5_valueOf 18 = .ok (.iaload, 1) := by decide +kernel
theorem dX5_valueOf_19 : decode cX5_valueOf 19 = .ok (.ireturn, 1) := by decide +kernel
theorem dX5_wasWritten_0 : decode cX5_wasWritten 0 = .ok (.iload_n 1, 1) := by decide +kernel
theorem dX5_wasWritten_1 : decode cX5_wasWritten 1 = .ok (.ifCond .ne 13, 3) := by decide +kernel
theorem dX5_wasWritten_4 : decode cX5_wasWritten 4 = .ok (.iload_n 3, 1) := by decide +kernel
theorem dX5_wasWritten_5 : decode cX5_wasWritten 5 = .ok (.ifCond .ne 7, 3) := by decide +kernel
theorem dX5_wasWritten_8 : decode cX5_wasWritten 8 = .ok (.iconst 1, 1) := by decide +kernel
theorem dX5_wasWritten_9 : decode cX5_wasWritten 9 = .ok (.goto 4, 3) := by decide +kernel
theorem dX5_wasWritten_12 : decode cX5_wasWritten 12 = .ok (.iconst 0, 1) := by decide +kernel
theorem dX5_wasWritten_13 : decode cX5_wasWritten 13 = .ok (.ireturn, 1) := by decide +kernel
theorem dX5_wasWritten_14 : decode cX5_wasWritten 14 = .ok (.iload_n 1, 1) := by decide +kernel
theorem dX5_wasWritten_15 : decode cX5_wasWritten 15 = .ok (.invokestatic 42, 3) := by decide +kernel
theorem dX5_wasWritten_18 : decode cX5_wasWritten 18 = .ok (.istore 4, 2) := by decide +kernel
theorem dX5_wasWritten_20 : decode cX5_wasWritten 20 = .ok (.aload_n 0, 1) := by decide +kernel
theorem dX5_wasWritten_21 : decode cX5_wasWritten 21 = .ok (.getfield 11, 3) := by decide +kernel
theorem dX5_wasWritten_24 : decode cX5_wasWritten 24 = .ok (.iload 4, 2) := by decide +kernel
theorem dX5_wasWritten_26 : decode cX5_wasWritten 26 = .ok (.iconst 0, 1) := by decide +kernel
theorem dX5_wasWritten_27 : decode cX5_wasWritten 27 = .ok (.iadd, 1) := by decide +kernel
theorem dX5_wasWritten_28 : decode cX5_wasWritten 28 = .ok (.iaload, 1) := by decide +kernel
theorem dX5_wasWritten_29 : decode cX5_wasWritten 29 = .ok (.iload_n 2, 1) := by decide +kernel
theorem dX5_wasWritten_30 : decode cX5_wasWritten 30 = .ok (.if_icmp .ne 20, 3) := by decide +kernel
theorem dX5_wasWritten_33 : decode cX5_wasWritten 33 = .ok (.aload_n 0, 1) := by decide +kernel
theorem dX5_wasWritten_34 : decode cX5_wasWritten 34 = .ok (.getfield 11, 3) := by decide +kernel
theorem dX5_wasWritten_37 : decode cX5_wasWritten 37 = .ok (.iload 4, 2) := by decide +kernel
theorem dX5_wasWritten_39 : decode cX5_wasWritten 39 = .ok (.iconst 1, 1) := by decide +kernel
theorem dX5_wasWritten_40 : decode cX5_wasWritten 40 = .ok (.iadd, 1) := by decide +kernel
theorem dX5_wasWritten_41 : decode cX5_wasWritten 41 = .ok (.iaload, 1) := by decide +kernel
theorem dX5_wasWritten_42 : decode cX5_wasWritten 42 = .ok (.iload_n 3, 1) := by decide +kernel
theorem dX5_wasWritten_43 : decode cX5_wasWritten 43 = .ok (.if_icmp .ne 7, 3) := by decide +kernel
theorem dX5_wasWritten_46 : decode cX5_wasWritten 46 = .ok (.iconst 1, 1) := by decide +kernel
theorem dX5_wasWritten_47 : decode cX5_wasWritten 47 = .ok (.goto 4, 3) := by decide +kernel
theorem dX5_wasWritten_50 : decode cX5_wasWritten 50 = .ok (.iconst 0, 1) := by decide +kernel
theorem dX5_wasWritten_51 : decode cX5_wasWritten 51 = .ok (.ireturn, 1) := by decide +kernel
theorem dX5_storeVersion_0 : decode cX5_storeVersion 0 = .ok (.aload_n 0, 1) := by decide +kernel
theorem dX5_storeVersion_1 : decode cX5_storeVersion 1 = .ok (.getfield 11, 3) := by decide +kernel
theorem dX5_storeVersion_4 : decode cX5_storeVersion 4 = .ok (.iload_n 1, 1) := by decide +kernel
theorem dX5_storeVersion_5 : decode cX5_storeVersion 5 = .ok (.ifCond .ne 10, 3) := by decide +kernel
theorem dX5_storeVersion_8 : decode cX5_storeVersion 8 = .ok (.bipush 102, 2) := by decide +kernel
theorem dX5_storeVersion_10 : decode cX5_storeVersion 10 = .ok (.iload_n 2, 1) := by decide +kernel
theorem dX5_storeVersion_11 : decode cX5_storeVersion 11 = .ok (.iadd, 1) := by decide +kernel
theorem dX5_storeVersion_12 : decode cX5_storeVersion 12 = .ok (.goto 12, 3) := by decide +kernel
theorem dX5_storeVersion_15 : decode cX5_storeVersion 15 = .ok (.bipush 72, 2) := by decide +kernel
theorem dX5_storeVersion_17 : decode cX5_storeVersion 17 = .ok (.iload_n 1, 1) := by decide +kernel
theorem dX5_storeVersion_18 : decode cX5_storeVersion 18 = .ok (.bipush 10, 2) := by decide +kernel
theorem dX5_storeVersion_20 : decode cX5_storeVersion 20 = .ok (.imul, 1) := by decide +kernel
theorem dX5_storeVersion_21 : decode cX5_storeVersion 21 = .ok (.iadd, 1) := by decide +kernel
theorem dX5_storeVersion_22 : decode cX5_storeVersion 22 = .ok (.iload_n 2, 1) := by decide +kernel
theorem dX5_storeVersion_23 : decode cX5_storeVersion 23 = .ok (.iadd, 1) := by decide +kernel
theorem dX5_storeVersion_24 : decode cX5_storeVersion 24 = .ok (.iaload, 1) := by decide +kernel
theorem dX5_storeVersion_25 : decode cX5_storeVersion 25 = .ok (.ireturn, 1) := by decide +kernel
theorem dX5_lastWriteUpTo_0 : decode cX5_lastWriteUpTo 0 = .ok (.iload_n 2, 1) := by decide +kernel
theorem dX5_lastWriteUpTo_1 : decode cX5_lastWriteUpTo 1 = .ok (.istore_n 3, 1) := by decide +kernel
theorem dX5_lastWriteUpTo_2 : decode cX5_lastWriteUpTo 2 = .ok (.iload_n 3, 1) := by decide +kernel
theorem dX5_lastWriteUpTo_3 : decode cX5_lastWriteUpTo 3 = .ok (.ifCond .le 24, 3) := by decide +kernel
theorem dX5_lastWriteUpTo_6 : decode cX5_lastWriteUpTo 6 = .ok (.aload_n 0, 1) := by decide +kernel
theorem dX5_lastWriteUpTo_7 : decode cX5_lastWriteUpTo 7 = .ok (.getfield 11, 3) := by decide +kernel
theorem dX5_lastWriteUpTo_10 : decode cX5_lastWriteUpTo 10 = .ok (.iload_n 3, 1) := by decide +kernel
theorem dX5_lastWriteUpTo_11 : decode cX5_lastWriteUpTo 11 = .ok (.invokestatic 42, 3) := by decide +kernel
theorem dX5_lastWriteUpTo_14 : decode cX5_lastWriteUpTo 14 = .ok (.iconst 0, 1) := by decide +kernel
theorem dX5_lastWriteUpTo_15 : decode cX5_lastWriteUpTo 15 = .ok (.iadd, 1) := by decide +kernel
theorem dX5_lastWriteUpTo_16 : decode cX5_lastWriteUpTo 16 = .ok (.iaload, 1) := by decide +kernel
theorem dX5_lastWriteUpTo_17 : decode cX5_lastWriteUpTo 17 = .ok (.iload_n 1, 1) := by decide +kernel
theorem dX5_lastWriteUpTo_18 : decode cX5_lastWriteUpTo 18 = .ok (.if_icmp .eq 9, 3) := by decide +kernel
theorem dX5_lastWriteUpTo_21 : decode cX5_lastWriteUpTo 21 = .ok (.iinc 3 (-1), 3) := by decide +kernel
theorem dX5_lastWriteUpTo_24 : decode cX5_lastWriteUpTo 24 = .ok (.goto (-22), 3) := by decide +kernel
theorem dX5_lastWriteUpTo_27 : decode cX5_lastWriteUpTo 27 = .ok (.iload_n 3, 1) := by decide +kernel
theorem dX5_lastWriteUpTo_28 : decode cX5_lastWriteUpTo 28 = .ok (.ireturn, 1) := by decide +kernel
theorem dX5_lastWriteBy_0 : decode cX5_lastWriteBy 0 = .ok (.aload_n 0, 1) := by decide +kernel
theorem dX5_lastWriteBy_1 : decode cX5_lastWriteBy 1 = .ok (.invokevirtual 45, 3) := by decide +kernel
theorem dX5_lastWriteBy_4 : decode cX5_lastWriteBy 4 = .ok (.istore_n 3, 1) := by decide +kernel
theorem dX5_lastWriteBy_5 : decode cX5_lastWriteBy 5 = .ok (.iload_n 3, 1) := by decide +kernel
theorem dX5_lastWriteBy_6 : decode cX5_lastWriteBy 6 = .ok (.ifCond .le 19, 3) := by decide +kernel
theorem dX5_lastWriteBy_9 : decode cX5_lastWriteBy 9 = .ok (.aload_n 0, 1) := by decide +kernel
theorem dX5_lastWriteBy_10 : decode cX5_lastWriteBy 10 = .ok (.iload_n 3, 1) := by decide +kernel
theorem dX5_lastWriteBy_11 : decode cX5_lastWriteBy 11 = .ok (.iload_n 1, 1) := by decide +kernel
theorem dX5_lastWriteBy_12 : decode cX5_lastWriteBy 12 = .ok (.iload_n 2, 1) := by decide +kernel
theorem dX5_lastWriteBy_13 : decode cX5_lastWriteBy 13 = .ok (.invokevirtual 49, 3) := by decide +kernel
theorem dX5_lastWriteBy_16 : decode cX5_lastWriteBy 16 = .ok (.ifCond .ne 9, 3) := by decide +kernel
theorem dX5_lastWriteBy_19 : decode cX5_lastWriteBy 19 = .ok (.iinc 3 (-1), 3) := by decide +kernel
theorem dX5_lastWriteBy_22 : decode cX5_lastWriteBy 22 = .ok (.goto (-17), 3) := by decide +kernel
theorem dX5_lastWriteBy_25 : decode cX5_lastWriteBy 25 = .ok (.iload_n 3, 1) := by decide +kernel
theorem dX5_lastWriteBy_26 : decode cX5_lastWriteBy 26 = .ok (.ireturn, 1) := by decide +kernel
theorem dX5_isWriteBy_0 : decode cX5_isWriteBy 0 = .ok (.iload_n 1, 1) := by decide +kernel
theorem dX5_isWriteBy_1 : decode cX5_isWriteBy 1 = .ok (.invokestatic 42, 3) := by decide +kernel
theorem dX5_isWriteBy_4 : decode cX5_isWriteBy 4 = .ok (.istore 4, 2) := by decide +kernel
theorem dX5_isWriteBy_6 : decode cX5_isWriteBy 6 = .ok (.aload_n 0, 1) := by decide +kernel
theorem dX5_isWriteBy_7 : decode cX5_isWriteBy 7 = .ok (.getfield 11, 3) := by decide +kernel
theorem dX5_isWriteBy_10 : decode cX5_isWriteBy 10 = .ok (.iload 4, 2) := by decide +kernel
theorem dX5_isWriteBy_12 : decode cX5_isWriteBy 12 = .ok (.iconst 0, 1) := by decide +kernel
theorem dX5_isWriteBy_13 : decode cX5_isWriteBy 13 = .ok (.iadd, 1) := by decide +kernel
theorem dX5_isWriteBy_14 : decode cX5_isWriteBy 14 = .ok (.iaload, 1) := by decide +kernel
theorem dX5_isWriteBy_15 : decode cX5_isWriteBy 15 = .ok (.iload_n 3, 1) := by decide +kernel
theorem dX5_isWriteBy_16 : decode cX5_isWriteBy 16 = .ok (.if_icmp .ne 20, 3) := by decide +kernel
theorem dX5_isWriteBy_19 : decode cX5_isWriteBy 19 = .ok (.aload_n 0, 1) := by decide +kernel
theorem dX5_isWriteBy_20 : decode cX5_isWriteBy 20 = .ok (.getfield 11, 3) := by decide +kernel
theorem dX5_isWriteBy_23 : decode cX5_isWriteBy 23 = .ok (.iload 4, 2) := by decide +kernel
theorem dX5_isWriteBy_25 : decode cX5_isWriteBy 25 = .ok (.iconst 2, 1) := by decide +kernel
theorem dX5_isWriteBy_26 : decode cX5_isWriteBy 26 = .ok (.iadd, 1) := by decide +kernel
theorem dX5_isWriteBy_27 : decode cX5_isWriteBy 27 = .ok (.iaload, 1) := by decide +kernel
theorem dX5_isWriteBy_28 : decode cX5_isWriteBy 28 = .ok (.iload_n 2, 1) := by decide +kernel
theorem dX5_isWriteBy_29 : decode cX5_isWriteBy 29 = .ok (.if_icmp .ne 7, 3) := by decide +kernel
theorem dX5_isWriteBy_32 : decode cX5_isWriteBy 32 = .ok (.iconst 1, 1) := by decide +kernel
theorem dX5_isWriteBy_33 : decode cX5_isWriteBy 33 = .ok (.goto 4, 3) := by decide +kernel
theorem dX5_isWriteBy_36 : decode cX5_isWriteBy 36 = .ok (.iconst 0, 1) := by decide +kernel
theorem dX5_isWriteBy_37 : decode cX5_isWriteBy 37 = .ok (.ireturn, 1) := by decide +kernel
theorem dX5_writesBehind_0 : decode cX5_writesBehind 0 = .ok (.iconst 0, 1) := by decide +kernel
theorem dX5_writesBehind_1 : decode cX5_writesBehind 1 = .ok (.istore_n 3, 1) := by decide +kernel
theorem dX5_writesBehind_2 : decode cX5_writesBehind 2 = .ok (.iload_n 2, 1) := by decide +kernel
theorem dX5_writesBehind_3 : decode cX5_writesBehind 3 = .ok (.iconst 1, 1) := by decide +kernel
theorem dX5_writesBehind_4 : decode cX5_writesBehind 4 = .ok (.iadd, 1) := by decide +kernel
theorem dX5_writesBehind_5 : decode cX5_writesBehind 5 = .ok (.istore 4, 2) := by decide +kernel
theorem dX5_writesBehind_7 : decode cX5_writesBehind 7 = .ok (.iload 4, 2) := by decide +kernel
theorem dX5_writesBehind_9 : decode cX5_writesBehind 9 = .ok (.aload_n 0, 1) := by decide +kernel
theorem dX5_writesBehind_10 : decode cX5_writesBehind 10 = .ok (.invokevirtual 45, 3) := by decide +kernel
theorem dX5_writesBehind_13 : decode cX5_writesBehind 13 = .ok (.if_icmp .gt 28, 3) := by decide +kernel
theorem dX5_writesBehind_16 : decode cX5_writesBehind 16 = .ok (.aload_n 0, 1) := by decide +kernel
theorem dX5_writesBehind_17 : decode cX5_writesBehind 17 = .ok (.getfield 11, 3) := by decide +kernel
theorem dX5_writesBehind_20 : decode cX5_writesBehind 20 = .ok (.iload 4, 2) := by decide +kernel
theorem dX5_writesBehind_22 : decode cX5_writesBehind 22 = .ok (.invokestatic 42, 3) := by decide +kernel
theorem dX5_writesBehind_25 : decode cX5_writesBehind 25 = .ok (.iconst 0, 1) := by decide +kernel
theorem dX5_writesBehind_26 : decode cX5_writesBehind 26 = .ok (.iadd, 1) := by decide +kernel
theorem dX5_writesBehind_27 : decode cX5_writesBehind 27 = .ok (.iaload, 1) := by decide +kernel
theorem dX5_writesBehind_28 : decode cX5_writesBehind 28 = .ok (.iload_n 1, 1) := by decide +kernel
theorem dX5_writesBehind_29 : decode cX5_writesBehind 29 = .ok (.if_icmp .ne 6, 3) := by decide +kernel
theorem dX5_writesBehind_32 : decode cX5_writesBehind 32 = .ok (.iinc 3 1, 3) := by decide +kernel
theorem dX5_writesBehind_35 : decode cX5_writesBehind 35 = .ok (.iinc 4 1, 3) := by decide +kernel
theorem dX5_writesBehind_38 : decode cX5_writesBehind 38 = .ok (.goto (-31), 3) := by decide +kernel
theorem dX5_writesBehind_41 : decode cX5_writesBehind 41 = .ok (.iload_n 3, 1) := by decide +kernel
theorem dX5_writesBehind_42 : decode cX5_writesBehind 42 = .ok (.ireturn, 1) := by decide +kernel
theorem dX5_leastKey_0 : decode cX5_leastKey 0 = .ok (.getstatic 53, 3) := by decide +kernel
theorem dX5_leastKey_3 : decode cX5_leastKey 3 = .ok (.iload_n 2, 1) := by decide +kernel
theorem dX5_leastKey_4 : decode cX5_leastKey 4 = .ok (.iaload, 1) := by decide +kernel
theorem dX5_leastKey_5 : decode cX5_leastKey 5 = .ok (.istore_n 3, 1) := by decide +kernel
theorem dX5_leastKey_6 : decode cX5_leastKey 6 = .ok (.bipush (-2), 2) := by decide +kernel
theorem dX5_leastKey_8 : decode cX5_leastKey 8 = .ok (.istore 4, 2) := by decide +kernel
theorem dX5_leastKey_10 : decode cX5_leastKey 10 = .ok (.iconst 0, 1) := by decide +kernel
theorem dX5_leastKey_11 : decode cX5_leastKey 11 = .ok (.istore 5, 2) := by decide +kernel
theorem dX5_leastKey_13 : decode cX5_leastKey 13 = .ok (.iconst 0, 1) := by decide +kernel
theorem dX5_leastKey_14 : decode cX5_leastKey 14 = .ok (.istore 6, 2) := by decide +kernel
theorem dX5_leastKey_16 : decode cX5_leastKey 16 = .ok (.iload 6, 2) := by decide +kernel
theorem dX5_leastKey_18 : decode cX5_leastKey 18 = .ok (.bipush 10, 2) := by decide +kernel
theorem dX5_leastKey_20 : decode cX5_leastKey 20 = .ok (.if_icmp .ge 64, 3) := by decide +kernel
theorem dX5_leastKey_23 : decode cX5_leastKey 23 = .ok (.iload_n 1, 1) := by decide +kernel
theorem dX5_leastKey_24 : decode cX5_leastKey 24 = .ok (.iload 6, 2) := by decide +kernel
theorem dX5_leastKey_26 : decode cX5_leastKey 26 = .ok (.invokestatic 31, 3) := by decide +kernel
theorem dX5_leastKey_29 : decode cX5_leastKey 29 = .ok (.istore 7, 2) := by decide +kernel
theorem dX5_leastKey_31 : decode cX5_leastKey 31 = .ok (.aload_n 0, 1) := by decide +kernel
theorem dX5_leastKey_32 : decode cX5_leastKey 32 = .ok (.iload 7, 2) := by decide +kernel
theorem dX5_leastKey_34 : decode cX5_leastKey 34 = .ok (.iconst 5, 1) := by decide +kernel
theorem dX5_leastKey_35 : decode cX5_leastKey 35 = .ok (.iadd, 1) := by decide +kernel
theorem dX5_leastKey_36 : decode cX5_leastKey 36 = .ok (.invokevirtual 35, 3) := by decide +kernel
theorem dX5_leastKey_39 : decode cX5_leastKey 39 = .ok (.ifCond .eq 39, 3) := by decide +kernel
theorem dX5_leastKey_42 : decode cX5_leastKey 42 = .ok (.iload 4, 2) := by decide +kernel
theorem dX5_leastKey_44 : decode cX5_leastKey 44 = .ok (.bipush (-2), 2) := by decide +kernel
theorem dX5_leastKey_46 : decode cX5_leastKey 46 = .ok (.if_icmp .eq 17, 3) := by decide +kernel
theorem dX5_leastKey_49 : decode cX5_leastKey 49 = .ok (.aload_n 0, 1) := by decide +kernel
theorem dX5_leastKey_50 : decode cX5_leastKey 50 = .ok (.getfield 11, 3) := by decide +kernel
theorem dX5_leastKey_53 : decode cX5_leastKey 53 = .ok (.iload 7, 2) := by decide +kernel
theorem dX5_leastKey_55 : decode cX5_leastKey 55 = .ok (.iload_n 3, 1) := by decide +kernel
theorem dX5_leastKey_56 : decode cX5_leastKey 56 = .ok (.iadd, 1) := by decide +kernel
theorem dX5_leastKey_57 : decode cX5_leastKey 57 = .ok (.iaload, 1) := by decide +kernel
theorem dX5_leastKey_58 : decode cX5_leastKey 58 = .ok (.iload 5, 2) := by decide +kernel
theorem dX5_leastKey_60 : decode cX5_leastKey 60 = .ok (.if_icmp .ge 18, 3) := by decide +kernel
theorem dX5_leastKey_63 : decode cX5_leastKey 63 = .ok (.iload 6, 2) := by decide +kernel
theorem dX5_leastKey_65 : decode cX5_leastKey 65 = .ok (.istore 4, 2) := by decide +kernel
theorem dX5_leastKey_67 : decode cX5_leastKey 67 = .ok (.aload_n 0, 1) := by decide +kernel
theorem dX5_leastKey_68 : decode cX5_leastKey 68 = .ok (.getfield 11, 3) := by decide +kernel
theorem dX5_leastKey_71 : decode cX5_leastKey 71 = .ok (.iload 7, 2) := by decide +kernel
theorem dX5_leastKey_73 : decode cX5_leastKey 73 = .ok (.iload_n 3, 1) := by decide +kernel
theorem dX5_leastKey_74 : decode cX5_leastKey 74 = .ok (.iadd, 1) := by decide +kernel
theorem dX5_leastKey_75 : decode cX5_leastKey 75 = .ok (.iaload, 1) := by decide +kernel
theorem dX5_leastKey_76 : decode cX5_leastKey 76 = .ok (.istore 5, 2) := by decide +kernel
theorem dX5_leastKey_78 : decode cX5_leastKey 78 = .ok (.iinc 6 1, 3) := by decide +kernel
theorem dX5_leastKey_81 : decode cX5_leastKey 81 = .ok (.goto (-65), 3) := by decide +kernel
theorem dX5_leastKey_84 : decode cX5_leastKey 84 = .ok (.iload 4, 2) := by decide +kernel
theorem dX5_leastKey_86 : decode cX5_leastKey 86 = .ok (.ireturn, 1) := by decide +kernel
theorem dX5_outdatedKeys_0 : decode cX5_outdatedKeys 0 = .ok (.aload_n 0, 1) := by decide +kernel
theorem dX5_outdatedKeys_1 : decode cX5_outdatedKeys 1 = .ok (.iload_n 1, 1) := by decide +kernel
theorem dX5_outdatedKeys_2 : decode cX5_outdatedKeys 2 = .ok (.iconst 2, 1) := by decide +kernel
theorem dX5_outdatedKeys_3 : decode cX5_outdatedKeys 3 = .ok (.idiv, 1) := by decide +kernel
theorem dX5_outdatedKeys_4 : decode cX5_outdatedKeys 4 = .ok (.invokevirtual 56, 3) := by decide +kernel
theorem dX5_outdatedKeys_7 : decode cX5_outdatedKeys 7 = .ok (.ifCond .ne 5, 3) := by decide +kernel
theorem dX5_outdatedKeys_10 : decode cX5_outdatedKeys 10 = .ok (.iconst 0, 1) := by decide +kernel
theorem dX5_outdatedKeys_11 : decode cX5_outdatedKeys 11 = .ok (.ireturn, 1) := by decide +kernel
theorem dX5_outdatedKeys_12 : decode cX5_outdatedKeys 12 = .ok (.bipush 72, 2) := by decide +kernel
theorem dX5_outdatedKeys_14 : decode cX5_outdatedKeys 14 = .ok (.iload_n 1, 1) := by decide +kernel
theorem dX5_outdatedKeys_15 : decode cX5_outdatedKeys 15 = .ok (.iconst 2, 1) := by decide +kernel
theorem dX5_outdatedKeys_16 : decode cX5_outdatedKeys 16 = .ok (.idiv, 1) := by decide +kernel
theorem dX5_outdatedKeys_17 : decode cX5_outdatedKeys 17 = .ok (.bipush 10, 2) := by decide +kernel
theorem dX5_outdatedKeys_19 : decode cX5_outdatedKeys 19 = .ok (.imul, 1) := by decide +kernel
theorem dX5_outdatedKeys_20 : decode cX5_outdatedKeys 20 = .ok (.iadd, 1) := by decide +kernel
theorem dX5_outdatedKeys_21 : decode cX5_outdatedKeys 21 = .ok (.istore_n 2, 1) := by decide +kernel
theorem dX5_outdatedKeys_22 : decode cX5_outdatedKeys 22 = .ok (.iload_n 1, 1) := by decide +kernel
theorem dX5_outdatedKeys_23 : decode cX5_outdatedKeys 23 = .ok (.iconst 0, 1) := by decide +kernel
theorem dX5_outdatedKeys_24 : decode cX5_outdatedKeys 24 = .ok (.invokestatic 31, 3) := by decide +kernel
theorem dX5_outdatedKeys_27 : decode cX5_outdatedKeys 27 = .ok (.istore_n 3, 1) := by decide +kernel
theorem dX5_outdatedKeys_28 : decode cX5_outdatedKeys 28 = .ok (.iconst 0, 1) := by decide +kernel
theorem dX5_outdatedKeys_29 : decode cX5_outdatedKeys 29 = .ok (.istore 4, 2) := by decide +kernel
theorem dX5_outdatedKeys_31 : decode cX5_outdatedKeys 31 = .ok (.iconst 0, 1) := by decide +kernel
theorem dX5_outdatedKeys_32 : decode cX5_outdatedKeys 32 = .ok (.istore 5, 2) := by decide +kernel
theorem dX5_outdatedKeys_34 : decode cX5_outdatedKeys 34 = .ok (.iload 5, 2) := by decide +kernel
theorem dX5_outdatedKeys_36 : decode cX5_outdatedKeys 36 = .ok (.bipush 10, 2) := by decide +kernel
theorem dX5_outdatedKeys_38 : decode cX5_outdatedKeys 38 = .ok (.if_icmp .ge 51, 3) := by decide +kernel
theorem dX5_outdatedKeys_41 : decode cX5_outdatedKeys 41 = .ok (.aload_n 0, 1) := by decide +kernel
theorem dX5_outdatedKeys_42 : decode cX5_outdatedKeys 42 = .ok (.getfield 11, 3) := by decide +kernel
theorem dX5_outdatedKeys_45 : decode cX5_outdatedKeys 45 = .ok (.iload_n 3, 1) := by decide +kernel
theorem dX5_outdatedKeys_46 : decode cX5_outdatedKeys 46 = .ok (.iconst 1, 1) := by decide +kernel
theorem dX5_outdatedKeys_47 : decode cX5_outdatedKeys 47 = .ok (.iadd, 1) := by decide +kernel
theorem dX5_outdatedKeys_48 : decode cX5_outdatedKeys 48 = .ok (.iaload, 1) := by decide +kernel
theorem dX5_outdatedKeys_49 : decode cX5_outdatedKeys 49 = .ok (.aload_n 0, 1) := by decide +kernel
theorem dX5_outdatedKeys_50 : decode cX5_outdatedKeys 50 = .ok (.getfield 11, 3) := by decide +kernel
theorem dX5_outdatedKeys_53 : decode cX5_outdatedKeys 53 = .ok (.iload_n 2, 1) := by decide +kernel
theorem dX5_outdatedKeys_54 : decode cX5_outdatedKeys 54 = .ok (.iload 5, 2) := by decide +kernel
theorem dX5_outdatedKeys_56 : decode cX5_outdatedKeys 56 = .ok (.iadd, 1) := by decide +kernel
theorem dX5_outdatedKeys_57 : decode cX5_outdatedKeys 57 = .ok (.iaload, 1) := by decide +kernel
theorem dX5_outdatedKeys_58 : decode cX5_outdatedKeys 58 = .ok (.if_icmp .ge 22, 3) := by decide +kernel
theorem dX5_outdatedKeys_61 : decode cX5_outdatedKeys 61 = .ok (.aload_n 0, 1) := by decide +kernel
theorem dX5_outdatedKeys_62 : decode cX5_outdatedKeys 62 = .ok (.iload_n 3, 1) := by decide +kernel
theorem dX5_outdatedKeys_63 : decode cX5_outdatedKeys 63 = .ok (.iconst 5, 1) := by decide +kernel
theorem dX5_outdatedKeys_64 : decode cX5_outdatedKeys 64 = .ok (.iadd, 1) := by decide +kernel
theorem dX5_outdatedKeys_65 : decode cX5_outdatedKeys 65 = .ok (.invokevirtual 35, 3) := by decide +kernel
theorem dX5_outdatedKeys_68 : decode cX5_outdatedKeys 68 = .ok (.ifCond .eq 12, 3) := by decide +kernel
theorem dX5_outdatedKeys_71 : decode cX5_outdatedKeys 71 = .ok (.iload 4, 2) := by decide +kernel
theorem dX5_outdatedKeys_73 : decode cX5_outdatedKeys 73 = .ok (.iconst 1, 1) := by decide +kernel
theorem dX5_outdatedKeys_74 : decode cX5_outdatedKeys 74 = .ok (.iload 5, 2) := by decide +kernel
theorem dX5_outdatedKeys_76 : decode cX5_outdatedKeys 76 = .ok (.ishl, 1) := by decide +kernel
theorem dX5_outdatedKeys_77 : decode cX5_outdatedKeys 77 = .ok (.ior, 1) := by decide +kernel
theorem dX5_outdatedKeys_78 : decode cX5_outdatedKeys 78 = .ok (.istore 4, 2) := by decide +kernel
theorem dX5_outdatedKeys_80 : decode cX5_outdatedKeys 80 = .ok (.iinc 3 12, 3) := by decide +kernel
theorem dX5_outdatedKeys_83 : decode cX5_outdatedKeys 83 = .ok (.iinc 5 1, 3) := by decide +kernel
theorem dX5_outdatedKeys_86 : decode cX5_outdatedKeys 86 = .ok (.goto (-52), 3) := by decide +kernel
theorem dX5_outdatedKeys_89 : decode cX5_outdatedKeys 89 = .ok (.iload 4, 2) := by decide +kernel
theorem dX5_outdatedKeys_91 : decode cX5_outdatedKeys 91 = .ok (.ireturn, 1) := by decide +kernel
theorem dX5_outdatedGroups_0 : decode cX5_outdatedGroups 0 = .ok (.iconst 0, 1) := by decide +kernel
theorem dX5_outdatedGroups_1 : decode cX5_outdatedGroups 1 = .ok (.istore_n 1, 1) := by decide +kernel
theorem dX5_outdatedGroups_2 : decode cX5_outdatedGroups 2 = .ok (.iconst 0, 1) := by decide +kernel
theorem dX5_outdatedGroups_3 : decode cX5_outdatedGroups 3 = .ok (.istore_n 2, 1) := by decide +kernel
theorem dX5_outdatedGroups_4 : decode cX5_outdatedGroups 4 = .ok (.iload_n 2, 1) := by decide +kernel
theorem dX5_outdatedGroups_5 : decode cX5_outdatedGroups 5 = .ok (.bipush 6, 2) := by decide +kernel
theorem dX5_outdatedGroups_7 : decode cX5_outdatedGroups 7 = .ok (.if_icmp .ge 20, 3) := by decide +kernel
theorem dX5_outdatedGroups_10 : decode cX5_outdatedGroups 10 = .ok (.aload_n 0, 1) := by decide +kernel
theorem dX5_outdatedGroups_11 : decode cX5_outdatedGroups 11 = .ok (.iload_n 2, 1) := by decide +kernel
theorem dX5_outdatedGroups_12 : decode cX5_outdatedGroups 12 = .ok (.invokevirtual 59, 3) := by decide +kernel
theorem dX5_outdatedGroups_15 : decode cX5_outdatedGroups 15 = .ok (.ifCond .eq 6, 3) := by decide +kernel
theorem dX5_outdatedGroups_18 : decode cX5_outdatedGroups 18 = .ok (.iinc 1 1, 3) := by decide +kernel
theorem dX5_outdatedGroups_21 : decode cX5_outdatedGroups 21 = .ok (.iinc 2 1, 3) := by decide +kernel
theorem dX5_outdatedGroups_24 : decode cX5_outdatedGroups 24 = .ok (.goto (-20), 3) := by decide +kernel
theorem dX5_outdatedGroups_27 : decode cX5_outdatedGroups 27 = .ok (.iload_n 1, 1) := by decide +kernel
theorem dX5_outdatedGroups_28 : decode cX5_outdatedGroups 28 = .ok (.ireturn, 1) := by decide +kernel
theorem dX5_hotKey_0 : decode cX5_hotKey 0 = .ok (.iconst 0, 1) := by decide +kernel
theorem dX5_hotKey_1 : decode cX5_hotKey 1 = .ok (.istore_n 2, 1) := by decide +kernel
theorem dX5_hotKey_2 : decode cX5_hotKey 2 = .ok (.iload_n 2, 1) := by decide +kernel
theorem dX5_hotKey_3 : decode cX5_hotKey 3 = .ok (.bipush 10, 2) := by decide +kernel
theorem dX5_hotKey_5 : decode cX5_hotKey 5 = .ok (.if_icmp .ge 20, 3) := by decide +kernel
theorem dX5_hotKey_8 : decode cX5_hotKey 8 = .ok (.aload_n 0, 1) := by decide +kernel
theorem dX5_hotKey_9 : decode cX5_hotKey 9 = .ok (.iload_n 2, 1) := by decide +kernel
theorem dX5_hotKey_10 : decode cX5_hotKey 10 = .ok (.invokevirtual 62, 3) := by decide +kernel
theorem dX5_hotKey_13 : decode cX5_hotKey 13 = .ok (.iload_n 1, 1) := by decide +kernel
theorem dX5_hotKey_14 : decode cX5_hotKey 14 = .ok (.if_icmp .ne 5, 3) := by decide +kernel
theorem dX5_hotKey_17 : decode cX5_hotKey 17 = .ok (.iload_n 2, 1) := by decide +kernel
theorem dX5_hotKey_18 : decode cX5_hotKey 18 = .ok (.ireturn, 1) := by decide +kernel
theorem dX5_hotKey_19 : decode cX5_hotKey 19 = .ok (.iinc 2 1, 3) := by decide +kernel
theorem dX5_hotKey_22 : decode cX5_hotKey 22 = .ok (.goto (-20), 3) := by decide +kernel
theorem dX5_hotKey_25 : decode cX5_hotKey 25 = .ok (.bipush (-2), 2) := by decide +kernel
theorem dX5_hotKey_27 : decode cX5_hotKey 27 = .ok (.ireturn, 1) := by decide +kernel
theorem dX5_hotterThan_0 : decode cX5_hotterThan 0 = .ok (.aload_n 0, 1) := by decide +kernel
theorem dX5_hotterThan_1 : decode cX5_hotterThan 1 = .ok (.getfield 11, 3) := by decide +kernel
theorem dX5_hotterThan_4 : decode cX5_hotterThan 4 = .ok (.bipush 20, 2) := by decide +kernel
theorem dX5_hotterThan_6 : decode cX5_hotterThan 6 = .ok (.iload_n 1, 1) := by decide +kernel
theorem dX5_hotterThan_7 : decode cX5_hotterThan 7 = .ok (.iadd, 1) := by decide +kernel
theorem dX5_hotterThan_8 : decode cX5_hotterThan 8 = .ok (.iaload, 1) := by decide +kernel
theorem dX5_hotterThan_9 : decode cX5_hotterThan 9 = .ok (.istore_n 2, 1) := by decide +kernel
theorem dX5_hotterThan_10 : decode cX5_hotterThan 10 = .ok (.iconst 0, 1) := by decide +kernel
theorem dX5_hotterThan_11 : decode cX5_hotterThan 11 = .ok (.istore_n 3, 1) := by decide +kernel
theorem dX5_hotterThan_12 : decode cX5_hotterThan 12 = .ok (.iconst 0, 1) := by decide +kernel
theorem dX5_hotterThan_13 : decode cX5_hotterThan 13 = .ok (.istore 4, 2) := by decide +kernel
theorem dX5_hotterThan_15 : decode cX5_hotterThan 15 = .ok (.iload 4, 2) := by decide +kernel
theorem dX5_hotterThan_17 : decode cX5_hotterThan 17 = .ok (.bipush 10, 2) := by decide +kernel
theorem dX5_hotterThan_19 : decode cX5_hotterThan 19 = .ok (.if_icmp .ge 42, 3) := by decide +kernel
theorem dX5_hotterThan_22 : decode cX5_hotterThan 22 = .ok (.aload_n 0, 1) := by decide +kernel
theorem dX5_hotterThan_23 : decode cX5_hotterThan 23 = .ok (.getfield 11, 3) := by decide +kernel
theorem dX5_hotterThan_26 : decode cX5_hotterThan 26 = .ok (.bipush 20, 2) := by decide +kernel
theorem dX5_hotterThan_28 : decode cX5_hotterThan 28 = .ok (.iload 4, 2) := by decide +kernel
theorem dX5_hotterThan_30 : decode cX5_hotterThan 30 = .ok (.iadd, 1) := by decide +kernel
theorem dX5_hotterThan_31 : decode cX5_hotterThan 31 = .ok (.iaload, 1) := by decide +kernel
theorem dX5_hotterThan_32 : decode cX5_hotterThan 32 = .ok (.istore 5, 2) := by decide +kernel
theorem dX5_hotterThan_34 : decode cX5_hotterThan 34 = .ok (.iload 5, 2) := by decide +kernel
theorem dX5_hotterThan_36 : decode cX5_hotterThan 36 = .ok (.iload_n 2, 1) := by decide +kernel
theorem dX5_hotterThan_37 : decode cX5_hotterThan 37 = .ok (.if_icmp .gt 15, 3) := by decide +kernel
theorem dX5_hotterThan_40 : decode cX5_hotterThan 40 = .ok (.iload 5, 2) := by decide +kernel
theorem dX5_hotterThan_42 : decode cX5_hotterThan 42 = .ok (.iload_n 2, 1) := by decide +kernel
theorem dX5_hotterThan_43 : decode cX5_hotterThan 43 = .ok (.if_icmp .ne 12, 3) := by decide +kernel
theorem dX5_hotterThan_46 : decode cX5_hotterThan 46 = .ok (.iload 4, 2) := by decide +kernel
theorem dX5_hotterThan_48 : decode cX5_hotterThan 48 = .ok (.iload_n 1, 1) := by decide +kernel
theorem dX5_hotterThan_49 : decode cX5_hotterThan 49 = .ok (.if_icmp .ge 6, 3) := by decide +kernel
theorem dX5_hotterThan_52 : decode cX5_hotterThan 52 = .ok (.iinc 3 1, 3) := by decide +kernel
theorem dX5_hotterThan_55 : decode cX5_hotterThan 55 = .ok (.iinc 4 1, 3) := by decide +kernel
theorem dX5_hotterThan_58 : decode cX5_hotterThan 58 = .ok (.goto (-43), 3) := by decide +kernel
theorem dX5_hotterThan_61 : decode cX5_hotterThan 61 = .ok (.iload_n 3, 1) := by decide +kernel
theorem dX5_hotterThan_62 : decode cX5_hotterThan 62 = .ok (.ireturn, 1) := by decide +kernel
theorem dX5_dueCode_0 : decode cX5_dueCode 0 = .ok (.iconst (-1), 1) := by decide +kernel
theorem dX5_dueCode_1 : decode cX5_dueCode 1 = .ok (.istore_n 2, 1) := by decide +kernel
theorem dX5_dueCode_2 : decode cX5_dueCode 2 = .ok (.iconst 0, 1) := by decide +kernel
theorem dX5_dueCode_3 : decode cX5_dueCode 3 = .ok (.istore_n 3, 1) := by decide +kernel
theorem dX5_dueCode_4 : decode cX5_dueCode 4 = .ok (.iload_n 3, 1) := by decide +kernel
theorem dX5_dueCode_5 : decode cX5_dueCode 5 = .ok (.iload_n 1, 1) := by decide +kernel
theorem dX5_dueCode_6 : decode cX5_dueCode 6 = .ok (.if_icmp .gt 29, 3) := by decide +kernel
theorem dX5_dueCode_9 : decode cX5_dueCode 9 = .ok (.iload_n 3, 1) := by decide +kernel
theorem dX5_dueCode_10 : decode cX5_dueCode 10 = .ok (.sipush 240, 3) := by decide +kernel
theorem dX5_dueCode_13 : decode cX5_dueCode 13 = .ok (.if_icmp .ge 22, 3) := by decide +kernel
theorem dX5_dueCode_16 : decode cX5_dueCode 16 = .ok (.aload_n 0, 1) := by decide +kernel
theorem dX5_dueCode_17 : decode cX5_dueCode 17 = .ok (.iload_n 2, 1) := by decide +kernel
theorem dX5_dueCode_18 : decode cX5_dueCode 18 = .ok (.invokevirtual 65, 3) := by decide +kernel
theorem dX5_dueCode_21 : decode cX5_dueCode 21 = .ok (.istore_n 2, 1) := by decide +kernel
theorem dX5_dueCode_22 : decode cX5_dueCode 22 = .ok (.iload_n 2, 1) := by decide +kernel
theorem dX5_dueCode_23 : decode cX5_dueCode 23 = .ok (.ifCond .ge 6, 3) := by decide +kernel
theorem dX5_dueCode_26 : decode cX5_dueCode 26 = .ok (.bipush (-2), 2) := by decide +kernel
theorem dX5_dueCode_28 : decode cX5_dueCode 28 = .ok (.ireturn, 1) := by decide +kernel
theorem dX5_dueCode_29 : decode cX5_dueCode 29 = .ok (.iinc 3 1, 3) := by decide +kernel
theorem dX5_dueCode_32 : decode cX5_dueCode 32 = .ok (.goto (-28), 3) := by decide +kernel
theorem dX5_dueCode_35 : decode cX5_dueCode 35 = .ok (.iload_n 1, 1) := by decide +kernel
theorem dX5_dueCode_36 : decode cX5_dueCode 36 = .ok (.sipush 240, 3) := by decide +kernel
theorem dX5_dueCode_39 : decode cX5_dueCode 39 = .ok (.if_icmp .ge 7, 3) := by decide +kernel
theorem dX5_dueCode_42 : decode cX5_dueCode 42 = .ok (.iload_n 2, 1) := by decide +kernel
theorem dX5_dueCode_43 : decode cX5_dueCode 43 = .ok (.goto 5, 3) := by decide +kernel
theorem dX5_dueCode_46 : decode cX5_dueCode 46 = .ok (.bipush (-2), 2) := by decide +kernel
theorem dX5_dueCode_48 : decode cX5_dueCode 48 = .ok (.ireturn, 1) := by decide +kernel
theorem dX5_dueCodeBehind_0 : decode cX5_dueCodeBehind 0 = .ok (.bipush (-2), 2) := by decide +kernel
theorem dX5_dueCodeBehind_2 : decode cX5_dueCodeBehind 2 = .ok (.istore_n 2, 1) := by decide +kernel
theorem dX5_dueCodeBehind_3 : decode cX5_dueCodeBehind 3 = .ok (.iconst 0, 1) := by decide +kernel
theorem dX5_dueCodeBehind_4 : decode cX5_dueCodeBehind 4 = .ok (.istore_n 3, 1) := by decide +kernel
theorem dX5_dueCodeBehind_5 : decode cX5_dueCodeBehind 5 = .ok (.iload_n 3, 1) := by decide +kernel
theorem dX5_dueCodeBehind_6 : decode cX5_dueCodeBehind 6 = .ok (.bipush 60, 2) := by decide +kernel
theorem dX5_dueCodeBehind_8 : decode cX5_dueCodeBehind 8 = .ok (.if_icmp .ge 90, 3) := by decide +kernel
theorem dX5_dueCodeBehind_11 : decode cX5_dueCodeBehind 11 = .ok (.iconst 0, 1) := by decide +kernel
theorem dX5_dueCodeBehind_12 : decode cX5_dueCodeBehind 12 = .ok (.istore 4, 2) := by decide +kernel
theorem dX5_dueCodeBehind_14 : decode cX5_dueCodeBehind 14 = .ok (.iload 4, 2) := by decide +kernel
theorem dX5_dueCodeBehind_16 : decode cX5_dueCodeBehind 16 = .ok (.iconst 4, 1) := by decide +kernel
theorem dX5_dueCodeBehind_17 : decode cX5_dueCodeBehind 17 = .ok (.if_icmp .ge 75, 3) := by decide +kernel
theorem dX5_dueCodeBehind_20 : decode cX5_dueCodeBehind 20 = .ok (.sipush 340, 3) := by decide +kernel
theorem dX5_dueCodeBehind_23 : decode cX5_dueCodeBehind 23 = .ok (.iload_n 3, 1) := by decide +kernel

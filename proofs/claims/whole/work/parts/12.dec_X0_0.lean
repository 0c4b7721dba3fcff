theorem dX0_init_0 : decode cX0_init 0 = .ok (.aload_n 0, 1) := by decide +kernel
theorem dX0_init_1 : decode cX0_init 1 = .ok (.invokespecial 3, 3) := by decide +kernel
theorem dX0_init_4 : decode cX0_init 4 = .ok (.aload_n 0, 1) := by decide +kernel
theorem dX0_init_5 : decode cX0_init 5 = .ok (.bipush 31, 2) := by decide +kernel
theorem dX0_init_7 : decode cX0_init 7 = .ok (.anewarray 11, 3) := by decide +kernel
theorem dX0_init_10 : decode cX0_init 10 = .ok (.putfield 13, 3) := by decide +kernel
theorem dX0_init_13 : decode cX0_init 13 = .ok (.return_, 1) := by decide +kernel
theorem dX0_begin_0 : decode cX0_begin 0 = .ok (.aload_n 0, 1) := by decide +kernel
theorem dX0_begin_1 : decode cX0_begin 1 = .ok (.iconst 0, 1) := by decide +kernel
theorem dX0_begin_2 : decode cX0_begin 2 = .ok (.putfield 17, 3) := by decide +kernel
theorem dX0_begin_5 : decode cX0_begin 5 = .ok (.aload_n 0, 1) := by decide +kernel
theorem dX0_begin_6 : decode cX0_begin 6 = .ok (.iconst 0, 1) := by decide +kernel
theorem dX0_begin_7 : decode cX0_begin 7 = .ok (.putfield 21, 3) := by decide +kernel
theorem dX0_begin_10 : decode cX0_begin 10 = .ok (.aload_n 0, 1) := by decide +kernel
theorem dX0_begin_11 : decode cX0_begin 11 = .ok (.aload_n 1, 1) := by decide +kernel
theorem dX0_begin_12 : decode cX0_begin 12 = .ok (.invokevirtual 24, 3) := by decide +kernel
theorem dX0_begin_15 : decode cX0_begin 15 = .ok (.return_, 1) := by decide +kernel
theorem dX0_note_0 : decode cX0_note 0 = .ok (.aload_n 0, 1) := by decide +kernel
theorem dX0_note_1 : decode cX0_note 1 = .ok (.aload_n 0, 1) := by decide +kernel
theorem dX0_note_2 : decode cX0_note 2 = .ok (.getfield 28, 3) := by decide +kernel
theorem dX0_note_5 : decode cX0_note 5 = .ok (.iconst 1, 1) := by decide +kernel
theorem dX0_note_6 : decode cX0_note 6 = .ok (.iadd, 1) := by decide +kernel
theorem dX0_note_7 : decode cX0_note 7 = .ok (.bipush 31, 2) := by decide +kernel
theorem dX0_note_9 : decode cX0_note 9 = .ok (.irem, 1) := by decide +kernel
theorem dX0_note_10 : decode cX0_note 10 = .ok (.putfield 28, 3) := by decide +kernel
theorem dX0_note_13 : decode cX0_note 13 = .ok (.aload_n 0, 1) := by decide +kernel
theorem dX0_note_14 : decode cX0_note 14 = .ok (.aload_n 0, 1) := by decide +kernel
theorem dX0_note_15 : decode cX0_note 15 = .ok (.getfield 17, 3) := by decide +kernel
theorem dX0_note_18 : decode cX0_note 18 = .ok (.iconst 1, 1) := by decide +kernel
theorem dX0_note_19 : decode cX0_note 19 = .ok (.iadd, 1) := by decide +kernel
theorem dX0_note_20 : decode cX0_note 20 = .ok (.bipush 30, 2) := by decide +kernel
theorem dX0_note_22 : decode cX0_note 22 = .ok (.invokestatic 31, 3) := by decide +kernel
theorem dX0_note_25 : decode cX0_note 25 = .ok (.putfield 17, 3) := by decide +kernel
theorem dX0_note_28 : decode cX0_note 28 = .ok (.aload_n 0, 1) := by decide +kernel
theorem dX0_note_29 : decode cX0_note 29 = .ok (.iconst 0, 1) := by decide +kernel
theorem dX0_note_30 : decode cX0_note 30 = .ok (.putfield 21, 3) := by decide +kernel
theorem dX0_note_33 : decode cX0_note 33 = .ok (.aload_n 0, 1) := by decide +kernel
theorem dX0_note_34 : decode cX0_note 34 = .ok (.aload_n 1, 1) := by decide +kernel
theorem dX0_note_35 : decode cX0_note 35 = .ok (.invokevirtual 24, 3) := by decide +kernel
theorem dX0_note_38 : decode cX0_note 38 = .ok (.return_, 1) := by decide +kernel
theorem dX0_keepHere_0 : decode cX0_keepHere 0 = .ok (.aload_n 0, 1) := by decide +kernel
theorem dX0_keepHere_1 : decode cX0_keepHere 1 = .ok (.getfield 13, 3) := by decide +kernel
theorem dX0_keepHere_4 : decode cX0_keepHere 4 = .ok (.aload_n 0, 1) := by decide +kernel
theorem dX0_keepHere_5 : decode cX0_keepHere 5 = .ok (.getfield 28, 3) := by decide +kernel
theorem dX0_keepHere_8 : decode cX0_keepHere 8 = .ok (.aaload, 1) := by decide +kernel
theorem dX0_keepHere_9 : decode cX0_keepHere 9 = .ok (.ifnonnull 17, 3) := by decide +kernel
theorem dX0_keepHere_12 : decode cX0_keepHere 12 = .ok (.aload_n 0, 1) := by decide +kernel
theorem dX0_keepHere_13 : decode cX0_keepHere 13 = .ok (.getfield 13, 3) := by decide +kernel
theorem dX0_keepHere_16 : decode cX0_keepHere 16 = .ok (.aload_n 0, 1) := by decide +kernel
theorem dX0_keepHere_17 : decode cX0_keepHere 17 = .ok (.getfield 28, 3) := by decide +kernel
theorem dX0_keepHere_20 : decode cX0_keepHere 20 = .ok (.sipush 1060, 3) := by decide +kernel
theorem dX0_keepHere_23 : decode cX0_keepHere 23 = .ok (.newarray .int, 2) := by decide +kernel
theorem dX0_keepHere_25 : decode cX0_keepHere 25 = .ok (.aastore, 1) := by decide +kernel
theorem dX0_keepHere_26 : decode cX0_keepHere 26 = .ok (.aload_n 1, 1) := by decide +kernel
theorem dX0_keepHere_27 : decode cX0_keepHere 27 = .ok (.aload_n 0, 1) := by decide +kernel
theorem dX0_keepHere_28 : decode cX0_keepHere 28 = .ok (.getfield 13, 3) := by decide +kernel
theorem dX0_keepHere_31 : decode cX0_keepHere 31 = .ok (.aload_n 0, 1) := by decide +kernel
theorem dX0_keepHere_32 : decode cX0_keepHere 32 = .ok (.getfield 28, 3) := by decide +kernel
theorem dX0_keepHere_35 : decode cX0_keepHere 35 = .ok (.aaload, 1) := by decide +kernel
theorem dX0_keepHere_36 : decode cX0_keepHere 36 = .ok (.invokevirtual 39, 3) := by decide +kernel
theorem dX0_keepHere_39 : decode cX0_keepHere 39 = .ok (.return_, 1) := by decide +kernel
theorem dX0_stepBack_0 : decode cX0_stepBack 0 = .ok (.aload_n 0, 1) := by decide +kernel
theorem dX0_stepBack_1 : decode cX0_stepBack 1 = .ok (.getfield 17, 3) := by decide +kernel
theorem dX0_stepBack_4 : decode cX0_stepBack 4 = .ok (.ifCond .ne 5, 3) := by decide +kernel
theorem dX0_stepBack_7 : decode cX0_stepBack 7 = .ok (.iconst 0, 1) := by decide +kernel
theorem dX0_stepBack_8 : decode cX0_stepBack 8 = .ok (.ireturn, 1) := by decide +kernel
theorem dX0_stepBack_9 : decode cX0_stepBack 9 = .ok (.aload_n 0, 1) := by decide +kernel
theorem dX0_stepBack_10 : decode cX0_stepBack 10 = .ok (.dup, 1) := by decide +kernel
theorem dX0_stepBack_11 : decode cX0_stepBack 11 = .ok (.getfield 17, 3) := by decide +kernel
theorem dX0_stepBack_14 : decode cX0_stepBack 14 = .ok (.iconst 1, 1) := by decide +kernel
theorem dX0_stepBack_15 : decode cX0_stepBack 15 = .ok (.isub, 1) := by decide +kernel
theorem dX0_stepBack_16 : decode cX0_stepBack 16 = .ok (.putfield 17, 3) := by decide +kernel
theorem dX0_stepBack_19 : decode cX0_stepBack 19 = .ok (.aload_n 0, 1) := by decide +kernel
theorem dX0_stepBack_20 : decode cX0_stepBack 20 = .ok (.dup, 1) := by decide +kernel
theorem dX0_stepBack_21 : decode cX0_stepBack 21 = .ok (.getfield 21, 3) := by decide +kernel
theorem dX0_stepBack_24 : decode cX0_stepBack 24 = .ok (.iconst 1, 1) := by decide +kernel
theorem dX0_stepBack_25 : decode cX0_stepBack 25 = .ok (.iadd, 1) := by decide +kernel
theorem dX0_stepBack_26 : decode cX0_stepBack 26 = .ok (.putfield 21, 3) := by decide +kernel
theorem dX0_stepBack_29 : decode cX0_stepBack 29 = .ok (.aload_n 0, 1) := by decide +kernel
theorem dX0_stepBack_30 : decode cX0_stepBack 30 = .ok (.aload_n 0, 1) := by decide +kernel
theorem dX0_stepBack_31 : decode cX0_stepBack 31 = .ok (.getfield 28, 3) := by decide +kernel
theorem dX0_stepBack_34 : decode cX0_stepBack 34 = .ok (.bipush 31, 2) := by decide +kernel
theorem dX0_stepBack_36 : decode cX0_stepBack 36 = .ok (.iadd, 1) := by decide +kernel
theorem dX0_stepBack_37 : decode cX0_stepBack 37 = .ok (.iconst 1, 1) := by decide +kernel
theorem dX0_stepBack_38 : decode cX0_stepBack 38 = .ok (.isub, 1) := by decide +kernel
theorem dX0_stepBack_39 : decode cX0_stepBack 39 = .ok (.bipush 31, 2) := by decide +kernel
theorem dX0_stepBack_41 : decode cX0_stepBack 41 = .ok (.irem, 1) := by decide +kernel
theorem dX0_stepBack_42 : decode cX0_stepBack 42 = .ok (.aload_n 1, 1) := by decide +kernel
theorem dX0_stepBack_43 : decode cX0_stepBack 43 = .ok (.invokevirtual 43, 3) := by decide +kernel
theorem dX0_stepBack_46 : decode cX0_stepBack 46 = .ok (.ireturn, 1) := by decide +kernel
theorem dX0_stepOn_0 : decode cX0_stepOn 0 = .ok (.aload_n 0, 1) := by decide +kernel
theorem dX0_stepOn_1 : decode cX0_stepOn 1 = .ok (.getfield 21, 3) := by decide +kernel
theorem dX0_stepOn_4 : decode cX0_stepOn 4 = .ok (.ifCond .ne 5, 3) := by decide +kernel
theorem dX0_stepOn_7 : decode cX0_stepOn 7 = .ok (.iconst 0, 1) := by decide +kernel
theorem dX0_stepOn_8 : decode cX0_stepOn 8 = .ok (.ireturn, 1) := by decide +kernel
theorem dX0_stepOn_9 : decode cX0_stepOn 9 = .ok (.aload_n 0, 1) := by decide +kernel
theorem dX0_stepOn_10 : decode cX0_stepOn 10 = .ok (.dup, 1) := by decide +kernel
theorem dX0_stepOn_11 : decode cX0_stepOn 11 = .ok (.getfield 21, 3) := by decide +kernel
theorem dX0_stepOn_14 : decode cX0_stepOn 14 = .ok (.iconst 1, 1) := by decide +kernel
theorem dX0_stepOn_15 : decode cX0_stepOn 15 = .ok (.isub, 1) := by decide +kernel
theorem dX0_stepOn_16 : decode cX0_stepOn 16 = .ok (.putfield 21, 3) := by decide +kernel
theorem dX0_stepOn_19 : decode cX0_stepOn 19 = .ok (.aload_n 0, 1) := by decide +kernel
theorem dX0_stepOn_20 : decode cX0_stepOn 20 = .ok (.dup, 1) := by decide +kernel
theorem dX0_stepOn_21 : decode cX0_stepOn 21 = .ok (.getfield 17, 3) := by decide +kernel
theorem dX0_stepOn_24 : decode cX0_stepOn 24 = .ok (.iconst 1, 1) := by decide +kernel
theorem dX0_stepOn_25 : decode cX0_stepOn 25 = .ok (.iadd, 1) := by decide +kernel
theorem dX0_stepOn_26 : decode cX0_stepOn 26 = .ok (.putfield 17, 3) := by decide +kernel
theorem dX0_stepOn_29 : decode cX0_stepOn 29 = .ok (.aload_n 0, 1) := by decide +kernel
theorem dX0_stepOn_30 : decode cX0_stepOn 30 = .ok (.aload_n 0, 1) := by decide +kernel
theorem dX0_stepOn_31 : decode cX0_stepOn 31 = .ok (.getfield 28, 3) := by decide +kernel
theorem dX0_stepOn_34 : decode cX0_stepOn 34 = .ok (.iconst 1, 1) := by decide +kernel
theorem dX0_stepOn_35 : decode cX0_stepOn 35 = .ok (.iadd, 1) := by decide +kernel
theorem dX0_stepOn_36 : decode cX0_stepOn 36 = .ok (.bipush 31, 2) := by decide +kernel
theorem dX0_stepOn_38 : decode cX0_stepOn 38 = .ok (.irem, 1) := by decide +kernel
theorem dX0_stepOn_39 : decode cX0_stepOn 39 = .ok (.aload_n 1, 1) := by decide +kernel
theorem dX0_stepOn_40 : decode cX0_stepOn 40 = .ok (.invokevirtual 43, 3) := by decide +kernel
theorem dX0_stepOn_43 : decode cX0_stepOn 43 = .ok (.ireturn, 1) := by decide +kernel
theorem dX0_stepTo_0 : decode cX0_stepTo 0 = .ok (.aload_n 0, 1) := by decide +kernel
theorem dX0_stepTo_1 : decode cX0_stepTo 1 = .ok (.iload_n 1, 1) := by decide +kernel
theorem dX0_stepTo_2 : decode cX0_stepTo 2 = .ok (.putfield 28, 3) := by decide +kernel
theorem dX0_stepTo_5 : decode cX0_stepTo 5 = .ok (.aload_n 0, 1) := by decide +kernel
theorem dX0_stepTo_6 : decode cX0_stepTo 6 = .ok (.getfield 13, 3) := by decide +kernel
theorem dX0_stepTo_9 : decode cX0_stepTo 9 = .ok (.iload_n 1, 1) := by decide +kernel
theorem dX0_stepTo_10 : decode cX0_stepTo 10 = .ok (.aaload, 1) := by decide +kernel
theorem dX0_stepTo_11 : decode cX0_stepTo 11 = .ok (.ifnonnull 5, 3) := by decide +kernel
theorem dX0_stepTo_14 : decode cX0_stepTo 14 = .ok (.iconst 0, 1) := by decide +kernel
theorem dX0_stepTo_15 : decode cX0_stepTo 15 = .ok (.ireturn, 1) := by decide +kernel
theorem dX0_stepTo_16 : decode cX0_stepTo 16 = .ok (.aload_n 2, 1) := by decide +kernel
theorem dX0_stepTo_17 : decode cX0_stepTo 17 = .ok (.aload_n 0, 1) := by decide +kernel
theorem dX0_stepTo_18 : decode cX0_stepTo 18 = .ok (.getfield 13, 3) := by decide +kernel
theorem dX0_stepTo_21 : decode cX0_stepTo 21 = .ok (.iload_n 1, 1) := by decide +kernel
theorem dX0_stepTo_22 : decode cX0_stepTo 22 = .ok (.aaload, 1) := by decide +kernel
theorem dX0_stepTo_23 : decode cX0_stepTo 23 = .ok (.invokevirtual 47, 3) := by decide +kernel
theorem dX0_stepTo_26 : decode cX0_stepTo 26 = .ok (.iconst 1, 1) := by decide +kernel
theorem dX0_stepTo_27 : decode cX0_stepTo 27 = .ok (.ireturn, 1) := by decide +kernel

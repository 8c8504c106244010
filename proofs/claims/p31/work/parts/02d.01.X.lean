theorem dX1_greatestBefore_43 : decode cX1_greatestBefore 43 = .ok (.ireturn, 1) := by decide +kernel
theorem dX1_greatestBefore_44 : decode cX1_greatestBefore 44 = .ok (.iinc 3 1, 3) := by decide +kernel
theorem dX1_greatestBefore_47 : decode cX1_greatestBefore 47 = .ok (.goto (-45), 3) := by decide +kernel
theorem dX1_greatestBefore_50 : decode cX1_greatestBefore 50 = .ok (.iconst 0, 1) := by decide +kernel
theorem dX1_greatestBefore_51 : decode cX1_greatestBefore 51 = .ok (.ireturn, 1) := by decide +kernel
theorem dX1_greatestTotalByTrying_0 : decode cX1_greatestTotalByTrying 0 = .ok (.aload_n 0, 1) := by decide +kernel
theorem dX1_greatestTotalByTrying_1 : decode cX1_greatestTotalByTrying 1 = .ok (.getfield 9, 3) := by decide +kernel
theorem dX1_greatestTotalByTrying_4 : decode cX1_greatestTotalByTrying 4 = .ok (.aload_n 0, 1) := by decide +kernel
theorem dX1_greatestTotalByTrying_5 : decode cX1_greatestTotalByTrying 5 = .ok (.getfield 15, 3) := by decide +kernel
theorem dX1_greatestTotalByTrying_8 : decode cX1_greatestTotalByTrying 8 = .ok (.iconst 0, 1) := by decide +kernel
theorem dX1_greatestTotalByTrying_9 : decode cX1_greatestTotalByTrying 9 = .ok (.iload_n 1, 1) := by decide +kernel
theorem dX1_greatestTotalByTrying_10 : decode cX1_greatestTotalByTrying 10 = .ok (.iload_n 2, 1) := by decide +kernel
theorem dX1_greatestTotalByTrying_11 : decode cX1_greatestTotalByTrying 11 = .ok (.invokestatic 44, 3) := by decide +kernel
theorem dX1_greatestTotalByTrying_14 : decode cX1_greatestTotalByTrying 14 = .ok (.ireturn, 1) := by decide +kernel
theorem dX1_tryFrom_0 : decode cX1_tryFrom 0 = .ok (.iconst 0, 1) := by decide +kernel
theorem dX1_tryFrom_1 : decode cX1_tryFrom 1 = .ok (.istore 5, 2) := by decide +kernel
theorem dX1_tryFrom_3 : decode cX1_tryFrom 3 = .ok (.iload 4, 2) := by decide +kernel
theorem dX1_tryFrom_5 : decode cX1_tryFrom 5 = .ok (.ifCond .gt 6, 3) := by decide +kernel
theorem dX1_tryFrom_8 : decode cX1_tryFrom 8 = .ok (.iload 5, 2) := by decide +kernel
theorem dX1_tryFrom_10 : decode cX1_tryFrom 10 = .ok (.ireturn, 1) := by decide +kernel
theorem dX1_tryFrom_11 : decode cX1_tryFrom 11 = .ok (.iload_n 2, 1) := by decide +kernel
theorem dX1_tryFrom_12 : decode cX1_tryFrom 12 = .ok (.istore 6, 2) := by decide +kernel
theorem dX1_tryFrom_14 : decode cX1_tryFrom 14 = .ok (.iload 6, 2) := by decide +kernel
theorem dX1_tryFrom_16 : decode cX1_tryFrom 16 = .ok (.iload_n 1, 1) := by decide +kernel
theorem dX1_tryFrom_17 : decode cX1_tryFrom 17 = .ok (.if_icmp .ge 50, 3) := by decide +kernel
theorem dX1_tryFrom_20 : decode cX1_tryFrom 20 = .ok (.aload_n 0, 1) := by decide +kernel
theorem dX1_tryFrom_21 : decode cX1_tryFrom 21 = .ok (.iload 6, 2) := by decide +kernel
theorem dX1_tryFrom_23 : decode cX1_tryFrom 23 = .ok (.iaload, 1) := by decide +kernel
theorem dX1_tryFrom_24 : decode cX1_tryFrom 24 = .ok (.iload_n 3, 1) := by decide +kernel
theorem dX1_tryFrom_25 : decode cX1_tryFrom 25 = .ok (.if_icmp .gt 36, 3) := by decide +kernel
theorem dX1_tryFrom_28 : decode cX1_tryFrom 28 = .ok (.aload_n 0, 1) := by decide +kernel
theorem dX1_tryFrom_29 : decode cX1_tryFrom 29 = .ok (.iload 6, 2) := by decide +kernel
theorem dX1_tryFrom_31 : decode cX1_tryFrom 31 = .ok (.iaload, 1) := by decide +kernel
theorem dX1_tryFrom_32 : decode cX1_tryFrom 32 = .ok (.aload_n 0, 1) := by decide +kernel
theorem dX1_tryFrom_33 : decode cX1_tryFrom 33 = .ok (.iload_n 1, 1) := by decide +kernel
theorem dX1_tryFrom_34 : decode cX1_tryFrom 34 = .ok (.iload 6, 2) := by decide +kernel
theorem dX1_tryFrom_36 : decode cX1_tryFrom 36 = .ok (.iload_n 3, 1) := by decide +kernel
theorem dX1_tryFrom_37 : decode cX1_tryFrom 37 = .ok (.aload_n 0, 1) := by decide +kernel
theorem dX1_tryFrom_38 : decode cX1_tryFrom 38 = .ok (.iload 6, 2) := by decide +kernel
theorem dX1_tryFrom_40 : decode cX1_tryFrom 40 = .ok (.iaload, 1) := by decide +kernel
theorem dX1_tryFrom_41 : decode cX1_tryFrom 41 = .ok (.isub, 1) := by decide +kernel
theorem dX1_tryFrom_42 : decode cX1_tryFrom 42 = .ok (.iload 4, 2) := by decide +kernel
theorem dX1_tryFrom_44 : decode cX1_tryFrom 44 = .ok (.iconst 1, 1) := by decide +kernel
theorem dX1_tryFrom_45 : decode cX1_tryFrom 45 = .ok (.isub, 1) := by decide +kernel
theorem dX1_tryFrom_46 : decode cX1_tryFrom 46 = .ok (.invokestatic 44, 3) := by decide +kernel
theorem dX1_tryFrom_49 : decode cX1_tryFrom 49 = .ok (.iadd, 1) := by decide +kernel
theorem dX1_tryFrom_50 : decode cX1_tryFrom 50 = .ok (.istore 7, 2) := by decide +kernel
theorem dX1_tryFrom_52 : decode cX1_tryFrom 52 = .ok (.iload 5, 2) := by decide +kernel
theorem dX1_tryFrom_54 : decode cX1_tryFrom 54 = .ok (.iload 7, 2) := by decide +kernel
theorem dX1_tryFrom_56 : decode cX1_tryFrom 56 = .ok (.invokestatic 48, 3) := by decide +kernel
theorem dX1_tryFrom_59 : decode cX1_tryFrom 59 = .ok (.istore 5, 2) := by decide +kernel
theorem dX1_tryFrom_61 : decode cX1_tryFrom 61 = .ok (.iinc 6 1, 3) := by decide +kernel
theorem dX1_tryFrom_64 : decode cX1_tryFrom 64 = .ok (.goto (-50), 3) := by decide +kernel
theorem dX1_tryFrom_67 : decode cX1_tryFrom 67 = .ok (.iload 5, 2) := by decide +kernel
theorem dX1_tryFrom_69 : decode cX1_tryFrom 69 = .ok (.ireturn, 1) := by decide +kernel
theorem dX2_init_0 : decode cX2_init 0 = .ok (.aload_n 0, 1) := by decide +kernel
theorem dX2_init_1 : decode cX2_init 1 = .ok (.invokespecial 3, 3) := by decide +kernel
theorem dX2_init_4 : decode cX2_init 4 = .ok (.aload_n 0, 1) := by decide +kernel
theorem dX2_init_5 : decode cX2_init 5 = .ok (.iconst 0, 1) := by decide +kernel
theorem dX2_init_6 : decode cX2_init 6 = .ok (.putfield 9, 3) := by decide +kernel
theorem dX2_init_9 : decode cX2_init 9 = .ok (.aload_n 0, 1) := by decide +kernel
theorem dX2_init_10 : decode cX2_init 10 = .ok (.iconst 0, 1) := by decide +kernel
theorem dX2_init_11 : decode cX2_init 11 = .ok (.putfield 15, 3) := by decide +kernel
theorem dX2_init_14 : decode cX2_init 14 = .ok (.aload_n 0, 1) := by decide +kernel
theorem dX2_init_15 : decode cX2_init 15 = .ok (.iconst 0, 1) := by decide +kernel
theorem dX2_init_16 : decode cX2_init 16 = .ok (.putfield 18, 3) := by decide +kernel
theorem dX2_init_19 : decode cX2_init 19 = .ok (.aload_n 0, 1) := by decide +kernel
theorem dX2_init_20 : decode cX2_init 20 = .ok (.iconst (-1), 1) := by decide +kernel
theorem dX2_init_21 : decode cX2_init 21 = .ok (.putfield 21, 3) := by decide +kernel
theorem dX2_init_24 : decode cX2_init 24 = .ok (.return_, 1) := by decide +kernel
theorem dX2_describe_0 : decode cX2_describe 0 = .ok (.aload_n 0, 1) := by decide +kernel
theorem dX2_describe_1 : decode cX2_describe 1 = .ok (.iload_n 1, 1) := by decide +kernel
theorem dX2_describe_2 : decode cX2_describe 2 = .ok (.putfield 9, 3) := by decide +kernel
theorem dX2_describe_5 : decode cX2_describe 5 = .ok (.aload_n 0, 1) := by decide +kernel
theorem dX2_describe_6 : decode cX2_describe 6 = .ok (.iload_n 2, 1) := by decide +kernel
theorem dX2_describe_7 : decode cX2_describe 7 = .ok (.putfield 15, 3) := by decide +kernel
theorem dX2_describe_10 : decode cX2_describe 10 = .ok (.return_, 1) := by decide +kernel
theorem dX2_wouldTakeHeat_0 : decode cX2_wouldTakeHeat 0 = .ok (.aload_n 0, 1) := by decide +kernel
theorem dX2_wouldTakeHeat_1 : decode cX2_wouldTakeHeat 1 = .ok (.getfield 18, 3) := by decide +kernel
theorem dX2_wouldTakeHeat_4 : decode cX2_wouldTakeHeat 4 = .ok (.aload_n 0, 1) := by decide +kernel
theorem dX2_wouldTakeHeat_5 : decode cX2_wouldTakeHeat 5 = .ok (.getfield 15, 3) := by decide +kernel
theorem dX2_wouldTakeHeat_8 : decode cX2_wouldTakeHeat 8 = .ok (.if_icmp .ge 23, 3) := by decide +kernel
theorem dX2_wouldTakeHeat_11 : decode cX2_wouldTakeHeat 11 = .ok (.aload_n 0, 1) := by decide +kernel
theorem dX2_wouldTakeHeat_12 : decode cX2_wouldTakeHeat 12 = .ok (.getfield 21, 3) := by decide +kernel
theorem dX2_wouldTakeHeat_15 : decode cX2_wouldTakeHeat 15 = .ok (.iconst (-1), 1) := by decide +kernel
theorem dX2_wouldTakeHeat_16 : decode cX2_wouldTakeHeat 16 = .ok (.if_icmp .eq 11, 3) := by decide +kernel
theorem dX2_wouldTakeHeat_19 : decode cX2_wouldTakeHeat 19 = .ok (.aload_n 0, 1) := by decide +kernel
theorem dX2_wouldTakeHeat_20 : decode cX2_wouldTakeHeat 20 = .ok (.getfield 21, 3) := by decide +kernel
theorem dX2_wouldTakeHeat_23 : decode cX2_wouldTakeHeat 23 = .ok (.iload_n 1, 1) := by decide +kernel
theorem dX2_wouldTakeHeat_24 : decode cX2_wouldTakeHeat 24 = .ok (.if_icmp .ne 7, 3) := by decide +kernel
theorem dX2_wouldTakeHeat_27 : decode cX2_wouldTakeHeat 27 = .ok (.iconst 1, 1) := by decide +kernel
theorem dX2_wouldTakeHeat_28 : decode cX2_wouldTakeHeat 28 = .ok (.goto 4, 3) := by decide +kernel
theorem dX2_wouldTakeHeat_31 : decode cX2_wouldTakeHeat 31 = .ok (.iconst 0, 1) := by decide +kernel
theorem dX2_wouldTakeHeat_32 : decode cX2_wouldTakeHeat 32 = .ok (.ireturn, 1) := by decide +kernel
theorem dX2_receive_0 : decode cX2_receive 0 = .ok (.aload_n 0, 1) := by decide +kernel
theorem dX2_receive_1 : decode cX2_receive 1 = .ok (.dup, 1) := by decide +kernel
theorem dX2_receive_2 : decode cX2_receive 2 = .ok (.getfield 18, 3) := by decide +kernel
theorem dX2_receive_5 : decode cX2_receive 5 = .ok (.iload_n 1, 1) := by decide +kernel
theorem dX2_receive_6 : decode cX2_receive 6 = .ok (.iadd, 1) := by decide +kernel
theorem dX2_receive_7 : decode cX2_receive 7 = .ok (.putfield 18, 3) := by decide +kernel
theorem dX2_receive_10 : decode cX2_receive 10 = .ok (.aload_n 0, 1) := by decide +kernel
theorem dX2_receive_11 : decode cX2_receive 11 = .ok (.iload_n 2, 1) := by decide +kernel
theorem dX2_receive_12 : decode cX2_receive 12 = .ok (.putfield 21, 3) := by decide +kernel
theorem dX2_receive_15 : decode cX2_receive 15 = .ok (.return_, 1) := by decide +kernel
theorem dX3_init_0 : decode cX3_init 0 = .ok (.aload_n 0, 1) := by decide +kernel
theorem dX3_init_1 : decode cX3_init 1 = .ok (.invokespecial 3, 3) := by decide +kernel
theorem dX3_init_4 : decode cX3_init 4 = .ok (.aload_n 0, 1) := by decide +kernel
theorem dX3_init_5 : decode cX3_init 5 = .ok (.bipush 15, 2) := by decide +kernel
theorem dX3_init_7 : decode cX3_init 7 = .ok (.newarray .int, 2) := by decide +kernel
theorem dX3_init_9 : decode cX3_init 9 = .ok (.putfield 9, 3) := by decide +kernel
theorem dX3_init_12 : decode cX3_init 12 = .ok (.aload_n 0, 1) := by decide +kernel
theorem dX3_init_13 : decode cX3_init 13 = .ok (.iconst 0, 1) := by decide +kernel
theorem dX3_init_14 : decode cX3_init 14 = .ok (.putfield 15, 3) := by decide +kernel
theorem dX3_init_17 : decode cX3_init 17 = .ok (.return_, 1) := by decide +kernel
theorem dX3_isFull_0 : decode cX3_isFull 0 = .ok (.aload_n 0, 1) := by decide +kernel
theorem dX3_isFull_1 : decode cX3_isFull 1 = .ok (.getfield 15, 3) := by decide +kernel
theorem dX3_isFull_4 : decode cX3_isFull 4 = .ok (.aload_n 0, 1) := by decide +kernel
theorem dX3_isFull_5 : decode cX3_isFull 5 = .ok (.getfield 9, 3) := by decide +kernel
theorem dX3_isFull_8 : decode cX3_isFull 8 = .ok (.arraylength, 1) := by decide +kernel
theorem dX3_isFull_9 : decode cX3_isFull 9 = .ok (.if_icmp .lt 7, 3) := by decide +kernel
theorem dX3_isFull_12 : decode cX3_isFull 12 = .ok (.iconst 1, 1) := by decide +kernel
theorem dX3_isFull_13 : decode cX3_isFull 13 = .ok (.goto 4, 3) := by decide +kernel
theorem dX3_isFull_16 : decode cX3_isFull 16 = .ok (.iconst 0, 1) := by decide +kernel
theorem dX3_isFull_17 : decode cX3_isFull 17 = .ok (.ireturn, 1) := by decide +kernel
theorem dX3_hasSlitAt_0 : decode cX3_hasSlitAt 0 = .ok (.iload_n 1, 1) := by decide +kernel
theorem dX3_hasSlitAt_1 : decode cX3_hasSlitAt 1 = .ok (.ifCond .lt 15, 3) := by decide +kernel
theorem dX3_hasSlitAt_4 : decode cX3_hasSlitAt 4 = .ok (.iload_n 1, 1) := by decide +kernel
theorem dX3_hasSlitAt_5 : decode cX3_hasSlitAt 5 = .ok (.aload_n 0, 1) := by decide +kernel
theorem dX3_hasSlitAt_6 : decode cX3_hasSlitAt 6 = .ok (.getfield 15, 3) := by decide +kernel
theorem dX3_hasSlitAt_9 : decode cX3_hasSlitAt 9 = .ok (.if_icmp .ge 7, 3) := by decide +kernel
theorem dX3_hasSlitAt_12 : decode cX3_hasSlitAt 12 = .ok (.iconst 1, 1) := by decide +kernel
theorem dX3_hasSlitAt_13 : decode cX3_hasSlitAt 13 = .ok (.goto 4, 3) := by decide +kernel
theorem dX3_hasSlitAt_16 : decode cX3_hasSlitAt 16 = .ok (.iconst 0, 1) := by decide +kernel
theorem dX3_hasSlitAt_17 : decode cX3_hasSlitAt 17 = .ok (.ireturn, 1) := by decide +kernel
theorem dX3_empty_0 : decode cX3_empty 0 = .ok (.aload_n 0, 1) := by decide +kernel
theorem dX3_empty_1 : decode cX3_empty 1 = .ok (.iconst 0, 1) := by decide +kernel
theorem dX3_empty_2 : decode cX3_empty 2 = .ok (.putfield 15, 3) := by decide +kernel
theorem dX3_empty_5 : decode cX3_empty 5 = .ok (.return_, 1) := by decide +kernel
theorem dX3_append_0 : decode cX3_append 0 = .ok (.aload_n 0, 1) := by decide +kernel
theorem dX3_append_1 : decode cX3_append 1 = .ok (.invokevirtual 19, 3) := by decide +kernel
theorem dX3_append_4 : decode cX3_append 4 = .ok (.ifCond .ne 23, 3) := by decide +kernel
theorem dX3_append_7 : decode cX3_append 7 = .ok (.aload_n 0, 1) := by decide +kernel
theorem dX3_append_8 : decode cX3_append 8 = .ok (.getfield 9, 3) := by decide +kernel
theorem dX3_append_11 : decode cX3_append 11 = .ok (.aload_n 0, 1) := by decide +kernel
theorem dX3_append_12 : decode cX3_append 12 = .ok (.getfield 15, 3) := by decide +kernel
theorem dX3_append_15 : decode cX3_append 15 = .ok (.iload_n 1, 1) := by decide +kernel
theorem dX3_append_16 : decode cX3_append 16 = .ok (.iastore, 1) := by decide +kernel
theorem dX3_append_17 : decode cX3_append 17 = .ok (.aload_n 0, 1) := by decide +kernel
theorem dX3_append_18 : decode cX3_append 18 = .ok (.dup, 1) := by decide +kernel
theorem dX3_append_19 : decode cX3_append 19 = .ok (.getfield 15, 3) := by decide +kernel
theorem dX3_append_22 : decode cX3_append 22 = .ok (.iconst 1, 1) := by decide +kernel
theorem dX3_append_23 : decode cX3_append 23 = .ok (.iadd, 1) := by decide +kernel
theorem dX3_append_24 : decode cX3_append 24 = .ok (.putfield 15, 3) := by decide +kernel
theorem dX3_append_27 : decode cX3_append 27 = .ok (.return_, 1) := by decide +kernel
theorem dX3_becomeCopyOf_0 : decode cX3_becomeCopyOf 0 = .ok (.aload_n 0, 1) := by decide +kernel
theorem dX3_becomeCopyOf_1 : decode cX3_becomeCopyOf 1 = .ok (.invokevirtual 23, 3) := by decide +kernel
theorem dX3_becomeCopyOf_4 : decode cX3_becomeCopyOf 4 = .ok (.iconst 0, 1) := by decide +kernel
theorem dX3_becomeCopyOf_5 : decode cX3_becomeCopyOf 5 = .ok (.istore_n 2, 1) := by decide +kernel
theorem dX3_becomeCopyOf_6 : decode cX3_becomeCopyOf 6 = .ok (.iload_n 2, 1) := by decide +kernel
theorem dX3_becomeCopyOf_7 : decode cX3_becomeCopyOf 7 = .ok (.aload_n 1, 1) := by decide +kernel
theorem dX3_becomeCopyOf_8 : decode cX3_becomeCopyOf 8 = .ok (.getfield 15, 3) := by decide +kernel
theorem dX3_becomeCopyOf_11 : decode cX3_becomeCopyOf 11 = .ok (.if_icmp .ge 19, 3) := by decide +kernel
theorem dX3_becomeCopyOf_14 : decode cX3_becomeCopyOf 14 = .ok (.aload_n 0, 1) := by decide +kernel
theorem dX3_becomeCopyOf_15 : decode cX3_becomeCopyOf 15 = .ok (.aload_n 1, 1) := by decide +kernel
theorem dX3_becomeCopyOf_16 : decode cX3_becomeCopyOf 16 = .ok (.getfield 9, 3) := by decide +kernel
theorem dX3_becomeCopyOf_19 : decode cX3_becomeCopyOf 19 = .ok (.iload_n 2, 1) := by decide +kernel
theorem dX3_becomeCopyOf_20 : decode cX3_becomeCopyOf 20 = .ok (.iaload, 1) := by decide +kernel
theorem dX3_becomeCopyOf_21 : decode cX3_becomeCopyOf 21 = .ok (.invokevirtual 26, 3) := by decide +kernel
theorem dX3_becomeCopyOf_24 : decode cX3_becomeCopyOf 24 = .ok (.iinc 2 1, 3) := by decide +kernel
theorem dX3_becomeCopyOf_27 : decode cX3_becomeCopyOf 27 = .ok (.goto (-21), 3) := by decide +kernel
theorem dX3_becomeCopyOf_30 : decode cX3_becomeCopyOf 30 = .ok (.return_, 1) := by decide +kernel
theorem dX3_totalWidth_0 : decode cX3_totalWidth 0 = .ok (.iconst 0, 1) := by decide +kernel
theorem dX3_totalWidth_1 : decode cX3_totalWidth 1 = .ok (.istore_n 1, 1) := by decide +kernel
theorem dX3_totalWidth_2 : decode cX3_totalWidth 2 = .ok (.iconst 0, 1) := by decide +kernel
theorem dX3_totalWidth_3 : decode cX3_totalWidth 3 = .ok (.istore_n 2, 1) := by decide +kernel
theorem dX3_totalWidth_4 : decode cX3_totalWidth 4 = .ok (.iload_n 2, 1) := by decide +kernel
theorem dX3_totalWidth_5 : decode cX3_totalWidth 5 = .ok (.aload_n 0, 1) := by decide +kernel
theorem dX3_totalWidth_6 : decode cX3_totalWidth 6 = .ok (.getfield 15, 3) := by decide +kernel
theorem dX3_totalWidth_9 : decode cX3_totalWidth 9 = .ok (.if_icmp .ge 18, 3) := by decide +kernel
theorem dX3_totalWidth_12 : decode cX3_totalWidth 12 = .ok (.iload_n 1, 1) := by decide +kernel
theorem dX3_totalWidth_13 : decode cX3_totalWidth 13 = .ok (.aload_n 0, 1) := by decide +kernel
theorem dX3_totalWidth_14 : decode cX3_totalWidth 14 = .ok (.getfield 9, 3) := by decide +kernel
theorem dX3_totalWidth_17 : decode cX3_totalWidth 17 = .ok (.iload_n 2, 1) := by decide +kernel
theorem dX3_totalWidth_18 : decode cX3_totalWidth 18 = .ok (.iaload, 1) := by decide +kernel
theorem dX3_totalWidth_19 : decode cX3_totalWidth 19 = .ok (.iadd, 1) := by decide +kernel
theorem dX3_totalWidth_20 : decode cX3_totalWidth 20 = .ok (.istore_n 1, 1) := by decide +kernel
theorem dX3_totalWidth_21 : decode cX3_totalWidth 21 = .ok (.iinc 2 1, 3) := by decide +kernel
theorem dX3_totalWidth_24 : decode cX3_totalWidth 24 = .ok (.goto (-20), 3) := by decide +kernel
theorem dX3_totalWidth_27 : decode cX3_totalWidth 27 = .ok (.iload_n 1, 1) := by decide +kernel
theorem dX3_totalWidth_28 : decode cX3_totalWidth 28 = .ok (.ireturn, 1) := by decide +kernel
theorem dX3_knivesNeeded_0 : decode cX3_knivesNeeded 0 = .ok (.aload_n 0, 1) := by decide +kernel
theorem dX3_knivesNeeded_1 : decode cX3_knivesNeeded 1 = .ok (.getfield 15, 3) := by decide +kernel
theorem dX3_knivesNeeded_4 : decode cX3_knivesNeeded 4 = .ok (.iconst 1, 1) := by decide +kernel
theorem dX3_knivesNeeded_5 : decode cX3_knivesNeeded 5 = .ok (.iadd, 1) := by decide +kernel
theorem dX3_knivesNeeded_6 : decode cX3_knivesNeeded 6 = .ok (.ireturn, 1) := by decide +kernel
theorem dX3_knivesNotIn_0 : decode cX3_knivesNotIn 0 = .ok (.iconst 0, 1) := by decide +kernel
theorem dX3_knivesNotIn_1 : decode cX3_knivesNotIn 1 = .ok (.istore_n 2, 1) := by decide +kernel
theorem dX3_knivesNotIn_2 : decode cX3_knivesNotIn 2 = .ok (.iconst 0, 1) := by decide +kernel
theorem dX3_knivesNotIn_3 : decode cX3_knivesNotIn 3 = .ok (.istore_n 3, 1) := by decide +kernel
theorem dX3_knivesNotIn_4 : decode cX3_knivesNotIn 4 = .ok (.iconst 0, 1) := by decide +kernel
theorem dX3_knivesNotIn_5 : decode cX3_knivesNotIn 5 = .ok (.istore 4, 2) := by decide +kernel
theorem dX3_knivesNotIn_7 : decode cX3_knivesNotIn 7 = .ok (.iload 4, 2) := by decide +kernel
theorem dX3_knivesNotIn_9 : decode cX3_knivesNotIn 9 = .ok (.aload_n 0, 1) := by decide +kernel
theorem dX3_knivesNotIn_10 : decode cX3_knivesNotIn 10 = .ok (.getfield 15, 3) := by decide +kernel
theorem dX3_knivesNotIn_13 : decode cX3_knivesNotIn 13 = .ok (.if_icmp .ge 30, 3) := by decide +kernel
theorem dX3_knivesNotIn_16 : decode cX3_knivesNotIn 16 = .ok (.iload_n 3, 1) := by decide +kernel
theorem dX3_knivesNotIn_17 : decode cX3_knivesNotIn 17 = .ok (.aload_n 0, 1) := by decide +kernel
theorem dX3_knivesNotIn_18 : decode cX3_knivesNotIn 18 = .ok (.getfield 9, 3) := by decide +kernel
theorem dX3_knivesNotIn_21 : decode cX3_knivesNotIn 21 = .ok (.iload 4, 2) := by decide +kernel
theorem dX3_knivesNotIn_23 : decode cX3_knivesNotIn 23 = .ok (.iaload, 1) := by decide +kernel
theorem dX3_knivesNotIn_24 : decode cX3_knivesNotIn 24 = .ok (.iadd, 1) := by decide +kernel
theorem dX3_knivesNotIn_25 : decode cX3_knivesNotIn 25 = .ok (.istore_n 3, 1) := by decide +kernel
theorem dX3_knivesNotIn_26 : decode cX3_knivesNotIn 26 = .ok (.aload_n 1, 1) := by decide +kernel
theorem dX3_knivesNotIn_27 : decode cX3_knivesNotIn 27 = .ok (.iload_n 3, 1) := by decide +kernel
theorem dX3_knivesNotIn_28 : decode cX3_knivesNotIn 28 = .ok (.invokevirtual 30, 3) := by decide +kernel
theorem dX3_knivesNotIn_31 : decode cX3_knivesNotIn 31 = .ok (.ifCond .ne 6, 3) := by decide +kernel
theorem dX3_knivesNotIn_34 : decode cX3_knivesNotIn 34 = .ok (.iinc 2 1, 3) := by decide +kernel
theorem dX3_knivesNotIn_37 : decode cX3_knivesNotIn 37 = .ok (.iinc 4 1, 3) := by decide +kernel
theorem dX3_knivesNotIn_40 : decode cX3_knivesNotIn 40 = .ok (.goto (-33), 3) := by decide +kernel
theorem dX3_knivesNotIn_43 : decode cX3_knivesNotIn 43 = .ok (.iload_n 2, 1) := by decide +kernel
theorem dX3_knivesNotIn_44 : decode cX3_knivesNotIn 44 = .ok (.ireturn, 1) := by decide +kernel
theorem dX3_hasKnifeAt_0 : decode cX3_hasKnifeAt 0 = .ok (.iconst 0, 1) := by decide +kernel
theorem dX3_hasKnifeAt_1 : decode cX3_hasKnifeAt 1 = .ok (.istore_n 2, 1) := by decide +kernel
theorem dX3_hasKnifeAt_2 : decode cX3_hasKnifeAt 2 = .ok (.iconst 0, 1) := by decide +kernel
theorem dX3_hasKnifeAt_3 : decode cX3_hasKnifeAt 3 = .ok (.istore_n 3, 1) := by decide +kernel
theorem dX3_hasKnifeAt_4 : decode cX3_hasKnifeAt 4 = .ok (.iload_n 3, 1) := by decide +kernel
theorem dX3_hasKnifeAt_5 : decode cX3_hasKnifeAt 5 = .ok (.aload_n 0, 1) := by decide +kernel
theorem dX3_hasKnifeAt_6 : decode cX3_hasKnifeAt 6 = .ok (.getfield 15, 3) := by decide +kernel
theorem dX3_hasKnifeAt_9 : decode cX3_hasKnifeAt 9 = .ok (.if_icmp .ge 23, 3) := by decide +kernel
theorem dX3_hasKnifeAt_12 : decode cX3_hasKnifeAt 12 = .ok (.iload_n 2, 1) := by decide +kernel
theorem dX3_hasKnifeAt_13 : decode cX3_hasKnifeAt 13 = .ok (.iload_n 1, 1) := by decide +kernel
theorem dX3_hasKnifeAt_14 : decode cX3_hasKnifeAt 14 = .ok (.if_icmp .ge 18, 3) := by decide +kernel
theorem dX3_hasKnifeAt_17 : decode cX3_hasKnifeAt 17 = .ok (.iload_n 2, 1) := by decide +kernel
theorem dX3_hasKnifeAt_18 : decode cX3_hasKnifeAt 18 = .ok (.aload_n 0, 1) := by decide +kernel
theorem dX3_hasKnifeAt_19 : decode cX3_hasKnifeAt 19 = .ok (.getfield 9, 3) := by decide +kernel
theorem dX3_hasKnifeAt_22 : decode cX3_hasKnifeAt 22 = .ok (.iload_n 3, 1) := by decide +kernel
theorem dX3_hasKnifeAt_23 : decode cX3_hasKnifeAt 23 = .ok (.iaload, 1) := by decide +kernel
theorem dX3_hasKnifeAt_24 : decode cX3_hasKnifeAt 24 = .ok (.iadd, 1) := by decide +kernel
theorem dX3_hasKnifeAt_25 : decode cX3_hasKnifeAt 25 = .ok (.istore_n 2, 1) := by decide +kernel
theorem dX3_hasKnifeAt_26 : decode cX3_hasKnifeAt 26 = .ok (.iinc 3 1, 3) := by decide +kernel
theorem dX3_hasKnifeAt_29 : decode cX3_hasKnifeAt 29 = .ok (.goto (-25), 3) := by decide +kernel
theorem dX3_hasKnifeAt_32 : decode cX3_hasKnifeAt 32 = .ok (.iload_n 2, 1) := by decide +kernel
theorem dX3_hasKnifeAt_33 : decode cX3_hasKnifeAt 33 = .ok (.iload_n 1, 1) := by decide +kernel
theorem dX3_hasKnifeAt_34 : decode cX3_hasKnifeAt 34 = .ok (.if_icmp .ne 7, 3) := by decide +kernel
theorem dX3_hasKnifeAt_37 : decode cX3_hasKnifeAt 37 = .ok (.iconst 1, 1) := by decide +kernel
theorem dX3_hasKnifeAt_38 : decode cX3_hasKnifeAt 38 = .ok (.goto 4, 3) := by decide +kernel
theorem dX3_hasKnifeAt_41 : decode cX3_hasKnifeAt 41 = .ok (.iconst 0, 1) := by decide +kernel
theorem dX3_hasKnifeAt_42 : decode cX3_hasKnifeAt 42 = .ok (.ireturn, 1) := by decide +kernel
theorem dX4_init_0 : decode cX4_init 0 = .ok (.aload_n 0, 1) := by decide +kernel
theorem dX4_init_1 : decode cX4_init 1 = .ok (.invokespecial 3, 3) := by decide +kernel
theorem dX4_init_4 : decode cX4_init 4 = .ok (.aload_n 0, 1) := by decide +kernel
theorem dX4_init_5 : decode cX4_init 5 = .ok (.bipush 8, 2) := by decide +kernel
theorem dX4_init_7 : decode cX4_init 7 = .ok (.bipush 7, 2) := by decide +kernel
theorem dX4_init_9 : decode cX4_init 9 = .ok (.multianewarray 9 2, 4) := by decide +kernel
theorem dX4_init_13 : decode cX4_init 13 = .ok (.putfield 11, 3) := by decide +kernel
theorem dX4_init_16 : decode cX4_init 16 = .ok (.aload_n 0, 1) := by decide +kernel
theorem dX4_init_17 : decode cX4_init 17 = .ok (.bipush 8, 2) := by decide +kernel
theorem dX4_init_19 : decode cX4_init 19 = .ok (.sipush 128, 3) := by decide +kernel
theorem dX4_init_22 : decode cX4_init 22 = .ok (.multianewarray 9 2, 4) := by decide +kernel
theorem dX4_init_26 : decode cX4_init 26 = .ok (.putfield 16, 3) := by decide +kernel
theorem dX4_init_29 : decode cX4_init 29 = .ok (.aload_n 0, 1) := by decide +kernel
theorem dX4_init_30 : decode cX4_init 30 = .ok (.bipush 7, 2) := by decide +kernel
theorem dX4_init_32 : decode cX4_init 32 = .ok (.newarray .int, 2) := by decide +kernel
theorem dX4_init_34 : decode cX4_init 34 = .ok (.putfield 19, 3) := by decide +kernel
theorem dX4_init_37 : decode cX4_init 37 = .ok (.return_, 1) := by decide +kernel
theorem dX4_fewestBySets_0 : decode cX4_fewestBySets 0 = .ok (.iconst 1, 1) := by decide +kernel
theorem dX4_fewestBySets_1 : decode cX4_fewestBySets 1 = .ok (.iload_n 1, 1) := by decide +kernel
theorem dX4_fewestBySets_2 : decode cX4_fewestBySets 2 = .ok (.ishl, 1) := by decide +kernel
theorem dX4_fewestBySets_3 : decode cX4_fewestBySets 3 = .ok (.iconst 1, 1) := by decide +kernel
theorem dX4_fewestBySets_4 : decode cX4_fewestBySets 4 = .ok (.isub, 1) := by decide +kernel
theorem dX4_fewestBySets_5 : decode cX4_fewestBySets 5 = .ok (.istore_n 2, 1) := by decide +kernel
theorem dX4_fewestBySets_6 : decode cX4_fewestBySets 6 = .ok (.iconst 1, 1) := by decide +kernel
theorem dX4_fewestBySets_7 : decode cX4_fewestBySets 7 = .ok (.istore_n 3, 1) := by decide +kernel
theorem dX4_fewestBySets_8 : decode cX4_fewestBySets 8 = .ok (.iload_n 3, 1) := by decide +kernel
theorem dX4_fewestBySets_9 : decode cX4_fewestBySets 9 = .ok (.iload_n 2, 1) := by decide +kernel
theorem dX4_fewestBySets_10 : decode cX4_fewestBySets 10 = .ok (.if_icmp .gt 42, 3) := by decide +kernel
theorem dX4_fewestBySets_13 : decode cX4_fewestBySets 13 = .ok (.iconst 0, 1) := by decide +kernel
theorem dX4_fewestBySets_14 : decode cX4_fewestBySets 14 = .ok (.istore 4, 2) := by decide +kernel
theorem dX4_fewestBySets_16 : decode cX4_fewestBySets 16 = .ok (.iload 4, 2) := by decide +kernel
theorem dX4_fewestBySets_18 : decode cX4_fewestBySets 18 = .ok (.bipush 7, 2) := by decide +kernel
theorem dX4_fewestBySets_20 : decode cX4_fewestBySets 20 = .ok (.if_icmp .gt 26, 3) := by decide +kernel
theorem dX4_fewestBySets_23 : decode cX4_fewestBySets 23 = .ok (.aload_n 0, 1) := by decide +kernel
theorem dX4_fewestBySets_24 : decode cX4_fewestBySets 24 = .ok (.getfield 16, 3) := by decide +kernel
theorem dX4_fewestBySets_27 : decode cX4_fewestBySets 27 = .ok (.iload 4, 2) := by decide +kernel
theorem dX4_fewestBySets_29 : decode cX4_fewestBySets 29 = .ok (.aaload, 1) := by decide +kernel
theorem dX4_fewestBySets_30 : decode cX4_fewestBySets 30 = .ok (.iload_n 3, 1) := by decide +kernel
theorem dX4_fewestBySets_31 : decode cX4_fewestBySets 31 = .ok (.aload_n 0, 1) := by decide +kernel
theorem dX4_fewestBySets_32 : decode cX4_fewestBySets 32 = .ok (.iload 4, 2) := by decide +kernel
theorem dX4_fewestBySets_34 : decode cX4_fewestBySets 34 = .ok (.iload_n 3, 1) := by decide +kernel
theorem dX4_fewestBySets_35 : decode cX4_fewestBySets 35 = .ok (.iload_n 1, 1) := by decide +kernel
theorem dX4_fewestBySets_36 : decode cX4_fewestBySets 36 = .ok (.invokevirtual 23, 3) := by decide +kernel
theorem dX4_fewestBySets_39 : decode cX4_fewestBySets 39 = .ok (.iastore, 1) := by decide +kernel
theorem dX4_fewestBySets_40 : decode cX4_fewestBySets 40 = .ok (.iinc 4 1, 3) := by decide +kernel
theorem dX4_fewestBySets_43 : decode cX4_fewestBySets 43 = .ok (.goto (-27), 3) := by decide +kernel
theorem dX4_fewestBySets_46 : decode cX4_fewestBySets 46 = .ok (.iinc 3 1, 3) := by decide +kernel
theorem dX4_fewestBySets_49 : decode cX4_fewestBySets 49 = .ok (.goto (-41), 3) := by decide +kernel
theorem dX4_fewestBySets_52 : decode cX4_fewestBySets 52 = .ok (.aload_n 0, 1) := by decide +kernel
theorem dX4_fewestBySets_53 : decode cX4_fewestBySets 53 = .ok (.getfield 16, 3) := by decide +kernel
theorem dX4_fewestBySets_56 : decode cX4_fewestBySets 56 = .ok (.bipush 7, 2) := by decide +kernel
theorem dX4_fewestBySets_58 : decode cX4_fewestBySets 58 = .ok (.aaload, 1) := by decide +kernel
theorem dX4_fewestBySets_59 : decode cX4_fewestBySets 59 = .ok (.iload_n 2, 1) := by decide +kernel
theorem dX4_fewestBySets_60 : decode cX4_fewestBySets 60 = .ok (.iaload, 1) := by decide +kernel
theorem dX4_fewestBySets_61 : decode cX4_fewestBySets 61 = .ok (.ireturn, 1) := by decide +kernel
theorem dX4_fewestAfter_0 : decode cX4_fewestAfter 0 = .ok (.sipush 128, 3) := by decide +kernel
theorem dX4_fewestAfter_3 : decode cX4_fewestAfter 3 = .ok (.istore 4, 2) := by decide +kernel
theorem dX4_fewestAfter_5 : decode cX4_fewestAfter 5 = .ok (.iconst 0, 1) := by decide +kernel
theorem dX4_fewestAfter_6 : decode cX4_fewestAfter 6 = .ok (.istore 5, 2) := by decide +kernel
theorem dX4_fewestAfter_8 : decode cX4_fewestAfter 8 = .ok (.iload 5, 2) := by decide +kernel
theorem dX4_fewestAfter_10 : decode cX4_fewestAfter 10 = .ok (.iload_n 3, 1) := by decide +kernel
theorem dX4_fewestAfter_11 : decode cX4_fewestAfter 11 = .ok (.if_icmp .ge 33, 3) := by decide +kernel
theorem dX4_fewestAfter_14 : decode cX4_fewestAfter 14 = .ok (.iload_n 2, 1) := by decide +kernel
theorem dX4_fewestAfter_15 : decode cX4_fewestAfter 15 = .ok (.iload 5, 2) := by decide +kernel
theorem dX4_fewestAfter_17 : decode cX4_fewestAfter 17 = .ok (.invokestatic 27, 3) := by decide +kernel
theorem dX4_fewestAfter_20 : decode cX4_fewestAfter 20 = .ok (.ifCond .eq 18, 3) := by decide +kernel
theorem dX4_fewestAfter_23 : decode cX4_fewestAfter 23 = .ok (.iload 4, 2) := by decide +kernel
theorem dX4_fewestAfter_25 : decode cX4_fewestAfter 25 = .ok (.aload_n 0, 1) := by decide +kernel
theorem dX4_fewestAfter_26 : decode cX4_fewestAfter 26 = .ok (.iload_n 1, 1) := by decide +kernel
theorem dX4_fewestAfter_27 : decode cX4_fewestAfter 27 = .ok (.iload 5, 2) := by decide +kernel
theorem dX4_fewestAfter_29 : decode cX4_fewestAfter 29 = .ok (.iload_n 2, 1) := by decide +kernel
theorem dX4_fewestAfter_30 : decode cX4_fewestAfter 30 = .ok (.invokevirtual 31, 3) := by decide +kernel
theorem dX4_fewestAfter_33 : decode cX4_fewestAfter 33 = .ok (.invokestatic 34, 3) := by decide +kernel
theorem dX4_fewestAfter_36 : decode cX4_fewestAfter 36 = .ok (.istore 4, 2) := by decide +kernel
theorem dX4_fewestAfter_38 : decode cX4_fewestAfter 38 = .ok (.iinc 5 1, 3) := by decide +kernel
theorem dX4_fewestAfter_41 : decode cX4_fewestAfter 41 = .ok (.goto (-33), 3) := by decide +kernel
theorem dX4_fewestAfter_44 : decode cX4_fewestAfter 44 = .ok (.iload 4, 2) := by decide +kernel
theorem dX4_fewestAfter_46 : decode cX4_fewestAfter 46 = .ok (.ireturn, 1) := by decide +kernel
theorem dX4_movesThrough_0 : decode cX4_movesThrough 0 = .ok (.aload_n 0, 1) := by decide +kernel
theorem dX4_movesThrough_1 : decode cX4_movesThrough 1 = .ok (.getfield 11, 3) := by decide +kernel
theorem dX4_movesThrough_4 : decode cX4_movesThrough 4 = .ok (.iload_n 1, 1) := by decide +kernel
theorem dX4_movesThrough_5 : decode cX4_movesThrough 5 = .ok (.aaload, 1) := by decide +kernel
theorem dX4_movesThrough_6 : decode cX4_movesThrough 6 = .ok (.iload_n 2, 1) := by decide +kernel
theorem dX4_movesThrough_7 : decode cX4_movesThrough 7 = .ok (.iaload, 1) := by decide +kernel
theorem dX4_movesThrough_8 : decode cX4_movesThrough 8 = .ok (.aload_n 0, 1) := by decide +kernel
theorem dX4_movesThrough_9 : decode cX4_movesThrough 9 = .ok (.getfield 16, 3) := by decide +kernel
theorem dX4_movesThrough_12 : decode cX4_movesThrough 12 = .ok (.iload_n 2, 1) := by decide +kernel
theorem dX4_movesThrough_13 : decode cX4_movesThrough 13 = .ok (.aaload, 1) := by decide +kernel
theorem dX4_movesThrough_14 : decode cX4_movesThrough 14 = .ok (.iload_n 3, 1) := by decide +kernel
theorem dX4_movesThrough_15 : decode cX4_movesThrough 15 = .ok (.iload_n 2, 1) := by decide +kernel
theorem dX4_movesThrough_16 : decode cX4_movesThrough 16 = .ok (.invokestatic 40, 3) := by decide +kernel
theorem dX4_movesThrough_19 : decode cX4_movesThrough 19 = .ok (.iaload, 1) := by decide +kernel
theorem dX4_movesThrough_20 : decode cX4_movesThrough 20 = .ok (.iadd, 1) := by decide +kernel
theorem dX4_movesThrough_21 : decode cX4_movesThrough 21 = .ok (.ireturn, 1) := by decide +kernel
theorem dX4_findBest_0 : decode cX4_findBest 0 = .ok (.aload_n 0, 1) := by decide +kernel
theorem dX4_findBest_1 : decode cX4_findBest 1 = .ok (.iload_n 1, 1) := by decide +kernel
theorem dX4_findBest_2 : decode cX4_findBest 2 = .ok (.invokevirtual 43, 3) := by decide +kernel
theorem dX4_findBest_5 : decode cX4_findBest 5 = .ok (.pop, 1) := by decide +kernel
theorem dX4_findBest_6 : decode cX4_findBest 6 = .ok (.bipush 7, 2) := by decide +kernel
theorem dX4_findBest_8 : decode cX4_findBest 8 = .ok (.istore_n 2, 1) := by decide +kernel
theorem dX4_findBest_9 : decode cX4_findBest 9 = .ok (.iconst 1, 1) := by decide +kernel
theorem dX4_findBest_10 : decode cX4_findBest 10 = .ok (.iload_n 1, 1) := by decide +kernel
theorem dX4_findBest_11 : decode cX4_findBest 11 = .ok (.ishl, 1) := by decide +kernel
theorem dX4_findBest_12 : decode cX4_findBest 12 = .ok (.iconst 1, 1) := by decide +kernel
theorem dX4_findBest_13 : decode cX4_findBest 13 = .ok (.isub, 1) := by decide +kernel
theorem dX4_findBest_14 : decode cX4_findBest 14 = .ok (.istore_n 3, 1) := by decide +kernel
theorem dX4_findBest_15 : decode cX4_findBest 15 = .ok (.iconst 0, 1) := by decide +kernel
theorem dX4_findBest_16 : decode cX4_findBest 16 = .ok (.istore 4, 2) := by decide +kernel
theorem dX4_findBest_18 : decode cX4_findBest 18 = .ok (.iload 4, 2) := by decide +kernel
theorem dX4_findBest_20 : decode cX4_findBest 20 = .ok (.iload_n 1, 1) := by decide +kernel
theorem dX4_findBest_21 : decode cX4_findBest 21 = .ok (.if_icmp .ge 37, 3) := by decide +kernel
theorem dX4_findBest_24 : decode cX4_findBest 24 = .ok (.aload_n 0, 1) := by decide +kernel
theorem dX4_findBest_25 : decode cX4_findBest 25 = .ok (.iload_n 2, 1) := by decide +kernel
theorem dX4_findBest_26 : decode cX4_findBest 26 = .ok (.iload_n 3, 1) := by decide +kernel
theorem dX4_findBest_27 : decode cX4_findBest 27 = .ok (.iload_n 1, 1) := by decide +kernel
theorem dX4_findBest_28 : decode cX4_findBest 28 = .ok (.invokevirtual 47, 3) := by decide +kernel
theorem dX4_findBest_31 : decode cX4_findBest 31 = .ok (.istore 5, 2) := by decide +kernel
theorem dX4_findBest_33 : decode cX4_findBest 33 = .ok (.aload_n 0, 1) := by decide +kernel
theorem dX4_findBest_34 : decode cX4_findBest 34 = .ok (.getfield 19, 3) := by decide +kernel
theorem dX4_findBest_37 : decode cX4_findBest 37 = .ok (.iload 4, 2) := by decide +kernel
theorem dX4_findBest_39 : decode cX4_findBest 39 = .ok (.iload 5, 2) := by decide +kernel
theorem dX4_findBest_41 : decode cX4_findBest 41 = .ok (.iastore, 1) := by decide +kernel
theorem dX4_findBest_42 : decode cX4_findBest 42 = .ok (.iload_n 3, 1) := by decide +kernel
theorem dX4_findBest_43 : decode cX4_findBest 43 = .ok (.iload 5, 2) := by decide +kernel
theorem dX4_findBest_45 : decode cX4_findBest 45 = .ok (.invokestatic 40, 3) := by decide +kernel
theorem dX4_findBest_48 : decode cX4_findBest 48 = .ok (.istore_n 3, 1) := by decide +kernel
theorem dX4_findBest_49 : decode cX4_findBest 49 = .ok (.iload 5, 2) := by decide +kernel
theorem dX4_findBest_51 : decode cX4_findBest 51 = .ok (.istore_n 2, 1) := by decide +kernel
theorem dX4_findBest_52 : decode cX4_findBest 52 = .ok (.iinc 4 1, 3) := by decide +kernel
theorem dX4_findBest_55 : decode cX4_findBest 55 = .ok (.goto (-37), 3) := by decide +kernel
theorem dX4_findBest_58 : decode cX4_findBest 58 = .ok (.return_, 1) := by decide +kernel
theorem dX4_leastNext_0 : decode cX4_leastNext 0 = .ok (.iconst 0, 1) := by decide +kernel
theorem dX4_leastNext_1 : decode cX4_leastNext 1 = .ok (.istore 4, 2) := by decide +kernel
theorem dX4_leastNext_3 : decode cX4_leastNext 3 = .ok (.iload 4, 2) := by decide +kernel
theorem dX4_leastNext_5 : decode cX4_leastNext 5 = .ok (.iload_n 3, 1) := by decide +kernel
theorem dX4_leastNext_6 : decode cX4_leastNext 6 = .ok (.if_icmp .ge 40, 3) := by decide +kernel
theorem dX4_leastNext_9 : decode cX4_leastNext 9 = .ok (.iload_n 2, 1) := by decide +kernel
theorem dX4_leastNext_10 : decode cX4_leastNext 10 = .ok (.iload 4, 2) := by decide +kernel
theorem dX4_leastNext_12 : decode cX4_leastNext 12 = .ok (.invokestatic 27, 3) := by decide +kernel
theorem dX4_leastNext_15 : decode cX4_leastNext 15 = .ok (.ifCond .eq 25, 3) := by decide +kernel
theorem dX4_leastNext_18 : decode cX4_leastNext 18 = .ok (.aload_n 0, 1) := by decide +kernel
theorem dX4_leastNext_19 : decode cX4_leastNext 19 = .ok (.iload_n 1, 1) := by decide +kernel
theorem dX4_leastNext_20 : decode cX4_leastNext 20 = .ok (.iload 4, 2) := by decide +kernel
theorem dX4_leastNext_22 : decode cX4_leastNext 22 = .ok (.iload_n 2, 1) := by decide +kernel
theorem dX4_leastNext_23 : decode cX4_leastNext 23 = .ok (.invokevirtual 31, 3) := by decide +kernel
theorem dX4_leastNext_26 : decode cX4_leastNext 26 = .ok (.aload_n 0, 1) := by decide +kernel
theorem dX4_leastNext_27 : decode cX4_leastNext 27 = .ok (.getfield 16, 3) := by decide +kernel
theorem dX4_leastNext_30 : decode cX4_leastNext 30 = .ok (.iload_n 1, 1) := by decide +kernel
theorem dX4_leastNext_31 : decode cX4_leastNext 31 = .ok (.aaload, 1) := by decide +kernel
theorem dX4_leastNext_32 : decode cX4_leastNext 32 = .ok (.iload_n 2, 1) := by decide +kernel
theorem dX4_leastNext_33 : decode cX4_leastNext 33 = .ok (.iaload, 1) := by decide +kernel
theorem dX4_leastNext_34 : decode cX4_leastNext 34 = .ok (.if_icmp .ne 6, 3) := by decide +kernel
theorem dX4_leastNext_37 : decode cX4_leastNext 37 = .ok (.iload 4, 2) := by decide +kernel
theorem dX4_leastNext_39 : decode cX4_leastNext 39 = .ok (.ireturn, 1) := by decide +kernel
theorem dX4_leastNext_40 : decode cX4_leastNext 40 = .ok (.iinc 4 1, 3) := by decide +kernel
theorem dX4_leastNext_43 : decode cX4_leastNext 43 = .ok (.goto (-40), 3) := by decide +kernel
theorem dX4_leastNext_46 : decode cX4_leastNext 46 = .ok (.iconst 0, 1) := by decide +kernel
theorem dX4_leastNext_47 : decode cX4_leastNext 47 = .ok (.ireturn, 1) := by decide +kernel
theorem dX4_holds_0 : decode cX4_holds 0 = .ok (.iload_n 0, 1) := by decide +kernel
theorem dX4_holds_1 : decode cX4_holds 1 = .ok (.iload_n 1, 1) := by decide +kernel
theorem dX4_holds_2 : decode cX4_holds 2 = .ok (.ishr, 1) := by decide +kernel
theorem dX4_holds_3 : decode cX4_holds 3 = .ok (.iconst 1, 1) := by decide +kernel
theorem dX4_holds_4 : decode cX4_holds 4 = .ok (.iand, 1) := by decide +kernel
theorem dX4_holds_5 : decode cX4_holds 5 = .ok (.iconst 1, 1) := by decide +kernel
theorem dX4_holds_6 : decode cX4_holds 6 = .ok (.if_icmp .ne 7, 3) := by decide +kernel
theorem dX4_holds_9 : decode cX4_holds 9 = .ok (.iconst 1, 1) := by decide +kernel
theorem dX4_holds_10 : decode cX4_holds 10 = .ok (.goto 4, 3) := by decide +kernel
theorem dX4_holds_13 : decode cX4_holds 13 = .ok (.iconst 0, 1) := by decide +kernel
theorem dX4_holds_14 : decode cX4_holds 14 = .ok (.ireturn, 1) := by decide +kernel
theorem dX4_without_0 : decode cX4_without 0 = .ok (.iload_n 0, 1) := by decide +kernel
theorem dX4_without_1 : decode cX4_without 1 = .ok (.iconst 1, 1) := by decide +kernel
theorem dX4_without_2 : decode cX4_without 2 = .ok (.iload_n 1, 1) := by decide +kernel
theorem dX4_without_3 : decode cX4_without 3 = .ok (.ishl, 1) := by decide +kernel
theorem dX4_without_4 : decode cX4_without 4 = .ok (.iconst (-1), 1) := by decide +kernel
theorem dX4_without_5 : decode cX4_without 5 = .ok (.ixor, 1) := by decide +kernel
theorem dX4_without_6 : decode cX4_without 6 = .ok (.iand, 1) := by decide +kernel
theorem dX4_without_7 : decode cX4_without 7 = .ok (.ireturn, 1) := by decide +kernel
theorem dJ9_max_7cf53_0 : decode cJ9_max_7cf53 0 = .ok (.iload_n 0, 1) := by decide +kernel
theorem dJ9_max_7cf53_1 : decode cJ9_max_7cf53 1 = .ok (.iload_n 1, 1) := by decide +kernel
theorem dJ9_max_7cf53_2 : decode cJ9_max_7cf53 2 = .ok (.if_icmp .lt 7, 3) := by decide +kernel
theorem dJ9_max_7cf53_5 : decode cJ9_max_7cf53 5 = .ok (.iload_n 0, 1) := by decide +kernel
theorem dJ9_max_7cf53_6 : decode cJ9_max_7cf53 6 = .ok (.goto 4, 3) := by decide +kernel
theorem dJ9_max_7cf53_9 : decode cJ9_max_7cf53 9 = .ok (.iload_n 1, 1) := by decide +kernel
theorem dJ9_max_7cf53_10 : decode cJ9_max_7cf53 10 = .ok (.ireturn, 1) := by decide +kernel
theorem dJ9_min_7cf53_0 : decode cJ9_min_7cf53 0 = .ok (.iload_n 0, 1) := by decide +kernel
theorem dJ9_min_7cf53_1 : decode cJ9_min_7cf53 1 = .ok (.iload_n 1, 1) := by decide +kernel
theorem dJ9_min_7cf53_2 : decode cJ9_min_7cf53 2 = .ok (.if_icmp .gt 7, 3) := by decide +kernel
theorem dJ9_min_7cf53_5 : decode cJ9_min_7cf53 5 = .ok (.iload_n 0, 1) := by decide +kernel
theorem dJ9_min_7cf53_6 : decode cJ9_min_7cf53 6 = .ok (.goto 4, 3) := by decide +kernel
theorem dJ9_min_7cf53_9 : decode cJ9_min_7cf53 9 = .ok (.iload_n 1, 1) := by decide +kernel
theorem dJ9_min_7cf53_10 : decode cJ9_min_7cf53 10 = .ok (.ireturn, 1) := by decide +kernel

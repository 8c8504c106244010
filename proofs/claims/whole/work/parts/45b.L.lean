theorem dL_coil_0 : decode cL_coil 0 = .ok (.aload 5, 2) := by decide +kernel
theorem dL_coil_2 : decode cL_coil 2 = .ok (.iconst 0, 1) := by decide +kernel
theorem dL_coil_3 : decode cL_coil 3 = .ok (.aload_n 0, 1) := by decide +kernel
theorem dL_coil_4 : decode cL_coil 4 = .ok (.iload_n 1, 1) := by decide +kernel
theorem dL_coil_5 : decode cL_coil 5 = .ok (.iload_n 2, 1) := by decide +kernel
theorem dL_coil_6 : decode cL_coil 6 = .ok (.iload_n 3, 1) := by decide +kernel
theorem dL_coil_7 : decode cL_coil 7 = .ok (.iload 4, 2) := by decide +kernel
theorem dL_coil_9 : decode cL_coil 9 = .ok (.invokevirtual 7, 3) := by decide +kernel
theorem dL_coil_12 : decode cL_coil 12 = .ok (.i2l, 1) := by decide +kernel
theorem dL_coil_13 : decode cL_coil 13 = .ok (.lastore, 1) := by decide +kernel
theorem dL_coil_14 : decode cL_coil 14 = .ok (.goto 11, 3) := by decide +kernel
theorem dL_coil_17 : decode cL_coil 17 = .ok (.astore 6, 2) := by decide +kernel
theorem dL_coil_19 : decode cL_coil 19 = .ok (.iconst 1, 1) := by decide +kernel
theorem dL_coil_20 : decode cL_coil 20 = .ok (.ireturn, 1) := by decide +kernel
theorem dL_coil_21 : decode cL_coil 21 = .ok (.astore 6, 2) := by decide +kernel
theorem dL_coil_23 : decode cL_coil 23 = .ok (.iconst 2, 1) := by decide +kernel
theorem dL_coil_24 : decode cL_coil 24 = .ok (.ireturn, 1) := by decide +kernel
theorem dL_coil_25 : decode cL_coil 25 = .ok (.iconst 0, 1) := by decide +kernel
theorem dL_coil_26 : decode cL_coil 26 = .ok (.ireturn, 1) := by decide +kernel
theorem dL_defect_0 : decode cL_defect 0 = .ok (.aload 4, 2) := by decide +kernel
theorem dL_defect_2 : decode cL_defect 2 = .ok (.iconst 0, 1) := by decide +kernel
theorem dL_defect_3 : decode cL_defect 3 = .ok (.aload_n 0, 1) := by decide +kernel
theorem dL_defect_4 : decode cL_defect 4 = .ok (.iload_n 1, 1) := by decide +kernel
theorem dL_defect_5 : decode cL_defect 5 = .ok (.iload_n 2, 1) := by decide +kernel
theorem dL_defect_6 : decode cL_defect 6 = .ok (.iload_n 3, 1) := by decide +kernel
theorem dL_defect_7 : decode cL_defect 7 = .ok (.invokevirtual 17, 3) := by decide +kernel
theorem dL_defect_10 : decode cL_defect 10 = .ok (.i2l, 1) := by decide +kernel
theorem dL_defect_11 : decode cL_defect 11 = .ok (.lastore, 1) := by decide +kernel
theorem dL_defect_12 : decode cL_defect 12 = .ok (.goto 15, 3) := by decide +kernel
theorem dL_defect_15 : decode cL_defect 15 = .ok (.astore 5, 2) := by decide +kernel
theorem dL_defect_17 : decode cL_defect 17 = .ok (.iconst 1, 1) := by decide +kernel
theorem dL_defect_18 : decode cL_defect 18 = .ok (.ireturn, 1) := by decide +kernel
theorem dL_defect_19 : decode cL_defect 19 = .ok (.astore 5, 2) := by decide +kernel
theorem dL_defect_21 : decode cL_defect 21 = .ok (.iconst 2, 1) := by decide +kernel
theorem dL_defect_22 : decode cL_defect 22 = .ok (.ireturn, 1) := by decide +kernel
theorem dL_defect_23 : decode cL_defect 23 = .ok (.astore 5, 2) := by decide +kernel
theorem dL_defect_25 : decode cL_defect 25 = .ok (.iconst 3, 1) := by decide +kernel
theorem dL_defect_26 : decode cL_defect 26 = .ok (.ireturn, 1) := by decide +kernel
theorem dL_defect_27 : decode cL_defect 27 = .ok (.iconst 0, 1) := by decide +kernel
theorem dL_defect_28 : decode cL_defect 28 = .ok (.ireturn, 1) := by decide +kernel
theorem dL_setRules_0 : decode cL_setRules 0 = .ok (.aload 4, 2) := by decide +kernel
theorem dL_setRules_2 : decode cL_setRules 2 = .ok (.iconst 0, 1) := by decide +kernel
theorem dL_setRules_3 : decode cL_setRules 3 = .ok (.aload_n 0, 1) := by decide +kernel
theorem dL_setRules_4 : decode cL_setRules 4 = .ok (.iload_n 1, 1) := by decide +kernel
theorem dL_setRules_5 : decode cL_setRules 5 = .ok (.iload_n 2, 1) := by decide +kernel
theorem dL_setRules_6 : decode cL_setRules 6 = .ok (.iload_n 3, 1) := by decide +kernel
theorem dL_setRules_7 : decode cL_setRules 7 = .ok (.invokevirtual 23, 3) := by decide +kernel
theorem dL_setRules_10 : decode cL_setRules 10 = .ok (.i2l, 1) := by decide +kernel
theorem dL_setRules_11 : decode cL_setRules 11 = .ok (.lastore, 1) := by decide +kernel
theorem dL_setRules_12 : decode cL_setRules 12 = .ok (.goto 7, 3) := by decide +kernel
theorem dL_setRules_15 : decode cL_setRules 15 = .ok (.astore 5, 2) := by decide +kernel
theorem dL_setRules_17 : decode cL_setRules 17 = .ok (.iconst 1, 1) := by decide +kernel
theorem dL_setRules_18 : decode cL_setRules 18 = .ok (.ireturn, 1) := by decide +kernel
theorem dL_setRules_19 : decode cL_setRules 19 = .ok (.iconst 0, 1) := by decide +kernel
theorem dL_setRules_20 : decode cL_setRules 20 = .ok (.ireturn, 1) := by decide +kernel
theorem dL_order_0 : decode cL_order 0 = .ok (.aload_n 3, 1) := by decide +kernel
theorem dL_order_1 : decode cL_order 1 = .ok (.iconst 0, 1) := by decide +kernel
theorem dL_order_2 : decode cL_order 2 = .ok (.aload_n 0, 1) := by decide +kernel
theorem dL_order_3 : decode cL_order 3 = .ok (.iload_n 1, 1) := by decide +kernel
theorem dL_order_4 : decode cL_order 4 = .ok (.iload_n 2, 1) := by decide +kernel
theorem dL_order_5 : decode cL_order 5 = .ok (.invokevirtual 26, 3) := by decide +kernel
theorem dL_order_8 : decode cL_order 8 = .ok (.i2l, 1) := by decide +kernel
theorem dL_order_9 : decode cL_order 9 = .ok (.lastore, 1) := by decide +kernel
theorem dL_order_10 : decode cL_order 10 = .ok (.goto 11, 3) := by decide +kernel
theorem dL_order_13 : decode cL_order 13 = .ok (.astore 4, 2) := by decide +kernel
theorem dL_order_15 : decode cL_order 15 = .ok (.iconst 1, 1) := by decide +kernel
theorem dL_order_16 : decode cL_order 16 = .ok (.ireturn, 1) := by decide +kernel
theorem dL_order_17 : decode cL_order 17 = .ok (.astore 4, 2) := by decide +kernel
theorem dL_order_19 : decode cL_order 19 = .ok (.iconst 2, 1) := by decide +kernel
theorem dL_order_20 : decode cL_order 20 = .ok (.ireturn, 1) := by decide +kernel
theorem dL_order_21 : decode cL_order 21 = .ok (.iconst 0, 1) := by decide +kernel
theorem dL_order_22 : decode cL_order 22 = .ok (.ireturn, 1) := by decide +kernel
theorem dL_addSlit_0 : decode cL_addSlit 0 = .ok (.aload_n 2, 1) := by decide +kernel
theorem dL_addSlit_1 : decode cL_addSlit 1 = .ok (.iconst 0, 1) := by decide +kernel
theorem dL_addSlit_2 : decode cL_addSlit 2 = .ok (.aload_n 0, 1) := by decide +kernel
theorem dL_addSlit_3 : decode cL_addSlit 3 = .ok (.iload_n 1, 1) := by decide +kernel
theorem dL_addSlit_4 : decode cL_addSlit 4 = .ok (.invokevirtual 30, 3) := by decide +kernel
theorem dL_addSlit_7 : decode cL_addSlit 7 = .ok (.i2l, 1) := by decide +kernel
theorem dL_addSlit_8 : decode cL_addSlit 8 = .ok (.lastore, 1) := by decide +kernel
theorem dL_addSlit_9 : decode cL_addSlit 9 = .ok (.goto 9, 3) := by decide +kernel
theorem dL_addSlit_12 : decode cL_addSlit 12 = .ok (.astore_n 3, 1) := by decide +kernel
theorem dL_addSlit_13 : decode cL_addSlit 13 = .ok (.iconst 1, 1) := by decide +kernel
theorem dL_addSlit_14 : decode cL_addSlit 14 = .ok (.ireturn, 1) := by decide +kernel
theorem dL_addSlit_15 : decode cL_addSlit 15 = .ok (.astore_n 3, 1) := by decide +kernel
theorem dL_addSlit_16 : decode cL_addSlit 16 = .ok (.iconst 2, 1) := by decide +kernel
theorem dL_addSlit_17 : decode cL_addSlit 17 = .ok (.ireturn, 1) := by decide +kernel
theorem dL_addSlit_18 : decode cL_addSlit 18 = .ok (.iconst 0, 1) := by decide +kernel
theorem dL_addSlit_19 : decode cL_addSlit 19 = .ok (.ireturn, 1) := by decide +kernel
theorem dL_draftWidth_0 : decode cL_draftWidth 0 = .ok (.aload_n 2, 1) := by decide +kernel
theorem dL_draftWidth_1 : decode cL_draftWidth 1 = .ok (.iconst 0, 1) := by decide +kernel
theorem dL_draftWidth_2 : decode cL_draftWidth 2 = .ok (.aload_n 0, 1) := by decide +kernel
theorem dL_draftWidth_3 : decode cL_draftWidth 3 = .ok (.iload_n 1, 1) := by decide +kernel
theorem dL_draftWidth_4 : decode cL_draftWidth 4 = .ok (.invokevirtual 34, 3) := by decide +kernel
theorem dL_draftWidth_7 : decode cL_draftWidth 7 = .ok (.i2l, 1) := by decide +kernel
theorem dL_draftWidth_8 : decode cL_draftWidth 8 = .ok (.lastore, 1) := by decide +kernel
theorem dL_draftWidth_9 : decode cL_draftWidth 9 = .ok (.goto 6, 3) := by decide +kernel
theorem dL_draftWidth_12 : decode cL_draftWidth 12 = .ok (.astore_n 3, 1) := by decide +kernel
theorem dL_draftWidth_13 : decode cL_draftWidth 13 = .ok (.iconst 1, 1) := by decide +kernel
theorem dL_draftWidth_14 : decode cL_draftWidth 14 = .ok (.ireturn, 1) := by decide +kernel
theorem dL_draftWidth_15 : decode cL_draftWidth 15 = .ok (.iconst 0, 1) := by decide +kernel
theorem dL_draftWidth_16 : decode cL_draftWidth 16 = .ok (.ireturn, 1) := by decide +kernel
theorem dL_keep_0 : decode cL_keep 0 = .ok (.aload_n 1, 1) := by decide +kernel
theorem dL_keep_1 : decode cL_keep 1 = .ok (.iconst 0, 1) := by decide +kernel
theorem dL_keep_2 : decode cL_keep 2 = .ok (.aload_n 0, 1) := by decide +kernel
theorem dL_keep_3 : decode cL_keep 3 = .ok (.invokevirtual 37, 3) := by decide +kernel
theorem dL_keep_6 : decode cL_keep 6 = .ok (.i2l, 1) := by decide +kernel
theorem dL_keep_7 : decode cL_keep 7 = .ok (.lastore, 1) := by decide +kernel
theorem dL_keep_8 : decode cL_keep 8 = .ok (.goto 6, 3) := by decide +kernel
theorem dL_keep_11 : decode cL_keep 11 = .ok (.astore_n 2, 1) := by decide +kernel
theorem dL_keep_12 : decode cL_keep 12 = .ok (.iconst 1, 1) := by decide +kernel
theorem dL_keep_13 : decode cL_keep 13 = .ok (.ireturn, 1) := by decide +kernel
theorem dL_keep_14 : decode cL_keep 14 = .ok (.iconst 0, 1) := by decide +kernel
theorem dL_keep_15 : decode cL_keep 15 = .ok (.ireturn, 1) := by decide +kernel
theorem dL_fits_0 : decode cL_fits 0 = .ok (.aload_n 3, 1) := by decide +kernel
theorem dL_fits_1 : decode cL_fits 1 = .ok (.iconst 0, 1) := by decide +kernel
theorem dL_fits_2 : decode cL_fits 2 = .ok (.aload_n 0, 1) := by decide +kernel
theorem dL_fits_3 : decode cL_fits 3 = .ok (.iload_n 1, 1) := by decide +kernel
theorem dL_fits_4 : decode cL_fits 4 = .ok (.iload_n 2, 1) := by decide +kernel
theorem dL_fits_5 : decode cL_fits 5 = .ok (.invokevirtual 41, 3) := by decide +kernel
theorem dL_fits_8 : decode cL_fits 8 = .ok (.ifCond .eq 7, 3) := by decide +kernel
theorem dL_fits_11 : decode cL_fits 11 = .ok (.lconst 1, 1) := by decide +kernel
theorem dL_fits_12 : decode cL_fits 12 = .ok (.goto 4, 3) := by decide +kernel
theorem dL_fits_15 : decode cL_fits 15 = .ok (.lconst 0, 1) := by decide +kernel
theorem dL_fits_16 : decode cL_fits 16 = .ok (.lastore, 1) := by decide +kernel
theorem dL_fits_17 : decode cL_fits 17 = .ok (.goto 7, 3) := by decide +kernel
theorem dL_fits_20 : decode cL_fits 20 = .ok (.astore 4, 2) := by decide +kernel
theorem dL_fits_22 : decode cL_fits 22 = .ok (.iconst 1, 1) := by decide +kernel
theorem dL_fits_23 : decode cL_fits 23 = .ok (.ireturn, 1) := by decide +kernel
theorem dL_fits_24 : decode cL_fits 24 = .ok (.iconst 0, 1) := by decide +kernel
theorem dL_fits_25 : decode cL_fits 25 = .ok (.ireturn, 1) := by decide +kernel
theorem dL_fill_0 : decode cL_fill 0 = .ok (.aload_n 2, 1) := by decide +kernel
theorem dL_fill_1 : decode cL_fill 1 = .ok (.iconst 0, 1) := by decide +kernel
theorem dL_fill_2 : decode cL_fill 2 = .ok (.aload_n 0, 1) := by decide +kernel
theorem dL_fill_3 : decode cL_fill 3 = .ok (.iload_n 1, 1) := by decide +kernel
theorem dL_fill_4 : decode cL_fill 4 = .ok (.invokevirtual 45, 3) := by decide +kernel
theorem dL_fill_7 : decode cL_fill 7 = .ok (.i2l, 1) := by decide +kernel
theorem dL_fill_8 : decode cL_fill 8 = .ok (.lastore, 1) := by decide +kernel
theorem dL_fill_9 : decode cL_fill 9 = .ok (.goto 6, 3) := by decide +kernel
theorem dL_fill_12 : decode cL_fill 12 = .ok (.astore_n 3, 1) := by decide +kernel
theorem dL_fill_13 : decode cL_fill 13 = .ok (.iconst 1, 1) := by decide +kernel
theorem dL_fill_14 : decode cL_fill 14 = .ok (.ireturn, 1) := by decide +kernel
theorem dL_fill_15 : decode cL_fill 15 = .ok (.iconst 0, 1) := by decide +kernel
theorem dL_fill_16 : decode cL_fill 16 = .ok (.ireturn, 1) := by decide +kernel
theorem dL_fullestByTrying_0 : decode cL_fullestByTrying 0 = .ok (.aload_n 2, 1) := by decide +kernel
theorem dL_fullestByTrying_1 : decode cL_fullestByTrying 1 = .ok (.iconst 0, 1) := by decide +kernel
theorem dL_fullestByTrying_2 : decode cL_fullestByTrying 2 = .ok (.aload_n 0, 1) := by decide +kernel
theorem dL_fullestByTrying_3 : decode cL_fullestByTrying 3 = .ok (.iload_n 1, 1) := by decide +kernel
theorem dL_fullestByTrying_4 : decode cL_fullestByTrying 4 = .ok (.invokevirtual 48, 3) := by decide +kernel
theorem dL_fullestByTrying_7 : decode cL_fullestByTrying 7 = .ok (.i2l, 1) := by decide +kernel
theorem dL_fullestByTrying_8 : decode cL_fullestByTrying 8 = .ok (.lastore, 1) := by decide +kernel
theorem dL_fullestByTrying_9 : decode cL_fullestByTrying 9 = .ok (.goto 9, 3) := by decide +kernel
theorem dL_fullestByTrying_12 : decode cL_fullestByTrying 12 = .ok (.astore_n 3, 1) := by decide +kernel
theorem dL_fullestByTrying_13 : decode cL_fullestByTrying 13 = .ok (.iconst 1, 1) := by decide +kernel
theorem dL_fullestByTrying_14 : decode cL_fullestByTrying 14 = .ok (.ireturn, 1) := by decide +kernel
theorem dL_fullestByTrying_15 : decode cL_fullestByTrying 15 = .ok (.astore_n 3, 1) := by decide +kernel
theorem dL_fullestByTrying_16 : decode cL_fullestByTrying 16 = .ok (.iconst 2, 1) := by decide +kernel
theorem dL_fullestByTrying_17 : decode cL_fullestByTrying 17 = .ok (.ireturn, 1) := by decide +kernel
theorem dL_fullestByTrying_18 : decode cL_fullestByTrying 18 = .ok (.iconst 0, 1) := by decide +kernel
theorem dL_fullestByTrying_19 : decode cL_fullestByTrying 19 = .ok (.ireturn, 1) := by decide +kernel
theorem dL_run_0 : decode cL_run 0 = .ok (.aload_n 3, 1) := by decide +kernel
theorem dL_run_1 : decode cL_run 1 = .ok (.iconst 0, 1) := by decide +kernel
theorem dL_run_2 : decode cL_run 2 = .ok (.aload_n 0, 1) := by decide +kernel
theorem dL_run_3 : decode cL_run 3 = .ok (.iload_n 1, 1) := by decide +kernel
theorem dL_run_4 : decode cL_run 4 = .ok (.iload_n 2, 1) := by decide +kernel
theorem dL_run_5 : decode cL_run 5 = .ok (.invokevirtual 51, 3) := by decide +kernel
theorem dL_run_8 : decode cL_run 8 = .ok (.i2l, 1) := by decide +kernel
theorem dL_run_9 : decode cL_run 9 = .ok (.lastore, 1) := by decide +kernel
theorem dL_run_10 : decode cL_run 10 = .ok (.goto 11, 3) := by decide +kernel
theorem dL_run_13 : decode cL_run 13 = .ok (.astore 4, 2) := by decide +kernel
theorem dL_run_15 : decode cL_run 15 = .ok (.iconst 1, 1) := by decide +kernel
theorem dL_run_16 : decode cL_run 16 = .ok (.ireturn, 1) := by decide +kernel
theorem dL_run_17 : decode cL_run 17 = .ok (.astore 4, 2) := by decide +kernel
theorem dL_run_19 : decode cL_run 19 = .ok (.iconst 2, 1) := by decide +kernel
theorem dL_run_20 : decode cL_run 20 = .ok (.ireturn, 1) := by decide +kernel
theorem dL_run_21 : decode cL_run 21 = .ok (.iconst 0, 1) := by decide +kernel
theorem dL_run_22 : decode cL_run 22 = .ok (.ireturn, 1) := by decide +kernel
theorem dL_moves_0 : decode cL_moves 0 = .ok (.aload_n 2, 1) := by decide +kernel
theorem dL_moves_1 : decode cL_moves 1 = .ok (.iconst 0, 1) := by decide +kernel
theorem dL_moves_2 : decode cL_moves 2 = .ok (.aload_n 0, 1) := by decide +kernel
theorem dL_moves_3 : decode cL_moves 3 = .ok (.iload_n 1, 1) := by decide +kernel
theorem dL_moves_4 : decode cL_moves 4 = .ok (.invokevirtual 54, 3) := by decide +kernel
theorem dL_moves_7 : decode cL_moves 7 = .ok (.i2l, 1) := by decide +kernel
theorem dL_moves_8 : decode cL_moves 8 = .ok (.lastore, 1) := by decide +kernel
theorem dL_moves_9 : decode cL_moves 9 = .ok (.goto 6, 3) := by decide +kernel
theorem dL_moves_12 : decode cL_moves 12 = .ok (.astore_n 3, 1) := by decide +kernel
theorem dL_moves_13 : decode cL_moves 13 = .ok (.iconst 1, 1) := by decide +kernel
theorem dL_moves_14 : decode cL_moves 14 = .ok (.ireturn, 1) := by decide +kernel
theorem dL_moves_15 : decode cL_moves 15 = .ok (.iconst 0, 1) := by decide +kernel
theorem dL_moves_16 : decode cL_moves 16 = .ok (.ireturn, 1) := by decide +kernel
theorem dL_plan_0 : decode cL_plan 0 = .ok (.aload_n 3, 1) := by decide +kernel
theorem dL_plan_1 : decode cL_plan 1 = .ok (.iconst 0, 1) := by decide +kernel
theorem dL_plan_2 : decode cL_plan 2 = .ok (.aload_n 0, 1) := by decide +kernel
theorem dL_plan_3 : decode cL_plan 3 = .ok (.iload_n 1, 1) := by decide +kernel
theorem dL_plan_4 : decode cL_plan 4 = .ok (.iload_n 2, 1) := by decide +kernel
theorem dL_plan_5 : decode cL_plan 5 = .ok (.invokevirtual 57, 3) := by decide +kernel
theorem dL_plan_8 : decode cL_plan 8 = .ok (.i2l, 1) := by decide +kernel
theorem dL_plan_9 : decode cL_plan 9 = .ok (.lastore, 1) := by decide +kernel
theorem dL_plan_10 : decode cL_plan 10 = .ok (.goto 11, 3) := by decide +kernel
theorem dL_plan_13 : decode cL_plan 13 = .ok (.astore 4, 2) := by decide +kernel
theorem dL_plan_15 : decode cL_plan 15 = .ok (.iconst 1, 1) := by decide +kernel
theorem dL_plan_16 : decode cL_plan 16 = .ok (.ireturn, 1) := by decide +kernel
theorem dL_plan_17 : decode cL_plan 17 = .ok (.astore 4, 2) := by decide +kernel
theorem dL_plan_19 : decode cL_plan 19 = .ok (.iconst 2, 1) := by decide +kernel
theorem dL_plan_20 : decode cL_plan 20 = .ok (.ireturn, 1) := by decide +kernel
theorem dL_plan_21 : decode cL_plan 21 = .ok (.iconst 0, 1) := by decide +kernel
theorem dL_plan_22 : decode cL_plan 22 = .ok (.ireturn, 1) := by decide +kernel
theorem dL_nextAt_0 : decode cL_nextAt 0 = .ok (.aload_n 2, 1) := by decide +kernel
theorem dL_nextAt_1 : decode cL_nextAt 1 = .ok (.iconst 0, 1) := by decide +kernel
theorem dL_nextAt_2 : decode cL_nextAt 2 = .ok (.aload_n 0, 1) := by decide +kernel
theorem dL_nextAt_3 : decode cL_nextAt 3 = .ok (.iload_n 1, 1) := by decide +kernel
theorem dL_nextAt_4 : decode cL_nextAt 4 = .ok (.invokevirtual 60, 3) := by decide +kernel
theorem dL_nextAt_7 : decode cL_nextAt 7 = .ok (.i2l, 1) := by decide +kernel
theorem dL_nextAt_8 : decode cL_nextAt 8 = .ok (.lastore, 1) := by decide +kernel
theorem dL_nextAt_9 : decode cL_nextAt 9 = .ok (.goto 6, 3) := by decide +kernel
theorem dL_nextAt_12 : decode cL_nextAt 12 = .ok (.astore_n 3, 1) := by decide +kernel
theorem dL_nextAt_13 : decode cL_nextAt 13 = .ok (.iconst 1, 1) := by decide +kernel
theorem dL_nextAt_14 : decode cL_nextAt 14 = .ok (.ireturn, 1) := by decide +kernel
theorem dL_nextAt_15 : decode cL_nextAt 15 = .ok (.iconst 0, 1) := by decide +kernel
theorem dL_nextAt_16 : decode cL_nextAt 16 = .ok (.ireturn, 1) := by decide +kernel
theorem dL_slits_0 : decode cL_slits 0 = .ok (.aload_n 2, 1) := by decide +kernel
theorem dL_slits_1 : decode cL_slits 1 = .ok (.iconst 0, 1) := by decide +kernel
theorem dL_slits_2 : decode cL_slits 2 = .ok (.aload_n 0, 1) := by decide +kernel
theorem dL_slits_3 : decode cL_slits 3 = .ok (.iload_n 1, 1) := by decide +kernel
theorem dL_slits_4 : decode cL_slits 4 = .ok (.invokevirtual 63, 3) := by decide +kernel
theorem dL_slits_7 : decode cL_slits 7 = .ok (.i2l, 1) := by decide +kernel
theorem dL_slits_8 : decode cL_slits 8 = .ok (.lastore, 1) := by decide +kernel
theorem dL_slits_9 : decode cL_slits 9 = .ok (.goto 6, 3) := by decide +kernel
theorem dL_slits_12 : decode cL_slits 12 = .ok (.astore_n 3, 1) := by decide +kernel
theorem dL_slits_13 : decode cL_slits 13 = .ok (.iconst 1, 1) := by decide +kernel
theorem dL_slits_14 : decode cL_slits 14 = .ok (.ireturn, 1) := by decide +kernel
theorem dL_slits_15 : decode cL_slits 15 = .ok (.iconst 0, 1) := by decide +kernel
theorem dL_slits_16 : decode cL_slits 16 = .ok (.ireturn, 1) := by decide +kernel
theorem dL_slitWeight_0 : decode cL_slitWeight 0 = .ok (.aload_n 3, 1) := by decide +kernel
theorem dL_slitWeight_1 : decode cL_slitWeight 1 = .ok (.iconst 0, 1) := by decide +kernel
theorem dL_slitWeight_2 : decode cL_slitWeight 2 = .ok (.aload_n 0, 1) := by decide +kernel
theorem dL_slitWeight_3 : decode cL_slitWeight 3 = .ok (.iload_n 1, 1) := by decide +kernel
theorem dL_slitWeight_4 : decode cL_slitWeight 4 = .ok (.iload_n 2, 1) := by decide +kernel
theorem dL_slitWeight_5 : decode cL_slitWeight 5 = .ok (.invokevirtual 66, 3) := by decide +kernel
theorem dL_slitWeight_8 : decode cL_slitWeight 8 = .ok (.i2l, 1) := by decide +kernel
theorem dL_slitWeight_9 : decode cL_slitWeight 9 = .ok (.lastore, 1) := by decide +kernel
theorem dL_slitWeight_10 : decode cL_slitWeight 10 = .ok (.goto 7, 3) := by decide +kernel
theorem dL_slitWeight_13 : decode cL_slitWeight 13 = .ok (.astore 4, 2) := by decide +kernel
theorem dL_slitWeight_15 : decode cL_slitWeight 15 = .ok (.iconst 1, 1) := by decide +kernel
theorem dL_slitWeight_16 : decode cL_slitWeight 16 = .ok (.ireturn, 1) := by decide +kernel
theorem dL_slitWeight_17 : decode cL_slitWeight 17 = .ok (.iconst 0, 1) := by decide +kernel
theorem dL_slitWeight_18 : decode cL_slitWeight 18 = .ok (.ireturn, 1) := by decide +kernel
theorem dL_slitOrder_0 : decode cL_slitOrder 0 = .ok (.aload_n 3, 1) := by decide +kernel
theorem dL_slitOrder_1 : decode cL_slitOrder 1 = .ok (.iconst 0, 1) := by decide +kernel
theorem dL_slitOrder_2 : decode cL_slitOrder 2 = .ok (.aload_n 0, 1) := by decide +kernel
theorem dL_slitOrder_3 : decode cL_slitOrder 3 = .ok (.iload_n 1, 1) := by decide +kernel
theorem dL_slitOrder_4 : decode cL_slitOrder 4 = .ok (.iload_n 2, 1) := by decide +kernel
theorem dL_slitOrder_5 : decode cL_slitOrder 5 = .ok (.invokevirtual 69, 3) := by decide +kernel
theorem dL_slitOrder_8 : decode cL_slitOrder 8 = .ok (.i2l, 1) := by decide +kernel
theorem dL_slitOrder_9 : decode cL_slitOrder 9 = .ok (.lastore, 1) := by decide +kernel
theorem dL_slitOrder_10 : decode cL_slitOrder 10 = .ok (.goto 7, 3) := by decide +kernel
theorem dL_slitOrder_13 : decode cL_slitOrder 13 = .ok (.astore 4, 2) := by decide +kernel
theorem dL_slitOrder_15 : decode cL_slitOrder 15 = .ok (.iconst 1, 1) := by decide +kernel
theorem dL_slitOrder_16 : decode cL_slitOrder 16 = .ok (.ireturn, 1) := by decide +kernel
theorem dL_slitOrder_17 : decode cL_slitOrder 17 = .ok (.iconst 0, 1) := by decide +kernel
theorem dL_slitOrder_18 : decode cL_slitOrder 18 = .ok (.ireturn, 1) := by decide +kernel
theorem dL_lost_0 : decode cL_lost 0 = .ok (.aload_n 3, 1) := by decide +kernel
theorem dL_lost_1 : decode cL_lost 1 = .ok (.iconst 0, 1) := by decide +kernel
theorem dL_lost_2 : decode cL_lost 2 = .ok (.aload_n 0, 1) := by decide +kernel
theorem dL_lost_3 : decode cL_lost 3 = .ok (.iload_n 1, 1) := by decide +kernel
theorem dL_lost_4 : decode cL_lost 4 = .ok (.iload_n 2, 1) := by decide +kernel
theorem dL_lost_5 : decode cL_lost 5 = .ok (.invokevirtual 72, 3) := by decide +kernel
theorem dL_lost_8 : decode cL_lost 8 = .ok (.i2l, 1) := by decide +kernel
theorem dL_lost_9 : decode cL_lost 9 = .ok (.lastore, 1) := by decide +kernel
theorem dL_lost_10 : decode cL_lost 10 = .ok (.goto 11, 3) := by decide +kernel
theorem dL_lost_13 : decode cL_lost 13 = .ok (.astore 4, 2) := by decide +kernel
theorem dL_lost_15 : decode cL_lost 15 = .ok (.iconst 1, 1) := by decide +kernel
theorem dL_lost_16 : decode cL_lost 16 = .ok (.ireturn, 1) := by decide +kernel
theorem dL_lost_17 : decode cL_lost 17 = .ok (.astore 4, 2) := by decide +kernel
theorem dL_lost_19 : decode cL_lost 19 = .ok (.iconst 2, 1) := by decide +kernel
theorem dL_lost_20 : decode cL_lost 20 = .ok (.ireturn, 1) := by decide +kernel
theorem dL_lost_21 : decode cL_lost 21 = .ok (.iconst 0, 1) := by decide +kernel
theorem dL_lost_22 : decode cL_lost 22 = .ok (.ireturn, 1) := by decide +kernel
theorem dL_delivered_0 : decode cL_delivered 0 = .ok (.aload_n 2, 1) := by decide +kernel
theorem dL_delivered_1 : decode cL_delivered 1 = .ok (.iconst 0, 1) := by decide +kernel
theorem dL_delivered_2 : decode cL_delivered 2 = .ok (.aload_n 0, 1) := by decide +kernel
theorem dL_delivered_3 : decode cL_delivered 3 = .ok (.iload_n 1, 1) := by decide +kernel
theorem dL_delivered_4 : decode cL_delivered 4 = .ok (.invokevirtual 75, 3) := by decide +kernel
theorem dL_delivered_7 : decode cL_delivered 7 = .ok (.i2l, 1) := by decide +kernel
theorem dL_delivered_8 : decode cL_delivered 8 = .ok (.lastore, 1) := by decide +kernel
theorem dL_delivered_9 : decode cL_delivered 9 = .ok (.goto 6, 3) := by decide +kernel
theorem dL_delivered_12 : decode cL_delivered 12 = .ok (.astore_n 3, 1) := by decide +kernel
theorem dL_delivered_13 : decode cL_delivered 13 = .ok (.iconst 1, 1) := by decide +kernel
theorem dL_delivered_14 : decode cL_delivered 14 = .ok (.ireturn, 1) := by decide +kernel
theorem dL_delivered_15 : decode cL_delivered 15 = .ok (.iconst 0, 1) := by decide +kernel
theorem dL_delivered_16 : decode cL_delivered 16 = .ok (.ireturn, 1) := by decide +kernel
theorem dL_heatOf_0 : decode cL_heatOf 0 = .ok (.aload_n 2, 1) := by decide +kernel
theorem dL_heatOf_1 : decode cL_heatOf 1 = .ok (.iconst 0, 1) := by decide +kernel
theorem dL_heatOf_2 : decode cL_heatOf 2 = .ok (.aload_n 0, 1) := by decide +kernel
theorem dL_heatOf_3 : decode cL_heatOf 3 = .ok (.iload_n 1, 1) := by decide +kernel
theorem dL_heatOf_4 : decode cL_heatOf 4 = .ok (.invokevirtual 78, 3) := by decide +kernel
theorem dL_heatOf_7 : decode cL_heatOf 7 = .ok (.i2l, 1) := by decide +kernel
theorem dL_heatOf_8 : decode cL_heatOf 8 = .ok (.lastore, 1) := by decide +kernel
theorem dL_heatOf_9 : decode cL_heatOf 9 = .ok (.goto 6, 3) := by decide +kernel
theorem dL_heatOf_12 : decode cL_heatOf 12 = .ok (.astore_n 3, 1) := by decide +kernel
theorem dL_heatOf_13 : decode cL_heatOf 13 = .ok (.iconst 1, 1) := by decide +kernel
theorem dL_heatOf_14 : decode cL_heatOf 14 = .ok (.ireturn, 1) := by decide +kernel
theorem dL_heatOf_15 : decode cL_heatOf 15 = .ok (.iconst 0, 1) := by decide +kernel
theorem dL_heatOf_16 : decode cL_heatOf 16 = .ok (.ireturn, 1) := by decide +kernel

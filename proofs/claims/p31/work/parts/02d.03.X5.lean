theorem dX5_runAll_20 : decode cX5_runAll 20 = .ok (.aload_n 0, 1) := by decide +kernel
theorem dX5_runAll_21 : decode cX5_runAll 21 = .ok (.getfield 64, 3) := by decide +kernel
theorem dX5_runAll_24 : decode cX5_runAll 24 = .ok (.if_icmp .ge 58, 3) := by decide +kernel
theorem dX5_runAll_27 : decode cX5_runAll 27 = .ok (.aload_n 0, 1) := by decide +kernel
theorem dX5_runAll_28 : decode cX5_runAll 28 = .ok (.getfield 77, 3) := by decide +kernel
theorem dX5_runAll_31 : decode cX5_runAll 31 = .ok (.getfield 219, 3) := by decide +kernel
theorem dX5_runAll_34 : decode cX5_runAll 34 = .ok (.iload_n 2, 1) := by decide +kernel
theorem dX5_runAll_35 : decode cX5_runAll 35 = .ok (.iaload, 1) := by decide +kernel
theorem dX5_runAll_36 : decode cX5_runAll 36 = .ok (.istore_n 3, 1) := by decide +kernel
theorem dX5_runAll_37 : decode cX5_runAll 37 = .ok (.aload_n 0, 1) := by decide +kernel
theorem dX5_runAll_38 : decode cX5_runAll 38 = .ok (.aload_n 0, 1) := by decide +kernel
theorem dX5_runAll_39 : decode cX5_runAll 39 = .ok (.getfield 57, 3) := by decide +kernel
theorem dX5_runAll_42 : decode cX5_runAll 42 = .ok (.iload_n 3, 1) := by decide +kernel
theorem dX5_runAll_43 : decode cX5_runAll 43 = .ok (.iaload, 1) := by decide +kernel
theorem dX5_runAll_44 : decode cX5_runAll 44 = .ok (.aload_n 0, 1) := by decide +kernel
theorem dX5_runAll_45 : decode cX5_runAll 45 = .ok (.getfield 61, 3) := by decide +kernel
theorem dX5_runAll_48 : decode cX5_runAll 48 = .ok (.iload_n 3, 1) := by decide +kernel
theorem dX5_runAll_49 : decode cX5_runAll 49 = .ok (.iaload, 1) := by decide +kernel
theorem dX5_runAll_50 : decode cX5_runAll 50 = .ok (.invokevirtual 187, 3) := by decide +kernel
theorem dX5_runAll_53 : decode cX5_runAll 53 = .ok (.ifCond .eq 23, 3) := by decide +kernel
theorem dX5_runAll_56 : decode cX5_runAll 56 = .ok (.aload_n 0, 1) := by decide +kernel
theorem dX5_runAll_57 : decode cX5_runAll 57 = .ok (.aload_n 0, 1) := by decide +kernel
theorem dX5_runAll_58 : decode cX5_runAll 58 = .ok (.getfield 57, 3) := by decide +kernel
theorem dX5_runAll_61 : decode cX5_runAll 61 = .ok (.iload_n 3, 1) := by decide +kernel
theorem dX5_runAll_62 : decode cX5_runAll 62 = .ok (.iaload, 1) := by decide +kernel
theorem dX5_runAll_63 : decode cX5_runAll 63 = .ok (.aload_n 0, 1) := by decide +kernel
theorem dX5_runAll_64 : decode cX5_runAll 64 = .ok (.getfield 61, 3) := by decide +kernel
theorem dX5_runAll_67 : decode cX5_runAll 67 = .ok (.iload_n 3, 1) := by decide +kernel
theorem dX5_runAll_68 : decode cX5_runAll 68 = .ok (.iaload, 1) := by decide +kernel
theorem dX5_runAll_69 : decode cX5_runAll 69 = .ok (.invokevirtual 193, 3) := by decide +kernel
theorem dX5_runAll_72 : decode cX5_runAll 72 = .ok (.pop, 1) := by decide +kernel
theorem dX5_runAll_73 : decode cX5_runAll 73 = .ok (.iinc 1 1, 3) := by decide +kernel
theorem dX5_runAll_76 : decode cX5_runAll 76 = .ok (.iinc 2 1, 3) := by decide +kernel
theorem dX5_runAll_79 : decode cX5_runAll 79 = .ok (.goto (-60), 3) := by decide +kernel
theorem dX5_runAll_82 : decode cX5_runAll 82 = .ok (.aload_n 0, 1) := by decide +kernel
theorem dX5_runAll_83 : decode cX5_runAll 83 = .ok (.iconst 0, 1) := by decide +kernel
theorem dX5_runAll_84 : decode cX5_runAll 84 = .ok (.putfield 64, 3) := by decide +kernel
theorem dX5_runAll_87 : decode cX5_runAll 87 = .ok (.iload_n 1, 1) := by decide +kernel
theorem dX5_runAll_88 : decode cX5_runAll 88 = .ok (.ireturn, 1) := by decide +kernel
theorem dX5_slits_0 : decode cX5_slits 0 = .ok (.aload_n 0, 1) := by decide +kernel
theorem dX5_slits_1 : decode cX5_slits 1 = .ok (.iload_n 1, 1) := by decide +kernel
theorem dX5_slits_2 : decode cX5_slits 2 = .ok (.invokevirtual 98, 3) := by decide +kernel
theorem dX5_slits_5 : decode cX5_slits 5 = .ok (.aload_n 0, 1) := by decide +kernel
theorem dX5_slits_6 : decode cX5_slits 6 = .ok (.getfield 11, 3) := by decide +kernel
theorem dX5_slits_9 : decode cX5_slits 9 = .ok (.iload_n 1, 1) := by decide +kernel
theorem dX5_slits_10 : decode cX5_slits 10 = .ok (.aaload, 1) := by decide +kernel
theorem dX5_slits_11 : decode cX5_slits 11 = .ok (.getfield 222, 3) := by decide +kernel
theorem dX5_slits_14 : decode cX5_slits 14 = .ok (.ireturn, 1) := by decide +kernel
theorem dX5_slitWeight_0 : decode cX5_slitWeight 0 = .ok (.aload_n 0, 1) := by decide +kernel
theorem dX5_slitWeight_1 : decode cX5_slitWeight 1 = .ok (.iload_n 1, 1) := by decide +kernel
theorem dX5_slitWeight_2 : decode cX5_slitWeight 2 = .ok (.iload_n 2, 1) := by decide +kernel
theorem dX5_slitWeight_3 : decode cX5_slitWeight 3 = .ok (.invokevirtual 225, 3) := by decide +kernel
theorem dX5_slitWeight_6 : decode cX5_slitWeight 6 = .ok (.aload_n 0, 1) := by decide +kernel
theorem dX5_slitWeight_7 : decode cX5_slitWeight 7 = .ok (.getfield 11, 3) := by decide +kernel
theorem dX5_slitWeight_10 : decode cX5_slitWeight 10 = .ok (.iload_n 1, 1) := by decide +kernel
theorem dX5_slitWeight_11 : decode cX5_slitWeight 11 = .ok (.aaload, 1) := by decide +kernel
theorem dX5_slitWeight_12 : decode cX5_slitWeight 12 = .ok (.getfield 228, 3) := by decide +kernel
theorem dX5_slitWeight_15 : decode cX5_slitWeight 15 = .ok (.iload_n 2, 1) := by decide +kernel
theorem dX5_slitWeight_16 : decode cX5_slitWeight 16 = .ok (.iaload, 1) := by decide +kernel
theorem dX5_slitWeight_17 : decode cX5_slitWeight 17 = .ok (.ireturn, 1) := by decide +kernel
theorem dX5_slitOrder_0 : decode cX5_slitOrder 0 = .ok (.aload_n 0, 1) := by decide +kernel
theorem dX5_slitOrder_1 : decode cX5_slitOrder 1 = .ok (.iload_n 1, 1) := by decide +kernel
theorem dX5_slitOrder_2 : decode cX5_slitOrder 2 = .ok (.iload_n 2, 1) := by decide +kernel
theorem dX5_slitOrder_3 : decode cX5_slitOrder 3 = .ok (.invokevirtual 225, 3) := by decide +kernel
theorem dX5_slitOrder_6 : decode cX5_slitOrder 6 = .ok (.aload_n 0, 1) := by decide +kernel
theorem dX5_slitOrder_7 : decode cX5_slitOrder 7 = .ok (.getfield 11, 3) := by decide +kernel
theorem dX5_slitOrder_10 : decode cX5_slitOrder 10 = .ok (.iload_n 1, 1) := by decide +kernel
theorem dX5_slitOrder_11 : decode cX5_slitOrder 11 = .ok (.aaload, 1) := by decide +kernel
theorem dX5_slitOrder_12 : decode cX5_slitOrder 12 = .ok (.getfield 231, 3) := by decide +kernel
theorem dX5_slitOrder_15 : decode cX5_slitOrder 15 = .ok (.iload_n 2, 1) := by decide +kernel
theorem dX5_slitOrder_16 : decode cX5_slitOrder 16 = .ok (.iaload, 1) := by decide +kernel
theorem dX5_slitOrder_17 : decode cX5_slitOrder 17 = .ok (.ireturn, 1) := by decide +kernel
theorem dX5_lost_0 : decode cX5_lost 0 = .ok (.aload_n 0, 1) := by decide +kernel
theorem dX5_lost_1 : decode cX5_lost 1 = .ok (.iload_n 1, 1) := by decide +kernel
theorem dX5_lost_2 : decode cX5_lost 2 = .ok (.invokevirtual 98, 3) := by decide +kernel
theorem dX5_lost_5 : decode cX5_lost 5 = .ok (.iload_n 2, 1) := by decide +kernel
theorem dX5_lost_6 : decode cX5_lost 6 = .ok (.iconst 0, 1) := by decide +kernel
theorem dX5_lost_7 : decode cX5_lost 7 = .ok (.iconst 2, 1) := by decide +kernel
theorem dX5_lost_8 : decode cX5_lost 8 = .ok (.invokestatic 83, 3) := by decide +kernel
theorem dX5_lost_11 : decode cX5_lost 11 = .ok (.iload_n 2, 1) := by decide +kernel
theorem dX5_lost_12 : decode cX5_lost 12 = .ok (.ifCond .ne 13, 3) := by decide +kernel
theorem dX5_lost_15 : decode cX5_lost 15 = .ok (.aload_n 0, 1) := by decide +kernel
theorem dX5_lost_16 : decode cX5_lost 16 = .ok (.getfield 11, 3) := by decide +kernel
theorem dX5_lost_19 : decode cX5_lost 19 = .ok (.iload_n 1, 1) := by decide +kernel
theorem dX5_lost_20 : decode cX5_lost 20 = .ok (.aaload, 1) := by decide +kernel
theorem dX5_lost_21 : decode cX5_lost 21 = .ok (.getfield 234, 3) := by decide +kernel
theorem dX5_lost_24 : decode cX5_lost 24 = .ok (.ireturn, 1) := by decide +kernel
theorem dX5_lost_25 : decode cX5_lost 25 = .ok (.iload_n 2, 1) := by decide +kernel
theorem dX5_lost_26 : decode cX5_lost 26 = .ok (.iconst 1, 1) := by decide +kernel
theorem dX5_lost_27 : decode cX5_lost 27 = .ok (.if_icmp .ne 15, 3) := by decide +kernel
theorem dX5_lost_30 : decode cX5_lost 30 = .ok (.aload_n 0, 1) := by decide +kernel
theorem dX5_lost_31 : decode cX5_lost 31 = .ok (.getfield 11, 3) := by decide +kernel
theorem dX5_lost_34 : decode cX5_lost 34 = .ok (.iload_n 1, 1) := by decide +kernel
theorem dX5_lost_35 : decode cX5_lost 35 = .ok (.aaload, 1) := by decide +kernel
theorem dX5_lost_36 : decode cX5_lost 36 = .ok (.getfield 237, 3) := by decide +kernel
theorem dX5_lost_39 : decode cX5_lost 39 = .ok (.goto 12, 3) := by decide +kernel
theorem dX5_lost_42 : decode cX5_lost 42 = .ok (.aload_n 0, 1) := by decide +kernel
theorem dX5_lost_43 : decode cX5_lost 43 = .ok (.getfield 11, 3) := by decide +kernel
theorem dX5_lost_46 : decode cX5_lost 46 = .ok (.iload_n 1, 1) := by decide +kernel
theorem dX5_lost_47 : decode cX5_lost 47 = .ok (.aaload, 1) := by decide +kernel
theorem dX5_lost_48 : decode cX5_lost 48 = .ok (.getfield 240, 3) := by decide +kernel
theorem dX5_lost_51 : decode cX5_lost 51 = .ok (.ireturn, 1) := by decide +kernel
theorem dX5_delivered_0 : decode cX5_delivered 0 = .ok (.aload_n 0, 1) := by decide +kernel
theorem dX5_delivered_1 : decode cX5_delivered 1 = .ok (.iload_n 1, 1) := by decide +kernel
theorem dX5_delivered_2 : decode cX5_delivered 2 = .ok (.invokevirtual 243, 3) := by decide +kernel
theorem dX5_delivered_5 : decode cX5_delivered 5 = .ok (.aload_n 0, 1) := by decide +kernel
theorem dX5_delivered_6 : decode cX5_delivered 6 = .ok (.getfield 21, 3) := by decide +kernel
theorem dX5_delivered_9 : decode cX5_delivered 9 = .ok (.iload_n 1, 1) := by decide +kernel
theorem dX5_delivered_10 : decode cX5_delivered 10 = .ok (.aaload, 1) := by decide +kernel
theorem dX5_delivered_11 : decode cX5_delivered 11 = .ok (.getfield 246, 3) := by decide +kernel
theorem dX5_delivered_14 : decode cX5_delivered 14 = .ok (.ireturn, 1) := by decide +kernel
theorem dX5_heatOf_0 : decode cX5_heatOf 0 = .ok (.aload_n 0, 1) := by decide +kernel
theorem dX5_heatOf_1 : decode cX5_heatOf 1 = .ok (.iload_n 1, 1) := by decide +kernel
theorem dX5_heatOf_2 : decode cX5_heatOf 2 = .ok (.invokevirtual 243, 3) := by decide +kernel
theorem dX5_heatOf_5 : decode cX5_heatOf 5 = .ok (.aload_n 0, 1) := by decide +kernel
theorem dX5_heatOf_6 : decode cX5_heatOf 6 = .ok (.getfield 21, 3) := by decide +kernel
theorem dX5_heatOf_9 : decode cX5_heatOf 9 = .ok (.iload_n 1, 1) := by decide +kernel
theorem dX5_heatOf_10 : decode cX5_heatOf 10 = .ok (.aaload, 1) := by decide +kernel
theorem dX5_heatOf_11 : decode cX5_heatOf 11 = .ok (.getfield 249, 3) := by decide +kernel
theorem dX5_heatOf_14 : decode cX5_heatOf 14 = .ok (.ireturn, 1) := by decide +kernel
theorem dX5_stock_0 : decode cX5_stock 0 = .ok (.iconst 0, 1) := by decide +kernel
theorem dX5_stock_1 : decode cX5_stock 1 = .ok (.istore_n 2, 1) := by decide +kernel
theorem dX5_stock_2 : decode cX5_stock 2 = .ok (.iconst 0, 1) := by decide +kernel
theorem dX5_stock_3 : decode cX5_stock 3 = .ok (.istore_n 3, 1) := by decide +kernel
theorem dX5_stock_4 : decode cX5_stock 4 = .ok (.iload_n 3, 1) := by decide +kernel
theorem dX5_stock_5 : decode cX5_stock 5 = .ok (.aload_n 0, 1) := by decide +kernel
theorem dX5_stock_6 : decode cX5_stock 6 = .ok (.getfield 15, 3) := by decide +kernel
theorem dX5_stock_9 : decode cX5_stock 9 = .ok (.if_icmp .ge 22, 3) := by decide +kernel
theorem dX5_stock_12 : decode cX5_stock 12 = .ok (.iload_n 2, 1) := by decide +kernel
theorem dX5_stock_13 : decode cX5_stock 13 = .ok (.aload_n 0, 1) := by decide +kernel
theorem dX5_stock_14 : decode cX5_stock 14 = .ok (.getfield 11, 3) := by decide +kernel
theorem dX5_stock_17 : decode cX5_stock 17 = .ok (.iload_n 3, 1) := by decide +kernel
theorem dX5_stock_18 : decode cX5_stock 18 = .ok (.aaload, 1) := by decide +kernel
theorem dX5_stock_19 : decode cX5_stock 19 = .ok (.iload_n 1, 1) := by decide +kernel
theorem dX5_stock_20 : decode cX5_stock 20 = .ok (.invokevirtual 252, 3) := by decide +kernel
theorem dX5_stock_23 : decode cX5_stock 23 = .ok (.iadd, 1) := by decide +kernel
theorem dX5_stock_24 : decode cX5_stock 24 = .ok (.istore_n 2, 1) := by decide +kernel
theorem dX5_stock_25 : decode cX5_stock 25 = .ok (.iinc 3 1, 3) := by decide +kernel
theorem dX5_stock_28 : decode cX5_stock 28 = .ok (.goto (-24), 3) := by decide +kernel
theorem dX5_stock_31 : decode cX5_stock 31 = .ok (.iload_n 2, 1) := by decide +kernel
theorem dX5_stock_32 : decode cX5_stock 32 = .ok (.ireturn, 1) := by decide +kernel
theorem dX5_requireRange_0 : decode cX5_requireRange 0 = .ok (.iload_n 0, 1) := by decide +kernel
theorem dX5_requireRange_1 : decode cX5_requireRange 1 = .ok (.iload_n 1, 1) := by decide +kernel
theorem dX5_requireRange_2 : decode cX5_requireRange 2 = .ok (.if_icmp .lt 8, 3) := by decide +kernel
theorem dX5_requireRange_5 : decode cX5_requireRange 5 = .ok (.iload_n 0, 1) := by decide +kernel
theorem dX5_requireRange_6 : decode cX5_requireRange 6 = .ok (.iload_n 2, 1) := by decide +kernel
theorem dX5_requireRange_7 : decode cX5_requireRange 7 = .ok (.if_icmp .le 14, 3) := by decide +kernel
theorem dX5_requireRange_10 : decode cX5_requireRange 10 = .ok (.new 255, 3) := by decide +kernel
theorem dX5_requireRange_13 : decode cX5_requireRange 13 = .ok (.dup, 1) := by decide +kernel
theorem dX5_requireRange_14 : decode cX5_requireRange 14 = .ok (.ldc_w 257, 3) := by decide +kernel
theorem dX5_requireRange_17 : decode cX5_requireRange 17 = .ok (.invokespecial 259, 3) := by decide +kernel
theorem dX5_requireRange_20 : decode cX5_requireRange 20 = .ok (.athrow, 1) := by decide +kernel
theorem dX5_requireRange_21 : decode cX5_requireRange 21 = .ok (.return_, 1) := by decide +kernel
theorem dX5_hasCoil_0 : decode cX5_hasCoil 0 = .ok (.iload_n 1, 1) := by decide +kernel
theorem dX5_hasCoil_1 : decode cX5_hasCoil 1 = .ok (.ifCond .lt 15, 3) := by decide +kernel
theorem dX5_hasCoil_4 : decode cX5_hasCoil 4 = .ok (.iload_n 1, 1) := by decide +kernel
theorem dX5_hasCoil_5 : decode cX5_hasCoil 5 = .ok (.aload_n 0, 1) := by decide +kernel
theorem dX5_hasCoil_6 : decode cX5_hasCoil 6 = .ok (.getfield 15, 3) := by decide +kernel
theorem dX5_hasCoil_9 : decode cX5_hasCoil 9 = .ok (.if_icmp .ge 7, 3) := by decide +kernel
theorem dX5_hasCoil_12 : decode cX5_hasCoil 12 = .ok (.iconst 1, 1) := by decide +kernel
theorem dX5_hasCoil_13 : decode cX5_hasCoil 13 = .ok (.goto 4, 3) := by decide +kernel
theorem dX5_hasCoil_16 : decode cX5_hasCoil 16 = .ok (.iconst 0, 1) := by decide +kernel
theorem dX5_hasCoil_17 : decode cX5_hasCoil 17 = .ok (.ireturn, 1) := by decide +kernel
theorem dX5_hasPattern_0 : decode cX5_hasPattern 0 = .ok (.iload_n 1, 1) := by decide +kernel
theorem dX5_hasPattern_1 : decode cX5_hasPattern 1 = .ok (.ifCond .lt 15, 3) := by decide +kernel
theorem dX5_hasPattern_4 : decode cX5_hasPattern 4 = .ok (.iload_n 1, 1) := by decide +kernel
theorem dX5_hasPattern_5 : decode cX5_hasPattern 5 = .ok (.aload_n 0, 1) := by decide +kernel
theorem dX5_hasPattern_6 : decode cX5_hasPattern 6 = .ok (.getfield 34, 3) := by decide +kernel
theorem dX5_hasPattern_9 : decode cX5_hasPattern 9 = .ok (.if_icmp .ge 7, 3) := by decide +kernel
theorem dX5_hasPattern_12 : decode cX5_hasPattern 12 = .ok (.iconst 1, 1) := by decide +kernel
theorem dX5_hasPattern_13 : decode cX5_hasPattern 13 = .ok (.goto 4, 3) := by decide +kernel
theorem dX5_hasPattern_16 : decode cX5_hasPattern 16 = .ok (.iconst 0, 1) := by decide +kernel
theorem dX5_hasPattern_17 : decode cX5_hasPattern 17 = .ok (.ireturn, 1) := by decide +kernel
theorem dX5_requireCoil_0 : decode cX5_requireCoil 0 = .ok (.aload_n 0, 1) := by decide +kernel
theorem dX5_requireCoil_1 : decode cX5_requireCoil 1 = .ok (.iload_n 1, 1) := by decide +kernel
theorem dX5_requireCoil_2 : decode cX5_requireCoil 2 = .ok (.invokevirtual 260, 3) := by decide +kernel
theorem dX5_requireCoil_5 : decode cX5_requireCoil 5 = .ok (.ifCond .ne 14, 3) := by decide +kernel
theorem dX5_requireCoil_8 : decode cX5_requireCoil 8 = .ok (.new 145, 3) := by decide +kernel
theorem dX5_requireCoil_11 : decode cX5_requireCoil 11 = .ok (.dup, 1) := by decide +kernel
theorem dX5_requireCoil_12 : decode cX5_requireCoil 12 = .ok (.ldc_w 263, 3) := by decide +kernel
theorem dX5_requireCoil_15 : decode cX5_requireCoil 15 = .ok (.invokespecial 149, 3) := by decide +kernel
theorem dX5_requireCoil_18 : decode cX5_requireCoil 18 = .ok (.athrow, 1) := by decide +kernel
theorem dX5_requireCoil_19 : decode cX5_requireCoil 19 = .ok (.return_, 1) := by decide +kernel
theorem dX5_requirePattern_0 : decode cX5_requirePattern 0 = .ok (.aload_n 0, 1) := by decide +kernel
theorem dX5_requirePattern_1 : decode cX5_requirePattern 1 = .ok (.iload_n 1, 1) := by decide +kernel
theorem dX5_requirePattern_2 : decode cX5_requirePattern 2 = .ok (.invokevirtual 265, 3) := by decide +kernel
theorem dX5_requirePattern_5 : decode cX5_requirePattern 5 = .ok (.ifCond .ne 14, 3) := by decide +kernel
theorem dX5_requirePattern_8 : decode cX5_requirePattern 8 = .ok (.new 145, 3) := by decide +kernel
theorem dX5_requirePattern_11 : decode cX5_requirePattern 11 = .ok (.dup, 1) := by decide +kernel
theorem dX5_requirePattern_12 : decode cX5_requirePattern 12 = .ok (.ldc_w 268, 3) := by decide +kernel
theorem dX5_requirePattern_15 : decode cX5_requirePattern 15 = .ok (.invokespecial 149, 3) := by decide +kernel
theorem dX5_requirePattern_18 : decode cX5_requirePattern 18 = .ok (.athrow, 1) := by decide +kernel
theorem dX5_requirePattern_19 : decode cX5_requirePattern 19 = .ok (.return_, 1) := by decide +kernel
theorem dX5_requireOrder_0 : decode cX5_requireOrder 0 = .ok (.iload_n 1, 1) := by decide +kernel
theorem dX5_requireOrder_1 : decode cX5_requireOrder 1 = .ok (.ifCond .lt 11, 3) := by decide +kernel
theorem dX5_requireOrder_4 : decode cX5_requireOrder 4 = .ok (.iload_n 1, 1) := by decide +kernel
theorem dX5_requireOrder_5 : decode cX5_requireOrder 5 = .ok (.aload_n 0, 1) := by decide +kernel
theorem dX5_requireOrder_6 : decode cX5_requireOrder 6 = .ok (.getfield 25, 3) := by decide +kernel
theorem dX5_requireOrder_9 : decode cX5_requireOrder 9 = .ok (.if_icmp .lt 14, 3) := by decide +kernel
theorem dX5_requireOrder_12 : decode cX5_requireOrder 12 = .ok (.new 145, 3) := by decide +kernel
theorem dX5_requireOrder_15 : decode cX5_requireOrder 15 = .ok (.dup, 1) := by decide +kernel
theorem dX5_requireOrder_16 : decode cX5_requireOrder 16 = .ok (.ldc_w 270, 3) := by decide +kernel
theorem dX5_requireOrder_19 : decode cX5_requireOrder 19 = .ok (.invokespecial 149, 3) := by decide +kernel
theorem dX5_requireOrder_22 : decode cX5_requireOrder 22 = .ok (.athrow, 1) := by decide +kernel
theorem dX5_requireOrder_23 : decode cX5_requireOrder 23 = .ok (.return_, 1) := by decide +kernel
theorem dX5_requireSlit_0 : decode cX5_requireSlit 0 = .ok (.aload_n 0, 1) := by decide +kernel
theorem dX5_requireSlit_1 : decode cX5_requireSlit 1 = .ok (.iload_n 1, 1) := by decide +kernel
theorem dX5_requireSlit_2 : decode cX5_requireSlit 2 = .ok (.invokevirtual 98, 3) := by decide +kernel
theorem dX5_requireSlit_5 : decode cX5_requireSlit 5 = .ok (.aload_n 0, 1) := by decide +kernel
theorem dX5_requireSlit_6 : decode cX5_requireSlit 6 = .ok (.getfield 11, 3) := by decide +kernel
theorem dX5_requireSlit_9 : decode cX5_requireSlit 9 = .ok (.iload_n 1, 1) := by decide +kernel
theorem dX5_requireSlit_10 : decode cX5_requireSlit 10 = .ok (.aaload, 1) := by decide +kernel
theorem dX5_requireSlit_11 : decode cX5_requireSlit 11 = .ok (.iload_n 2, 1) := by decide +kernel
theorem dX5_requireSlit_12 : decode cX5_requireSlit 12 = .ok (.invokevirtual 272, 3) := by decide +kernel
theorem dX5_requireSlit_15 : decode cX5_requireSlit 15 = .ok (.ifCond .ne 14, 3) := by decide +kernel
theorem dX5_requireSlit_18 : decode cX5_requireSlit 18 = .ok (.new 145, 3) := by decide +kernel
theorem dX5_requireSlit_21 : decode cX5_requireSlit 21 = .ok (.dup, 1) := by decide +kernel
theorem dX5_requireSlit_22 : decode cX5_requireSlit 22 = .ok (.ldc_w 273, 3) := by decide +kernel
theorem dX5_requireSlit_25 : decode cX5_requireSlit 25 = .ok (.invokespecial 149, 3) := by decide +kernel
theorem dX5_requireSlit_28 : decode cX5_requireSlit 28 = .ok (.athrow, 1) := by decide +kernel
theorem dX5_requireSlit_29 : decode cX5_requireSlit 29 = .ok (.return_, 1) := by decide +kernel
theorem dX5_roomOf_0 : decode cX5_roomOf 0 = .ok (.aload_n 1, 1) := by decide +kernel
theorem dX5_roomOf_1 : decode cX5_roomOf 1 = .ok (.getfield 275, 3) := by decide +kernel
theorem dX5_roomOf_4 : decode cX5_roomOf 4 = .ok (.iconst 2, 1) := by decide +kernel
theorem dX5_roomOf_5 : decode cX5_roomOf 5 = .ok (.aload_n 0, 1) := by decide +kernel
theorem dX5_roomOf_6 : decode cX5_roomOf 6 = .ok (.getfield 42, 3) := by decide +kernel
theorem dX5_roomOf_9 : decode cX5_roomOf 9 = .ok (.imul, 1) := by decide +kernel
theorem dX5_roomOf_10 : decode cX5_roomOf 10 = .ok (.isub, 1) := by decide +kernel
theorem dX5_roomOf_11 : decode cX5_roomOf 11 = .ok (.ireturn, 1) := by decide +kernel
theorem dX5_canBeCutFrom_0 : decode cX5_canBeCutFrom 0 = .ok (.aload_n 1, 1) := by decide +kernel
theorem dX5_canBeCutFrom_1 : decode cX5_canBeCutFrom 1 = .ok (.invokevirtual 278, 3) := by decide +kernel
theorem dX5_canBeCutFrom_4 : decode cX5_canBeCutFrom 4 = .ok (.aload_n 0, 1) := by decide +kernel
theorem dX5_canBeCutFrom_5 : decode cX5_canBeCutFrom 5 = .ok (.aload_n 2, 1) := by decide +kernel
theorem dX5_canBeCutFrom_6 : decode cX5_canBeCutFrom 6 = .ok (.invokevirtual 170, 3) := by decide +kernel
theorem dX5_canBeCutFrom_9 : decode cX5_canBeCutFrom 9 = .ok (.if_icmp .gt 18, 3) := by decide +kernel
theorem dX5_canBeCutFrom_12 : decode cX5_canBeCutFrom 12 = .ok (.aload_n 1, 1) := by decide +kernel
theorem dX5_canBeCutFrom_13 : decode cX5_canBeCutFrom 13 = .ok (.invokevirtual 281, 3) := by decide +kernel
theorem dX5_canBeCutFrom_16 : decode cX5_canBeCutFrom 16 = .ok (.aload_n 0, 1) := by decide +kernel
theorem dX5_canBeCutFrom_17 : decode cX5_canBeCutFrom 17 = .ok (.getfield 48, 3) := by decide +kernel
theorem dX5_canBeCutFrom_20 : decode cX5_canBeCutFrom 20 = .ok (.if_icmp .gt 7, 3) := by decide +kernel
theorem dX5_canBeCutFrom_23 : decode cX5_canBeCutFrom 23 = .ok (.iconst 1, 1) := by decide +kernel
theorem dX5_canBeCutFrom_24 : decode cX5_canBeCutFrom 24 = .ok (.goto 4, 3) := by decide +kernel
theorem dX5_canBeCutFrom_27 : decode cX5_canBeCutFrom 27 = .ok (.iconst 0, 1) := by decide +kernel
theorem dX5_canBeCutFrom_28 : decode cX5_canBeCutFrom 28 = .ok (.ireturn, 1) := by decide +kernel
theorem dX5_offerWidthsFor_0 : decode cX5_offerWidthsFor 0 = .ok (.aload_n 0, 1) := by decide +kernel
theorem dX5_offerWidthsFor_1 : decode cX5_offerWidthsFor 1 = .ok (.getfield 70, 3) := by decide +kernel
theorem dX5_offerWidthsFor_4 : decode cX5_offerWidthsFor 4 = .ok (.invokevirtual 284, 3) := by decide +kernel
theorem dX5_offerWidthsFor_7 : decode cX5_offerWidthsFor 7 = .ok (.iconst 0, 1) := by decide +kernel
theorem dX5_offerWidthsFor_8 : decode cX5_offerWidthsFor 8 = .ok (.istore_n 2, 1) := by decide +kernel
theorem dX5_offerWidthsFor_9 : decode cX5_offerWidthsFor 9 = .ok (.iload_n 2, 1) := by decide +kernel
theorem dX5_offerWidthsFor_10 : decode cX5_offerWidthsFor 10 = .ok (.aload_n 0, 1) := by decide +kernel
theorem dX5_offerWidthsFor_11 : decode cX5_offerWidthsFor 11 = .ok (.getfield 25, 3) := by decide +kernel
theorem dX5_offerWidthsFor_14 : decode cX5_offerWidthsFor 14 = .ok (.if_icmp .ge 41, 3) := by decide +kernel
theorem dX5_offerWidthsFor_17 : decode cX5_offerWidthsFor 17 = .ok (.aload_n 0, 1) := by decide +kernel
theorem dX5_offerWidthsFor_18 : decode cX5_offerWidthsFor 18 = .ok (.getfield 21, 3) := by decide +kernel
theorem dX5_offerWidthsFor_21 : decode cX5_offerWidthsFor 21 = .ok (.iload_n 2, 1) := by decide +kernel
theorem dX5_offerWidthsFor_22 : decode cX5_offerWidthsFor 22 = .ok (.aaload, 1) := by decide +kernel
theorem dX5_offerWidthsFor_23 : decode cX5_offerWidthsFor 23 = .ok (.aload_n 1, 1) := by decide +kernel
theorem dX5_offerWidthsFor_24 : decode cX5_offerWidthsFor 24 = .ok (.getfield 287, 3) := by decide +kernel
theorem dX5_offerWidthsFor_27 : decode cX5_offerWidthsFor 27 = .ok (.invokevirtual 288, 3) := by decide +kernel
theorem dX5_offerWidthsFor_30 : decode cX5_offerWidthsFor 30 = .ok (.ifCond .eq 19, 3) := by decide +kernel
theorem dX5_offerWidthsFor_33 : decode cX5_offerWidthsFor 33 = .ok (.aload_n 0, 1) := by decide +kernel
theorem dX5_offerWidthsFor_34 : decode cX5_offerWidthsFor 34 = .ok (.getfield 70, 3) := by decide +kernel
theorem dX5_offerWidthsFor_37 : decode cX5_offerWidthsFor 37 = .ok (.aload_n 0, 1) := by decide +kernel
theorem dX5_offerWidthsFor_38 : decode cX5_offerWidthsFor 38 = .ok (.getfield 21, 3) := by decide +kernel
theorem dX5_offerWidthsFor_41 : decode cX5_offerWidthsFor 41 = .ok (.iload_n 2, 1) := by decide +kernel
theorem dX5_offerWidthsFor_42 : decode cX5_offerWidthsFor 42 = .ok (.aaload, 1) := by decide +kernel
theorem dX5_offerWidthsFor_43 : decode cX5_offerWidthsFor 43 = .ok (.getfield 291, 3) := by decide +kernel
theorem dX5_offerWidthsFor_46 : decode cX5_offerWidthsFor 46 = .ok (.invokevirtual 292, 3) := by decide +kernel
theorem dX5_offerWidthsFor_49 : decode cX5_offerWidthsFor 49 = .ok (.iinc 2 1, 3) := by decide +kernel
theorem dX5_offerWidthsFor_52 : decode cX5_offerWidthsFor 52 = .ok (.goto (-43), 3) := by decide +kernel
theorem dX5_offerWidthsFor_55 : decode cX5_offerWidthsFor 55 = .ok (.return_, 1) := by decide +kernel
theorem dX5_canBeRun_0 : decode cX5_canBeRun 0 = .ok (.aload_n 0, 1) := by decide +kernel
theorem dX5_canBeRun_1 : decode cX5_canBeRun 1 = .ok (.iload_n 1, 1) := by decide +kernel
theorem dX5_canBeRun_2 : decode cX5_canBeRun 2 = .ok (.invokevirtual 260, 3) := by decide +kernel
theorem dX5_canBeRun_5 : decode cX5_canBeRun 5 = .ok (.ifCond .eq 46, 3) := by decide +kernel
theorem dX5_canBeRun_8 : decode cX5_canBeRun 8 = .ok (.aload_n 0, 1) := by decide +kernel
theorem dX5_canBeRun_9 : decode cX5_canBeRun 9 = .ok (.iload_n 2, 1) := by decide +kernel
theorem dX5_canBeRun_10 : decode cX5_canBeRun 10 = .ok (.invokevirtual 265, 3) := by decide +kernel
theorem dX5_canBeRun_13 : decode cX5_canBeRun 13 = .ok (.ifCond .eq 38, 3) := by decide +kernel
theorem dX5_canBeRun_16 : decode cX5_canBeRun 16 = .ok (.aload_n 0, 1) := by decide +kernel
theorem dX5_canBeRun_17 : decode cX5_canBeRun 17 = .ok (.getfield 11, 3) := by decide +kernel
theorem dX5_canBeRun_20 : decode cX5_canBeRun 20 = .ok (.iload_n 1, 1) := by decide +kernel
theorem dX5_canBeRun_21 : decode cX5_canBeRun 21 = .ok (.aaload, 1) := by decide +kernel
theorem dX5_canBeRun_22 : decode cX5_canBeRun 22 = .ok (.invokevirtual 105, 3) := by decide +kernel
theorem dX5_canBeRun_25 : decode cX5_canBeRun 25 = .ok (.ifCond .ne 26, 3) := by decide +kernel
theorem dX5_canBeRun_28 : decode cX5_canBeRun 28 = .ok (.aload_n 0, 1) := by decide +kernel
theorem dX5_canBeRun_29 : decode cX5_canBeRun 29 = .ok (.aload_n 0, 1) := by decide +kernel
theorem dX5_canBeRun_30 : decode cX5_canBeRun 30 = .ok (.getfield 30, 3) := by decide +kernel
theorem dX5_canBeRun_33 : decode cX5_canBeRun 33 = .ok (.iload_n 2, 1) := by decide +kernel
theorem dX5_canBeRun_34 : decode cX5_canBeRun 34 = .ok (.aaload, 1) := by decide +kernel
theorem dX5_canBeRun_35 : decode cX5_canBeRun 35 = .ok (.aload_n 0, 1) := by decide +kernel
theorem dX5_canBeRun_36 : decode cX5_canBeRun 36 = .ok (.getfield 11, 3) := by decide +kernel
theorem dX5_canBeRun_39 : decode cX5_canBeRun 39 = .ok (.iload_n 1, 1) := by decide +kernel
theorem dX5_canBeRun_40 : decode cX5_canBeRun 40 = .ok (.aaload, 1) := by decide +kernel
theorem dX5_canBeRun_41 : decode cX5_canBeRun 41 = .ok (.invokevirtual 162, 3) := by decide +kernel
theorem dX5_canBeRun_44 : decode cX5_canBeRun 44 = .ok (.ifCond .eq 7, 3) := by decide +kernel
theorem dX5_canBeRun_47 : decode cX5_canBeRun 47 = .ok (.iconst 1, 1) := by decide +kernel
theorem dX5_canBeRun_48 : decode cX5_canBeRun 48 = .ok (.goto 4, 3) := by decide +kernel
theorem dX5_canBeRun_51 : decode cX5_canBeRun 51 = .ok (.iconst 0, 1) := by decide +kernel
theorem dX5_canBeRun_52 : decode cX5_canBeRun 52 = .ok (.ireturn, 1) := by decide +kernel
theorem dX5_slitCoil_0 : decode cX5_slitCoil 0 = .ok (.aload_n 0, 1) := by decide +kernel
theorem dX5_slitCoil_1 : decode cX5_slitCoil 1 = .ok (.dup, 1) := by decide +kernel
theorem dX5_slitCoil_2 : decode cX5_slitCoil 2 = .ok (.getfield 54, 3) := by decide +kernel
theorem dX5_slitCoil_5 : decode cX5_slitCoil 5 = .ok (.aload_n 0, 1) := by decide +kernel
theorem dX5_slitCoil_6 : decode cX5_slitCoil 6 = .ok (.aload_n 0, 1) := by decide +kernel
theorem dX5_slitCoil_7 : decode cX5_slitCoil 7 = .ok (.getfield 51, 3) := by decide +kernel
theorem dX5_slitCoil_10 : decode cX5_slitCoil 10 = .ok (.iload_n 2, 1) := by decide +kernel
theorem dX5_slitCoil_11 : decode cX5_slitCoil 11 = .ok (.invokevirtual 196, 3) := by decide +kernel
theorem dX5_slitCoil_14 : decode cX5_slitCoil 14 = .ok (.iadd, 1) := by decide +kernel
theorem dX5_slitCoil_15 : decode cX5_slitCoil 15 = .ok (.putfield 54, 3) := by decide +kernel
theorem dX5_slitCoil_18 : decode cX5_slitCoil 18 = .ok (.aload_n 0, 1) := by decide +kernel
theorem dX5_slitCoil_19 : decode cX5_slitCoil 19 = .ok (.iload_n 2, 1) := by decide +kernel
theorem dX5_slitCoil_20 : decode cX5_slitCoil 20 = .ok (.putfield 51, 3) := by decide +kernel
theorem dX5_slitCoil_23 : decode cX5_slitCoil 23 = .ok (.aload_n 0, 1) := by decide +kernel
theorem dX5_slitCoil_24 : decode cX5_slitCoil 24 = .ok (.getfield 11, 3) := by decide +kernel
theorem dX5_slitCoil_27 : decode cX5_slitCoil 27 = .ok (.iload_n 1, 1) := by decide +kernel
theorem dX5_slitCoil_28 : decode cX5_slitCoil 28 = .ok (.aaload, 1) := by decide +kernel
theorem dX5_slitCoil_29 : decode cX5_slitCoil 29 = .ok (.aload_n 0, 1) := by decide +kernel
theorem dX5_slitCoil_30 : decode cX5_slitCoil 30 = .ok (.getfield 30, 3) := by decide +kernel
theorem dX5_slitCoil_33 : decode cX5_slitCoil 33 = .ok (.iload_n 2, 1) := by decide +kernel
theorem dX5_slitCoil_34 : decode cX5_slitCoil 34 = .ok (.aaload, 1) := by decide +kernel
theorem dX5_slitCoil_35 : decode cX5_slitCoil 35 = .ok (.aload_n 0, 1) := by decide +kernel
theorem dX5_slitCoil_36 : decode cX5_slitCoil 36 = .ok (.getfield 45, 3) := by decide +kernel
theorem dX5_slitCoil_39 : decode cX5_slitCoil 39 = .ok (.invokevirtual 295, 3) := by decide +kernel
theorem dX5_slitCoil_42 : decode cX5_slitCoil 42 = .ok (.aload_n 0, 1) := by decide +kernel
theorem dX5_slitCoil_43 : decode cX5_slitCoil 43 = .ok (.aload_n 0, 1) := by decide +kernel
theorem dX5_slitCoil_44 : decode cX5_slitCoil 44 = .ok (.getfield 11, 3) := by decide +kernel
theorem dX5_slitCoil_47 : decode cX5_slitCoil 47 = .ok (.iload_n 1, 1) := by decide +kernel
theorem dX5_slitCoil_48 : decode cX5_slitCoil 48 = .ok (.aaload, 1) := by decide +kernel
theorem dX5_slitCoil_49 : decode cX5_slitCoil 49 = .ok (.invokevirtual 299, 3) := by decide +kernel
theorem dX5_slitCoil_52 : decode cX5_slitCoil 52 = .ok (.ireturn, 1) := by decide +kernel
theorem dX5_deliverSlits_0 : decode cX5_deliverSlits 0 = .ok (.iconst 0, 1) := by decide +kernel
theorem dX5_deliverSlits_1 : decode cX5_deliverSlits 1 = .ok (.istore_n 2, 1) := by decide +kernel
theorem dX5_deliverSlits_2 : decode cX5_deliverSlits 2 = .ok (.iconst 0, 1) := by decide +kernel
theorem dX5_deliverSlits_3 : decode cX5_deliverSlits 3 = .ok (.istore_n 3, 1) := by decide +kernel
theorem dX5_deliverSlits_4 : decode cX5_deliverSlits 4 = .ok (.iload_n 3, 1) := by decide +kernel
theorem dX5_deliverSlits_5 : decode cX5_deliverSlits 5 = .ok (.aload_n 1, 1) := by decide +kernel
theorem dX5_deliverSlits_6 : decode cX5_deliverSlits 6 = .ok (.getfield 222, 3) := by decide +kernel
theorem dX5_deliverSlits_9 : decode cX5_deliverSlits 9 = .ok (.if_icmp .ge 62, 3) := by decide +kernel
theorem dX5_deliverSlits_12 : decode cX5_deliverSlits 12 = .ok (.aload_n 0, 1) := by decide +kernel
theorem dX5_deliverSlits_13 : decode cX5_deliverSlits 13 = .ok (.aload_n 1, 1) := by decide +kernel
theorem dX5_deliverSlits_14 : decode cX5_deliverSlits 14 = .ok (.getfield 302, 3) := by decide +kernel
theorem dX5_deliverSlits_17 : decode cX5_deliverSlits 17 = .ok (.iload_n 3, 1) := by decide +kernel
theorem dX5_deliverSlits_18 : decode cX5_deliverSlits 18 = .ok (.iaload, 1) := by decide +kernel
theorem dX5_deliverSlits_19 : decode cX5_deliverSlits 19 = .ok (.aload_n 1, 1) := by decide +kernel
theorem dX5_deliverSlits_20 : decode cX5_deliverSlits 20 = .ok (.getfield 287, 3) := by decide +kernel
theorem dX5_deliverSlits_23 : decode cX5_deliverSlits 23 = .ok (.invokevirtual 305, 3) := by decide +kernel
theorem dX5_deliverSlits_26 : decode cX5_deliverSlits 26 = .ok (.istore 4, 2) := by decide +kernel
theorem dX5_deliverSlits_28 : decode cX5_deliverSlits 28 = .ok (.aload_n 1, 1) := by decide +kernel
theorem dX5_deliverSlits_29 : decode cX5_deliverSlits 29 = .ok (.getfield 231, 3) := by decide +kernel
theorem dX5_deliverSlits_32 : decode cX5_deliverSlits 32 = .ok (.iload_n 3, 1) := by decide +kernel
theorem dX5_deliverSlits_33 : decode cX5_deliverSlits 33 = .ok (.iload 4, 2) := by decide +kernel
theorem dX5_deliverSlits_35 : decode cX5_deliverSlits 35 = .ok (.iastore, 1) := by decide +kernel
theorem dX5_deliverSlits_36 : decode cX5_deliverSlits 36 = .ok (.iload 4, 2) := by decide +kernel
theorem dX5_deliverSlits_38 : decode cX5_deliverSlits 38 = .ok (.iconst (-1), 1) := by decide +kernel
theorem dX5_deliverSlits_39 : decode cX5_deliverSlits 39 = .ok (.if_icmp .eq 26, 3) := by decide +kernel
theorem dX5_deliverSlits_42 : decode cX5_deliverSlits 42 = .ok (.aload_n 0, 1) := by decide +kernel
theorem dX5_deliverSlits_43 : decode cX5_deliverSlits 43 = .ok (.getfield 21, 3) := by decide +kernel
theorem dX5_deliverSlits_46 : decode cX5_deliverSlits 46 = .ok (.iload 4, 2) := by decide +kernel
theorem dX5_deliverSlits_48 : decode cX5_deliverSlits 48 = .ok (.aaload, 1) := by decide +kernel
theorem dX5_deliverSlits_49 : decode cX5_deliverSlits 49 = .ok (.aload_n 1, 1) := by decide +kernel
theorem dX5_deliverSlits_50 : decode cX5_deliverSlits 50 = .ok (.getfield 228, 3) := by decide +kernel
theorem dX5_deliverSlits_53 : decode cX5_deliverSlits 53 = .ok (.iload_n 3, 1) := by decide +kernel
theorem dX5_deliverSlits_54 : decode cX5_deliverSlits 54 = .ok (.iaload, 1) := by decide +kernel
theorem dX5_deliverSlits_55 : decode cX5_deliverSlits 55 = .ok (.aload_n 1, 1) := by decide +kernel
theorem dX5_deliverSlits_56 : decode cX5_deliverSlits 56 = .ok (.getfield 287, 3) := by decide +kernel
theorem dX5_deliverSlits_59 : decode cX5_deliverSlits 59 = .ok (.invokevirtual 308, 3) := by decide +kernel
theorem dX5_deliverSlits_62 : decode cX5_deliverSlits 62 = .ok (.iinc 2 1, 3) := by decide +kernel
theorem dX5_deliverSlits_65 : decode cX5_deliverSlits 65 = .ok (.iinc 3 1, 3) := by decide +kernel
theorem dX5_deliverSlits_68 : decode cX5_deliverSlits 68 = .ok (.goto (-64), 3) := by decide +kernel
theorem dX5_deliverSlits_71 : decode cX5_deliverSlits 71 = .ok (.iload_n 2, 1) := by decide +kernel
theorem dX5_deliverSlits_72 : decode cX5_deliverSlits 72 = .ok (.ireturn, 1) := by decide +kernel
theorem dX5_takerOf_0 : decode cX5_takerOf 0 = .ok (.iconst 0, 1) := by decide +kernel
theorem dX5_takerOf_1 : decode cX5_takerOf 1 = .ok (.istore_n 3, 1) := by decide +kernel
theorem dX5_takerOf_2 : decode cX5_takerOf 2 = .ok (.iload_n 3, 1) := by decide +kernel
theorem dX5_takerOf_3 : decode cX5_takerOf 3 = .ok (.aload_n 0, 1) := by decide +kernel
theorem dX5_takerOf_4 : decode cX5_takerOf 4 = .ok (.getfield 25, 3) := by decide +kernel
theorem dX5_takerOf_7 : decode cX5_takerOf 7 = .ok (.if_icmp .ge 37, 3) := by decide +kernel
theorem dX5_takerOf_10 : decode cX5_takerOf 10 = .ok (.aload_n 0, 1) := by decide +kernel
theorem dX5_takerOf_11 : decode cX5_takerOf 11 = .ok (.getfield 21, 3) := by decide +kernel
theorem dX5_takerOf_14 : decode cX5_takerOf 14 = .ok (.iload_n 3, 1) := by decide +kernel
theorem dX5_takerOf_15 : decode cX5_takerOf 15 = .ok (.aaload, 1) := by decide +kernel
theorem dX5_takerOf_16 : decode cX5_takerOf 16 = .ok (.getfield 291, 3) := by decide +kernel
theorem dX5_takerOf_19 : decode cX5_takerOf 19 = .ok (.iload_n 1, 1) := by decide +kernel
theorem dX5_takerOf_20 : decode cX5_takerOf 20 = .ok (.if_icmp .ne 18, 3) := by decide +kernel
theorem dX5_takerOf_23 : decode cX5_takerOf 23 = .ok (.aload_n 0, 1) := by decide +kernel
theorem dX5_takerOf_24 : decode cX5_takerOf 24 = .ok (.getfield 21, 3) := by decide +kernel
theorem dX5_takerOf_27 : decode cX5_takerOf 27 = .ok (.iload_n 3, 1) := by decide +kernel
theorem dX5_takerOf_28 : decode cX5_takerOf 28 = .ok (.aaload, 1) := by decide +kernel
theorem dX5_takerOf_29 : decode cX5_takerOf 29 = .ok (.iload_n 2, 1) := by decide +kernel
theorem dX5_takerOf_30 : decode cX5_takerOf 30 = .ok (.invokevirtual 288, 3) := by decide +kernel
theorem dX5_takerOf_33 : decode cX5_takerOf 33 = .ok (.ifCond .eq 5, 3) := by decide +kernel
theorem dX5_takerOf_36 : decode cX5_takerOf 36 = .ok (.iload_n 3, 1) := by decide +kernel
theorem dX5_takerOf_37 : decode cX5_takerOf 37 = .ok (.ireturn, 1) := by decide +kernel
theorem dX5_takerOf_38 : decode cX5_takerOf 38 = .ok (.iinc 3 1, 3) := by decide +kernel
theorem dX5_takerOf_41 : decode cX5_takerOf 41 = .ok (.goto (-39), 3) := by decide +kernel
theorem dX5_takerOf_44 : decode cX5_takerOf 44 = .ok (.iconst (-1), 1) := by decide +kernel
theorem dX5_takerOf_45 : decode cX5_takerOf 45 = .ok (.ireturn, 1) := by decide +kernel
theorem dX5_movesBetween_0 : decode cX5_movesBetween 0 = .ok (.aload_n 0, 1) := by decide +kernel
theorem dX5_movesBetween_1 : decode cX5_movesBetween 1 = .ok (.iload_n 2, 1) := by decide +kernel
theorem dX5_movesBetween_2 : decode cX5_movesBetween 2 = .ok (.invokevirtual 265, 3) := by decide +kernel
theorem dX5_movesBetween_5 : decode cX5_movesBetween 5 = .ok (.ifCond .ne 5, 3) := by decide +kernel
theorem dX5_movesBetween_8 : decode cX5_movesBetween 8 = .ok (.iconst 0, 1) := by decide +kernel
theorem dX5_movesBetween_9 : decode cX5_movesBetween 9 = .ok (.ireturn, 1) := by decide +kernel
theorem dX5_movesBetween_10 : decode cX5_movesBetween 10 = .ok (.aload_n 0, 1) := by decide +kernel
theorem dX5_movesBetween_11 : decode cX5_movesBetween 11 = .ok (.iload_n 1, 1) := by decide +kernel
theorem dX5_movesBetween_12 : decode cX5_movesBetween 12 = .ok (.invokevirtual 265, 3) := by decide +kernel
theorem dX5_movesBetween_15 : decode cX5_movesBetween 15 = .ok (.ifCond .ne 13, 3) := by decide +kernel
theorem dX5_movesBetween_18 : decode cX5_movesBetween 18 = .ok (.aload_n 0, 1) := by decide +kernel
theorem dX5_movesBetween_19 : decode cX5_movesBetween 19 = .ok (.getfield 30, 3) := by decide +kernel
theorem dX5_movesBetween_22 : decode cX5_movesBetween 22 = .ok (.iload_n 2, 1) := by decide +kernel
theorem dX5_movesBetween_23 : decode cX5_movesBetween 23 = .ok (.aaload, 1) := by decide +kernel
theorem dX5_movesBetween_24 : decode cX5_movesBetween 24 = .ok (.invokevirtual 281, 3) := by decide +kernel
theorem dX5_movesBetween_27 : decode cX5_movesBetween 27 = .ok (.ireturn, 1) := by decide +kernel
theorem dX5_movesBetween_28 : decode cX5_movesBetween 28 = .ok (.aload_n 0, 1) := by decide +kernel
theorem dX5_movesBetween_29 : decode cX5_movesBetween 29 = .ok (.getfield 30, 3) := by decide +kernel
theorem dX5_movesBetween_32 : decode cX5_movesBetween 32 = .ok (.iload_n 2, 1) := by decide +kernel
theorem dX5_movesBetween_33 : decode cX5_movesBetween 33 = .ok (.aaload, 1) := by decide +kernel
theorem dX5_movesBetween_34 : decode cX5_movesBetween 34 = .ok (.aload_n 0, 1) := by decide +kernel
theorem dX5_movesBetween_35 : decode cX5_movesBetween 35 = .ok (.getfield 30, 3) := by decide +kernel
theorem dX5_movesBetween_38 : decode cX5_movesBetween 38 = .ok (.iload_n 1, 1) := by decide +kernel
theorem dX5_movesBetween_39 : decode cX5_movesBetween 39 = .ok (.aaload, 1) := by decide +kernel
theorem dX5_movesBetween_40 : decode cX5_movesBetween 40 = .ok (.invokevirtual 311, 3) := by decide +kernel
theorem dX5_movesBetween_43 : decode cX5_movesBetween 43 = .ok (.ireturn, 1) := by decide +kernel
theorem dX5_coilWaits_0 : decode cX5_coilWaits 0 = .ok (.iconst 0, 1) := by decide +kernel
theorem dX5_coilWaits_1 : decode cX5_coilWaits 1 = .ok (.istore_n 2, 1) := by decide +kernel
theorem dX5_coilWaits_2 : decode cX5_coilWaits 2 = .ok (.iload_n 2, 1) := by decide +kernel
theorem dX5_coilWaits_3 : decode cX5_coilWaits 3 = .ok (.aload_n 0, 1) := by decide +kernel
theorem dX5_coilWaits_4 : decode cX5_coilWaits 4 = .ok (.getfield 64, 3) := by decide +kernel
theorem dX5_coilWaits_7 : decode cX5_coilWaits 7 = .ok (.if_icmp .ge 21, 3) := by decide +kernel
theorem dX5_coilWaits_10 : decode cX5_coilWaits 10 = .ok (.aload_n 0, 1) := by decide +kernel
theorem dX5_coilWaits_11 : decode cX5_coilWaits 11 = .ok (.getfield 57, 3) := by decide +kernel
theorem dX5_coilWaits_14 : decode cX5_coilWaits 14 = .ok (.iload_n 2, 1) := by decide +kernel
theorem dX5_coilWaits_15 : decode cX5_coilWaits 15 = .ok (.iaload, 1) := by decide +kernel
theorem dX5_coilWaits_16 : decode cX5_coilWaits 16 = .ok (.iload_n 1, 1) := by decide +kernel
theorem dX5_coilWaits_17 : decode cX5_coilWaits 17 = .ok (.if_icmp .ne 5, 3) := by decide +kernel
theorem dX5_coilWaits_20 : decode cX5_coilWaits 20 = .ok (.iconst 1, 1) := by decide +kernel
theorem dX5_coilWaits_21 : decode cX5_coilWaits 21 = .ok (.ireturn, 1) := by decide +kernel
theorem dX5_coilWaits_22 : decode cX5_coilWaits 22 = .ok (.iinc 2 1, 3) := by decide +kernel
theorem dX5_coilWaits_25 : decode cX5_coilWaits 25 = .ok (.goto (-23), 3) := by decide +kernel
theorem dX5_coilWaits_28 : decode cX5_coilWaits 28 = .ok (.iconst 0, 1) := by decide +kernel
theorem dX5_coilWaits_29 : decode cX5_coilWaits 29 = .ok (.ireturn, 1) := by decide +kernel
theorem dX5_readMoves_0 : decode cX5_readMoves 0 = .ok (.iconst 0, 1) := by decide +kernel
theorem dX5_readMoves_1 : decode cX5_readMoves 1 = .ok (.istore_n 1, 1) := by decide +kernel
theorem dX5_readMoves_2 : decode cX5_readMoves 2 = .ok (.iload_n 1, 1) := by decide +kernel
theorem dX5_readMoves_3 : decode cX5_readMoves 3 = .ok (.aload_n 0, 1) := by decide +kernel
theorem dX5_readMoves_4 : decode cX5_readMoves 4 = .ok (.getfield 64, 3) := by decide +kernel
theorem dX5_readMoves_7 : decode cX5_readMoves 7 = .ok (.if_icmp .ge 78, 3) := by decide +kernel
theorem dX5_readMoves_10 : decode cX5_readMoves 10 = .ok (.aload_n 0, 1) := by decide +kernel
theorem dX5_readMoves_11 : decode cX5_readMoves 11 = .ok (.getfield 77, 3) := by decide +kernel
theorem dX5_readMoves_14 : decode cX5_readMoves 14 = .ok (.getfield 315, 3) := by decide +kernel
theorem dX5_readMoves_17 : decode cX5_readMoves 17 = .ok (.bipush 7, 2) := by decide +kernel
theorem dX5_readMoves_19 : decode cX5_readMoves 19 = .ok (.aaload, 1) := by decide +kernel
theorem dX5_readMoves_20 : decode cX5_readMoves 20 = .ok (.iload_n 1, 1) := by decide +kernel
theorem dX5_readMoves_21 : decode cX5_readMoves 21 = .ok (.aload_n 0, 1) := by decide +kernel
theorem dX5_readMoves_22 : decode cX5_readMoves 22 = .ok (.aload_n 0, 1) := by decide +kernel
theorem dX5_readMoves_23 : decode cX5_readMoves 23 = .ok (.getfield 51, 3) := by decide +kernel
theorem dX5_readMoves_26 : decode cX5_readMoves 26 = .ok (.aload_n 0, 1) := by decide +kernel
theorem dX5_readMoves_27 : decode cX5_readMoves 27 = .ok (.getfield 61, 3) := by decide +kernel
theorem dX5_readMoves_30 : decode cX5_readMoves 30 = .ok (.iload_n 1, 1) := by decide +kernel
theorem dX5_readMoves_31 : decode cX5_readMoves 31 = .ok (.iaload, 1) := by decide +kernel
theorem dX5_readMoves_32 : decode cX5_readMoves 32 = .ok (.invokevirtual 196, 3) := by decide +kernel
theorem dX5_readMoves_35 : decode cX5_readMoves 35 = .ok (.iastore, 1) := by decide +kernel
theorem dX5_readMoves_36 : decode cX5_readMoves 36 = .ok (.iconst 0, 1) := by decide +kernel
theorem dX5_readMoves_37 : decode cX5_readMoves 37 = .ok (.istore_n 2, 1) := by decide +kernel
theorem dX5_readMoves_38 : decode cX5_readMoves 38 = .ok (.iload_n 2, 1) := by decide +kernel
theorem dX5_readMoves_39 : decode cX5_readMoves 39 = .ok (.aload_n 0, 1) := by decide +kernel
theorem dX5_readMoves_40 : decode cX5_readMoves 40 = .ok (.getfield 64, 3) := by decide +kernel
theorem dX5_readMoves_43 : decode cX5_readMoves 43 = .ok (.if_icmp .ge 36, 3) := by decide +kernel
theorem dX5_readMoves_46 : decode cX5_readMoves 46 = .ok (.aload_n 0, 1) := by decide +kernel
theorem dX5_readMoves_47 : decode cX5_readMoves 47 = .ok (.getfield 77, 3) := by decide +kernel
theorem dX5_readMoves_50 : decode cX5_readMoves 50 = .ok (.getfield 315, 3) := by decide +kernel
theorem dX5_readMoves_53 : decode cX5_readMoves 53 = .ok (.iload_n 2, 1) := by decide +kernel
theorem dX5_readMoves_54 : decode cX5_readMoves 54 = .ok (.aaload, 1) := by decide +kernel
theorem dX5_readMoves_55 : decode cX5_readMoves 55 = .ok (.iload_n 1, 1) := by decide +kernel
theorem dX5_readMoves_56 : decode cX5_readMoves 56 = .ok (.aload_n 0, 1) := by decide +kernel
theorem dX5_readMoves_57 : decode cX5_readMoves 57 = .ok (.aload_n 0, 1) := by decide +kernel
theorem dX5_readMoves_58 : decode cX5_readMoves 58 = .ok (.getfield 61, 3) := by decide +kernel
theorem dX5_readMoves_61 : decode cX5_readMoves 61 = .ok (.iload_n 2, 1) := by decide +kernel
theorem dX5_readMoves_62 : decode cX5_readMoves 62 = .ok (.iaload, 1) := by decide +kernel
theorem dX5_readMoves_63 : decode cX5_readMoves 63 = .ok (.aload_n 0, 1) := by decide +kernel
theorem dX5_readMoves_64 : decode cX5_readMoves 64 = .ok (.getfield 61, 3) := by decide +kernel
theorem dX5_readMoves_67 : decode cX5_readMoves 67 = .ok (.iload_n 1, 1) := by decide +kernel
theorem dX5_readMoves_68 : decode cX5_readMoves 68 = .ok (.iaload, 1) := by decide +kernel
theorem dX5_readMoves_69 : decode cX5_readMoves 69 = .ok (.invokevirtual 196, 3) := by decide +kernel
theorem dX5_readMoves_72 : decode cX5_readMoves 72 = .ok (.iastore, 1) := by decide +kernel
theorem dX5_readMoves_73 : decode cX5_readMoves 73 = .ok (.iinc 2 1, 3) := by decide +kernel
theorem dX5_readMoves_76 : decode cX5_readMoves 76 = .ok (.goto (-38), 3) := by decide +kernel
theorem dX5_readMoves_79 : decode cX5_readMoves 79 = .ok (.iinc 1 1, 3) := by decide +kernel
theorem dX5_readMoves_82 : decode cX5_readMoves 82 = .ok (.goto (-80), 3) := by decide +kernel
theorem dX5_readMoves_85 : decode cX5_readMoves 85 = .ok (.return_, 1) := by decide +kernel

theorem dX6_order_94 : decode cX6_order 94 = .ok (.iconst 1, 1) := by decide +kernel
theorem dX6_order_95 : decode cX6_order 95 = .ok (.isub, 1) := by decide +kernel
theorem dX6_order_96 : decode cX6_order 96 = .ok (.ireturn, 1) := by decide +kernel
theorem dX6_drafts_0 : decode cX6_drafts 0 = .ok (.aload_n 0, 1) := by decide +kernel
theorem dX6_drafts_1 : decode cX6_drafts 1 = .ok (.getfield 53, 3) := by decide +kernel
theorem dX6_drafts_4 : decode cX6_drafts 4 = .ok (.sipush 150, 3) := by decide +kernel
theorem dX6_drafts_7 : decode cX6_drafts 7 = .ok (.aload_n 0, 1) := by decide +kernel
theorem dX6_drafts_8 : decode cX6_drafts 8 = .ok (.getfield 56, 3) := by decide +kernel
theorem dX6_drafts_11 : decode cX6_drafts 11 = .ok (.bipush 10, 2) := by decide +kernel
theorem dX6_drafts_13 : decode cX6_drafts 13 = .ok (.iaload, 1) := by decide +kernel
theorem dX6_drafts_14 : decode cX6_drafts 14 = .ok (.iadd, 1) := by decide +kernel
theorem dX6_drafts_15 : decode cX6_drafts 15 = .ok (.iload_n 1, 1) := by decide +kernel
theorem dX6_drafts_16 : decode cX6_drafts 16 = .ok (.iastore, 1) := by decide +kernel
theorem dX6_drafts_17 : decode cX6_drafts 17 = .ok (.aload_n 0, 1) := by decide +kernel
theorem dX6_drafts_18 : decode cX6_drafts 18 = .ok (.getfield 56, 3) := by decide +kernel
theorem dX6_drafts_21 : decode cX6_drafts 21 = .ok (.bipush 10, 2) := by decide +kernel
theorem dX6_drafts_23 : decode cX6_drafts 23 = .ok (.dup2, 1) := by decide +kernel
theorem dX6_drafts_24 : decode cX6_drafts 24 = .ok (.iaload, 1) := by decide +kernel
theorem dX6_drafts_25 : decode cX6_drafts 25 = .ok (.iconst 1, 1) := by decide +kernel
theorem dX6_drafts_26 : decode cX6_drafts 26 = .ok (.iadd, 1) := by decide +kernel
theorem dX6_drafts_27 : decode cX6_drafts 27 = .ok (.iastore, 1) := by decide +kernel
theorem dX6_drafts_28 : decode cX6_drafts 28 = .ok (.return_, 1) := by decide +kernel
theorem dX6_addSlit_0 : decode cX6_addSlit 0 = .ok (.aload_n 0, 1) := by decide +kernel
theorem dX6_addSlit_1 : decode cX6_addSlit 1 = .ok (.iload_n 1, 1) := by decide +kernel
theorem dX6_addSlit_2 : decode cX6_addSlit 2 = .ok (.bipush 20, 2) := by decide +kernel
theorem dX6_addSlit_4 : decode cX6_addSlit 4 = .ok (.sipush 1000, 3) := by decide +kernel
theorem dX6_addSlit_7 : decode cX6_addSlit 7 = .ok (.invokestatic 95, 3) := by decide +kernel
theorem dX6_addSlit_10 : decode cX6_addSlit 10 = .ok (.aload_n 0, 1) := by decide +kernel
theorem dX6_addSlit_11 : decode cX6_addSlit 11 = .ok (.getfield 56, 3) := by decide +kernel
theorem dX6_addSlit_14 : decode cX6_addSlit 14 = .ok (.bipush 10, 2) := by decide +kernel
theorem dX6_addSlit_16 : decode cX6_addSlit 16 = .ok (.iaload, 1) := by decide +kernel
theorem dX6_addSlit_17 : decode cX6_addSlit 17 = .ok (.bipush 15, 2) := by decide +kernel
theorem dX6_addSlit_19 : decode cX6_addSlit 19 = .ok (.if_icmp .ge 7, 3) := by decide +kernel
theorem dX6_addSlit_22 : decode cX6_addSlit 22 = .ok (.iconst 1, 1) := by decide +kernel
theorem dX6_addSlit_23 : decode cX6_addSlit 23 = .ok (.goto 4, 3) := by decide +kernel
theorem dX6_addSlit_26 : decode cX6_addSlit 26 = .ok (.iconst 0, 1) := by decide +kernel
theorem dX6_addSlit_27 : decode cX6_addSlit 27 = .ok (.invokevirtual 102, 3) := by decide +kernel
theorem dX6_addSlit_30 : decode cX6_addSlit 30 = .ok (.ifCond .ne 5, 3) := by decide +kernel
theorem dX6_addSlit_33 : decode cX6_addSlit 33 = .ok (.iconst 0, 1) := by decide +kernel
theorem dX6_addSlit_34 : decode cX6_addSlit 34 = .ok (.ireturn, 1) := by decide +kernel
theorem dX6_addSlit_35 : decode cX6_addSlit 35 = .ok (.aload_n 0, 1) := by decide +kernel
theorem dX6_addSlit_36 : decode cX6_addSlit 36 = .ok (.iload_n 1, 1) := by decide +kernel
theorem dX6_addSlit_37 : decode cX6_addSlit 37 = .ok (.invokevirtual 124, 3) := by decide +kernel
theorem dX6_addSlit_40 : decode cX6_addSlit 40 = .ok (.aload_n 0, 1) := by decide +kernel
theorem dX6_addSlit_41 : decode cX6_addSlit 41 = .ok (.getfield 56, 3) := by decide +kernel
theorem dX6_addSlit_44 : decode cX6_addSlit 44 = .ok (.bipush 10, 2) := by decide +kernel
theorem dX6_addSlit_46 : decode cX6_addSlit 46 = .ok (.iaload, 1) := by decide +kernel
theorem dX6_addSlit_47 : decode cX6_addSlit 47 = .ok (.ireturn, 1) := by decide +kernel
theorem dX6_clearDraft_0 : decode cX6_clearDraft 0 = .ok (.aload_n 0, 1) := by decide +kernel
theorem dX6_clearDraft_1 : decode cX6_clearDraft 1 = .ok (.getfield 56, 3) := by decide +kernel
theorem dX6_clearDraft_4 : decode cX6_clearDraft 4 = .ok (.bipush 10, 2) := by decide +kernel
theorem dX6_clearDraft_6 : decode cX6_clearDraft 6 = .ok (.iaload, 1) := by decide +kernel
theorem dX6_clearDraft_7 : decode cX6_clearDraft 7 = .ok (.istore_n 1, 1) := by decide +kernel
theorem dX6_clearDraft_8 : decode cX6_clearDraft 8 = .ok (.aload_n 0, 1) := by decide +kernel
theorem dX6_clearDraft_9 : decode cX6_clearDraft 9 = .ok (.getfield 56, 3) := by decide +kernel
theorem dX6_clearDraft_12 : decode cX6_clearDraft 12 = .ok (.bipush 10, 2) := by decide +kernel
theorem dX6_clearDraft_14 : decode cX6_clearDraft 14 = .ok (.iconst 0, 1) := by decide +kernel
theorem dX6_clearDraft_15 : decode cX6_clearDraft 15 = .ok (.iastore, 1) := by decide +kernel
theorem dX6_clearDraft_16 : decode cX6_clearDraft 16 = .ok (.aload_n 0, 1) := by decide +kernel
theorem dX6_clearDraft_17 : decode cX6_clearDraft 17 = .ok (.iload_n 1, 1) := by decide +kernel
theorem dX6_clearDraft_18 : decode cX6_clearDraft 18 = .ok (.invokevirtual 128, 3) := by decide +kernel
theorem dX6_clearDraft_21 : decode cX6_clearDraft 21 = .ok (.ireturn, 1) := by decide +kernel
theorem dX6_draftSlits_0 : decode cX6_draftSlits 0 = .ok (.aload_n 0, 1) := by decide +kernel
theorem dX6_draftSlits_1 : decode cX6_draftSlits 1 = .ok (.aload_n 0, 1) := by decide +kernel
theorem dX6_draftSlits_2 : decode cX6_draftSlits 2 = .ok (.getfield 56, 3) := by decide +kernel
theorem dX6_draftSlits_5 : decode cX6_draftSlits 5 = .ok (.bipush 10, 2) := by decide +kernel
theorem dX6_draftSlits_7 : decode cX6_draftSlits 7 = .ok (.iaload, 1) := by decide +kernel
theorem dX6_draftSlits_8 : decode cX6_draftSlits 8 = .ok (.invokevirtual 128, 3) := by decide +kernel
theorem dX6_draftSlits_11 : decode cX6_draftSlits 11 = .ok (.ireturn, 1) := by decide +kernel
theorem dX6_draftWidth_0 : decode cX6_draftWidth 0 = .ok (.aload_n 0, 1) := by decide +kernel
theorem dX6_draftWidth_1 : decode cX6_draftWidth 1 = .ok (.iload_n 1, 1) := by decide +kernel
theorem dX6_draftWidth_2 : decode cX6_draftWidth 2 = .ok (.iconst 0, 1) := by decide +kernel
theorem dX6_draftWidth_3 : decode cX6_draftWidth 3 = .ok (.aload_n 0, 1) := by decide +kernel
theorem dX6_draftWidth_4 : decode cX6_draftWidth 4 = .ok (.getfield 56, 3) := by decide +kernel
theorem dX6_draftWidth_7 : decode cX6_draftWidth 7 = .ok (.bipush 10, 2) := by decide +kernel
theorem dX6_draftWidth_9 : decode cX6_draftWidth 9 = .ok (.iaload, 1) := by decide +kernel
theorem dX6_draftWidth_10 : decode cX6_draftWidth 10 = .ok (.iconst 1, 1) := by decide +kernel
theorem dX6_draftWidth_11 : decode cX6_draftWidth 11 = .ok (.isub, 1) := by decide +kernel
theorem dX6_draftWidth_12 : decode cX6_draftWidth 12 = .ok (.invokestatic 95, 3) := by decide +kernel
theorem dX6_draftWidth_15 : decode cX6_draftWidth 15 = .ok (.invokevirtual 117, 3) := by decide +kernel
theorem dX6_draftWidth_18 : decode cX6_draftWidth 18 = .ok (.ifCond .eq 16, 3) := by decide +kernel
theorem dX6_draftWidth_21 : decode cX6_draftWidth 21 = .ok (.aload_n 0, 1) := by decide +kernel
theorem dX6_draftWidth_22 : decode cX6_draftWidth 22 = .ok (.getfield 53, 3) := by decide +kernel
theorem dX6_draftWidth_25 : decode cX6_draftWidth 25 = .ok (.sipush 150, 3) := by decide +kernel
theorem dX6_draftWidth_28 : decode cX6_draftWidth 28 = .ok (.iload_n 1, 1) := by decide +kernel
theorem dX6_draftWidth_29 : decode cX6_draftWidth 29 = .ok (.iadd, 1) := by decide +kernel
theorem dX6_draftWidth_30 : decode cX6_draftWidth 30 = .ok (.iaload, 1) := by decide +kernel
theorem dX6_draftWidth_31 : decode cX6_draftWidth 31 = .ok (.goto 4, 3) := by decide +kernel
theorem dX6_draftWidth_34 : decode cX6_draftWidth 34 = .ok (.iconst 0, 1) := by decide +kernel
theorem dX6_draftWidth_35 : decode cX6_draftWidth 35 = .ok (.ireturn, 1) := by decide +kernel
theorem dX6_keep_0 : decode cX6_keep 0 = .ok (.aload_n 0, 1) := by decide +kernel
theorem dX6_keep_1 : decode cX6_keep 1 = .ok (.aload_n 0, 1) := by decide +kernel
theorem dX6_keep_2 : decode cX6_keep 2 = .ok (.getfield 56, 3) := by decide +kernel
theorem dX6_keep_5 : decode cX6_keep 5 = .ok (.bipush 10, 2) := by decide +kernel
theorem dX6_keep_7 : decode cX6_keep 7 = .ok (.iaload, 1) := by decide +kernel
theorem dX6_keep_8 : decode cX6_keep 8 = .ok (.ifCond .le 16, 3) := by decide +kernel
theorem dX6_keep_11 : decode cX6_keep 11 = .ok (.aload_n 0, 1) := by decide +kernel
theorem dX6_keep_12 : decode cX6_keep 12 = .ok (.getfield 99, 3) := by decide +kernel
theorem dX6_keep_15 : decode cX6_keep 15 = .ok (.bipush 10, 2) := by decide +kernel
theorem dX6_keep_17 : decode cX6_keep 17 = .ok (.if_icmp .ge 7, 3) := by decide +kernel
theorem dX6_keep_20 : decode cX6_keep 20 = .ok (.iconst 1, 1) := by decide +kernel
theorem dX6_keep_21 : decode cX6_keep 21 = .ok (.goto 4, 3) := by decide +kernel
theorem dX6_keep_24 : decode cX6_keep 24 = .ok (.iconst 0, 1) := by decide +kernel
theorem dX6_keep_25 : decode cX6_keep 25 = .ok (.invokevirtual 117, 3) := by decide +kernel
theorem dX6_keep_28 : decode cX6_keep 28 = .ok (.ifCond .ne 5, 3) := by decide +kernel
theorem dX6_keep_31 : decode cX6_keep 31 = .ok (.iconst 0, 1) := by decide +kernel
theorem dX6_keep_32 : decode cX6_keep 32 = .ok (.ireturn, 1) := by decide +kernel
theorem dX6_keep_33 : decode cX6_keep 33 = .ok (.aload_n 0, 1) := by decide +kernel
theorem dX6_keep_34 : decode cX6_keep 34 = .ok (.getfield 56, 3) := by decide +kernel
theorem dX6_keep_37 : decode cX6_keep 37 = .ok (.aload_n 0, 1) := by decide +kernel
theorem dX6_keep_38 : decode cX6_keep 38 = .ok (.getfield 99, 3) := by decide +kernel
theorem dX6_keep_41 : decode cX6_keep 41 = .ok (.aload_n 0, 1) := by decide +kernel
theorem dX6_keep_42 : decode cX6_keep 42 = .ok (.getfield 56, 3) := by decide +kernel
theorem dX6_keep_45 : decode cX6_keep 45 = .ok (.bipush 10, 2) := by decide +kernel
theorem dX6_keep_47 : decode cX6_keep 47 = .ok (.iaload, 1) := by decide +kernel
theorem dX6_keep_48 : decode cX6_keep 48 = .ok (.iastore, 1) := by decide +kernel
theorem dX6_keep_49 : decode cX6_keep 49 = .ok (.iconst 0, 1) := by decide +kernel
theorem dX6_keep_50 : decode cX6_keep 50 = .ok (.istore_n 1, 1) := by decide +kernel
theorem dX6_keep_51 : decode cX6_keep 51 = .ok (.iload_n 1, 1) := by decide +kernel
theorem dX6_keep_52 : decode cX6_keep 52 = .ok (.aload_n 0, 1) := by decide +kernel
theorem dX6_keep_53 : decode cX6_keep 53 = .ok (.getfield 56, 3) := by decide +kernel
theorem dX6_keep_56 : decode cX6_keep 56 = .ok (.bipush 10, 2) := by decide +kernel
theorem dX6_keep_58 : decode cX6_keep 58 = .ok (.iaload, 1) := by decide +kernel
theorem dX6_keep_59 : decode cX6_keep 59 = .ok (.if_icmp .ge 33, 3) := by decide +kernel
theorem dX6_keep_62 : decode cX6_keep 62 = .ok (.aload_n 0, 1) := by decide +kernel
theorem dX6_keep_63 : decode cX6_keep 63 = .ok (.getfield 53, 3) := by decide +kernel
theorem dX6_keep_66 : decode cX6_keep 66 = .ok (.bipush 15, 2) := by decide +kernel
theorem dX6_keep_68 : decode cX6_keep 68 = .ok (.aload_n 0, 1) := by decide +kernel
theorem dX6_keep_69 : decode cX6_keep 69 = .ok (.getfield 99, 3) := by decide +kernel
theorem dX6_keep_72 : decode cX6_keep 72 = .ok (.imul, 1) := by decide +kernel
theorem dX6_keep_73 : decode cX6_keep 73 = .ok (.iload_n 1, 1) := by decide +kernel
theorem dX6_keep_74 : decode cX6_keep 74 = .ok (.iadd, 1) := by decide +kernel
theorem dX6_keep_75 : decode cX6_keep 75 = .ok (.aload_n 0, 1) := by decide +kernel
theorem dX6_keep_76 : decode cX6_keep 76 = .ok (.getfield 53, 3) := by decide +kernel
theorem dX6_keep_79 : decode cX6_keep 79 = .ok (.sipush 150, 3) := by decide +kernel
theorem dX6_keep_82 : decode cX6_keep 82 = .ok (.iload_n 1, 1) := by decide +kernel
theorem dX6_keep_83 : decode cX6_keep 83 = .ok (.iadd, 1) := by decide +kernel
theorem dX6_keep_84 : decode cX6_keep 84 = .ok (.iaload, 1) := by decide +kernel
theorem dX6_keep_85 : decode cX6_keep 85 = .ok (.iastore, 1) := by decide +kernel
theorem dX6_keep_86 : decode cX6_keep 86 = .ok (.iinc 1 1, 3) := by decide +kernel
theorem dX6_keep_89 : decode cX6_keep 89 = .ok (.goto (-38), 3) := by decide +kernel
theorem dX6_keep_92 : decode cX6_keep 92 = .ok (.aload_n 0, 1) := by decide +kernel
theorem dX6_keep_93 : decode cX6_keep 93 = .ok (.getfield 56, 3) := by decide +kernel
theorem dX6_keep_96 : decode cX6_keep 96 = .ok (.bipush 10, 2) := by decide +kernel
theorem dX6_keep_98 : decode cX6_keep 98 = .ok (.iconst 0, 1) := by decide +kernel
theorem dX6_keep_99 : decode cX6_keep 99 = .ok (.iastore, 1) := by decide +kernel
theorem dX6_keep_100 : decode cX6_keep 100 = .ok (.aload_n 0, 1) := by decide +kernel
theorem dX6_keep_101 : decode cX6_keep 101 = .ok (.dup, 1) := by decide +kernel
theorem dX6_keep_102 : decode cX6_keep 102 = .ok (.getfield 99, 3) := by decide +kernel
theorem dX6_keep_105 : decode cX6_keep 105 = .ok (.iconst 1, 1) := by decide +kernel
theorem dX6_keep_106 : decode cX6_keep 106 = .ok (.iadd, 1) := by decide +kernel
theorem dX6_keep_107 : decode cX6_keep 107 = .ok (.putfield 99, 3) := by decide +kernel
theorem dX6_keep_110 : decode cX6_keep 110 = .ok (.aload_n 0, 1) := by decide +kernel
theorem dX6_keep_111 : decode cX6_keep 111 = .ok (.getfield 99, 3) := by decide +kernel
theorem dX6_keep_114 : decode cX6_keep 114 = .ok (.iconst 1, 1) := by decide +kernel
theorem dX6_keep_115 : decode cX6_keep 115 = .ok (.isub, 1) := by decide +kernel
theorem dX6_keep_116 : decode cX6_keep 116 = .ok (.ireturn, 1) := by decide +kernel
theorem dX6_canRun_0 : decode cX6_canRun 0 = .ok (.iconst 2, 1) := by decide +kernel
theorem dX6_canRun_1 : decode cX6_canRun 1 = .ok (.aload_n 0, 1) := by decide +kernel
theorem dX6_canRun_2 : decode cX6_canRun 2 = .ok (.getfield 31, 3) := by decide +kernel
theorem dX6_canRun_5 : decode cX6_canRun 5 = .ok (.imul, 1) := by decide +kernel
theorem dX6_canRun_6 : decode cX6_canRun 6 = .ok (.istore_n 3, 1) := by decide +kernel
theorem dX6_canRun_7 : decode cX6_canRun 7 = .ok (.iconst 0, 1) := by decide +kernel
theorem dX6_canRun_8 : decode cX6_canRun 8 = .ok (.istore 4, 2) := by decide +kernel
theorem dX6_canRun_10 : decode cX6_canRun 10 = .ok (.iload 4, 2) := by decide +kernel
theorem dX6_canRun_12 : decode cX6_canRun 12 = .ok (.aload_n 0, 1) := by decide +kernel
theorem dX6_canRun_13 : decode cX6_canRun 13 = .ok (.getfield 56, 3) := by decide +kernel
theorem dX6_canRun_16 : decode cX6_canRun 16 = .ok (.iload_n 1, 1) := by decide +kernel
theorem dX6_canRun_17 : decode cX6_canRun 17 = .ok (.iaload, 1) := by decide +kernel
theorem dX6_canRun_18 : decode cX6_canRun 18 = .ok (.if_icmp .ge 24, 3) := by decide +kernel
theorem dX6_canRun_21 : decode cX6_canRun 21 = .ok (.iload_n 3, 1) := by decide +kernel
theorem dX6_canRun_22 : decode cX6_canRun 22 = .ok (.aload_n 0, 1) := by decide +kernel
theorem dX6_canRun_23 : decode cX6_canRun 23 = .ok (.getfield 53, 3) := by decide +kernel
theorem dX6_canRun_26 : decode cX6_canRun 26 = .ok (.bipush 15, 2) := by decide +kernel
theorem dX6_canRun_28 : decode cX6_canRun 28 = .ok (.iload_n 1, 1) := by decide +kernel
theorem dX6_canRun_29 : decode cX6_canRun 29 = .ok (.imul, 1) := by decide +kernel
theorem dX6_canRun_30 : decode cX6_canRun 30 = .ok (.iload 4, 2) := by decide +kernel
theorem dX6_canRun_32 : decode cX6_canRun 32 = .ok (.iadd, 1) := by decide +kernel
theorem dX6_canRun_33 : decode cX6_canRun 33 = .ok (.iaload, 1) := by decide +kernel
theorem dX6_canRun_34 : decode cX6_canRun 34 = .ok (.iadd, 1) := by decide +kernel
theorem dX6_canRun_35 : decode cX6_canRun 35 = .ok (.istore_n 3, 1) := by decide +kernel
theorem dX6_canRun_36 : decode cX6_canRun 36 = .ok (.iinc 4 1, 3) := by decide +kernel
theorem dX6_canRun_39 : decode cX6_canRun 39 = .ok (.goto (-29), 3) := by decide +kernel
theorem dX6_canRun_42 : decode cX6_canRun 42 = .ok (.iload_n 3, 1) := by decide +kernel
theorem dX6_canRun_43 : decode cX6_canRun 43 = .ok (.aload_n 0, 1) := by decide +kernel
theorem dX6_canRun_44 : decode cX6_canRun 44 = .ok (.getfield 7, 3) := by decide +kernel
theorem dX6_canRun_47 : decode cX6_canRun 47 = .ok (.iload_n 2, 1) := by decide +kernel
theorem dX6_canRun_48 : decode cX6_canRun 48 = .ok (.iaload, 1) := by decide +kernel
theorem dX6_canRun_49 : decode cX6_canRun 49 = .ok (.if_icmp .gt 22, 3) := by decide +kernel
theorem dX6_canRun_52 : decode cX6_canRun 52 = .ok (.aload_n 0, 1) := by decide +kernel
theorem dX6_canRun_53 : decode cX6_canRun 53 = .ok (.getfield 56, 3) := by decide +kernel
theorem dX6_canRun_56 : decode cX6_canRun 56 = .ok (.iload_n 1, 1) := by decide +kernel
theorem dX6_canRun_57 : decode cX6_canRun 57 = .ok (.iaload, 1) := by decide +kernel
theorem dX6_canRun_58 : decode cX6_canRun 58 = .ok (.iconst 1, 1) := by decide +kernel
theorem dX6_canRun_59 : decode cX6_canRun 59 = .ok (.iadd, 1) := by decide +kernel
theorem dX6_canRun_60 : decode cX6_canRun 60 = .ok (.aload_n 0, 1) := by decide +kernel
theorem dX6_canRun_61 : decode cX6_canRun 61 = .ok (.getfield 38, 3) := by decide +kernel
theorem dX6_canRun_64 : decode cX6_canRun 64 = .ok (.if_icmp .gt 7, 3) := by decide +kernel
theorem dX6_canRun_67 : decode cX6_canRun 67 = .ok (.iconst 1, 1) := by decide +kernel
theorem dX6_canRun_68 : decode cX6_canRun 68 = .ok (.goto 4, 3) := by decide +kernel
theorem dX6_canRun_71 : decode cX6_canRun 71 = .ok (.iconst 0, 1) := by decide +kernel
theorem dX6_canRun_72 : decode cX6_canRun 72 = .ok (.ireturn, 1) := by decide +kernel
theorem dX6_fits_0 : decode cX6_fits 0 = .ok (.aload_n 0, 1) := by decide +kernel
theorem dX6_fits_1 : decode cX6_fits 1 = .ok (.aload_n 0, 1) := by decide +kernel
theorem dX6_fits_2 : decode cX6_fits 2 = .ok (.iload_n 1, 1) := by decide +kernel
theorem dX6_fits_3 : decode cX6_fits 3 = .ok (.invokevirtual 131, 3) := by decide +kernel
theorem dX6_fits_6 : decode cX6_fits 6 = .ok (.ifCond .eq 15, 3) := by decide +kernel
theorem dX6_fits_9 : decode cX6_fits 9 = .ok (.aload_n 0, 1) := by decide +kernel
theorem dX6_fits_10 : decode cX6_fits 10 = .ok (.iload_n 2, 1) := by decide +kernel
theorem dX6_fits_11 : decode cX6_fits 11 = .ok (.invokevirtual 106, 3) := by decide +kernel
theorem dX6_fits_14 : decode cX6_fits 14 = .ok (.ifCond .eq 7, 3) := by decide +kernel
theorem dX6_fits_17 : decode cX6_fits 17 = .ok (.iconst 1, 1) := by decide +kernel
theorem dX6_fits_18 : decode cX6_fits 18 = .ok (.goto 4, 3) := by decide +kernel
theorem dX6_fits_21 : decode cX6_fits 21 = .ok (.iconst 0, 1) := by decide +kernel
theorem dX6_fits_22 : decode cX6_fits 22 = .ok (.invokevirtual 117, 3) := by decide +kernel
theorem dX6_fits_25 : decode cX6_fits 25 = .ok (.ifCond .eq 16, 3) := by decide +kernel
theorem dX6_fits_28 : decode cX6_fits 28 = .ok (.aload_n 0, 1) := by decide +kernel
theorem dX6_fits_29 : decode cX6_fits 29 = .ok (.iload_n 1, 1) := by decide +kernel
theorem dX6_fits_30 : decode cX6_fits 30 = .ok (.iload_n 2, 1) := by decide +kernel
theorem dX6_fits_31 : decode cX6_fits 31 = .ok (.invokevirtual 134, 3) := by decide +kernel
theorem dX6_fits_34 : decode cX6_fits 34 = .ok (.ifCond .eq 7, 3) := by decide +kernel
theorem dX6_fits_37 : decode cX6_fits 37 = .ok (.iconst 1, 1) := by decide +kernel
theorem dX6_fits_38 : decode cX6_fits 38 = .ok (.goto 4, 3) := by decide +kernel
theorem dX6_fits_41 : decode cX6_fits 41 = .ok (.iconst 0, 1) := by decide +kernel
theorem dX6_fits_42 : decode cX6_fits 42 = .ok (.ireturn, 1) := by decide +kernel
theorem dX6_takes_0 : decode cX6_takes 0 = .ok (.aload_n 0, 1) := by decide +kernel
theorem dX6_takes_1 : decode cX6_takes 1 = .ok (.getfield 47, 3) := by decide +kernel
theorem dX6_takes_4 : decode cX6_takes 4 = .ok (.iload_n 1, 1) := by decide +kernel
theorem dX6_takes_5 : decode cX6_takes 5 = .ok (.iaload, 1) := by decide +kernel
theorem dX6_takes_6 : decode cX6_takes 6 = .ok (.aload_n 0, 1) := by decide +kernel
theorem dX6_takes_7 : decode cX6_takes 7 = .ok (.getfield 44, 3) := by decide +kernel
theorem dX6_takes_10 : decode cX6_takes 10 = .ok (.iload_n 1, 1) := by decide +kernel
theorem dX6_takes_11 : decode cX6_takes 11 = .ok (.iaload, 1) := by decide +kernel
theorem dX6_takes_12 : decode cX6_takes 12 = .ok (.if_icmp .ge 27, 3) := by decide +kernel
theorem dX6_takes_15 : decode cX6_takes 15 = .ok (.aload_n 0, 1) := by decide +kernel
theorem dX6_takes_16 : decode cX6_takes 16 = .ok (.getfield 50, 3) := by decide +kernel
theorem dX6_takes_19 : decode cX6_takes 19 = .ok (.iload_n 1, 1) := by decide +kernel
theorem dX6_takes_20 : decode cX6_takes 20 = .ok (.iaload, 1) := by decide +kernel
theorem dX6_takes_21 : decode cX6_takes 21 = .ok (.iconst (-1), 1) := by decide +kernel
theorem dX6_takes_22 : decode cX6_takes 22 = .ok (.if_icmp .eq 13, 3) := by decide +kernel
theorem dX6_takes_25 : decode cX6_takes 25 = .ok (.aload_n 0, 1) := by decide +kernel
theorem dX6_takes_26 : decode cX6_takes 26 = .ok (.getfield 50, 3) := by decide +kernel
theorem dX6_takes_29 : decode cX6_takes 29 = .ok (.iload_n 1, 1) := by decide +kernel
theorem dX6_takes_30 : decode cX6_takes 30 = .ok (.iaload, 1) := by decide +kernel
theorem dX6_takes_31 : decode cX6_takes 31 = .ok (.iload_n 2, 1) := by decide +kernel
theorem dX6_takes_32 : decode cX6_takes 32 = .ok (.if_icmp .ne 7, 3) := by decide +kernel
theorem dX6_takes_35 : decode cX6_takes 35 = .ok (.iconst 1, 1) := by decide +kernel
theorem dX6_takes_36 : decode cX6_takes 36 = .ok (.goto 4, 3) := by decide +kernel
theorem dX6_takes_39 : decode cX6_takes 39 = .ok (.iconst 0, 1) := by decide +kernel
theorem dX6_takes_40 : decode cX6_takes 40 = .ok (.ireturn, 1) := by decide +kernel
theorem dX6_fullest_0 : decode cX6_fullest 0 = .ok (.aload_n 0, 1) := by decide +kernel
theorem dX6_fullest_1 : decode cX6_fullest 1 = .ok (.getfield 7, 3) := by decide +kernel
theorem dX6_fullest_4 : decode cX6_fullest 4 = .ok (.iload_n 1, 1) := by decide +kernel
theorem dX6_fullest_5 : decode cX6_fullest 5 = .ok (.iaload, 1) := by decide +kernel
theorem dX6_fullest_6 : decode cX6_fullest 6 = .ok (.iconst 2, 1) := by decide +kernel
theorem dX6_fullest_7 : decode cX6_fullest 7 = .ok (.aload_n 0, 1) := by decide +kernel
theorem dX6_fullest_8 : decode cX6_fullest 8 = .ok (.getfield 31, 3) := by decide +kernel
theorem dX6_fullest_11 : decode cX6_fullest 11 = .ok (.imul, 1) := by decide +kernel
theorem dX6_fullest_12 : decode cX6_fullest 12 = .ok (.isub, 1) := by decide +kernel
theorem dX6_fullest_13 : decode cX6_fullest 13 = .ok (.istore_n 2, 1) := by decide +kernel
theorem dX6_fullest_14 : decode cX6_fullest 14 = .ok (.iconst 0, 1) := by decide +kernel
theorem dX6_fullest_15 : decode cX6_fullest 15 = .ok (.istore_n 3, 1) := by decide +kernel
theorem dX6_fullest_16 : decode cX6_fullest 16 = .ok (.iconst 0, 1) := by decide +kernel
theorem dX6_fullest_17 : decode cX6_fullest 17 = .ok (.istore 4, 2) := by decide +kernel
theorem dX6_fullest_19 : decode cX6_fullest 19 = .ok (.iload 4, 2) := by decide +kernel
theorem dX6_fullest_21 : decode cX6_fullest 21 = .ok (.iload_n 2, 1) := by decide +kernel
theorem dX6_fullest_22 : decode cX6_fullest 22 = .ok (.if_icmp .gt 145, 3) := by decide +kernel
theorem dX6_fullest_25 : decode cX6_fullest 25 = .ok (.aload_n 0, 1) := by decide +kernel
theorem dX6_fullest_26 : decode cX6_fullest 26 = .ok (.getfield 80, 3) := by decide +kernel
theorem dX6_fullest_29 : decode cX6_fullest 29 = .ok (.iload 4, 2) := by decide +kernel
theorem dX6_fullest_31 : decode cX6_fullest 31 = .ok (.iload 4, 2) := by decide +kernel
theorem dX6_fullest_33 : decode cX6_fullest 33 = .ok (.ifCond .ne 7, 3) := by decide +kernel
theorem dX6_fullest_36 : decode cX6_fullest 36 = .ok (.iconst 0, 1) := by decide +kernel
theorem dX6_fullest_37 : decode cX6_fullest 37 = .ok (.goto 6, 3) := by decide +kernel
theorem dX6_fullest_40 : decode cX6_fullest 40 = .ok (.sipush 1000, 3) := by decide +kernel
theorem dX6_fullest_43 : decode cX6_fullest 43 = .ok (.iastore, 1) := by decide +kernel
theorem dX6_fullest_44 : decode cX6_fullest 44 = .ok (.iconst 0, 1) := by decide +kernel
theorem dX6_fullest_45 : decode cX6_fullest 45 = .ok (.istore 5, 2) := by decide +kernel
theorem dX6_fullest_47 : decode cX6_fullest 47 = .ok (.iload 5, 2) := by decide +kernel
theorem dX6_fullest_49 : decode cX6_fullest 49 = .ok (.aload_n 0, 1) := by decide +kernel
theorem dX6_fullest_50 : decode cX6_fullest 50 = .ok (.getfield 121, 3) := by decide +kernel
theorem dX6_fullest_53 : decode cX6_fullest 53 = .ok (.if_icmp .ge 87, 3) := by decide +kernel
theorem dX6_fullest_56 : decode cX6_fullest 56 = .ok (.aload_n 0, 1) := by decide +kernel
theorem dX6_fullest_57 : decode cX6_fullest 57 = .ok (.iload 5, 2) := by decide +kernel
theorem dX6_fullest_59 : decode cX6_fullest 59 = .ok (.aload_n 0, 1) := by decide +kernel
theorem dX6_fullest_60 : decode cX6_fullest 60 = .ok (.getfield 19, 3) := by decide +kernel
theorem dX6_fullest_63 : decode cX6_fullest 63 = .ok (.iload_n 1, 1) := by decide +kernel
theorem dX6_fullest_64 : decode cX6_fullest 64 = .ok (.iaload, 1) := by decide +kernel
theorem dX6_fullest_65 : decode cX6_fullest 65 = .ok (.invokevirtual 138, 3) := by decide +kernel
theorem dX6_fullest_68 : decode cX6_fullest 68 = .ok (.ifCond .eq 66, 3) := by decide +kernel
theorem dX6_fullest_71 : decode cX6_fullest 71 = .ok (.aload_n 0, 1) := by decide +kernel
theorem dX6_fullest_72 : decode cX6_fullest 72 = .ok (.getfield 41, 3) := by decide +kernel
theorem dX6_fullest_75 : decode cX6_fullest 75 = .ok (.iload 5, 2) := by decide +kernel
theorem dX6_fullest_77 : decode cX6_fullest 77 = .ok (.iaload, 1) := by decide +kernel
theorem dX6_fullest_78 : decode cX6_fullest 78 = .ok (.iload 4, 2) := by decide +kernel
theorem dX6_fullest_80 : decode cX6_fullest 80 = .ok (.if_icmp .gt 54, 3) := by decide +kernel
theorem dX6_fullest_83 : decode cX6_fullest 83 = .ok (.aload_n 0, 1) := by decide +kernel
theorem dX6_fullest_84 : decode cX6_fullest 84 = .ok (.getfield 80, 3) := by decide +kernel
theorem dX6_fullest_87 : decode cX6_fullest 87 = .ok (.iload 4, 2) := by decide +kernel
theorem dX6_fullest_89 : decode cX6_fullest 89 = .ok (.aload_n 0, 1) := by decide +kernel
theorem dX6_fullest_90 : decode cX6_fullest 90 = .ok (.getfield 41, 3) := by decide +kernel
theorem dX6_fullest_93 : decode cX6_fullest 93 = .ok (.iload 5, 2) := by decide +kernel
theorem dX6_fullest_95 : decode cX6_fullest 95 = .ok (.iaload, 1) := by decide +kernel
theorem dX6_fullest_96 : decode cX6_fullest 96 = .ok (.isub, 1) := by decide +kernel
theorem dX6_fullest_97 : decode cX6_fullest 97 = .ok (.iaload, 1) := by decide +kernel
theorem dX6_fullest_98 : decode cX6_fullest 98 = .ok (.iconst 1, 1) := by decide +kernel
theorem dX6_fullest_99 : decode cX6_fullest 99 = .ok (.iadd, 1) := by decide +kernel
theorem dX6_fullest_100 : decode cX6_fullest 100 = .ok (.aload_n 0, 1) := by decide +kernel
theorem dX6_fullest_101 : decode cX6_fullest 101 = .ok (.getfield 80, 3) := by decide +kernel
theorem dX6_fullest_104 : decode cX6_fullest 104 = .ok (.iload 4, 2) := by decide +kernel
theorem dX6_fullest_106 : decode cX6_fullest 106 = .ok (.iaload, 1) := by decide +kernel
theorem dX6_fullest_107 : decode cX6_fullest 107 = .ok (.if_icmp .ge 27, 3) := by decide +kernel
theorem dX6_fullest_110 : decode cX6_fullest 110 = .ok (.aload_n 0, 1) := by decide +kernel
theorem dX6_fullest_111 : decode cX6_fullest 111 = .ok (.getfield 80, 3) := by decide +kernel
theorem dX6_fullest_114 : decode cX6_fullest 114 = .ok (.iload 4, 2) := by decide +kernel
theorem dX6_fullest_116 : decode cX6_fullest 116 = .ok (.aload_n 0, 1) := by decide +kernel
theorem dX6_fullest_117 : decode cX6_fullest 117 = .ok (.getfield 80, 3) := by decide +kernel
theorem dX6_fullest_120 : decode cX6_fullest 120 = .ok (.iload 4, 2) := by decide +kernel
theorem dX6_fullest_122 : decode cX6_fullest 122 = .ok (.aload_n 0, 1) := by decide +kernel
theorem dX6_fullest_123 : decode cX6_fullest 123 = .ok (.getfield 41, 3) := by decide +kernel
theorem dX6_fullest_126 : decode cX6_fullest 126 = .ok (.iload 5, 2) := by decide +kernel
theorem dX6_fullest_128 : decode cX6_fullest 128 = .ok (.iaload, 1) := by decide +kernel
theorem dX6_fullest_129 : decode cX6_fullest 129 = .ok (.isub, 1) := by decide +kernel
theorem dX6_fullest_130 : decode cX6_fullest 130 = .ok (.iaload, 1) := by decide +kernel
theorem dX6_fullest_131 : decode cX6_fullest 131 = .ok (.iconst 1, 1) := by decide +kernel
theorem dX6_fullest_132 : decode cX6_fullest 132 = .ok (.iadd, 1) := by decide +kernel
theorem dX6_fullest_133 : decode cX6_fullest 133 = .ok (.iastore, 1) := by decide +kernel
theorem dX6_fullest_134 : decode cX6_fullest 134 = .ok (.iinc 5 1, 3) := by decide +kernel
theorem dX6_fullest_137 : decode cX6_fullest 137 = .ok (.goto (-90), 3) := by decide +kernel
theorem dX6_fullest_140 : decode cX6_fullest 140 = .ok (.aload_n 0, 1) := by decide +kernel
theorem dX6_fullest_141 : decode cX6_fullest 141 = .ok (.getfield 80, 3) := by decide +kernel
theorem dX6_fullest_144 : decode cX6_fullest 144 = .ok (.iload 4, 2) := by decide +kernel
theorem dX6_fullest_146 : decode cX6_fullest 146 = .ok (.iaload, 1) := by decide +kernel
theorem dX6_fullest_147 : decode cX6_fullest 147 = .ok (.aload_n 0, 1) := by decide +kernel
theorem dX6_fullest_148 : decode cX6_fullest 148 = .ok (.getfield 38, 3) := by decide +kernel
theorem dX6_fullest_151 : decode cX6_fullest 151 = .ok (.if_icmp .ge 8, 3) := by decide +kernel
theorem dX6_fullest_154 : decode cX6_fullest 154 = .ok (.iload 4, 2) := by decide +kernel
theorem dX6_fullest_156 : decode cX6_fullest 156 = .ok (.goto 4, 3) := by decide +kernel
theorem dX6_fullest_159 : decode cX6_fullest 159 = .ok (.iload_n 3, 1) := by decide +kernel
theorem dX6_fullest_160 : decode cX6_fullest 160 = .ok (.istore_n 3, 1) := by decide +kernel
theorem dX6_fullest_161 : decode cX6_fullest 161 = .ok (.iinc 4 1, 3) := by decide +kernel
theorem dX6_fullest_164 : decode cX6_fullest 164 = .ok (.goto (-145), 3) := by decide +kernel
theorem dX6_fullest_167 : decode cX6_fullest 167 = .ok (.iload_n 3, 1) := by decide +kernel
theorem dX6_fullest_168 : decode cX6_fullest 168 = .ok (.ireturn, 1) := by decide +kernel
theorem dX6_fill_0 : decode cX6_fill 0 = .ok (.aload_n 0, 1) := by decide +kernel
theorem dX6_fill_1 : decode cX6_fill 1 = .ok (.aload_n 0, 1) := by decide +kernel
theorem dX6_fill_2 : decode cX6_fill 2 = .ok (.iload_n 1, 1) := by decide +kernel
theorem dX6_fill_3 : decode cX6_fill 3 = .ok (.invokevirtual 106, 3) := by decide +kernel
theorem dX6_fill_6 : decode cX6_fill 6 = .ok (.invokevirtual 117, 3) := by decide +kernel
theorem dX6_fill_9 : decode cX6_fill 9 = .ok (.ifCond .ne 5, 3) := by decide +kernel
theorem dX6_fill_12 : decode cX6_fill 12 = .ok (.iconst 0, 1) := by decide +kernel
theorem dX6_fill_13 : decode cX6_fill 13 = .ok (.ireturn, 1) := by decide +kernel
theorem dX6_fill_14 : decode cX6_fill 14 = .ok (.aload_n 0, 1) := by decide +kernel
theorem dX6_fill_15 : decode cX6_fill 15 = .ok (.iload_n 1, 1) := by decide +kernel
theorem dX6_fill_16 : decode cX6_fill 16 = .ok (.invokevirtual 141, 3) := by decide +kernel
theorem dX6_fill_19 : decode cX6_fill 19 = .ok (.istore_n 2, 1) := by decide +kernel
theorem dX6_fill_20 : decode cX6_fill 20 = .ok (.iload_n 2, 1) := by decide +kernel
theorem dX6_fill_21 : decode cX6_fill 21 = .ok (.istore_n 3, 1) := by decide +kernel
theorem dX6_fill_22 : decode cX6_fill 22 = .ok (.aload_n 0, 1) := by decide +kernel
theorem dX6_fill_23 : decode cX6_fill 23 = .ok (.getfield 56, 3) := by decide +kernel
theorem dX6_fill_26 : decode cX6_fill 26 = .ok (.bipush 10, 2) := by decide +kernel
theorem dX6_fill_28 : decode cX6_fill 28 = .ok (.iconst 0, 1) := by decide +kernel
theorem dX6_fill_29 : decode cX6_fill 29 = .ok (.iastore, 1) := by decide +kernel
theorem dX6_fill_30 : decode cX6_fill 30 = .ok (.iload_n 3, 1) := by decide +kernel
theorem dX6_fill_31 : decode cX6_fill 31 = .ok (.ifCond .le 127, 3) := by decide +kernel
theorem dX6_fill_34 : decode cX6_fill 34 = .ok (.iconst 0, 1) := by decide +kernel
theorem dX6_fill_35 : decode cX6_fill 35 = .ok (.istore 4, 2) := by decide +kernel
theorem dX6_fill_37 : decode cX6_fill 37 = .ok (.iconst 0, 1) := by decide +kernel
theorem dX6_fill_38 : decode cX6_fill 38 = .ok (.istore 5, 2) := by decide +kernel
theorem dX6_fill_40 : decode cX6_fill 40 = .ok (.iload 5, 2) := by decide +kernel
theorem dX6_fill_42 : decode cX6_fill 42 = .ok (.aload_n 0, 1) := by decide +kernel
theorem dX6_fill_43 : decode cX6_fill 43 = .ok (.getfield 121, 3) := by decide +kernel
theorem dX6_fill_46 : decode cX6_fill 46 = .ok (.if_icmp .ge 98, 3) := by decide +kernel
theorem dX6_fill_49 : decode cX6_fill 49 = .ok (.aload_n 0, 1) := by decide +kernel
theorem dX6_fill_50 : decode cX6_fill 50 = .ok (.iload 5, 2) := by decide +kernel
theorem dX6_fill_52 : decode cX6_fill 52 = .ok (.aload_n 0, 1) := by decide +kernel
theorem dX6_fill_53 : decode cX6_fill 53 = .ok (.getfield 19, 3) := by decide +kernel
theorem dX6_fill_56 : decode cX6_fill 56 = .ok (.iload_n 1, 1) := by decide +kernel
theorem dX6_fill_57 : decode cX6_fill 57 = .ok (.iaload, 1) := by decide +kernel
theorem dX6_fill_58 : decode cX6_fill 58 = .ok (.invokevirtual 138, 3) := by decide +kernel
theorem dX6_fill_61 : decode cX6_fill 61 = .ok (.ifCond .eq 43, 3) := by decide +kernel
theorem dX6_fill_64 : decode cX6_fill 64 = .ok (.aload_n 0, 1) := by decide +kernel
theorem dX6_fill_65 : decode cX6_fill 65 = .ok (.getfield 41, 3) := by decide +kernel
theorem dX6_fill_68 : decode cX6_fill 68 = .ok (.iload 5, 2) := by decide +kernel
theorem dX6_fill_70 : decode cX6_fill 70 = .ok (.iaload, 1) := by decide +kernel
theorem dX6_fill_71 : decode cX6_fill 71 = .ok (.iload_n 3, 1) := by decide +kernel
theorem dX6_fill_72 : decode cX6_fill 72 = .ok (.if_icmp .gt 32, 3) := by decide +kernel
theorem dX6_fill_75 : decode cX6_fill 75 = .ok (.aload_n 0, 1) := by decide +kernel
theorem dX6_fill_76 : decode cX6_fill 76 = .ok (.getfield 80, 3) := by decide +kernel
theorem dX6_fill_79 : decode cX6_fill 79 = .ok (.iload_n 3, 1) := by decide +kernel
theorem dX6_fill_80 : decode cX6_fill 80 = .ok (.aload_n 0, 1) := by decide +kernel
theorem dX6_fill_81 : decode cX6_fill 81 = .ok (.getfield 41, 3) := by decide +kernel
theorem dX6_fill_84 : decode cX6_fill 84 = .ok (.iload 5, 2) := by decide +kernel
theorem dX6_fill_86 : decode cX6_fill 86 = .ok (.iaload, 1) := by decide +kernel
theorem dX6_fill_87 : decode cX6_fill 87 = .ok (.isub, 1) := by decide +kernel
theorem dX6_fill_88 : decode cX6_fill 88 = .ok (.iaload, 1) := by decide +kernel
theorem dX6_fill_89 : decode cX6_fill 89 = .ok (.iconst 1, 1) := by decide +kernel
theorem dX6_fill_90 : decode cX6_fill 90 = .ok (.iadd, 1) := by decide +kernel
theorem dX6_fill_91 : decode cX6_fill 91 = .ok (.aload_n 0, 1) := by decide +kernel
theorem dX6_fill_92 : decode cX6_fill 92 = .ok (.getfield 80, 3) := by decide +kernel
theorem dX6_fill_95 : decode cX6_fill 95 = .ok (.iload_n 3, 1) := by decide +kernel
theorem dX6_fill_96 : decode cX6_fill 96 = .ok (.iaload, 1) := by decide +kernel
theorem dX6_fill_97 : decode cX6_fill 97 = .ok (.if_icmp .ne 7, 3) := by decide +kernel
theorem dX6_fill_100 : decode cX6_fill 100 = .ok (.iconst 1, 1) := by decide +kernel
theorem dX6_fill_101 : decode cX6_fill 101 = .ok (.goto 4, 3) := by decide +kernel
theorem dX6_fill_104 : decode cX6_fill 104 = .ok (.iconst 0, 1) := by decide +kernel
theorem dX6_fill_105 : decode cX6_fill 105 = .ok (.istore 6, 2) := by decide +kernel
theorem dX6_fill_107 : decode cX6_fill 107 = .ok (.iload 6, 2) := by decide +kernel
theorem dX6_fill_109 : decode cX6_fill 109 = .ok (.ifCond .eq 25, 3) := by decide +kernel
theorem dX6_fill_112 : decode cX6_fill 112 = .ok (.aload_n 0, 1) := by decide +kernel
theorem dX6_fill_113 : decode cX6_fill 113 = .ok (.getfield 41, 3) := by decide +kernel
theorem dX6_fill_116 : decode cX6_fill 116 = .ok (.iload 5, 2) := by decide +kernel
theorem dX6_fill_118 : decode cX6_fill 118 = .ok (.iaload, 1) := by decide +kernel
theorem dX6_fill_119 : decode cX6_fill 119 = .ok (.iload 4, 2) := by decide +kernel
theorem dX6_fill_121 : decode cX6_fill 121 = .ok (.if_icmp .le 13, 3) := by decide +kernel
theorem dX6_fill_124 : decode cX6_fill 124 = .ok (.aload_n 0, 1) := by decide +kernel
theorem dX6_fill_125 : decode cX6_fill 125 = .ok (.getfield 41, 3) := by decide +kernel
theorem dX6_fill_128 : decode cX6_fill 128 = .ok (.iload 5, 2) := by decide +kernel
theorem dX6_fill_130 : decode cX6_fill 130 = .ok (.iaload, 1) := by decide +kernel
theorem dX6_fill_131 : decode cX6_fill 131 = .ok (.goto 5, 3) := by decide +kernel
theorem dX6_fill_134 : decode cX6_fill 134 = .ok (.iload 4, 2) := by decide +kernel
theorem dX6_fill_136 : decode cX6_fill 136 = .ok (.istore 4, 2) := by decide +kernel
theorem dX6_fill_138 : decode cX6_fill 138 = .ok (.iinc 5 1, 3) := by decide +kernel
theorem dX6_fill_141 : decode cX6_fill 141 = .ok (.goto (-101), 3) := by decide +kernel
theorem dX6_fill_144 : decode cX6_fill 144 = .ok (.aload_n 0, 1) := by decide +kernel
theorem dX6_fill_145 : decode cX6_fill 145 = .ok (.iload 4, 2) := by decide +kernel
theorem dX6_fill_147 : decode cX6_fill 147 = .ok (.invokevirtual 124, 3) := by decide +kernel
theorem dX6_fill_150 : decode cX6_fill 150 = .ok (.iload_n 3, 1) := by decide +kernel
theorem dX6_fill_151 : decode cX6_fill 151 = .ok (.iload 4, 2) := by decide +kernel
theorem dX6_fill_153 : decode cX6_fill 153 = .ok (.isub, 1) := by decide +kernel
theorem dX6_fill_154 : decode cX6_fill 154 = .ok (.istore_n 3, 1) := by decide +kernel
theorem dX6_fill_155 : decode cX6_fill 155 = .ok (.goto (-125), 3) := by decide +kernel
theorem dX6_fill_158 : decode cX6_fill 158 = .ok (.iload_n 2, 1) := by decide +kernel
theorem dX6_fill_159 : decode cX6_fill 159 = .ok (.ireturn, 1) := by decide +kernel
theorem dX6_fullestByTrying_0 : decode cX6_fullestByTrying 0 = .ok (.aload_n 0, 1) := by decide +kernel
theorem dX6_fullestByTrying_1 : decode cX6_fullestByTrying 1 = .ok (.iload_n 1, 1) := by decide +kernel
theorem dX6_fullestByTrying_2 : decode cX6_fullestByTrying 2 = .ok (.invokevirtual 106, 3) := by decide +kernel
theorem dX6_fullestByTrying_5 : decode cX6_fullestByTrying 5 = .ok (.istore_n 2, 1) := by decide +kernel
theorem dX6_fullestByTrying_6 : decode cX6_fullestByTrying 6 = .ok (.aload_n 0, 1) := by decide +kernel
theorem dX6_fullestByTrying_7 : decode cX6_fullestByTrying 7 = .ok (.iload_n 2, 1) := by decide +kernel
theorem dX6_fullestByTrying_8 : decode cX6_fullestByTrying 8 = .ok (.aload_n 0, 1) := by decide +kernel
theorem dX6_fullestByTrying_9 : decode cX6_fullestByTrying 9 = .ok (.getfield 38, 3) := by decide +kernel
theorem dX6_fullestByTrying_12 : decode cX6_fullestByTrying 12 = .ok (.bipush 8, 2) := by decide +kernel
theorem dX6_fullestByTrying_14 : decode cX6_fullestByTrying 14 = .ok (.if_icmp .gt 7, 3) := by decide +kernel
theorem dX6_fullestByTrying_17 : decode cX6_fullestByTrying 17 = .ok (.iconst 1, 1) := by decide +kernel
theorem dX6_fullestByTrying_18 : decode cX6_fullestByTrying 18 = .ok (.goto 4, 3) := by decide +kernel
theorem dX6_fullestByTrying_21 : decode cX6_fullestByTrying 21 = .ok (.iconst 0, 1) := by decide +kernel
theorem dX6_fullestByTrying_22 : decode cX6_fullestByTrying 22 = .ok (.invokevirtual 102, 3) := by decide +kernel
theorem dX6_fullestByTrying_25 : decode cX6_fullestByTrying 25 = .ok (.ifCond .eq 11, 3) := by decide +kernel
theorem dX6_fullestByTrying_28 : decode cX6_fullestByTrying 28 = .ok (.aload_n 0, 1) := by decide +kernel
theorem dX6_fullestByTrying_29 : decode cX6_fullestByTrying 29 = .ok (.iload_n 1, 1) := by decide +kernel
theorem dX6_fullestByTrying_30 : decode cX6_fullestByTrying 30 = .ok (.invokevirtual 141, 3) := by decide +kernel
theorem dX6_fullestByTrying_33 : decode cX6_fullestByTrying 33 = .ok (.goto 4, 3) := by decide +kernel
theorem dX6_fullestByTrying_36 : decode cX6_fullestByTrying 36 = .ok (.iconst 0, 1) := by decide +kernel
theorem dX6_fullestByTrying_37 : decode cX6_fullestByTrying 37 = .ok (.ireturn, 1) := by decide +kernel
theorem dX6_isPosition_0 : decode cX6_isPosition 0 = .ok (.iconst 0, 1) := by decide +kernel
theorem dX6_isPosition_1 : decode cX6_isPosition 1 = .ok (.istore_n 3, 1) := by decide +kernel
theorem dX6_isPosition_2 : decode cX6_isPosition 2 = .ok (.iload_n 2, 1) := by decide +kernel
theorem dX6_isPosition_3 : decode cX6_isPosition 3 = .ok (.ifCond .ne 7, 3) := by decide +kernel
theorem dX6_isPosition_6 : decode cX6_isPosition 6 = .ok (.iconst 1, 1) := by decide +kernel
theorem dX6_isPosition_7 : decode cX6_isPosition 7 = .ok (.goto 4, 3) := by decide +kernel
theorem dX6_isPosition_10 : decode cX6_isPosition 10 = .ok (.iconst 0, 1) := by decide +kernel
theorem dX6_isPosition_11 : decode cX6_isPosition 11 = .ok (.istore 4, 2) := by decide +kernel
theorem dX6_isPosition_13 : decode cX6_isPosition 13 = .ok (.iconst 0, 1) := by decide +kernel
theorem dX6_isPosition_14 : decode cX6_isPosition 14 = .ok (.istore 5, 2) := by decide +kernel
theorem dX6_isPosition_16 : decode cX6_isPosition 16 = .ok (.iload 5, 2) := by decide +kernel
theorem dX6_isPosition_18 : decode cX6_isPosition 18 = .ok (.aload_n 0, 1) := by decide +kernel
theorem dX6_isPosition_19 : decode cX6_isPosition 19 = .ok (.getfield 56, 3) := by decide +kernel
theorem dX6_isPosition_22 : decode cX6_isPosition 22 = .ok (.iload_n 1, 1) := by decide +kernel
theorem dX6_isPosition_23 : decode cX6_isPosition 23 = .ok (.iaload, 1) := by decide +kernel
theorem dX6_isPosition_24 : decode cX6_isPosition 24 = .ok (.if_icmp .ge 41, 3) := by decide +kernel
theorem dX6_isPosition_27 : decode cX6_isPosition 27 = .ok (.iload_n 3, 1) := by decide +kernel
theorem dX6_isPosition_28 : decode cX6_isPosition 28 = .ok (.aload_n 0, 1) := by decide +kernel
theorem dX6_isPosition_29 : decode cX6_isPosition 29 = .ok (.getfield 53, 3) := by decide +kernel
theorem dX6_isPosition_32 : decode cX6_isPosition 32 = .ok (.bipush 15, 2) := by decide +kernel
theorem dX6_isPosition_34 : decode cX6_isPosition 34 = .ok (.iload_n 1, 1) := by decide +kernel
theorem dX6_isPosition_35 : decode cX6_isPosition 35 = .ok (.imul, 1) := by decide +kernel
theorem dX6_isPosition_36 : decode cX6_isPosition 36 = .ok (.iload 5, 2) := by decide +kernel
theorem dX6_isPosition_38 : decode cX6_isPosition 38 = .ok (.iadd, 1) := by decide +kernel
theorem dX6_isPosition_39 : decode cX6_isPosition 39 = .ok (.iaload, 1) := by decide +kernel
theorem dX6_isPosition_40 : decode cX6_isPosition 40 = .ok (.iadd, 1) := by decide +kernel
theorem dX6_isPosition_41 : decode cX6_isPosition 41 = .ok (.istore_n 3, 1) := by decide +kernel
theorem dX6_isPosition_42 : decode cX6_isPosition 42 = .ok (.iload 4, 2) := by decide +kernel
theorem dX6_isPosition_44 : decode cX6_isPosition 44 = .ok (.ifCond .ne 8, 3) := by decide +kernel
theorem dX6_isPosition_47 : decode cX6_isPosition 47 = .ok (.iload_n 3, 1) := by decide +kernel
theorem dX6_isPosition_48 : decode cX6_isPosition 48 = .ok (.iload_n 2, 1) := by decide +kernel
theorem dX6_isPosition_49 : decode cX6_isPosition 49 = .ok (.if_icmp .ne 7, 3) := by decide +kernel
theorem dX6_isPosition_52 : decode cX6_isPosition 52 = .ok (.iconst 1, 1) := by decide +kernel
theorem dX6_isPosition_53 : decode cX6_isPosition 53 = .ok (.goto 4, 3) := by decide +kernel
theorem dX6_isPosition_56 : decode cX6_isPosition 56 = .ok (.iconst 0, 1) := by decide +kernel
theorem dX6_isPosition_57 : decode cX6_isPosition 57 = .ok (.istore 4, 2) := by decide +kernel
theorem dX6_isPosition_59 : decode cX6_isPosition 59 = .ok (.iinc 5 1, 3) := by decide +kernel
theorem dX6_isPosition_62 : decode cX6_isPosition 62 = .ok (.goto (-46), 3) := by decide +kernel
theorem dX6_isPosition_65 : decode cX6_isPosition 65 = .ok (.iload 4, 2) := by decide +kernel
theorem dX6_isPosition_67 : decode cX6_isPosition 67 = .ok (.ireturn, 1) := by decide +kernel
theorem dX6_movesFrom_0 : decode cX6_movesFrom 0 = .ok (.iload_n 1, 1) := by decide +kernel
theorem dX6_movesFrom_1 : decode cX6_movesFrom 1 = .ok (.iconst (-1), 1) := by decide +kernel
theorem dX6_movesFrom_2 : decode cX6_movesFrom 2 = .ok (.if_icmp .ne 7, 3) := by decide +kernel
theorem dX6_movesFrom_5 : decode cX6_movesFrom 5 = .ok (.iconst 1, 1) := by decide +kernel
theorem dX6_movesFrom_6 : decode cX6_movesFrom 6 = .ok (.goto 4, 3) := by decide +kernel

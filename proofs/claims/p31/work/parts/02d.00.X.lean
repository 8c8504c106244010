theorem dX0_init_0 : decode cX0_init 0 = .ok (.aload_n 0, 1) := by decide +kernel
theorem dX0_init_1 : decode cX0_init 1 = .ok (.invokespecial 3, 3) := by decide +kernel
theorem dX0_init_4 : decode cX0_init 4 = .ok (.aload_n 0, 1) := by decide +kernel
theorem dX0_init_5 : decode cX0_init 5 = .ok (.iconst 0, 1) := by decide +kernel
theorem dX0_init_6 : decode cX0_init 6 = .ok (.putfield 9, 3) := by decide +kernel
theorem dX0_init_9 : decode cX0_init 9 = .ok (.aload_n 0, 1) := by decide +kernel
theorem dX0_init_10 : decode cX0_init 10 = .ok (.iconst 0, 1) := by decide +kernel
theorem dX0_init_11 : decode cX0_init 11 = .ok (.putfield 15, 3) := by decide +kernel
theorem dX0_init_14 : decode cX0_init 14 = .ok (.aload_n 0, 1) := by decide +kernel
theorem dX0_init_15 : decode cX0_init 15 = .ok (.iconst 0, 1) := by decide +kernel
theorem dX0_init_16 : decode cX0_init 16 = .ok (.putfield 18, 3) := by decide +kernel
theorem dX0_init_19 : decode cX0_init 19 = .ok (.aload_n 0, 1) := by decide +kernel
theorem dX0_init_20 : decode cX0_init 20 = .ok (.iconst 0, 1) := by decide +kernel
theorem dX0_init_21 : decode cX0_init 21 = .ok (.putfield 21, 3) := by decide +kernel
theorem dX0_init_24 : decode cX0_init 24 = .ok (.aload_n 0, 1) := by decide +kernel
theorem dX0_init_25 : decode cX0_init 25 = .ok (.bipush 8, 2) := by decide +kernel
theorem dX0_init_27 : decode cX0_init 27 = .ok (.newarray .int, 2) := by decide +kernel
theorem dX0_init_29 : decode cX0_init 29 = .ok (.putfield 24, 3) := by decide +kernel
theorem dX0_init_32 : decode cX0_init 32 = .ok (.aload_n 0, 1) := by decide +kernel
theorem dX0_init_33 : decode cX0_init 33 = .ok (.bipush 8, 2) := by decide +kernel
theorem dX0_init_35 : decode cX0_init 35 = .ok (.newarray .int, 2) := by decide +kernel
theorem dX0_init_37 : decode cX0_init 37 = .ok (.putfield 28, 3) := by decide +kernel
theorem dX0_init_40 : decode cX0_init 40 = .ok (.aload_n 0, 1) := by decide +kernel
theorem dX0_init_41 : decode cX0_init 41 = .ok (.iconst 0, 1) := by decide +kernel
theorem dX0_init_42 : decode cX0_init 42 = .ok (.putfield 31, 3) := by decide +kernel
theorem dX0_init_45 : decode cX0_init 45 = .ok (.aload_n 0, 1) := by decide +kernel
theorem dX0_init_46 : decode cX0_init 46 = .ok (.bipush 15, 2) := by decide +kernel
theorem dX0_init_48 : decode cX0_init 48 = .ok (.newarray .int, 2) := by decide +kernel
theorem dX0_init_50 : decode cX0_init 50 = .ok (.putfield 34, 3) := by decide +kernel
theorem dX0_init_53 : decode cX0_init 53 = .ok (.aload_n 0, 1) := by decide +kernel
theorem dX0_init_54 : decode cX0_init 54 = .ok (.bipush 15, 2) := by decide +kernel
theorem dX0_init_56 : decode cX0_init 56 = .ok (.newarray .int, 2) := by decide +kernel
theorem dX0_init_58 : decode cX0_init 58 = .ok (.putfield 37, 3) := by decide +kernel
theorem dX0_init_61 : decode cX0_init 61 = .ok (.aload_n 0, 1) := by decide +kernel
theorem dX0_init_62 : decode cX0_init 62 = .ok (.bipush 15, 2) := by decide +kernel
theorem dX0_init_64 : decode cX0_init 64 = .ok (.newarray .int, 2) := by decide +kernel
theorem dX0_init_66 : decode cX0_init 66 = .ok (.putfield 40, 3) := by decide +kernel
theorem dX0_init_69 : decode cX0_init 69 = .ok (.aload_n 0, 1) := by decide +kernel
theorem dX0_init_70 : decode cX0_init 70 = .ok (.iconst (-1), 1) := by decide +kernel
theorem dX0_init_71 : decode cX0_init 71 = .ok (.putfield 43, 3) := by decide +kernel
theorem dX0_init_74 : decode cX0_init 74 = .ok (.aload_n 0, 1) := by decide +kernel
theorem dX0_init_75 : decode cX0_init 75 = .ok (.iconst 0, 1) := by decide +kernel
theorem dX0_init_76 : decode cX0_init 76 = .ok (.putfield 46, 3) := by decide +kernel
theorem dX0_init_79 : decode cX0_init 79 = .ok (.aload_n 0, 1) := by decide +kernel
theorem dX0_init_80 : decode cX0_init 80 = .ok (.iconst 0, 1) := by decide +kernel
theorem dX0_init_81 : decode cX0_init 81 = .ok (.putfield 49, 3) := by decide +kernel
theorem dX0_init_84 : decode cX0_init 84 = .ok (.aload_n 0, 1) := by decide +kernel
theorem dX0_init_85 : decode cX0_init 85 = .ok (.iconst 0, 1) := by decide +kernel
theorem dX0_init_86 : decode cX0_init 86 = .ok (.putfield 52, 3) := by decide +kernel
theorem dX0_init_89 : decode cX0_init 89 = .ok (.return_, 1) := by decide +kernel
theorem dX0_describe_0 : decode cX0_describe 0 = .ok (.aload_n 0, 1) := by decide +kernel
theorem dX0_describe_1 : decode cX0_describe 1 = .ok (.iload_n 1, 1) := by decide +kernel
theorem dX0_describe_2 : decode cX0_describe 2 = .ok (.putfield 9, 3) := by decide +kernel
theorem dX0_describe_5 : decode cX0_describe 5 = .ok (.aload_n 0, 1) := by decide +kernel
theorem dX0_describe_6 : decode cX0_describe 6 = .ok (.iload_n 2, 1) := by decide +kernel
theorem dX0_describe_7 : decode cX0_describe 7 = .ok (.putfield 15, 3) := by decide +kernel
theorem dX0_describe_10 : decode cX0_describe 10 = .ok (.aload_n 0, 1) := by decide +kernel
theorem dX0_describe_11 : decode cX0_describe 11 = .ok (.iload_n 3, 1) := by decide +kernel
theorem dX0_describe_12 : decode cX0_describe 12 = .ok (.putfield 18, 3) := by decide +kernel
theorem dX0_describe_15 : decode cX0_describe 15 = .ok (.aload_n 0, 1) := by decide +kernel
theorem dX0_describe_16 : decode cX0_describe 16 = .ok (.iload 4, 2) := by decide +kernel
theorem dX0_describe_18 : decode cX0_describe 18 = .ok (.putfield 21, 3) := by decide +kernel
theorem dX0_describe_21 : decode cX0_describe 21 = .ok (.return_, 1) := by decide +kernel
theorem dX0_isSlit_0 : decode cX0_isSlit 0 = .ok (.aload_n 0, 1) := by decide +kernel
theorem dX0_isSlit_1 : decode cX0_isSlit 1 = .ok (.getfield 43, 3) := by decide +kernel
theorem dX0_isSlit_4 : decode cX0_isSlit 4 = .ok (.iconst (-1), 1) := by decide +kernel
theorem dX0_isSlit_5 : decode cX0_isSlit 5 = .ok (.if_icmp .eq 7, 3) := by decide +kernel
theorem dX0_isSlit_8 : decode cX0_isSlit 8 = .ok (.iconst 1, 1) := by decide +kernel
theorem dX0_isSlit_9 : decode cX0_isSlit 9 = .ok (.goto 4, 3) := by decide +kernel
theorem dX0_isSlit_12 : decode cX0_isSlit 12 = .ok (.iconst 0, 1) := by decide +kernel
theorem dX0_isSlit_13 : decode cX0_isSlit 13 = .ok (.ireturn, 1) := by decide +kernel
theorem dX0_hasSlitAt_0 : decode cX0_hasSlitAt 0 = .ok (.iload_n 1, 1) := by decide +kernel
theorem dX0_hasSlitAt_1 : decode cX0_hasSlitAt 1 = .ok (.ifCond .lt 15, 3) := by decide +kernel
theorem dX0_hasSlitAt_4 : decode cX0_hasSlitAt 4 = .ok (.iload_n 1, 1) := by decide +kernel
theorem dX0_hasSlitAt_5 : decode cX0_hasSlitAt 5 = .ok (.aload_n 0, 1) := by decide +kernel
theorem dX0_hasSlitAt_6 : decode cX0_hasSlitAt 6 = .ok (.getfield 43, 3) := by decide +kernel
theorem dX0_hasSlitAt_9 : decode cX0_hasSlitAt 9 = .ok (.if_icmp .ge 7, 3) := by decide +kernel
theorem dX0_hasSlitAt_12 : decode cX0_hasSlitAt 12 = .ok (.iconst 1, 1) := by decide +kernel
theorem dX0_hasSlitAt_13 : decode cX0_hasSlitAt 13 = .ok (.goto 4, 3) := by decide +kernel
theorem dX0_hasSlitAt_16 : decode cX0_hasSlitAt 16 = .ok (.iconst 0, 1) := by decide +kernel
theorem dX0_hasSlitAt_17 : decode cX0_hasSlitAt 17 = .ok (.ireturn, 1) := by decide +kernel
theorem dX0_hasMostDefects_0 : decode cX0_hasMostDefects 0 = .ok (.aload_n 0, 1) := by decide +kernel
theorem dX0_hasMostDefects_1 : decode cX0_hasMostDefects 1 = .ok (.getfield 31, 3) := by decide +kernel
theorem dX0_hasMostDefects_4 : decode cX0_hasMostDefects 4 = .ok (.bipush 8, 2) := by decide +kernel
theorem dX0_hasMostDefects_6 : decode cX0_hasMostDefects 6 = .ok (.if_icmp .lt 7, 3) := by decide +kernel
theorem dX0_hasMostDefects_9 : decode cX0_hasMostDefects 9 = .ok (.iconst 1, 1) := by decide +kernel
theorem dX0_hasMostDefects_10 : decode cX0_hasMostDefects 10 = .ok (.goto 4, 3) := by decide +kernel
theorem dX0_hasMostDefects_13 : decode cX0_hasMostDefects 13 = .ok (.iconst 0, 1) := by decide +kernel
theorem dX0_hasMostDefects_14 : decode cX0_hasMostDefects 14 = .ok (.ireturn, 1) := by decide +kernel
theorem dX0_addDefect_0 : decode cX0_addDefect 0 = .ok (.aload_n 0, 1) := by decide +kernel
theorem dX0_addDefect_1 : decode cX0_addDefect 1 = .ok (.invokevirtual 55, 3) := by decide +kernel
theorem dX0_addDefect_4 : decode cX0_addDefect 4 = .ok (.ifCond .eq 4, 3) := by decide +kernel
theorem dX0_addDefect_7 : decode cX0_addDefect 7 = .ok (.return_, 1) := by decide +kernel
theorem dX0_addDefect_8 : decode cX0_addDefect 8 = .ok (.aload_n 0, 1) := by decide +kernel
theorem dX0_addDefect_9 : decode cX0_addDefect 9 = .ok (.getfield 31, 3) := by decide +kernel
theorem dX0_addDefect_12 : decode cX0_addDefect 12 = .ok (.istore_n 3, 1) := by decide +kernel
theorem dX0_addDefect_13 : decode cX0_addDefect 13 = .ok (.iload_n 3, 1) := by decide +kernel
theorem dX0_addDefect_14 : decode cX0_addDefect 14 = .ok (.ifCond .le 49, 3) := by decide +kernel
theorem dX0_addDefect_17 : decode cX0_addDefect 17 = .ok (.aload_n 0, 1) := by decide +kernel
theorem dX0_addDefect_18 : decode cX0_addDefect 18 = .ok (.getfield 24, 3) := by decide +kernel
theorem dX0_addDefect_21 : decode cX0_addDefect 21 = .ok (.iload_n 3, 1) := by decide +kernel
theorem dX0_addDefect_22 : decode cX0_addDefect 22 = .ok (.iconst 1, 1) := by decide +kernel
theorem dX0_addDefect_23 : decode cX0_addDefect 23 = .ok (.isub, 1) := by decide +kernel
theorem dX0_addDefect_24 : decode cX0_addDefect 24 = .ok (.iaload, 1) := by decide +kernel
theorem dX0_addDefect_25 : decode cX0_addDefect 25 = .ok (.iload_n 1, 1) := by decide +kernel
theorem dX0_addDefect_26 : decode cX0_addDefect 26 = .ok (.if_icmp .le 37, 3) := by decide +kernel
theorem dX0_addDefect_29 : decode cX0_addDefect 29 = .ok (.aload_n 0, 1) := by decide +kernel
theorem dX0_addDefect_30 : decode cX0_addDefect 30 = .ok (.getfield 24, 3) := by decide +kernel
theorem dX0_addDefect_33 : decode cX0_addDefect 33 = .ok (.iload_n 3, 1) := by decide +kernel
theorem dX0_addDefect_34 : decode cX0_addDefect 34 = .ok (.aload_n 0, 1) := by decide +kernel
theorem dX0_addDefect_35 : decode cX0_addDefect 35 = .ok (.getfield 24, 3) := by decide +kernel
theorem dX0_addDefect_38 : decode cX0_addDefect 38 = .ok (.iload_n 3, 1) := by decide +kernel
theorem dX0_addDefect_39 : decode cX0_addDefect 39 = .ok (.iconst 1, 1) := by decide +kernel
theorem dX0_addDefect_40 : decode cX0_addDefect 40 = .ok (.isub, 1) := by decide +kernel
theorem dX0_addDefect_41 : decode cX0_addDefect 41 = .ok (.iaload, 1) := by decide +kernel
theorem dX0_addDefect_42 : decode cX0_addDefect 42 = .ok (.iastore, 1) := by decide +kernel
theorem dX0_addDefect_43 : decode cX0_addDefect 43 = .ok (.aload_n 0, 1) := by decide +kernel
theorem dX0_addDefect_44 : decode cX0_addDefect 44 = .ok (.getfield 28, 3) := by decide +kernel
theorem dX0_addDefect_47 : decode cX0_addDefect 47 = .ok (.iload_n 3, 1) := by decide +kernel
theorem dX0_addDefect_48 : decode cX0_addDefect 48 = .ok (.aload_n 0, 1) := by decide +kernel
theorem dX0_addDefect_49 : decode cX0_addDefect 49 = .ok (.getfield 28, 3) := by decide +kernel
theorem dX0_addDefect_52 : decode cX0_addDefect 52 = .ok (.iload_n 3, 1) := by decide +kernel
theorem dX0_addDefect_53 : decode cX0_addDefect 53 = .ok (.iconst 1, 1) := by decide +kernel
theorem dX0_addDefect_54 : decode cX0_addDefect 54 = .ok (.isub, 1) := by decide +kernel
theorem dX0_addDefect_55 : decode cX0_addDefect 55 = .ok (.iaload, 1) := by decide +kernel
theorem dX0_addDefect_56 : decode cX0_addDefect 56 = .ok (.iastore, 1) := by decide +kernel
theorem dX0_addDefect_57 : decode cX0_addDefect 57 = .ok (.iinc 3 (-1), 3) := by decide +kernel
theorem dX0_addDefect_60 : decode cX0_addDefect 60 = .ok (.goto (-47), 3) := by decide +kernel
theorem dX0_addDefect_63 : decode cX0_addDefect 63 = .ok (.aload_n 0, 1) := by decide +kernel
theorem dX0_addDefect_64 : decode cX0_addDefect 64 = .ok (.getfield 24, 3) := by decide +kernel
theorem dX0_addDefect_67 : decode cX0_addDefect 67 = .ok (.iload_n 3, 1) := by decide +kernel
theorem dX0_addDefect_68 : decode cX0_addDefect 68 = .ok (.iload_n 1, 1) := by decide +kernel
theorem dX0_addDefect_69 : decode cX0_addDefect 69 = .ok (.iastore, 1) := by decide +kernel
theorem dX0_addDefect_70 : decode cX0_addDefect 70 = .ok (.aload_n 0, 1) := by decide +kernel
theorem dX0_addDefect_71 : decode cX0_addDefect 71 = .ok (.getfield 28, 3) := by decide +kernel
theorem dX0_addDefect_74 : decode cX0_addDefect 74 = .ok (.iload_n 3, 1) := by decide +kernel
theorem dX0_addDefect_75 : decode cX0_addDefect 75 = .ok (.iload_n 2, 1) := by decide +kernel
theorem dX0_addDefect_76 : decode cX0_addDefect 76 = .ok (.iastore, 1) := by decide +kernel
theorem dX0_addDefect_77 : decode cX0_addDefect 77 = .ok (.aload_n 0, 1) := by decide +kernel
theorem dX0_addDefect_78 : decode cX0_addDefect 78 = .ok (.dup, 1) := by decide +kernel
theorem dX0_addDefect_79 : decode cX0_addDefect 79 = .ok (.getfield 31, 3) := by decide +kernel
theorem dX0_addDefect_82 : decode cX0_addDefect 82 = .ok (.iconst 1, 1) := by decide +kernel
theorem dX0_addDefect_83 : decode cX0_addDefect 83 = .ok (.iadd, 1) := by decide +kernel
theorem dX0_addDefect_84 : decode cX0_addDefect 84 = .ok (.putfield 31, 3) := by decide +kernel
theorem dX0_addDefect_87 : decode cX0_addDefect 87 = .ok (.return_, 1) := by decide +kernel
theorem dX0_cutOutLength_0 : decode cX0_cutOutLength 0 = .ok (.iconst 0, 1) := by decide +kernel
theorem dX0_cutOutLength_1 : decode cX0_cutOutLength 1 = .ok (.istore_n 1, 1) := by decide +kernel
theorem dX0_cutOutLength_2 : decode cX0_cutOutLength 2 = .ok (.iconst 0, 1) := by decide +kernel
theorem dX0_cutOutLength_3 : decode cX0_cutOutLength 3 = .ok (.istore_n 2, 1) := by decide +kernel
theorem dX0_cutOutLength_4 : decode cX0_cutOutLength 4 = .ok (.iconst 0, 1) := by decide +kernel
theorem dX0_cutOutLength_5 : decode cX0_cutOutLength 5 = .ok (.istore_n 3, 1) := by decide +kernel
theorem dX0_cutOutLength_6 : decode cX0_cutOutLength 6 = .ok (.iload_n 3, 1) := by decide +kernel
theorem dX0_cutOutLength_7 : decode cX0_cutOutLength 7 = .ok (.aload_n 0, 1) := by decide +kernel
theorem dX0_cutOutLength_8 : decode cX0_cutOutLength 8 = .ok (.getfield 31, 3) := by decide +kernel
theorem dX0_cutOutLength_11 : decode cX0_cutOutLength 11 = .ok (.if_icmp .ge 51, 3) := by decide +kernel
theorem dX0_cutOutLength_14 : decode cX0_cutOutLength 14 = .ok (.aload_n 0, 1) := by decide +kernel
theorem dX0_cutOutLength_15 : decode cX0_cutOutLength 15 = .ok (.getfield 24, 3) := by decide +kernel
theorem dX0_cutOutLength_18 : decode cX0_cutOutLength 18 = .ok (.iload_n 3, 1) := by decide +kernel
theorem dX0_cutOutLength_19 : decode cX0_cutOutLength 19 = .ok (.iaload, 1) := by decide +kernel
theorem dX0_cutOutLength_20 : decode cX0_cutOutLength 20 = .ok (.iload_n 2, 1) := by decide +kernel
theorem dX0_cutOutLength_21 : decode cX0_cutOutLength 21 = .ok (.invokestatic 59, 3) := by decide +kernel
theorem dX0_cutOutLength_24 : decode cX0_cutOutLength 24 = .ok (.istore 4, 2) := by decide +kernel
theorem dX0_cutOutLength_26 : decode cX0_cutOutLength 26 = .ok (.aload_n 0, 1) := by decide +kernel
theorem dX0_cutOutLength_27 : decode cX0_cutOutLength 27 = .ok (.getfield 28, 3) := by decide +kernel
theorem dX0_cutOutLength_30 : decode cX0_cutOutLength 30 = .ok (.iload_n 3, 1) := by decide +kernel
theorem dX0_cutOutLength_31 : decode cX0_cutOutLength 31 = .ok (.iaload, 1) := by decide +kernel
theorem dX0_cutOutLength_32 : decode cX0_cutOutLength 32 = .ok (.iload 4, 2) := by decide +kernel
theorem dX0_cutOutLength_34 : decode cX0_cutOutLength 34 = .ok (.if_icmp .le 22, 3) := by decide +kernel
theorem dX0_cutOutLength_37 : decode cX0_cutOutLength 37 = .ok (.iload_n 1, 1) := by decide +kernel
theorem dX0_cutOutLength_38 : decode cX0_cutOutLength 38 = .ok (.aload_n 0, 1) := by decide +kernel
theorem dX0_cutOutLength_39 : decode cX0_cutOutLength 39 = .ok (.getfield 28, 3) := by decide +kernel
theorem dX0_cutOutLength_42 : decode cX0_cutOutLength 42 = .ok (.iload_n 3, 1) := by decide +kernel
theorem dX0_cutOutLength_43 : decode cX0_cutOutLength 43 = .ok (.iaload, 1) := by decide +kernel
theorem dX0_cutOutLength_44 : decode cX0_cutOutLength 44 = .ok (.iload 4, 2) := by decide +kernel
theorem dX0_cutOutLength_46 : decode cX0_cutOutLength 46 = .ok (.isub, 1) := by decide +kernel
theorem dX0_cutOutLength_47 : decode cX0_cutOutLength 47 = .ok (.iadd, 1) := by decide +kernel
theorem dX0_cutOutLength_48 : decode cX0_cutOutLength 48 = .ok (.istore_n 1, 1) := by decide +kernel
theorem dX0_cutOutLength_49 : decode cX0_cutOutLength 49 = .ok (.aload_n 0, 1) := by decide +kernel
theorem dX0_cutOutLength_50 : decode cX0_cutOutLength 50 = .ok (.getfield 28, 3) := by decide +kernel
theorem dX0_cutOutLength_53 : decode cX0_cutOutLength 53 = .ok (.iload_n 3, 1) := by decide +kernel
theorem dX0_cutOutLength_54 : decode cX0_cutOutLength 54 = .ok (.iaload, 1) := by decide +kernel
theorem dX0_cutOutLength_55 : decode cX0_cutOutLength 55 = .ok (.istore_n 2, 1) := by decide +kernel
theorem dX0_cutOutLength_56 : decode cX0_cutOutLength 56 = .ok (.iinc 3 1, 3) := by decide +kernel
theorem dX0_cutOutLength_59 : decode cX0_cutOutLength 59 = .ok (.goto (-53), 3) := by decide +kernel
theorem dX0_cutOutLength_62 : decode cX0_cutOutLength 62 = .ok (.iload_n 1, 1) := by decide +kernel
theorem dX0_cutOutLength_63 : decode cX0_cutOutLength 63 = .ok (.ireturn, 1) := by decide +kernel
theorem dX0_slitBy_0 : decode cX0_slitBy 0 = .ok (.aload_n 0, 1) := by decide +kernel
theorem dX0_slitBy_1 : decode cX0_slitBy 1 = .ok (.iload_n 2, 1) := by decide +kernel
theorem dX0_slitBy_2 : decode cX0_slitBy 2 = .ok (.aload_n 0, 1) := by decide +kernel
theorem dX0_slitBy_3 : decode cX0_slitBy 3 = .ok (.getfield 15, 3) := by decide +kernel
theorem dX0_slitBy_6 : decode cX0_slitBy 6 = .ok (.invokestatic 65, 3) := by decide +kernel
theorem dX0_slitBy_9 : decode cX0_slitBy 9 = .ok (.putfield 46, 3) := by decide +kernel
theorem dX0_slitBy_12 : decode cX0_slitBy 12 = .ok (.aload_n 0, 1) := by decide +kernel
theorem dX0_slitBy_13 : decode cX0_slitBy 13 = .ok (.getfield 15, 3) := by decide +kernel
theorem dX0_slitBy_16 : decode cX0_slitBy 16 = .ok (.aload_n 0, 1) := by decide +kernel
theorem dX0_slitBy_17 : decode cX0_slitBy 17 = .ok (.getfield 46, 3) := by decide +kernel
theorem dX0_slitBy_20 : decode cX0_slitBy 20 = .ok (.isub, 1) := by decide +kernel
theorem dX0_slitBy_21 : decode cX0_slitBy 21 = .ok (.istore_n 3, 1) := by decide +kernel
theorem dX0_slitBy_22 : decode cX0_slitBy 22 = .ok (.aload_n 0, 1) := by decide +kernel
theorem dX0_slitBy_23 : decode cX0_slitBy 23 = .ok (.iload_n 3, 1) := by decide +kernel
theorem dX0_slitBy_24 : decode cX0_slitBy 24 = .ok (.aload_n 0, 1) := by decide +kernel
theorem dX0_slitBy_25 : decode cX0_slitBy 25 = .ok (.invokevirtual 68, 3) := by decide +kernel
theorem dX0_slitBy_28 : decode cX0_slitBy 28 = .ok (.aload_n 0, 1) := by decide +kernel
theorem dX0_slitBy_29 : decode cX0_slitBy 29 = .ok (.getfield 18, 3) := by decide +kernel
theorem dX0_slitBy_32 : decode cX0_slitBy 32 = .ok (.invokestatic 72, 3) := by decide +kernel
theorem dX0_slitBy_35 : decode cX0_slitBy 35 = .ok (.putfield 49, 3) := by decide +kernel
theorem dX0_slitBy_38 : decode cX0_slitBy 38 = .ok (.iload_n 3, 1) := by decide +kernel
theorem dX0_slitBy_39 : decode cX0_slitBy 39 = .ok (.aload_n 0, 1) := by decide +kernel
theorem dX0_slitBy_40 : decode cX0_slitBy 40 = .ok (.getfield 49, 3) := by decide +kernel
theorem dX0_slitBy_43 : decode cX0_slitBy 43 = .ok (.isub, 1) := by decide +kernel
theorem dX0_slitBy_44 : decode cX0_slitBy 44 = .ok (.istore 4, 2) := by decide +kernel
theorem dX0_slitBy_46 : decode cX0_slitBy 46 = .ok (.aload_n 0, 1) := by decide +kernel
theorem dX0_slitBy_47 : decode cX0_slitBy 47 = .ok (.iload 4, 2) := by decide +kernel
theorem dX0_slitBy_49 : decode cX0_slitBy 49 = .ok (.putfield 52, 3) := by decide +kernel
theorem dX0_slitBy_52 : decode cX0_slitBy 52 = .ok (.aload_n 0, 1) := by decide +kernel
theorem dX0_slitBy_53 : decode cX0_slitBy 53 = .ok (.aload_n 1, 1) := by decide +kernel
theorem dX0_slitBy_54 : decode cX0_slitBy 54 = .ok (.getfield 76, 3) := by decide +kernel
theorem dX0_slitBy_57 : decode cX0_slitBy 57 = .ok (.putfield 43, 3) := by decide +kernel
theorem dX0_slitBy_60 : decode cX0_slitBy 60 = .ok (.iconst 0, 1) := by decide +kernel
theorem dX0_slitBy_61 : decode cX0_slitBy 61 = .ok (.istore 5, 2) := by decide +kernel
theorem dX0_slitBy_63 : decode cX0_slitBy 63 = .ok (.iload 5, 2) := by decide +kernel
theorem dX0_slitBy_65 : decode cX0_slitBy 65 = .ok (.aload_n 0, 1) := by decide +kernel
theorem dX0_slitBy_66 : decode cX0_slitBy 66 = .ok (.getfield 43, 3) := by decide +kernel
theorem dX0_slitBy_69 : decode cX0_slitBy 69 = .ok (.if_icmp .ge 62, 3) := by decide +kernel
theorem dX0_slitBy_72 : decode cX0_slitBy 72 = .ok (.aload_n 0, 1) := by decide +kernel
theorem dX0_slitBy_73 : decode cX0_slitBy 73 = .ok (.getfield 34, 3) := by decide +kernel
theorem dX0_slitBy_76 : decode cX0_slitBy 76 = .ok (.iload 5, 2) := by decide +kernel
theorem dX0_slitBy_78 : decode cX0_slitBy 78 = .ok (.aload_n 1, 1) := by decide +kernel
theorem dX0_slitBy_79 : decode cX0_slitBy 79 = .ok (.getfield 81, 3) := by decide +kernel
theorem dX0_slitBy_82 : decode cX0_slitBy 82 = .ok (.iload 5, 2) := by decide +kernel
theorem dX0_slitBy_84 : decode cX0_slitBy 84 = .ok (.iaload, 1) := by decide +kernel
theorem dX0_slitBy_85 : decode cX0_slitBy 85 = .ok (.iastore, 1) := by decide +kernel
theorem dX0_slitBy_86 : decode cX0_slitBy 86 = .ok (.aload_n 0, 1) := by decide +kernel
theorem dX0_slitBy_87 : decode cX0_slitBy 87 = .ok (.getfield 37, 3) := by decide +kernel
theorem dX0_slitBy_90 : decode cX0_slitBy 90 = .ok (.iload 5, 2) := by decide +kernel
theorem dX0_slitBy_92 : decode cX0_slitBy 92 = .ok (.iload 4, 2) := by decide +kernel
theorem dX0_slitBy_94 : decode cX0_slitBy 94 = .ok (.aload_n 0, 1) := by decide +kernel
theorem dX0_slitBy_95 : decode cX0_slitBy 95 = .ok (.getfield 34, 3) := by decide +kernel
theorem dX0_slitBy_98 : decode cX0_slitBy 98 = .ok (.iload 5, 2) := by decide +kernel
theorem dX0_slitBy_100 : decode cX0_slitBy 100 = .ok (.iaload, 1) := by decide +kernel
theorem dX0_slitBy_101 : decode cX0_slitBy 101 = .ok (.aload_n 0, 1) := by decide +kernel
theorem dX0_slitBy_102 : decode cX0_slitBy 102 = .ok (.getfield 9, 3) := by decide +kernel
theorem dX0_slitBy_105 : decode cX0_slitBy 105 = .ok (.invokestatic 72, 3) := by decide +kernel
theorem dX0_slitBy_108 : decode cX0_slitBy 108 = .ok (.iastore, 1) := by decide +kernel
theorem dX0_slitBy_109 : decode cX0_slitBy 109 = .ok (.aload_n 0, 1) := by decide +kernel
theorem dX0_slitBy_110 : decode cX0_slitBy 110 = .ok (.dup, 1) := by decide +kernel
theorem dX0_slitBy_111 : decode cX0_slitBy 111 = .ok (.getfield 52, 3) := by decide +kernel
theorem dX0_slitBy_114 : decode cX0_slitBy 114 = .ok (.aload_n 0, 1) := by decide +kernel
theorem dX0_slitBy_115 : decode cX0_slitBy 115 = .ok (.getfield 37, 3) := by decide +kernel
theorem dX0_slitBy_118 : decode cX0_slitBy 118 = .ok (.iload 5, 2) := by decide +kernel
theorem dX0_slitBy_120 : decode cX0_slitBy 120 = .ok (.iaload, 1) := by decide +kernel
theorem dX0_slitBy_121 : decode cX0_slitBy 121 = .ok (.isub, 1) := by decide +kernel
theorem dX0_slitBy_122 : decode cX0_slitBy 122 = .ok (.putfield 52, 3) := by decide +kernel
theorem dX0_slitBy_125 : decode cX0_slitBy 125 = .ok (.iinc 5 1, 3) := by decide +kernel
theorem dX0_slitBy_128 : decode cX0_slitBy 128 = .ok (.goto (-65), 3) := by decide +kernel
theorem dX0_slitBy_131 : decode cX0_slitBy 131 = .ok (.return_, 1) := by decide +kernel
theorem dX0_stockOf_0 : decode cX0_stockOf 0 = .ok (.iconst 0, 1) := by decide +kernel
theorem dX0_stockOf_1 : decode cX0_stockOf 1 = .ok (.istore_n 2, 1) := by decide +kernel
theorem dX0_stockOf_2 : decode cX0_stockOf 2 = .ok (.iconst 0, 1) := by decide +kernel
theorem dX0_stockOf_3 : decode cX0_stockOf 3 = .ok (.istore_n 3, 1) := by decide +kernel
theorem dX0_stockOf_4 : decode cX0_stockOf 4 = .ok (.iload_n 3, 1) := by decide +kernel
theorem dX0_stockOf_5 : decode cX0_stockOf 5 = .ok (.aload_n 0, 1) := by decide +kernel
theorem dX0_stockOf_6 : decode cX0_stockOf 6 = .ok (.getfield 43, 3) := by decide +kernel
theorem dX0_stockOf_9 : decode cX0_stockOf 9 = .ok (.if_icmp .ge 38, 3) := by decide +kernel
theorem dX0_stockOf_12 : decode cX0_stockOf 12 = .ok (.aload_n 0, 1) := by decide +kernel
theorem dX0_stockOf_13 : decode cX0_stockOf 13 = .ok (.getfield 34, 3) := by decide +kernel
theorem dX0_stockOf_16 : decode cX0_stockOf 16 = .ok (.iload_n 3, 1) := by decide +kernel
theorem dX0_stockOf_17 : decode cX0_stockOf 17 = .ok (.iaload, 1) := by decide +kernel
theorem dX0_stockOf_18 : decode cX0_stockOf 18 = .ok (.iload_n 1, 1) := by decide +kernel
theorem dX0_stockOf_19 : decode cX0_stockOf 19 = .ok (.if_icmp .ne 22, 3) := by decide +kernel
theorem dX0_stockOf_22 : decode cX0_stockOf 22 = .ok (.aload_n 0, 1) := by decide +kernel
theorem dX0_stockOf_23 : decode cX0_stockOf 23 = .ok (.getfield 40, 3) := by decide +kernel
theorem dX0_stockOf_26 : decode cX0_stockOf 26 = .ok (.iload_n 3, 1) := by decide +kernel
theorem dX0_stockOf_27 : decode cX0_stockOf 27 = .ok (.iaload, 1) := by decide +kernel
theorem dX0_stockOf_28 : decode cX0_stockOf 28 = .ok (.iconst (-1), 1) := by decide +kernel
theorem dX0_stockOf_29 : decode cX0_stockOf 29 = .ok (.if_icmp .ne 12, 3) := by decide +kernel
theorem dX0_stockOf_32 : decode cX0_stockOf 32 = .ok (.iload_n 2, 1) := by decide +kernel
theorem dX0_stockOf_33 : decode cX0_stockOf 33 = .ok (.aload_n 0, 1) := by decide +kernel
theorem dX0_stockOf_34 : decode cX0_stockOf 34 = .ok (.getfield 37, 3) := by decide +kernel
theorem dX0_stockOf_37 : decode cX0_stockOf 37 = .ok (.iload_n 3, 1) := by decide +kernel
theorem dX0_stockOf_38 : decode cX0_stockOf 38 = .ok (.iaload, 1) := by decide +kernel
theorem dX0_stockOf_39 : decode cX0_stockOf 39 = .ok (.iadd, 1) := by decide +kernel
theorem dX0_stockOf_40 : decode cX0_stockOf 40 = .ok (.istore_n 2, 1) := by decide +kernel
theorem dX0_stockOf_41 : decode cX0_stockOf 41 = .ok (.iinc 3 1, 3) := by decide +kernel
theorem dX0_stockOf_44 : decode cX0_stockOf 44 = .ok (.goto (-40), 3) := by decide +kernel
theorem dX0_stockOf_47 : decode cX0_stockOf 47 = .ok (.iload_n 2, 1) := by decide +kernel
theorem dX0_stockOf_48 : decode cX0_stockOf 48 = .ok (.ireturn, 1) := by decide +kernel
theorem dX0_share_0 : decode cX0_share 0 = .ok (.iload_n 2, 1) := by decide +kernel
theorem dX0_share_1 : decode cX0_share 1 = .ok (.ifCond .gt 7, 3) := by decide +kernel
theorem dX0_share_4 : decode cX0_share 4 = .ok (.iconst 0, 1) := by decide +kernel
theorem dX0_share_5 : decode cX0_share 5 = .ok (.goto 8, 3) := by decide +kernel
theorem dX0_share_8 : decode cX0_share 8 = .ok (.iload_n 0, 1) := by decide +kernel
theorem dX0_share_9 : decode cX0_share 9 = .ok (.iload_n 1, 1) := by decide +kernel
theorem dX0_share_10 : decode cX0_share 10 = .ok (.imul, 1) := by decide +kernel
theorem dX0_share_11 : decode cX0_share 11 = .ok (.iload_n 2, 1) := by decide +kernel
theorem dX0_share_12 : decode cX0_share 12 = .ok (.idiv, 1) := by decide +kernel
theorem dX0_share_13 : decode cX0_share 13 = .ok (.ireturn, 1) := by decide +kernel
theorem dX1_init_0 : decode cX1_init 0 = .ok (.aload_n 0, 1) := by decide +kernel
theorem dX1_init_1 : decode cX1_init 1 = .ok (.invokespecial 3, 3) := by decide +kernel
theorem dX1_init_4 : decode cX1_init 4 = .ok (.aload_n 0, 1) := by decide +kernel
theorem dX1_init_5 : decode cX1_init 5 = .ok (.bipush 12, 2) := by decide +kernel
theorem dX1_init_7 : decode cX1_init 7 = .ok (.newarray .int, 2) := by decide +kernel
theorem dX1_init_9 : decode cX1_init 9 = .ok (.putfield 9, 3) := by decide +kernel
theorem dX1_init_12 : decode cX1_init 12 = .ok (.aload_n 0, 1) := by decide +kernel
theorem dX1_init_13 : decode cX1_init 13 = .ok (.iconst 0, 1) := by decide +kernel
theorem dX1_init_14 : decode cX1_init 14 = .ok (.putfield 15, 3) := by decide +kernel
theorem dX1_init_17 : decode cX1_init 17 = .ok (.aload_n 0, 1) := by decide +kernel
theorem dX1_init_18 : decode cX1_init 18 = .ok (.sipush 2001, 3) := by decide +kernel
theorem dX1_init_21 : decode cX1_init 21 = .ok (.newarray .int, 2) := by decide +kernel
theorem dX1_init_23 : decode cX1_init 23 = .ok (.putfield 19, 3) := by decide +kernel
theorem dX1_init_26 : decode cX1_init 26 = .ok (.return_, 1) := by decide +kernel
theorem dX1_forgetWidths_0 : decode cX1_forgetWidths 0 = .ok (.aload_n 0, 1) := by decide +kernel
theorem dX1_forgetWidths_1 : decode cX1_forgetWidths 1 = .ok (.iconst 0, 1) := by decide +kernel
theorem dX1_forgetWidths_2 : decode cX1_forgetWidths 2 = .ok (.putfield 15, 3) := by decide +kernel
theorem dX1_forgetWidths_5 : decode cX1_forgetWidths 5 = .ok (.return_, 1) := by decide +kernel
theorem dX1_offerWidth_0 : decode cX1_offerWidth 0 = .ok (.iconst 0, 1) := by decide +kernel
theorem dX1_offerWidth_1 : decode cX1_offerWidth 1 = .ok (.istore_n 2, 1) := by decide +kernel
theorem dX1_offerWidth_2 : decode cX1_offerWidth 2 = .ok (.iload_n 2, 1) := by decide +kernel
theorem dX1_offerWidth_3 : decode cX1_offerWidth 3 = .ok (.aload_n 0, 1) := by decide +kernel
theorem dX1_offerWidth_4 : decode cX1_offerWidth 4 = .ok (.getfield 15, 3) := by decide +kernel
theorem dX1_offerWidth_7 : decode cX1_offerWidth 7 = .ok (.if_icmp .ge 19, 3) := by decide +kernel
theorem dX1_offerWidth_10 : decode cX1_offerWidth 10 = .ok (.aload_n 0, 1) := by decide +kernel
theorem dX1_offerWidth_11 : decode cX1_offerWidth 11 = .ok (.getfield 9, 3) := by decide +kernel
theorem dX1_offerWidth_14 : decode cX1_offerWidth 14 = .ok (.iload_n 2, 1) := by decide +kernel
theorem dX1_offerWidth_15 : decode cX1_offerWidth 15 = .ok (.iaload, 1) := by decide +kernel
theorem dX1_offerWidth_16 : decode cX1_offerWidth 16 = .ok (.iload_n 1, 1) := by decide +kernel
theorem dX1_offerWidth_17 : decode cX1_offerWidth 17 = .ok (.if_icmp .le 9, 3) := by decide +kernel
theorem dX1_offerWidth_20 : decode cX1_offerWidth 20 = .ok (.iinc 2 1, 3) := by decide +kernel
theorem dX1_offerWidth_23 : decode cX1_offerWidth 23 = .ok (.goto (-21), 3) := by decide +kernel
theorem dX1_offerWidth_26 : decode cX1_offerWidth 26 = .ok (.iload_n 2, 1) := by decide +kernel
theorem dX1_offerWidth_27 : decode cX1_offerWidth 27 = .ok (.aload_n 0, 1) := by decide +kernel
theorem dX1_offerWidth_28 : decode cX1_offerWidth 28 = .ok (.getfield 15, 3) := by decide +kernel
theorem dX1_offerWidth_31 : decode cX1_offerWidth 31 = .ok (.if_icmp .ge 17, 3) := by decide +kernel
theorem dX1_offerWidth_34 : decode cX1_offerWidth 34 = .ok (.aload_n 0, 1) := by decide +kernel
theorem dX1_offerWidth_35 : decode cX1_offerWidth 35 = .ok (.getfield 9, 3) := by decide +kernel
theorem dX1_offerWidth_38 : decode cX1_offerWidth 38 = .ok (.iload_n 2, 1) := by decide +kernel
theorem dX1_offerWidth_39 : decode cX1_offerWidth 39 = .ok (.iaload, 1) := by decide +kernel
theorem dX1_offerWidth_40 : decode cX1_offerWidth 40 = .ok (.iload_n 1, 1) := by decide +kernel
theorem dX1_offerWidth_41 : decode cX1_offerWidth 41 = .ok (.if_icmp .ne 7, 3) := by decide +kernel
theorem dX1_offerWidth_44 : decode cX1_offerWidth 44 = .ok (.iconst 1, 1) := by decide +kernel
theorem dX1_offerWidth_45 : decode cX1_offerWidth 45 = .ok (.goto 4, 3) := by decide +kernel
theorem dX1_offerWidth_48 : decode cX1_offerWidth 48 = .ok (.iconst 0, 1) := by decide +kernel
theorem dX1_offerWidth_49 : decode cX1_offerWidth 49 = .ok (.istore_n 3, 1) := by decide +kernel
theorem dX1_offerWidth_50 : decode cX1_offerWidth 50 = .ok (.iload_n 3, 1) := by decide +kernel
theorem dX1_offerWidth_51 : decode cX1_offerWidth 51 = .ok (.ifCond .ne 15, 3) := by decide +kernel
theorem dX1_offerWidth_54 : decode cX1_offerWidth 54 = .ok (.aload_n 0, 1) := by decide +kernel
theorem dX1_offerWidth_55 : decode cX1_offerWidth 55 = .ok (.getfield 15, 3) := by decide +kernel
theorem dX1_offerWidth_58 : decode cX1_offerWidth 58 = .ok (.aload_n 0, 1) := by decide +kernel
theorem dX1_offerWidth_59 : decode cX1_offerWidth 59 = .ok (.getfield 9, 3) := by decide +kernel
theorem dX1_offerWidth_62 : decode cX1_offerWidth 62 = .ok (.arraylength, 1) := by decide +kernel
theorem dX1_offerWidth_63 : decode cX1_offerWidth 63 = .ok (.if_icmp .lt 4, 3) := by decide +kernel
theorem dX1_offerWidth_66 : decode cX1_offerWidth 66 = .ok (.return_, 1) := by decide +kernel
theorem dX1_offerWidth_67 : decode cX1_offerWidth 67 = .ok (.aload_n 0, 1) := by decide +kernel
theorem dX1_offerWidth_68 : decode cX1_offerWidth 68 = .ok (.getfield 15, 3) := by decide +kernel
theorem dX1_offerWidth_71 : decode cX1_offerWidth 71 = .ok (.istore 4, 2) := by decide +kernel
theorem dX1_offerWidth_73 : decode cX1_offerWidth 73 = .ok (.iload 4, 2) := by decide +kernel
theorem dX1_offerWidth_75 : decode cX1_offerWidth 75 = .ok (.iload_n 2, 1) := by decide +kernel
theorem dX1_offerWidth_76 : decode cX1_offerWidth 76 = .ok (.if_icmp .le 25, 3) := by decide +kernel
theorem dX1_offerWidth_79 : decode cX1_offerWidth 79 = .ok (.aload_n 0, 1) := by decide +kernel
theorem dX1_offerWidth_80 : decode cX1_offerWidth 80 = .ok (.getfield 9, 3) := by decide +kernel
theorem dX1_offerWidth_83 : decode cX1_offerWidth 83 = .ok (.iload 4, 2) := by decide +kernel
theorem dX1_offerWidth_85 : decode cX1_offerWidth 85 = .ok (.aload_n 0, 1) := by decide +kernel
theorem dX1_offerWidth_86 : decode cX1_offerWidth 86 = .ok (.getfield 9, 3) := by decide +kernel
theorem dX1_offerWidth_89 : decode cX1_offerWidth 89 = .ok (.iload 4, 2) := by decide +kernel
theorem dX1_offerWidth_91 : decode cX1_offerWidth 91 = .ok (.iconst 1, 1) := by decide +kernel
theorem dX1_offerWidth_92 : decode cX1_offerWidth 92 = .ok (.isub, 1) := by decide +kernel
theorem dX1_offerWidth_93 : decode cX1_offerWidth 93 = .ok (.iaload, 1) := by decide +kernel
theorem dX1_offerWidth_94 : decode cX1_offerWidth 94 = .ok (.iastore, 1) := by decide +kernel
theorem dX1_offerWidth_95 : decode cX1_offerWidth 95 = .ok (.iinc 4 (-1), 3) := by decide +kernel
theorem dX1_offerWidth_98 : decode cX1_offerWidth 98 = .ok (.goto (-25), 3) := by decide +kernel
theorem dX1_offerWidth_101 : decode cX1_offerWidth 101 = .ok (.aload_n 0, 1) := by decide +kernel
theorem dX1_offerWidth_102 : decode cX1_offerWidth 102 = .ok (.getfield 9, 3) := by decide +kernel
theorem dX1_offerWidth_105 : decode cX1_offerWidth 105 = .ok (.iload_n 2, 1) := by decide +kernel
theorem dX1_offerWidth_106 : decode cX1_offerWidth 106 = .ok (.iload_n 1, 1) := by decide +kernel
theorem dX1_offerWidth_107 : decode cX1_offerWidth 107 = .ok (.iastore, 1) := by decide +kernel
theorem dX1_offerWidth_108 : decode cX1_offerWidth 108 = .ok (.aload_n 0, 1) := by decide +kernel
theorem dX1_offerWidth_109 : decode cX1_offerWidth 109 = .ok (.dup, 1) := by decide +kernel
theorem dX1_offerWidth_110 : decode cX1_offerWidth 110 = .ok (.getfield 15, 3) := by decide +kernel
theorem dX1_offerWidth_113 : decode cX1_offerWidth 113 = .ok (.iconst 1, 1) := by decide +kernel
theorem dX1_offerWidth_114 : decode cX1_offerWidth 114 = .ok (.iadd, 1) := by decide +kernel
theorem dX1_offerWidth_115 : decode cX1_offerWidth 115 = .ok (.putfield 15, 3) := by decide +kernel
theorem dX1_offerWidth_118 : decode cX1_offerWidth 118 = .ok (.return_, 1) := by decide +kernel
theorem dX1_greatestTotal_0 : decode cX1_greatestTotal 0 = .ok (.iconst 0, 1) := by decide +kernel
theorem dX1_greatestTotal_1 : decode cX1_greatestTotal 1 = .ok (.istore_n 3, 1) := by decide +kernel
theorem dX1_greatestTotal_2 : decode cX1_greatestTotal 2 = .ok (.iconst 1, 1) := by decide +kernel
theorem dX1_greatestTotal_3 : decode cX1_greatestTotal 3 = .ok (.istore 4, 2) := by decide +kernel
theorem dX1_greatestTotal_5 : decode cX1_greatestTotal 5 = .ok (.iload 4, 2) := by decide +kernel
theorem dX1_greatestTotal_7 : decode cX1_greatestTotal 7 = .ok (.iload_n 1, 1) := by decide +kernel
theorem dX1_greatestTotal_8 : decode cX1_greatestTotal 8 = .ok (.if_icmp .gt 46, 3) := by decide +kernel
theorem dX1_greatestTotal_11 : decode cX1_greatestTotal 11 = .ok (.iload 4, 2) := by decide +kernel
theorem dX1_greatestTotal_13 : decode cX1_greatestTotal 13 = .ok (.aload_n 0, 1) := by decide +kernel
theorem dX1_greatestTotal_14 : decode cX1_greatestTotal 14 = .ok (.getfield 19, 3) := by decide +kernel
theorem dX1_greatestTotal_17 : decode cX1_greatestTotal 17 = .ok (.arraylength, 1) := by decide +kernel
theorem dX1_greatestTotal_18 : decode cX1_greatestTotal 18 = .ok (.if_icmp .ge 36, 3) := by decide +kernel
theorem dX1_greatestTotal_21 : decode cX1_greatestTotal 21 = .ok (.aload_n 0, 1) := by decide +kernel
theorem dX1_greatestTotal_22 : decode cX1_greatestTotal 22 = .ok (.getfield 19, 3) := by decide +kernel
theorem dX1_greatestTotal_25 : decode cX1_greatestTotal 25 = .ok (.iload 4, 2) := by decide +kernel
theorem dX1_greatestTotal_27 : decode cX1_greatestTotal 27 = .ok (.aload_n 0, 1) := by decide +kernel
theorem dX1_greatestTotal_28 : decode cX1_greatestTotal 28 = .ok (.iload 4, 2) := by decide +kernel
theorem dX1_greatestTotal_30 : decode cX1_greatestTotal 30 = .ok (.invokevirtual 22, 3) := by decide +kernel
theorem dX1_greatestTotal_33 : decode cX1_greatestTotal 33 = .ok (.iastore, 1) := by decide +kernel
theorem dX1_greatestTotal_34 : decode cX1_greatestTotal 34 = .ok (.aload_n 0, 1) := by decide +kernel
theorem dX1_greatestTotal_35 : decode cX1_greatestTotal 35 = .ok (.getfield 19, 3) := by decide +kernel
theorem dX1_greatestTotal_38 : decode cX1_greatestTotal 38 = .ok (.iload 4, 2) := by decide +kernel
theorem dX1_greatestTotal_40 : decode cX1_greatestTotal 40 = .ok (.iaload, 1) := by decide +kernel
theorem dX1_greatestTotal_41 : decode cX1_greatestTotal 41 = .ok (.iload_n 2, 1) := by decide +kernel
theorem dX1_greatestTotal_42 : decode cX1_greatestTotal 42 = .ok (.if_icmp .gt 6, 3) := by decide +kernel
theorem dX1_greatestTotal_45 : decode cX1_greatestTotal 45 = .ok (.iload 4, 2) := by decide +kernel
theorem dX1_greatestTotal_47 : decode cX1_greatestTotal 47 = .ok (.istore_n 3, 1) := by decide +kernel
theorem dX1_greatestTotal_48 : decode cX1_greatestTotal 48 = .ok (.iinc 4 1, 3) := by decide +kernel
theorem dX1_greatestTotal_51 : decode cX1_greatestTotal 51 = .ok (.goto (-46), 3) := by decide +kernel
theorem dX1_greatestTotal_54 : decode cX1_greatestTotal 54 = .ok (.iload_n 3, 1) := by decide +kernel
theorem dX1_greatestTotal_55 : decode cX1_greatestTotal 55 = .ok (.ireturn, 1) := by decide +kernel
theorem dX1_fewestSlitsFor_0 : decode cX1_fewestSlitsFor 0 = .ok (.bipush 16, 2) := by decide +kernel
theorem dX1_fewestSlitsFor_2 : decode cX1_fewestSlitsFor 2 = .ok (.istore_n 2, 1) := by decide +kernel
theorem dX1_fewestSlitsFor_3 : decode cX1_fewestSlitsFor 3 = .ok (.iconst 0, 1) := by decide +kernel
theorem dX1_fewestSlitsFor_4 : decode cX1_fewestSlitsFor 4 = .ok (.istore_n 3, 1) := by decide +kernel
theorem dX1_fewestSlitsFor_5 : decode cX1_fewestSlitsFor 5 = .ok (.iload_n 3, 1) := by decide +kernel
theorem dX1_fewestSlitsFor_6 : decode cX1_fewestSlitsFor 6 = .ok (.aload_n 0, 1) := by decide +kernel
theorem dX1_fewestSlitsFor_7 : decode cX1_fewestSlitsFor 7 = .ok (.getfield 15, 3) := by decide +kernel
theorem dX1_fewestSlitsFor_10 : decode cX1_fewestSlitsFor 10 = .ok (.if_icmp .ge 39, 3) := by decide +kernel
theorem dX1_fewestSlitsFor_13 : decode cX1_fewestSlitsFor 13 = .ok (.aload_n 0, 1) := by decide +kernel
theorem dX1_fewestSlitsFor_14 : decode cX1_fewestSlitsFor 14 = .ok (.getfield 9, 3) := by decide +kernel
theorem dX1_fewestSlitsFor_17 : decode cX1_fewestSlitsFor 17 = .ok (.iload_n 3, 1) := by decide +kernel
theorem dX1_fewestSlitsFor_18 : decode cX1_fewestSlitsFor 18 = .ok (.iaload, 1) := by decide +kernel
theorem dX1_fewestSlitsFor_19 : decode cX1_fewestSlitsFor 19 = .ok (.iload_n 1, 1) := by decide +kernel
theorem dX1_fewestSlitsFor_20 : decode cX1_fewestSlitsFor 20 = .ok (.if_icmp .gt 23, 3) := by decide +kernel
theorem dX1_fewestSlitsFor_23 : decode cX1_fewestSlitsFor 23 = .ok (.iload_n 2, 1) := by decide +kernel
theorem dX1_fewestSlitsFor_24 : decode cX1_fewestSlitsFor 24 = .ok (.aload_n 0, 1) := by decide +kernel
theorem dX1_fewestSlitsFor_25 : decode cX1_fewestSlitsFor 25 = .ok (.getfield 19, 3) := by decide +kernel
theorem dX1_fewestSlitsFor_28 : decode cX1_fewestSlitsFor 28 = .ok (.iload_n 1, 1) := by decide +kernel
theorem dX1_fewestSlitsFor_29 : decode cX1_fewestSlitsFor 29 = .ok (.aload_n 0, 1) := by decide +kernel
theorem dX1_fewestSlitsFor_30 : decode cX1_fewestSlitsFor 30 = .ok (.getfield 9, 3) := by decide +kernel
theorem dX1_fewestSlitsFor_33 : decode cX1_fewestSlitsFor 33 = .ok (.iload_n 3, 1) := by decide +kernel
theorem dX1_fewestSlitsFor_34 : decode cX1_fewestSlitsFor 34 = .ok (.iaload, 1) := by decide +kernel
theorem dX1_fewestSlitsFor_35 : decode cX1_fewestSlitsFor 35 = .ok (.isub, 1) := by decide +kernel
theorem dX1_fewestSlitsFor_36 : decode cX1_fewestSlitsFor 36 = .ok (.iaload, 1) := by decide +kernel
theorem dX1_fewestSlitsFor_37 : decode cX1_fewestSlitsFor 37 = .ok (.iconst 1, 1) := by decide +kernel
theorem dX1_fewestSlitsFor_38 : decode cX1_fewestSlitsFor 38 = .ok (.iadd, 1) := by decide +kernel
theorem dX1_fewestSlitsFor_39 : decode cX1_fewestSlitsFor 39 = .ok (.invokestatic 26, 3) := by decide +kernel
theorem dX1_fewestSlitsFor_42 : decode cX1_fewestSlitsFor 42 = .ok (.istore_n 2, 1) := by decide +kernel
theorem dX1_fewestSlitsFor_43 : decode cX1_fewestSlitsFor 43 = .ok (.iinc 3 1, 3) := by decide +kernel
theorem dX1_fewestSlitsFor_46 : decode cX1_fewestSlitsFor 46 = .ok (.goto (-41), 3) := by decide +kernel
theorem dX1_fewestSlitsFor_49 : decode cX1_fewestSlitsFor 49 = .ok (.iload_n 2, 1) := by decide +kernel
theorem dX1_fewestSlitsFor_50 : decode cX1_fewestSlitsFor 50 = .ok (.ireturn, 1) := by decide +kernel
theorem dX1_layOut_0 : decode cX1_layOut 0 = .ok (.aload_n 2, 1) := by decide +kernel
theorem dX1_layOut_1 : decode cX1_layOut 1 = .ok (.invokevirtual 32, 3) := by decide +kernel
theorem dX1_layOut_4 : decode cX1_layOut 4 = .ok (.iload_n 1, 1) := by decide +kernel
theorem dX1_layOut_5 : decode cX1_layOut 5 = .ok (.istore_n 3, 1) := by decide +kernel
theorem dX1_layOut_6 : decode cX1_layOut 6 = .ok (.aload_n 0, 1) := by decide +kernel
theorem dX1_layOut_7 : decode cX1_layOut 7 = .ok (.getfield 19, 3) := by decide +kernel
theorem dX1_layOut_10 : decode cX1_layOut 10 = .ok (.iload_n 1, 1) := by decide +kernel
theorem dX1_layOut_11 : decode cX1_layOut 11 = .ok (.iaload, 1) := by decide +kernel
theorem dX1_layOut_12 : decode cX1_layOut 12 = .ok (.istore 4, 2) := by decide +kernel
theorem dX1_layOut_14 : decode cX1_layOut 14 = .ok (.iload 4, 2) := by decide +kernel
theorem dX1_layOut_16 : decode cX1_layOut 16 = .ok (.ifCond .le 31, 3) := by decide +kernel
theorem dX1_layOut_19 : decode cX1_layOut 19 = .ok (.aload_n 0, 1) := by decide +kernel
theorem dX1_layOut_20 : decode cX1_layOut 20 = .ok (.iload_n 3, 1) := by decide +kernel
theorem dX1_layOut_21 : decode cX1_layOut 21 = .ok (.iload 4, 2) := by decide +kernel
theorem dX1_layOut_23 : decode cX1_layOut 23 = .ok (.iconst 1, 1) := by decide +kernel
theorem dX1_layOut_24 : decode cX1_layOut 24 = .ok (.isub, 1) := by decide +kernel
theorem dX1_layOut_25 : decode cX1_layOut 25 = .ok (.invokevirtual 37, 3) := by decide +kernel
theorem dX1_layOut_28 : decode cX1_layOut 28 = .ok (.istore 5, 2) := by decide +kernel
theorem dX1_layOut_30 : decode cX1_layOut 30 = .ok (.aload_n 2, 1) := by decide +kernel
theorem dX1_layOut_31 : decode cX1_layOut 31 = .ok (.iload 5, 2) := by decide +kernel
theorem dX1_layOut_33 : decode cX1_layOut 33 = .ok (.invokevirtual 40, 3) := by decide +kernel
theorem dX1_layOut_36 : decode cX1_layOut 36 = .ok (.iload_n 3, 1) := by decide +kernel
theorem dX1_layOut_37 : decode cX1_layOut 37 = .ok (.iload 5, 2) := by decide +kernel
theorem dX1_layOut_39 : decode cX1_layOut 39 = .ok (.isub, 1) := by decide +kernel
theorem dX1_layOut_40 : decode cX1_layOut 40 = .ok (.istore_n 3, 1) := by decide +kernel
theorem dX1_layOut_41 : decode cX1_layOut 41 = .ok (.iinc 4 (-1), 3) := by decide +kernel
theorem dX1_layOut_44 : decode cX1_layOut 44 = .ok (.goto (-30), 3) := by decide +kernel
theorem dX1_layOut_47 : decode cX1_layOut 47 = .ok (.return_, 1) := by decide +kernel
theorem dX1_greatestBefore_0 : decode cX1_greatestBefore 0 = .ok (.iconst 0, 1) := by decide +kernel
theorem dX1_greatestBefore_1 : decode cX1_greatestBefore 1 = .ok (.istore_n 3, 1) := by decide +kernel
theorem dX1_greatestBefore_2 : decode cX1_greatestBefore 2 = .ok (.iload_n 3, 1) := by decide +kernel
theorem dX1_greatestBefore_3 : decode cX1_greatestBefore 3 = .ok (.aload_n 0, 1) := by decide +kernel
theorem dX1_greatestBefore_4 : decode cX1_greatestBefore 4 = .ok (.getfield 15, 3) := by decide +kernel
theorem dX1_greatestBefore_7 : decode cX1_greatestBefore 7 = .ok (.if_icmp .ge 43, 3) := by decide +kernel
theorem dX1_greatestBefore_10 : decode cX1_greatestBefore 10 = .ok (.aload_n 0, 1) := by decide +kernel
theorem dX1_greatestBefore_11 : decode cX1_greatestBefore 11 = .ok (.getfield 9, 3) := by decide +kernel
theorem dX1_greatestBefore_14 : decode cX1_greatestBefore 14 = .ok (.iload_n 3, 1) := by decide +kernel
theorem dX1_greatestBefore_15 : decode cX1_greatestBefore 15 = .ok (.iaload, 1) := by decide +kernel
theorem dX1_greatestBefore_16 : decode cX1_greatestBefore 16 = .ok (.iload_n 1, 1) := by decide +kernel
theorem dX1_greatestBefore_17 : decode cX1_greatestBefore 17 = .ok (.if_icmp .gt 27, 3) := by decide +kernel
theorem dX1_greatestBefore_20 : decode cX1_greatestBefore 20 = .ok (.aload_n 0, 1) := by decide +kernel
theorem dX1_greatestBefore_21 : decode cX1_greatestBefore 21 = .ok (.getfield 19, 3) := by decide +kernel
theorem dX1_greatestBefore_24 : decode cX1_greatestBefore 24 = .ok (.iload_n 1, 1) := by decide +kernel
theorem dX1_greatestBefore_25 : decode cX1_greatestBefore 25 = .ok (.aload_n 0, 1) := by decide +kernel
theorem dX1_greatestBefore_26 : decode cX1_greatestBefore 26 = .ok (.getfield 9, 3) := by decide +kernel
theorem dX1_greatestBefore_29 : decode cX1_greatestBefore 29 = .ok (.iload_n 3, 1) := by decide +kernel
theorem dX1_greatestBefore_30 : decode cX1_greatestBefore 30 = .ok (.iaload, 1) := by decide +kernel
theorem dX1_greatestBefore_31 : decode cX1_greatestBefore 31 = .ok (.isub, 1) := by decide +kernel
theorem dX1_greatestBefore_32 : decode cX1_greatestBefore 32 = .ok (.iaload, 1) := by decide +kernel
theorem dX1_greatestBefore_33 : decode cX1_greatestBefore 33 = .ok (.iload_n 2, 1) := by decide +kernel
theorem dX1_greatestBefore_34 : decode cX1_greatestBefore 34 = .ok (.if_icmp .ne 10, 3) := by decide +kernel
theorem dX1_greatestBefore_37 : decode cX1_greatestBefore 37 = .ok (.aload_n 0, 1) := by decide +kernel
theorem dX1_greatestBefore_38 : decode cX1_greatestBefore 38 = .ok (.getfield 9, 3) := by decide +kernel
theorem dX1_greatestBefore_41 : decode cX1_greatestBefore 41 = .ok (.iload_n 3, 1) := by decide +kernel
theorem dX1_greatestBefore_42 : decode cX1_greatestBefore 42 = .ok (.iaload, 1) := by decide +kernel

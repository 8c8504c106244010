theorem dX5_init_0 : decode cX5_init 0 = .ok (.aload_n 0, 1) := by decide +kernel
theorem dX5_init_1 : decode cX5_init 1 = .ok (.invokespecial 1, 3) := by decide +kernel
theorem dX5_init_4 : decode cX5_init 4 = .ok (.aload_n 0, 1) := by decide +kernel
theorem dX5_init_5 : decode cX5_init 5 = .ok (.bipush 20, 2) := by decide +kernel
theorem dX5_init_7 : decode cX5_init 7 = .ok (.anewarray 9, 3) := by decide +kernel
theorem dX5_init_10 : decode cX5_init 10 = .ok (.putfield 11, 3) := by decide +kernel
theorem dX5_init_13 : decode cX5_init 13 = .ok (.aload_n 0, 1) := by decide +kernel
theorem dX5_init_14 : decode cX5_init 14 = .ok (.iconst 0, 1) := by decide +kernel
theorem dX5_init_15 : decode cX5_init 15 = .ok (.putfield 15, 3) := by decide +kernel
theorem dX5_init_18 : decode cX5_init 18 = .ok (.aload_n 0, 1) := by decide +kernel
theorem dX5_init_19 : decode cX5_init 19 = .ok (.bipush 12, 2) := by decide +kernel
theorem dX5_init_21 : decode cX5_init 21 = .ok (.anewarray 19, 3) := by decide +kernel
theorem dX5_init_24 : decode cX5_init 24 = .ok (.putfield 21, 3) := by decide +kernel
theorem dX5_init_27 : decode cX5_init 27 = .ok (.aload_n 0, 1) := by decide +kernel
theorem dX5_init_28 : decode cX5_init 28 = .ok (.iconst 0, 1) := by decide +kernel
theorem dX5_init_29 : decode cX5_init 29 = .ok (.putfield 25, 3) := by decide +kernel
theorem dX5_init_32 : decode cX5_init 32 = .ok (.aload_n 0, 1) := by decide +kernel
theorem dX5_init_33 : decode cX5_init 33 = .ok (.bipush 10, 2) := by decide +kernel
theorem dX5_init_35 : decode cX5_init 35 = .ok (.anewarray 28, 3) := by decide +kernel
theorem dX5_init_38 : decode cX5_init 38 = .ok (.putfield 30, 3) := by decide +kernel
theorem dX5_init_41 : decode cX5_init 41 = .ok (.aload_n 0, 1) := by decide +kernel
theorem dX5_init_42 : decode cX5_init 42 = .ok (.iconst 0, 1) := by decide +kernel
theorem dX5_init_43 : decode cX5_init 43 = .ok (.putfield 34, 3) := by decide +kernel
theorem dX5_init_46 : decode cX5_init 46 = .ok (.aload_n 0, 1) := by decide +kernel
theorem dX5_init_47 : decode cX5_init 47 = .ok (.new 28, 3) := by decide +kernel
theorem dX5_init_50 : decode cX5_init 50 = .ok (.dup, 1) := by decide +kernel
theorem dX5_init_51 : decode cX5_init 51 = .ok (.invokespecial 37, 3) := by decide +kernel
theorem dX5_init_54 : decode cX5_init 54 = .ok (.putfield 38, 3) := by decide +kernel
theorem dX5_init_57 : decode cX5_init 57 = .ok (.aload_n 0, 1) := by decide +kernel
theorem dX5_init_58 : decode cX5_init 58 = .ok (.bipush 10, 2) := by decide +kernel
theorem dX5_init_60 : decode cX5_init 60 = .ok (.putfield 42, 3) := by decide +kernel
theorem dX5_init_63 : decode cX5_init 63 = .ok (.aload_n 0, 1) := by decide +kernel
theorem dX5_init_64 : decode cX5_init 64 = .ok (.bipush 20, 2) := by decide +kernel
theorem dX5_init_66 : decode cX5_init 66 = .ok (.putfield 45, 3) := by decide +kernel
theorem dX5_init_69 : decode cX5_init 69 = .ok (.aload_n 0, 1) := by decide +kernel
theorem dX5_init_70 : decode cX5_init 70 = .ok (.bipush 8, 2) := by decide +kernel
theorem dX5_init_72 : decode cX5_init 72 = .ok (.putfield 48, 3) := by decide +kernel
theorem dX5_init_75 : decode cX5_init 75 = .ok (.aload_n 0, 1) := by decide +kernel
theorem dX5_init_76 : decode cX5_init 76 = .ok (.iconst (-1), 1) := by decide +kernel
theorem dX5_init_77 : decode cX5_init 77 = .ok (.putfield 51, 3) := by decide +kernel
theorem dX5_init_80 : decode cX5_init 80 = .ok (.aload_n 0, 1) := by decide +kernel
theorem dX5_init_81 : decode cX5_init 81 = .ok (.iconst 0, 1) := by decide +kernel
theorem dX5_init_82 : decode cX5_init 82 = .ok (.putfield 54, 3) := by decide +kernel
theorem dX5_init_85 : decode cX5_init 85 = .ok (.aload_n 0, 1) := by decide +kernel
theorem dX5_init_86 : decode cX5_init 86 = .ok (.bipush 7, 2) := by decide +kernel
theorem dX5_init_88 : decode cX5_init 88 = .ok (.newarray .int, 2) := by decide +kernel
theorem dX5_init_90 : decode cX5_init 90 = .ok (.putfield 57, 3) := by decide +kernel
theorem dX5_init_93 : decode cX5_init 93 = .ok (.aload_n 0, 1) := by decide +kernel
theorem dX5_init_94 : decode cX5_init 94 = .ok (.bipush 7, 2) := by decide +kernel
theorem dX5_init_96 : decode cX5_init 96 = .ok (.newarray .int, 2) := by decide +kernel
theorem dX5_init_98 : decode cX5_init 98 = .ok (.putfield 61, 3) := by decide +kernel
theorem dX5_init_101 : decode cX5_init 101 = .ok (.aload_n 0, 1) := by decide +kernel
theorem dX5_init_102 : decode cX5_init 102 = .ok (.iconst 0, 1) := by decide +kernel
theorem dX5_init_103 : decode cX5_init 103 = .ok (.putfield 64, 3) := by decide +kernel
theorem dX5_init_106 : decode cX5_init 106 = .ok (.aload_n 0, 1) := by decide +kernel
theorem dX5_init_107 : decode cX5_init 107 = .ok (.new 67, 3) := by decide +kernel
theorem dX5_init_110 : decode cX5_init 110 = .ok (.dup, 1) := by decide +kernel
theorem dX5_init_111 : decode cX5_init 111 = .ok (.invokespecial 69, 3) := by decide +kernel
theorem dX5_init_114 : decode cX5_init 114 = .ok (.putfield 70, 3) := by decide +kernel
theorem dX5_init_117 : decode cX5_init 117 = .ok (.aload_n 0, 1) := by decide +kernel
theorem dX5_init_118 : decode cX5_init 118 = .ok (.new 74, 3) := by decide +kernel
theorem dX5_init_121 : decode cX5_init 121 = .ok (.dup, 1) := by decide +kernel
theorem dX5_init_122 : decode cX5_init 122 = .ok (.invokespecial 76, 3) := by decide +kernel
theorem dX5_init_125 : decode cX5_init 125 = .ok (.putfield 77, 3) := by decide +kernel
theorem dX5_init_128 : decode cX5_init 128 = .ok (.iconst 0, 1) := by decide +kernel
theorem dX5_init_129 : decode cX5_init 129 = .ok (.istore_n 1, 1) := by decide +kernel
theorem dX5_init_130 : decode cX5_init 130 = .ok (.iload_n 1, 1) := by decide +kernel
theorem dX5_init_131 : decode cX5_init 131 = .ok (.aload_n 0, 1) := by decide +kernel
theorem dX5_init_132 : decode cX5_init 132 = .ok (.getfield 11, 3) := by decide +kernel
theorem dX5_init_135 : decode cX5_init 135 = .ok (.arraylength, 1) := by decide +kernel
theorem dX5_init_136 : decode cX5_init 136 = .ok (.if_icmp .ge 22, 3) := by decide +kernel
theorem dX5_init_139 : decode cX5_init 139 = .ok (.aload_n 0, 1) := by decide +kernel
theorem dX5_init_140 : decode cX5_init 140 = .ok (.getfield 11, 3) := by decide +kernel
theorem dX5_init_143 : decode cX5_init 143 = .ok (.iload_n 1, 1) := by decide +kernel
theorem dX5_init_144 : decode cX5_init 144 = .ok (.new 9, 3) := by decide +kernel
theorem dX5_init_147 : decode cX5_init 147 = .ok (.dup, 1) := by decide +kernel
theorem dX5_init_148 : decode cX5_init 148 = .ok (.invokespecial 81, 3) := by decide +kernel
theorem dX5_init_151 : decode cX5_init 151 = .ok (.aastore, 1) := by decide +kernel
theorem dX5_init_152 : decode cX5_init 152 = .ok (.iinc 1 1, 3) := by decide +kernel
theorem dX5_init_155 : decode cX5_init 155 = .ok (.goto (-25), 3) := by decide +kernel
theorem dX5_init_158 : decode cX5_init 158 = .ok (.iconst 0, 1) := by decide +kernel
theorem dX5_init_159 : decode cX5_init 159 = .ok (.istore_n 1, 1) := by decide +kernel
theorem dX5_init_160 : decode cX5_init 160 = .ok (.iload_n 1, 1) := by decide +kernel
theorem dX5_init_161 : decode cX5_init 161 = .ok (.aload_n 0, 1) := by decide +kernel
theorem dX5_init_162 : decode cX5_init 162 = .ok (.getfield 21, 3) := by decide +kernel
theorem dX5_init_165 : decode cX5_init 165 = .ok (.arraylength, 1) := by decide +kernel
theorem dX5_init_166 : decode cX5_init 166 = .ok (.if_icmp .ge 22, 3) := by decide +kernel
theorem dX5_init_169 : decode cX5_init 169 = .ok (.aload_n 0, 1) := by decide +kernel
theorem dX5_init_170 : decode cX5_init 170 = .ok (.getfield 21, 3) := by decide +kernel
theorem dX5_init_173 : decode cX5_init 173 = .ok (.iload_n 1, 1) := by decide +kernel
theorem dX5_init_174 : decode cX5_init 174 = .ok (.new 19, 3) := by decide +kernel
theorem dX5_init_177 : decode cX5_init 177 = .ok (.dup, 1) := by decide +kernel
theorem dX5_init_178 : decode cX5_init 178 = .ok (.invokespecial 82, 3) := by decide +kernel
theorem dX5_init_181 : decode cX5_init 181 = .ok (.aastore, 1) := by decide +kernel
theorem dX5_init_182 : decode cX5_init 182 = .ok (.iinc 1 1, 3) := by decide +kernel
theorem dX5_init_185 : decode cX5_init 185 = .ok (.goto (-25), 3) := by decide +kernel
theorem dX5_init_188 : decode cX5_init 188 = .ok (.iconst 0, 1) := by decide +kernel
theorem dX5_init_189 : decode cX5_init 189 = .ok (.istore_n 1, 1) := by decide +kernel
theorem dX5_init_190 : decode cX5_init 190 = .ok (.iload_n 1, 1) := by decide +kernel
theorem dX5_init_191 : decode cX5_init 191 = .ok (.aload_n 0, 1) := by decide +kernel
theorem dX5_init_192 : decode cX5_init 192 = .ok (.getfield 30, 3) := by decide +kernel
theorem dX5_init_195 : decode cX5_init 195 = .ok (.arraylength, 1) := by decide +kernel
theorem dX5_init_196 : decode cX5_init 196 = .ok (.if_icmp .ge 22, 3) := by decide +kernel
theorem dX5_init_199 : decode cX5_init 199 = .ok (.aload_n 0, 1) := by decide +kernel
theorem dX5_init_200 : decode cX5_init 200 = .ok (.getfield 30, 3) := by decide +kernel
theorem dX5_init_203 : decode cX5_init 203 = .ok (.iload_n 1, 1) := by decide +kernel
theorem dX5_init_204 : decode cX5_init 204 = .ok (.new 28, 3) := by decide +kernel
theorem dX5_init_207 : decode cX5_init 207 = .ok (.dup, 1) := by decide +kernel
theorem dX5_init_208 : decode cX5_init 208 = .ok (.invokespecial 37, 3) := by decide +kernel
theorem dX5_init_211 : decode cX5_init 211 = .ok (.aastore, 1) := by decide +kernel
theorem dX5_init_212 : decode cX5_init 212 = .ok (.iinc 1 1, 3) := by decide +kernel
theorem dX5_init_215 : decode cX5_init 215 = .ok (.goto (-25), 3) := by decide +kernel
theorem dX5_init_218 : decode cX5_init 218 = .ok (.return_, 1) := by decide +kernel
theorem dX5_coil_0 : decode cX5_coil 0 = .ok (.iload_n 1, 1) := by decide +kernel
theorem dX5_coil_1 : decode cX5_coil 1 = .ok (.bipush 100, 2) := by decide +kernel
theorem dX5_coil_3 : decode cX5_coil 3 = .ok (.sipush 2000, 3) := by decide +kernel
theorem dX5_coil_6 : decode cX5_coil 6 = .ok (.invokestatic 83, 3) := by decide +kernel
theorem dX5_coil_9 : decode cX5_coil 9 = .ok (.iload_n 2, 1) := by decide +kernel
theorem dX5_coil_10 : decode cX5_coil 10 = .ok (.iconst 1, 1) := by decide +kernel
theorem dX5_coil_11 : decode cX5_coil 11 = .ok (.sipush 30000, 3) := by decide +kernel
theorem dX5_coil_14 : decode cX5_coil 14 = .ok (.invokestatic 83, 3) := by decide +kernel
theorem dX5_coil_17 : decode cX5_coil 17 = .ok (.iload_n 3, 1) := by decide +kernel
theorem dX5_coil_18 : decode cX5_coil 18 = .ok (.bipush 10, 2) := by decide +kernel
theorem dX5_coil_20 : decode cX5_coil 20 = .ok (.sipush 5000, 3) := by decide +kernel
theorem dX5_coil_23 : decode cX5_coil 23 = .ok (.invokestatic 83, 3) := by decide +kernel
theorem dX5_coil_26 : decode cX5_coil 26 = .ok (.iload 4, 2) := by decide +kernel
theorem dX5_coil_28 : decode cX5_coil 28 = .ok (.iconst 1, 1) := by decide +kernel
theorem dX5_coil_29 : decode cX5_coil 29 = .ok (.bipush 99, 2) := by decide +kernel
theorem dX5_coil_31 : decode cX5_coil 31 = .ok (.invokestatic 83, 3) := by decide +kernel
theorem dX5_coil_34 : decode cX5_coil 34 = .ok (.aload_n 0, 1) := by decide +kernel
theorem dX5_coil_35 : decode cX5_coil 35 = .ok (.getfield 15, 3) := by decide +kernel
theorem dX5_coil_38 : decode cX5_coil 38 = .ok (.aload_n 0, 1) := by decide +kernel
theorem dX5_coil_39 : decode cX5_coil 39 = .ok (.getfield 11, 3) := by decide +kernel
theorem dX5_coil_42 : decode cX5_coil 42 = .ok (.arraylength, 1) := by decide +kernel
theorem dX5_coil_43 : decode cX5_coil 43 = .ok (.if_icmp .lt 13, 3) := by decide +kernel
theorem dX5_coil_46 : decode cX5_coil 46 = .ok (.new 87, 3) := by decide +kernel
theorem dX5_coil_49 : decode cX5_coil 49 = .ok (.dup, 1) := by decide +kernel
theorem dX5_coil_50 : decode cX5_coil 50 = .ok (.ldc 89, 2) := by decide +kernel
theorem dX5_coil_52 : decode cX5_coil 52 = .ok (.invokespecial 91, 3) := by decide +kernel
theorem dX5_coil_55 : decode cX5_coil 55 = .ok (.athrow, 1) := by decide +kernel
theorem dX5_coil_56 : decode cX5_coil 56 = .ok (.aload_n 0, 1) := by decide +kernel
theorem dX5_coil_57 : decode cX5_coil 57 = .ok (.getfield 11, 3) := by decide +kernel
theorem dX5_coil_60 : decode cX5_coil 60 = .ok (.aload_n 0, 1) := by decide +kernel
theorem dX5_coil_61 : decode cX5_coil 61 = .ok (.getfield 15, 3) := by decide +kernel
theorem dX5_coil_64 : decode cX5_coil 64 = .ok (.aaload, 1) := by decide +kernel
theorem dX5_coil_65 : decode cX5_coil 65 = .ok (.iload_n 1, 1) := by decide +kernel
theorem dX5_coil_66 : decode cX5_coil 66 = .ok (.iload_n 2, 1) := by decide +kernel
theorem dX5_coil_67 : decode cX5_coil 67 = .ok (.iload_n 3, 1) := by decide +kernel
theorem dX5_coil_68 : decode cX5_coil 68 = .ok (.iload 4, 2) := by decide +kernel
theorem dX5_coil_70 : decode cX5_coil 70 = .ok (.invokevirtual 94, 3) := by decide +kernel
theorem dX5_coil_73 : decode cX5_coil 73 = .ok (.aload_n 0, 1) := by decide +kernel
theorem dX5_coil_74 : decode cX5_coil 74 = .ok (.dup, 1) := by decide +kernel
theorem dX5_coil_75 : decode cX5_coil 75 = .ok (.getfield 15, 3) := by decide +kernel
theorem dX5_coil_78 : decode cX5_coil 78 = .ok (.iconst 1, 1) := by decide +kernel
theorem dX5_coil_79 : decode cX5_coil 79 = .ok (.iadd, 1) := by decide +kernel
theorem dX5_coil_80 : decode cX5_coil 80 = .ok (.putfield 15, 3) := by decide +kernel
theorem dX5_coil_83 : decode cX5_coil 83 = .ok (.aload_n 0, 1) := by decide +kernel
theorem dX5_coil_84 : decode cX5_coil 84 = .ok (.getfield 15, 3) := by decide +kernel
theorem dX5_coil_87 : decode cX5_coil 87 = .ok (.iconst 1, 1) := by decide +kernel
theorem dX5_coil_88 : decode cX5_coil 88 = .ok (.isub, 1) := by decide +kernel
theorem dX5_coil_89 : decode cX5_coil 89 = .ok (.ireturn, 1) := by decide +kernel
theorem dX5_defect_0 : decode cX5_defect 0 = .ok (.aload_n 0, 1) := by decide +kernel
theorem dX5_defect_1 : decode cX5_defect 1 = .ok (.iload_n 1, 1) := by decide +kernel
theorem dX5_defect_2 : decode cX5_defect 2 = .ok (.invokevirtual 98, 3) := by decide +kernel
theorem dX5_defect_5 : decode cX5_defect 5 = .ok (.aload_n 0, 1) := by decide +kernel
theorem dX5_defect_6 : decode cX5_defect 6 = .ok (.getfield 11, 3) := by decide +kernel
theorem dX5_defect_9 : decode cX5_defect 9 = .ok (.iload_n 1, 1) := by decide +kernel
theorem dX5_defect_10 : decode cX5_defect 10 = .ok (.aaload, 1) := by decide +kernel
theorem dX5_defect_11 : decode cX5_defect 11 = .ok (.astore 4, 2) := by decide +kernel
theorem dX5_defect_13 : decode cX5_defect 13 = .ok (.iload_n 2, 1) := by decide +kernel
theorem dX5_defect_14 : decode cX5_defect 14 = .ok (.iconst 0, 1) := by decide +kernel
theorem dX5_defect_15 : decode cX5_defect 15 = .ok (.aload 4, 2) := by decide +kernel
theorem dX5_defect_17 : decode cX5_defect 17 = .ok (.getfield 102, 3) := by decide +kernel
theorem dX5_defect_20 : decode cX5_defect 20 = .ok (.iconst 1, 1) := by decide +kernel
theorem dX5_defect_21 : decode cX5_defect 21 = .ok (.isub, 1) := by decide +kernel
theorem dX5_defect_22 : decode cX5_defect 22 = .ok (.invokestatic 83, 3) := by decide +kernel
theorem dX5_defect_25 : decode cX5_defect 25 = .ok (.iload_n 3, 1) := by decide +kernel
theorem dX5_defect_26 : decode cX5_defect 26 = .ok (.iload_n 2, 1) := by decide +kernel
theorem dX5_defect_27 : decode cX5_defect 27 = .ok (.iconst 1, 1) := by decide +kernel
theorem dX5_defect_28 : decode cX5_defect 28 = .ok (.iadd, 1) := by decide +kernel
theorem dX5_defect_29 : decode cX5_defect 29 = .ok (.aload 4, 2) := by decide +kernel
theorem dX5_defect_31 : decode cX5_defect 31 = .ok (.getfield 102, 3) := by decide +kernel
theorem dX5_defect_34 : decode cX5_defect 34 = .ok (.invokestatic 83, 3) := by decide +kernel
theorem dX5_defect_37 : decode cX5_defect 37 = .ok (.aload 4, 2) := by decide +kernel
theorem dX5_defect_39 : decode cX5_defect 39 = .ok (.invokevirtual 105, 3) := by decide +kernel
theorem dX5_defect_42 : decode cX5_defect 42 = .ok (.ifCond .ne 11, 3) := by decide +kernel
theorem dX5_defect_45 : decode cX5_defect 45 = .ok (.aload 4, 2) := by decide +kernel
theorem dX5_defect_47 : decode cX5_defect 47 = .ok (.invokevirtual 109, 3) := by decide +kernel
theorem dX5_defect_50 : decode cX5_defect 50 = .ok (.ifCond .eq 13, 3) := by decide +kernel
theorem dX5_defect_53 : decode cX5_defect 53 = .ok (.new 87, 3) := by decide +kernel
theorem dX5_defect_56 : decode cX5_defect 56 = .ok (.dup, 1) := by decide +kernel
theorem dX5_defect_57 : decode cX5_defect 57 = .ok (.ldc 112, 2) := by decide +kernel
theorem dX5_defect_59 : decode cX5_defect 59 = .ok (.invokespecial 91, 3) := by decide +kernel
theorem dX5_defect_62 : decode cX5_defect 62 = .ok (.athrow, 1) := by decide +kernel
theorem dX5_defect_63 : decode cX5_defect 63 = .ok (.aload 4, 2) := by decide +kernel
theorem dX5_defect_65 : decode cX5_defect 65 = .ok (.iload_n 2, 1) := by decide +kernel
theorem dX5_defect_66 : decode cX5_defect 66 = .ok (.iload_n 3, 1) := by decide +kernel
theorem dX5_defect_67 : decode cX5_defect 67 = .ok (.invokevirtual 114, 3) := by decide +kernel
theorem dX5_defect_70 : decode cX5_defect 70 = .ok (.aload 4, 2) := by decide +kernel
theorem dX5_defect_72 : decode cX5_defect 72 = .ok (.invokevirtual 118, 3) := by decide +kernel
theorem dX5_defect_75 : decode cX5_defect 75 = .ok (.ireturn, 1) := by decide +kernel
theorem dX5_setRules_0 : decode cX5_setRules 0 = .ok (.iload_n 1, 1) := by decide +kernel
theorem dX5_setRules_1 : decode cX5_setRules 1 = .ok (.iconst 0, 1) := by decide +kernel
theorem dX5_setRules_2 : decode cX5_setRules 2 = .ok (.bipush 100, 2) := by decide +kernel
theorem dX5_setRules_4 : decode cX5_setRules 4 = .ok (.invokestatic 83, 3) := by decide +kernel
theorem dX5_setRules_7 : decode cX5_setRules 7 = .ok (.iload_n 2, 1) := by decide +kernel
theorem dX5_setRules_8 : decode cX5_setRules 8 = .ok (.iconst 0, 1) := by decide +kernel
theorem dX5_setRules_9 : decode cX5_setRules 9 = .ok (.sipush 500, 3) := by decide +kernel
theorem dX5_setRules_12 : decode cX5_setRules 12 = .ok (.invokestatic 83, 3) := by decide +kernel
theorem dX5_setRules_15 : decode cX5_setRules 15 = .ok (.iload_n 3, 1) := by decide +kernel
theorem dX5_setRules_16 : decode cX5_setRules 16 = .ok (.iconst 2, 1) := by decide +kernel
theorem dX5_setRules_17 : decode cX5_setRules 17 = .ok (.bipush 16, 2) := by decide +kernel
theorem dX5_setRules_19 : decode cX5_setRules 19 = .ok (.invokestatic 83, 3) := by decide +kernel
theorem dX5_setRules_22 : decode cX5_setRules 22 = .ok (.aload_n 0, 1) := by decide +kernel
theorem dX5_setRules_23 : decode cX5_setRules 23 = .ok (.getfield 42, 3) := by decide +kernel
theorem dX5_setRules_26 : decode cX5_setRules 26 = .ok (.istore 4, 2) := by decide +kernel
theorem dX5_setRules_28 : decode cX5_setRules 28 = .ok (.aload_n 0, 1) := by decide +kernel
theorem dX5_setRules_29 : decode cX5_setRules 29 = .ok (.iload_n 1, 1) := by decide +kernel
theorem dX5_setRules_30 : decode cX5_setRules 30 = .ok (.putfield 42, 3) := by decide +kernel
theorem dX5_setRules_33 : decode cX5_setRules 33 = .ok (.aload_n 0, 1) := by decide +kernel
theorem dX5_setRules_34 : decode cX5_setRules 34 = .ok (.iload_n 2, 1) := by decide +kernel
theorem dX5_setRules_35 : decode cX5_setRules 35 = .ok (.putfield 45, 3) := by decide +kernel
theorem dX5_setRules_38 : decode cX5_setRules 38 = .ok (.aload_n 0, 1) := by decide +kernel
theorem dX5_setRules_39 : decode cX5_setRules 39 = .ok (.iload_n 3, 1) := by decide +kernel
theorem dX5_setRules_40 : decode cX5_setRules 40 = .ok (.putfield 48, 3) := by decide +kernel
theorem dX5_setRules_43 : decode cX5_setRules 43 = .ok (.iload 4, 2) := by decide +kernel
theorem dX5_setRules_45 : decode cX5_setRules 45 = .ok (.ireturn, 1) := by decide +kernel
theorem dX5_order_0 : decode cX5_order 0 = .ok (.iload_n 1, 1) := by decide +kernel
theorem dX5_order_1 : decode cX5_order 1 = .ok (.bipush 20, 2) := by decide +kernel
theorem dX5_order_3 : decode cX5_order 3 = .ok (.sipush 1000, 3) := by decide +kernel
theorem dX5_order_6 : decode cX5_order 6 = .ok (.invokestatic 83, 3) := by decide +kernel
theorem dX5_order_9 : decode cX5_order 9 = .ok (.iload_n 2, 1) := by decide +kernel
theorem dX5_order_10 : decode cX5_order 10 = .ok (.iconst 1, 1) := by decide +kernel
theorem dX5_order_11 : decode cX5_order 11 = .ok (.ldc 122, 2) := by decide +kernel
theorem dX5_order_13 : decode cX5_order 13 = .ok (.invokestatic 83, 3) := by decide +kernel
theorem dX5_order_16 : decode cX5_order 16 = .ok (.aload_n 0, 1) := by decide +kernel
theorem dX5_order_17 : decode cX5_order 17 = .ok (.getfield 25, 3) := by decide +kernel
theorem dX5_order_20 : decode cX5_order 20 = .ok (.aload_n 0, 1) := by decide +kernel
theorem dX5_order_21 : decode cX5_order 21 = .ok (.getfield 21, 3) := by decide +kernel
theorem dX5_order_24 : decode cX5_order 24 = .ok (.arraylength, 1) := by decide +kernel
theorem dX5_order_25 : decode cX5_order 25 = .ok (.if_icmp .lt 13, 3) := by decide +kernel
theorem dX5_order_28 : decode cX5_order 28 = .ok (.new 87, 3) := by decide +kernel
theorem dX5_order_31 : decode cX5_order 31 = .ok (.dup, 1) := by decide +kernel
theorem dX5_order_32 : decode cX5_order 32 = .ok (.ldc 123, 2) := by decide +kernel
theorem dX5_order_34 : decode cX5_order 34 = .ok (.invokespecial 91, 3) := by decide +kernel
theorem dX5_order_37 : decode cX5_order 37 = .ok (.athrow, 1) := by decide +kernel
theorem dX5_order_38 : decode cX5_order 38 = .ok (.aload_n 0, 1) := by decide +kernel
theorem dX5_order_39 : decode cX5_order 39 = .ok (.getfield 21, 3) := by decide +kernel
theorem dX5_order_42 : decode cX5_order 42 = .ok (.aload_n 0, 1) := by decide +kernel
theorem dX5_order_43 : decode cX5_order 43 = .ok (.getfield 25, 3) := by decide +kernel
theorem dX5_order_46 : decode cX5_order 46 = .ok (.aaload, 1) := by decide +kernel
theorem dX5_order_47 : decode cX5_order 47 = .ok (.iload_n 1, 1) := by decide +kernel
theorem dX5_order_48 : decode cX5_order 48 = .ok (.iload_n 2, 1) := by decide +kernel
theorem dX5_order_49 : decode cX5_order 49 = .ok (.invokevirtual 125, 3) := by decide +kernel
theorem dX5_order_52 : decode cX5_order 52 = .ok (.aload_n 0, 1) := by decide +kernel
theorem dX5_order_53 : decode cX5_order 53 = .ok (.dup, 1) := by decide +kernel
theorem dX5_order_54 : decode cX5_order 54 = .ok (.getfield 25, 3) := by decide +kernel
theorem dX5_order_57 : decode cX5_order 57 = .ok (.iconst 1, 1) := by decide +kernel
theorem dX5_order_58 : decode cX5_order 58 = .ok (.iadd, 1) := by decide +kernel
theorem dX5_order_59 : decode cX5_order 59 = .ok (.putfield 25, 3) := by decide +kernel
theorem dX5_order_62 : decode cX5_order 62 = .ok (.aload_n 0, 1) := by decide +kernel
theorem dX5_order_63 : decode cX5_order 63 = .ok (.getfield 25, 3) := by decide +kernel
theorem dX5_order_66 : decode cX5_order 66 = .ok (.iconst 1, 1) := by decide +kernel
theorem dX5_order_67 : decode cX5_order 67 = .ok (.isub, 1) := by decide +kernel
theorem dX5_order_68 : decode cX5_order 68 = .ok (.ireturn, 1) := by decide +kernel
theorem dX5_addSlit_0 : decode cX5_addSlit 0 = .ok (.iload_n 1, 1) := by decide +kernel
theorem dX5_addSlit_1 : decode cX5_addSlit 1 = .ok (.bipush 20, 2) := by decide +kernel
theorem dX5_addSlit_3 : decode cX5_addSlit 3 = .ok (.sipush 1000, 3) := by decide +kernel
theorem dX5_addSlit_6 : decode cX5_addSlit 6 = .ok (.invokestatic 83, 3) := by decide +kernel
theorem dX5_addSlit_9 : decode cX5_addSlit 9 = .ok (.aload_n 0, 1) := by decide +kernel
theorem dX5_addSlit_10 : decode cX5_addSlit 10 = .ok (.getfield 38, 3) := by decide +kernel
theorem dX5_addSlit_13 : decode cX5_addSlit 13 = .ok (.invokevirtual 127, 3) := by decide +kernel
theorem dX5_addSlit_16 : decode cX5_addSlit 16 = .ok (.ifCond .eq 13, 3) := by decide +kernel
theorem dX5_addSlit_19 : decode cX5_addSlit 19 = .ok (.new 87, 3) := by decide +kernel
theorem dX5_addSlit_22 : decode cX5_addSlit 22 = .ok (.dup, 1) := by decide +kernel
theorem dX5_addSlit_23 : decode cX5_addSlit 23 = .ok (.ldc 130, 2) := by decide +kernel
theorem dX5_addSlit_25 : decode cX5_addSlit 25 = .ok (.invokespecial 91, 3) := by decide +kernel
theorem dX5_addSlit_28 : decode cX5_addSlit 28 = .ok (.athrow, 1) := by decide +kernel
theorem dX5_addSlit_29 : decode cX5_addSlit 29 = .ok (.aload_n 0, 1) := by decide +kernel
theorem dX5_addSlit_30 : decode cX5_addSlit 30 = .ok (.getfield 38, 3) := by decide +kernel
theorem dX5_addSlit_33 : decode cX5_addSlit 33 = .ok (.iload_n 1, 1) := by decide +kernel
theorem dX5_addSlit_34 : decode cX5_addSlit 34 = .ok (.invokevirtual 132, 3) := by decide +kernel
theorem dX5_addSlit_37 : decode cX5_addSlit 37 = .ok (.aload_n 0, 1) := by decide +kernel
theorem dX5_addSlit_38 : decode cX5_addSlit 38 = .ok (.getfield 38, 3) := by decide +kernel
theorem dX5_addSlit_41 : decode cX5_addSlit 41 = .ok (.getfield 135, 3) := by decide +kernel
theorem dX5_addSlit_44 : decode cX5_addSlit 44 = .ok (.ireturn, 1) := by decide +kernel
theorem dX5_draftSlits_0 : decode cX5_draftSlits 0 = .ok (.aload_n 0, 1) := by decide +kernel
theorem dX5_draftSlits_1 : decode cX5_draftSlits 1 = .ok (.getfield 38, 3) := by decide +kernel
theorem dX5_draftSlits_4 : decode cX5_draftSlits 4 = .ok (.getfield 135, 3) := by decide +kernel
theorem dX5_draftSlits_7 : decode cX5_draftSlits 7 = .ok (.ireturn, 1) := by decide +kernel
theorem dX5_draftWidth_0 : decode cX5_draftWidth 0 = .ok (.aload_n 0, 1) := by decide +kernel
theorem dX5_draftWidth_1 : decode cX5_draftWidth 1 = .ok (.getfield 38, 3) := by decide +kernel
theorem dX5_draftWidth_4 : decode cX5_draftWidth 4 = .ok (.iload_n 1, 1) := by decide +kernel
theorem dX5_draftWidth_5 : decode cX5_draftWidth 5 = .ok (.invokevirtual 141, 3) := by decide +kernel
theorem dX5_draftWidth_8 : decode cX5_draftWidth 8 = .ok (.ifCond .ne 13, 3) := by decide +kernel
theorem dX5_draftWidth_11 : decode cX5_draftWidth 11 = .ok (.new 145, 3) := by decide +kernel
theorem dX5_draftWidth_14 : decode cX5_draftWidth 14 = .ok (.dup, 1) := by decide +kernel
theorem dX5_draftWidth_15 : decode cX5_draftWidth 15 = .ok (.ldc 147, 2) := by decide +kernel
theorem dX5_draftWidth_17 : decode cX5_draftWidth 17 = .ok (.invokespecial 149, 3) := by decide +kernel
theorem dX5_draftWidth_20 : decode cX5_draftWidth 20 = .ok (.athrow, 1) := by decide +kernel
theorem dX5_draftWidth_21 : decode cX5_draftWidth 21 = .ok (.aload_n 0, 1) := by decide +kernel
theorem dX5_draftWidth_22 : decode cX5_draftWidth 22 = .ok (.getfield 38, 3) := by decide +kernel
theorem dX5_draftWidth_25 : decode cX5_draftWidth 25 = .ok (.getfield 150, 3) := by decide +kernel
theorem dX5_draftWidth_28 : decode cX5_draftWidth 28 = .ok (.iload_n 1, 1) := by decide +kernel
theorem dX5_draftWidth_29 : decode cX5_draftWidth 29 = .ok (.iaload, 1) := by decide +kernel
theorem dX5_draftWidth_30 : decode cX5_draftWidth 30 = .ok (.ireturn, 1) := by decide +kernel
theorem dX5_keep_0 : decode cX5_keep 0 = .ok (.aload_n 0, 1) := by decide +kernel
theorem dX5_keep_1 : decode cX5_keep 1 = .ok (.getfield 38, 3) := by decide +kernel
theorem dX5_keep_4 : decode cX5_keep 4 = .ok (.getfield 135, 3) := by decide +kernel
theorem dX5_keep_7 : decode cX5_keep 7 = .ok (.ifCond .eq 15, 3) := by decide +kernel
theorem dX5_keep_10 : decode cX5_keep 10 = .ok (.aload_n 0, 1) := by decide +kernel
theorem dX5_keep_11 : decode cX5_keep 11 = .ok (.getfield 34, 3) := by decide +kernel
theorem dX5_keep_14 : decode cX5_keep 14 = .ok (.aload_n 0, 1) := by decide +kernel
theorem dX5_keep_15 : decode cX5_keep 15 = .ok (.getfield 30, 3) := by decide +kernel
theorem dX5_keep_18 : decode cX5_keep 18 = .ok (.arraylength, 1) := by decide +kernel
theorem dX5_keep_19 : decode cX5_keep 19 = .ok (.if_icmp .lt 13, 3) := by decide +kernel
theorem dX5_keep_22 : decode cX5_keep 22 = .ok (.new 87, 3) := by decide +kernel
theorem dX5_keep_25 : decode cX5_keep 25 = .ok (.dup, 1) := by decide +kernel
theorem dX5_keep_26 : decode cX5_keep 26 = .ok (.ldc 153, 2) := by decide +kernel
theorem dX5_keep_28 : decode cX5_keep 28 = .ok (.invokespecial 91, 3) := by decide +kernel
theorem dX5_keep_31 : decode cX5_keep 31 = .ok (.athrow, 1) := by decide +kernel
theorem dX5_keep_32 : decode cX5_keep 32 = .ok (.aload_n 0, 1) := by decide +kernel
theorem dX5_keep_33 : decode cX5_keep 33 = .ok (.getfield 30, 3) := by decide +kernel
theorem dX5_keep_36 : decode cX5_keep 36 = .ok (.aload_n 0, 1) := by decide +kernel
theorem dX5_keep_37 : decode cX5_keep 37 = .ok (.getfield 34, 3) := by decide +kernel
theorem dX5_keep_40 : decode cX5_keep 40 = .ok (.aaload, 1) := by decide +kernel
theorem dX5_keep_41 : decode cX5_keep 41 = .ok (.aload_n 0, 1) := by decide +kernel
theorem dX5_keep_42 : decode cX5_keep 42 = .ok (.getfield 38, 3) := by decide +kernel
theorem dX5_keep_45 : decode cX5_keep 45 = .ok (.invokevirtual 155, 3) := by decide +kernel
theorem dX5_keep_48 : decode cX5_keep 48 = .ok (.aload_n 0, 1) := by decide +kernel
theorem dX5_keep_49 : decode cX5_keep 49 = .ok (.getfield 38, 3) := by decide +kernel
theorem dX5_keep_52 : decode cX5_keep 52 = .ok (.invokevirtual 138, 3) := by decide +kernel
theorem dX5_keep_55 : decode cX5_keep 55 = .ok (.aload_n 0, 1) := by decide +kernel
theorem dX5_keep_56 : decode cX5_keep 56 = .ok (.dup, 1) := by decide +kernel
theorem dX5_keep_57 : decode cX5_keep 57 = .ok (.getfield 34, 3) := by decide +kernel
theorem dX5_keep_60 : decode cX5_keep 60 = .ok (.iconst 1, 1) := by decide +kernel
theorem dX5_keep_61 : decode cX5_keep 61 = .ok (.iadd, 1) := by decide +kernel
theorem dX5_keep_62 : decode cX5_keep 62 = .ok (.putfield 34, 3) := by decide +kernel
theorem dX5_keep_65 : decode cX5_keep 65 = .ok (.aload_n 0, 1) := by decide +kernel
theorem dX5_keep_66 : decode cX5_keep 66 = .ok (.getfield 34, 3) := by decide +kernel
theorem dX5_keep_69 : decode cX5_keep 69 = .ok (.iconst 1, 1) := by decide +kernel
theorem dX5_keep_70 : decode cX5_keep 70 = .ok (.isub, 1) := by decide +kernel
theorem dX5_keep_71 : decode cX5_keep 71 = .ok (.ireturn, 1) := by decide +kernel
theorem dX5_fits_0 : decode cX5_fits 0 = .ok (.aload_n 0, 1) := by decide +kernel
theorem dX5_fits_1 : decode cX5_fits 1 = .ok (.iload_n 1, 1) := by decide +kernel
theorem dX5_fits_2 : decode cX5_fits 2 = .ok (.invokevirtual 159, 3) := by decide +kernel
theorem dX5_fits_5 : decode cX5_fits 5 = .ok (.aload_n 0, 1) := by decide +kernel
theorem dX5_fits_6 : decode cX5_fits 6 = .ok (.iload_n 2, 1) := by decide +kernel
theorem dX5_fits_7 : decode cX5_fits 7 = .ok (.invokevirtual 98, 3) := by decide +kernel
theorem dX5_fits_10 : decode cX5_fits 10 = .ok (.aload_n 0, 1) := by decide +kernel
theorem dX5_fits_11 : decode cX5_fits 11 = .ok (.aload_n 0, 1) := by decide +kernel
theorem dX5_fits_12 : decode cX5_fits 12 = .ok (.getfield 30, 3) := by decide +kernel
theorem dX5_fits_15 : decode cX5_fits 15 = .ok (.iload_n 1, 1) := by decide +kernel
theorem dX5_fits_16 : decode cX5_fits 16 = .ok (.aaload, 1) := by decide +kernel
theorem dX5_fits_17 : decode cX5_fits 17 = .ok (.aload_n 0, 1) := by decide +kernel
theorem dX5_fits_18 : decode cX5_fits 18 = .ok (.getfield 11, 3) := by decide +kernel
theorem dX5_fits_21 : decode cX5_fits 21 = .ok (.iload_n 2, 1) := by decide +kernel
theorem dX5_fits_22 : decode cX5_fits 22 = .ok (.aaload, 1) := by decide +kernel
theorem dX5_fits_23 : decode cX5_fits 23 = .ok (.invokevirtual 162, 3) := by decide +kernel
theorem dX5_fits_26 : decode cX5_fits 26 = .ok (.ireturn, 1) := by decide +kernel
theorem dX5_fill_0 : decode cX5_fill 0 = .ok (.aload_n 0, 1) := by decide +kernel
theorem dX5_fill_1 : decode cX5_fill 1 = .ok (.iload_n 1, 1) := by decide +kernel
theorem dX5_fill_2 : decode cX5_fill 2 = .ok (.invokevirtual 98, 3) := by decide +kernel
theorem dX5_fill_5 : decode cX5_fill 5 = .ok (.aload_n 0, 1) := by decide +kernel
theorem dX5_fill_6 : decode cX5_fill 6 = .ok (.aload_n 0, 1) := by decide +kernel
theorem dX5_fill_7 : decode cX5_fill 7 = .ok (.getfield 11, 3) := by decide +kernel
theorem dX5_fill_10 : decode cX5_fill 10 = .ok (.iload_n 1, 1) := by decide +kernel
theorem dX5_fill_11 : decode cX5_fill 11 = .ok (.aaload, 1) := by decide +kernel
theorem dX5_fill_12 : decode cX5_fill 12 = .ok (.invokevirtual 166, 3) := by decide +kernel
theorem dX5_fill_15 : decode cX5_fill 15 = .ok (.aload_n 0, 1) := by decide +kernel
theorem dX5_fill_16 : decode cX5_fill 16 = .ok (.getfield 70, 3) := by decide +kernel
theorem dX5_fill_19 : decode cX5_fill 19 = .ok (.aload_n 0, 1) := by decide +kernel
theorem dX5_fill_20 : decode cX5_fill 20 = .ok (.aload_n 0, 1) := by decide +kernel
theorem dX5_fill_21 : decode cX5_fill 21 = .ok (.getfield 11, 3) := by decide +kernel
theorem dX5_fill_24 : decode cX5_fill 24 = .ok (.iload_n 1, 1) := by decide +kernel
theorem dX5_fill_25 : decode cX5_fill 25 = .ok (.aaload, 1) := by decide +kernel
theorem dX5_fill_26 : decode cX5_fill 26 = .ok (.invokevirtual 170, 3) := by decide +kernel
theorem dX5_fill_29 : decode cX5_fill 29 = .ok (.aload_n 0, 1) := by decide +kernel
theorem dX5_fill_30 : decode cX5_fill 30 = .ok (.getfield 48, 3) := by decide +kernel
theorem dX5_fill_33 : decode cX5_fill 33 = .ok (.iconst 1, 1) := by decide +kernel
theorem dX5_fill_34 : decode cX5_fill 34 = .ok (.isub, 1) := by decide +kernel
theorem dX5_fill_35 : decode cX5_fill 35 = .ok (.invokevirtual 174, 3) := by decide +kernel
theorem dX5_fill_38 : decode cX5_fill 38 = .ok (.istore_n 2, 1) := by decide +kernel
theorem dX5_fill_39 : decode cX5_fill 39 = .ok (.aload_n 0, 1) := by decide +kernel
theorem dX5_fill_40 : decode cX5_fill 40 = .ok (.getfield 70, 3) := by decide +kernel
theorem dX5_fill_43 : decode cX5_fill 43 = .ok (.iload_n 2, 1) := by decide +kernel
theorem dX5_fill_44 : decode cX5_fill 44 = .ok (.aload_n 0, 1) := by decide +kernel
theorem dX5_fill_45 : decode cX5_fill 45 = .ok (.getfield 38, 3) := by decide +kernel
theorem dX5_fill_48 : decode cX5_fill 48 = .ok (.invokevirtual 178, 3) := by decide +kernel
theorem dX5_fill_51 : decode cX5_fill 51 = .ok (.iload_n 2, 1) := by decide +kernel
theorem dX5_fill_52 : decode cX5_fill 52 = .ok (.ireturn, 1) := by decide +kernel
theorem dX5_fullestByTrying_0 : decode cX5_fullestByTrying 0 = .ok (.aload_n 0, 1) := by decide +kernel
theorem dX5_fullestByTrying_1 : decode cX5_fullestByTrying 1 = .ok (.iload_n 1, 1) := by decide +kernel
theorem dX5_fullestByTrying_2 : decode cX5_fullestByTrying 2 = .ok (.invokevirtual 98, 3) := by decide +kernel
theorem dX5_fullestByTrying_5 : decode cX5_fullestByTrying 5 = .ok (.aload_n 0, 1) := by decide +kernel
theorem dX5_fullestByTrying_6 : decode cX5_fullestByTrying 6 = .ok (.getfield 48, 3) := by decide +kernel
theorem dX5_fullestByTrying_9 : decode cX5_fullestByTrying 9 = .ok (.bipush 8, 2) := by decide +kernel
theorem dX5_fullestByTrying_11 : decode cX5_fullestByTrying 11 = .ok (.if_icmp .le 13, 3) := by decide +kernel
theorem dX5_fullestByTrying_14 : decode cX5_fullestByTrying 14 = .ok (.new 87, 3) := by decide +kernel
theorem dX5_fullestByTrying_17 : decode cX5_fullestByTrying 17 = .ok (.dup, 1) := by decide +kernel
theorem dX5_fullestByTrying_18 : decode cX5_fullestByTrying 18 = .ok (.ldc 182, 2) := by decide +kernel
theorem dX5_fullestByTrying_20 : decode cX5_fullestByTrying 20 = .ok (.invokespecial 91, 3) := by decide +kernel
theorem dX5_fullestByTrying_23 : decode cX5_fullestByTrying 23 = .ok (.athrow, 1) := by decide +kernel
theorem dX5_fullestByTrying_24 : decode cX5_fullestByTrying 24 = .ok (.aload_n 0, 1) := by decide +kernel
theorem dX5_fullestByTrying_25 : decode cX5_fullestByTrying 25 = .ok (.aload_n 0, 1) := by decide +kernel
theorem dX5_fullestByTrying_26 : decode cX5_fullestByTrying 26 = .ok (.getfield 11, 3) := by decide +kernel
theorem dX5_fullestByTrying_29 : decode cX5_fullestByTrying 29 = .ok (.iload_n 1, 1) := by decide +kernel
theorem dX5_fullestByTrying_30 : decode cX5_fullestByTrying 30 = .ok (.aaload, 1) := by decide +kernel
theorem dX5_fullestByTrying_31 : decode cX5_fullestByTrying 31 = .ok (.invokevirtual 166, 3) := by decide +kernel
theorem dX5_fullestByTrying_34 : decode cX5_fullestByTrying 34 = .ok (.aload_n 0, 1) := by decide +kernel
theorem dX5_fullestByTrying_35 : decode cX5_fullestByTrying 35 = .ok (.getfield 70, 3) := by decide +kernel
theorem dX5_fullestByTrying_38 : decode cX5_fullestByTrying 38 = .ok (.aload_n 0, 1) := by decide +kernel
theorem dX5_fullestByTrying_39 : decode cX5_fullestByTrying 39 = .ok (.aload_n 0, 1) := by decide +kernel
theorem dX5_fullestByTrying_40 : decode cX5_fullestByTrying 40 = .ok (.getfield 11, 3) := by decide +kernel
theorem dX5_fullestByTrying_43 : decode cX5_fullestByTrying 43 = .ok (.iload_n 1, 1) := by decide +kernel
theorem dX5_fullestByTrying_44 : decode cX5_fullestByTrying 44 = .ok (.aaload, 1) := by decide +kernel
theorem dX5_fullestByTrying_45 : decode cX5_fullestByTrying 45 = .ok (.invokevirtual 170, 3) := by decide +kernel
theorem dX5_fullestByTrying_48 : decode cX5_fullestByTrying 48 = .ok (.aload_n 0, 1) := by decide +kernel
theorem dX5_fullestByTrying_49 : decode cX5_fullestByTrying 49 = .ok (.getfield 48, 3) := by decide +kernel
theorem dX5_fullestByTrying_52 : decode cX5_fullestByTrying 52 = .ok (.iconst 1, 1) := by decide +kernel
theorem dX5_fullestByTrying_53 : decode cX5_fullestByTrying 53 = .ok (.isub, 1) := by decide +kernel
theorem dX5_fullestByTrying_54 : decode cX5_fullestByTrying 54 = .ok (.invokevirtual 184, 3) := by decide +kernel
theorem dX5_fullestByTrying_57 : decode cX5_fullestByTrying 57 = .ok (.ireturn, 1) := by decide +kernel
theorem dX5_run_0 : decode cX5_run 0 = .ok (.aload_n 0, 1) := by decide +kernel
theorem dX5_run_1 : decode cX5_run 1 = .ok (.iload_n 1, 1) := by decide +kernel
theorem dX5_run_2 : decode cX5_run 2 = .ok (.invokevirtual 98, 3) := by decide +kernel
theorem dX5_run_5 : decode cX5_run 5 = .ok (.aload_n 0, 1) := by decide +kernel
theorem dX5_run_6 : decode cX5_run 6 = .ok (.iload_n 2, 1) := by decide +kernel
theorem dX5_run_7 : decode cX5_run 7 = .ok (.invokevirtual 159, 3) := by decide +kernel
theorem dX5_run_10 : decode cX5_run 10 = .ok (.aload_n 0, 1) := by decide +kernel
theorem dX5_run_11 : decode cX5_run 11 = .ok (.iload_n 1, 1) := by decide +kernel
theorem dX5_run_12 : decode cX5_run 12 = .ok (.iload_n 2, 1) := by decide +kernel
theorem dX5_run_13 : decode cX5_run 13 = .ok (.invokevirtual 187, 3) := by decide +kernel
theorem dX5_run_16 : decode cX5_run 16 = .ok (.ifCond .ne 13, 3) := by decide +kernel
theorem dX5_run_19 : decode cX5_run 19 = .ok (.new 87, 3) := by decide +kernel
theorem dX5_run_22 : decode cX5_run 22 = .ok (.dup, 1) := by decide +kernel
theorem dX5_run_23 : decode cX5_run 23 = .ok (.ldc 191, 2) := by decide +kernel
theorem dX5_run_25 : decode cX5_run 25 = .ok (.invokespecial 91, 3) := by decide +kernel
theorem dX5_run_28 : decode cX5_run 28 = .ok (.athrow, 1) := by decide +kernel
theorem dX5_run_29 : decode cX5_run 29 = .ok (.aload_n 0, 1) := by decide +kernel
theorem dX5_run_30 : decode cX5_run 30 = .ok (.iload_n 1, 1) := by decide +kernel
theorem dX5_run_31 : decode cX5_run 31 = .ok (.iload_n 2, 1) := by decide +kernel
theorem dX5_run_32 : decode cX5_run 32 = .ok (.invokevirtual 193, 3) := by decide +kernel
theorem dX5_run_35 : decode cX5_run 35 = .ok (.ireturn, 1) := by decide +kernel
theorem dX5_moves_0 : decode cX5_moves 0 = .ok (.aload_n 0, 1) := by decide +kernel
theorem dX5_moves_1 : decode cX5_moves 1 = .ok (.iload_n 1, 1) := by decide +kernel
theorem dX5_moves_2 : decode cX5_moves 2 = .ok (.invokevirtual 159, 3) := by decide +kernel
theorem dX5_moves_5 : decode cX5_moves 5 = .ok (.aload_n 0, 1) := by decide +kernel
theorem dX5_moves_6 : decode cX5_moves 6 = .ok (.aload_n 0, 1) := by decide +kernel
theorem dX5_moves_7 : decode cX5_moves 7 = .ok (.getfield 51, 3) := by decide +kernel
theorem dX5_moves_10 : decode cX5_moves 10 = .ok (.iload_n 1, 1) := by decide +kernel
theorem dX5_moves_11 : decode cX5_moves 11 = .ok (.invokevirtual 196, 3) := by decide +kernel
theorem dX5_moves_14 : decode cX5_moves 14 = .ok (.ireturn, 1) := by decide +kernel
theorem dX5_moved_0 : decode cX5_moved 0 = .ok (.aload_n 0, 1) := by decide +kernel
theorem dX5_moved_1 : decode cX5_moved 1 = .ok (.getfield 54, 3) := by decide +kernel
theorem dX5_moved_4 : decode cX5_moved 4 = .ok (.ireturn, 1) := by decide +kernel
theorem dX5_plan_0 : decode cX5_plan 0 = .ok (.aload_n 0, 1) := by decide +kernel
theorem dX5_plan_1 : decode cX5_plan 1 = .ok (.iload_n 1, 1) := by decide +kernel
theorem dX5_plan_2 : decode cX5_plan 2 = .ok (.invokevirtual 98, 3) := by decide +kernel
theorem dX5_plan_5 : decode cX5_plan 5 = .ok (.aload_n 0, 1) := by decide +kernel
theorem dX5_plan_6 : decode cX5_plan 6 = .ok (.iload_n 2, 1) := by decide +kernel
theorem dX5_plan_7 : decode cX5_plan 7 = .ok (.invokevirtual 159, 3) := by decide +kernel
theorem dX5_plan_10 : decode cX5_plan 10 = .ok (.aload_n 0, 1) := by decide +kernel
theorem dX5_plan_11 : decode cX5_plan 11 = .ok (.iload_n 1, 1) := by decide +kernel
theorem dX5_plan_12 : decode cX5_plan 12 = .ok (.iload_n 2, 1) := by decide +kernel
theorem dX5_plan_13 : decode cX5_plan 13 = .ok (.invokevirtual 187, 3) := by decide +kernel
theorem dX5_plan_16 : decode cX5_plan 16 = .ok (.ifCond .eq 20, 3) := by decide +kernel
theorem dX5_plan_19 : decode cX5_plan 19 = .ok (.aload_n 0, 1) := by decide +kernel
theorem dX5_plan_20 : decode cX5_plan 20 = .ok (.iload_n 1, 1) := by decide +kernel
theorem dX5_plan_21 : decode cX5_plan 21 = .ok (.invokevirtual 199, 3) := by decide +kernel
theorem dX5_plan_24 : decode cX5_plan 24 = .ok (.ifCond .ne 12, 3) := by decide +kernel
theorem dX5_plan_27 : decode cX5_plan 27 = .ok (.aload_n 0, 1) := by decide +kernel
theorem dX5_plan_28 : decode cX5_plan 28 = .ok (.getfield 64, 3) := by decide +kernel
theorem dX5_plan_31 : decode cX5_plan 31 = .ok (.bipush 7, 2) := by decide +kernel
theorem dX5_plan_33 : decode cX5_plan 33 = .ok (.if_icmp .lt 13, 3) := by decide +kernel
theorem dX5_plan_36 : decode cX5_plan 36 = .ok (.new 87, 3) := by decide +kernel
theorem dX5_plan_39 : decode cX5_plan 39 = .ok (.dup, 1) := by decide +kernel
theorem dX5_plan_40 : decode cX5_plan 40 = .ok (.ldc 202, 2) := by decide +kernel
theorem dX5_plan_42 : decode cX5_plan 42 = .ok (.invokespecial 91, 3) := by decide +kernel
theorem dX5_plan_45 : decode cX5_plan 45 = .ok (.athrow, 1) := by decide +kernel
theorem dX5_plan_46 : decode cX5_plan 46 = .ok (.aload_n 0, 1) := by decide +kernel
theorem dX5_plan_47 : decode cX5_plan 47 = .ok (.getfield 57, 3) := by decide +kernel
theorem dX5_plan_50 : decode cX5_plan 50 = .ok (.aload_n 0, 1) := by decide +kernel
theorem dX5_plan_51 : decode cX5_plan 51 = .ok (.getfield 64, 3) := by decide +kernel
theorem dX5_plan_54 : decode cX5_plan 54 = .ok (.iload_n 1, 1) := by decide +kernel
theorem dX5_plan_55 : decode cX5_plan 55 = .ok (.iastore, 1) := by decide +kernel
theorem dX5_plan_56 : decode cX5_plan 56 = .ok (.aload_n 0, 1) := by decide +kernel
theorem dX5_plan_57 : decode cX5_plan 57 = .ok (.getfield 61, 3) := by decide +kernel
theorem dX5_plan_60 : decode cX5_plan 60 = .ok (.aload_n 0, 1) := by decide +kernel
theorem dX5_plan_61 : decode cX5_plan 61 = .ok (.getfield 64, 3) := by decide +kernel
theorem dX5_plan_64 : decode cX5_plan 64 = .ok (.iload_n 2, 1) := by decide +kernel
theorem dX5_plan_65 : decode cX5_plan 65 = .ok (.iastore, 1) := by decide +kernel
theorem dX5_plan_66 : decode cX5_plan 66 = .ok (.aload_n 0, 1) := by decide +kernel
theorem dX5_plan_67 : decode cX5_plan 67 = .ok (.dup, 1) := by decide +kernel
theorem dX5_plan_68 : decode cX5_plan 68 = .ok (.getfield 64, 3) := by decide +kernel
theorem dX5_plan_71 : decode cX5_plan 71 = .ok (.iconst 1, 1) := by decide +kernel
theorem dX5_plan_72 : decode cX5_plan 72 = .ok (.iadd, 1) := by decide +kernel
theorem dX5_plan_73 : decode cX5_plan 73 = .ok (.putfield 64, 3) := by decide +kernel
theorem dX5_plan_76 : decode cX5_plan 76 = .ok (.aload_n 0, 1) := by decide +kernel
theorem dX5_plan_77 : decode cX5_plan 77 = .ok (.getfield 64, 3) := by decide +kernel
theorem dX5_plan_80 : decode cX5_plan 80 = .ok (.iconst 1, 1) := by decide +kernel
theorem dX5_plan_81 : decode cX5_plan 81 = .ok (.isub, 1) := by decide +kernel
theorem dX5_plan_82 : decode cX5_plan 82 = .ok (.ireturn, 1) := by decide +kernel
theorem dX5_waiting_0 : decode cX5_waiting 0 = .ok (.aload_n 0, 1) := by decide +kernel
theorem dX5_waiting_1 : decode cX5_waiting 1 = .ok (.getfield 64, 3) := by decide +kernel
theorem dX5_waiting_4 : decode cX5_waiting 4 = .ok (.ireturn, 1) := by decide +kernel
theorem dX5_fewestMoves_0 : decode cX5_fewestMoves 0 = .ok (.aload_n 0, 1) := by decide +kernel
theorem dX5_fewestMoves_1 : decode cX5_fewestMoves 1 = .ok (.invokevirtual 204, 3) := by decide +kernel
theorem dX5_fewestMoves_4 : decode cX5_fewestMoves 4 = .ok (.aload_n 0, 1) := by decide +kernel
theorem dX5_fewestMoves_5 : decode cX5_fewestMoves 5 = .ok (.getfield 77, 3) := by decide +kernel
theorem dX5_fewestMoves_8 : decode cX5_fewestMoves 8 = .ok (.aload_n 0, 1) := by decide +kernel
theorem dX5_fewestMoves_9 : decode cX5_fewestMoves 9 = .ok (.getfield 64, 3) := by decide +kernel
theorem dX5_fewestMoves_12 : decode cX5_fewestMoves 12 = .ok (.invokevirtual 207, 3) := by decide +kernel
theorem dX5_fewestMoves_15 : decode cX5_fewestMoves 15 = .ok (.ireturn, 1) := by decide +kernel
theorem dX5_nextAt_0 : decode cX5_nextAt 0 = .ok (.iload_n 1, 1) := by decide +kernel
theorem dX5_nextAt_1 : decode cX5_nextAt 1 = .ok (.ifCond .lt 11, 3) := by decide +kernel
theorem dX5_nextAt_4 : decode cX5_nextAt 4 = .ok (.iload_n 1, 1) := by decide +kernel
theorem dX5_nextAt_5 : decode cX5_nextAt 5 = .ok (.aload_n 0, 1) := by decide +kernel
theorem dX5_nextAt_6 : decode cX5_nextAt 6 = .ok (.getfield 64, 3) := by decide +kernel
theorem dX5_nextAt_9 : decode cX5_nextAt 9 = .ok (.if_icmp .lt 13, 3) := by decide +kernel
theorem dX5_nextAt_12 : decode cX5_nextAt 12 = .ok (.new 145, 3) := by decide +kernel
theorem dX5_nextAt_15 : decode cX5_nextAt 15 = .ok (.dup, 1) := by decide +kernel
theorem dX5_nextAt_16 : decode cX5_nextAt 16 = .ok (.ldc 214, 2) := by decide +kernel
theorem dX5_nextAt_18 : decode cX5_nextAt 18 = .ok (.invokespecial 149, 3) := by decide +kernel
theorem dX5_nextAt_21 : decode cX5_nextAt 21 = .ok (.athrow, 1) := by decide +kernel
theorem dX5_nextAt_22 : decode cX5_nextAt 22 = .ok (.aload_n 0, 1) := by decide +kernel
theorem dX5_nextAt_23 : decode cX5_nextAt 23 = .ok (.invokevirtual 204, 3) := by decide +kernel
theorem dX5_nextAt_26 : decode cX5_nextAt 26 = .ok (.aload_n 0, 1) := by decide +kernel
theorem dX5_nextAt_27 : decode cX5_nextAt 27 = .ok (.getfield 77, 3) := by decide +kernel
theorem dX5_nextAt_30 : decode cX5_nextAt 30 = .ok (.aload_n 0, 1) := by decide +kernel
theorem dX5_nextAt_31 : decode cX5_nextAt 31 = .ok (.getfield 64, 3) := by decide +kernel
theorem dX5_nextAt_34 : decode cX5_nextAt 34 = .ok (.invokevirtual 216, 3) := by decide +kernel
theorem dX5_nextAt_37 : decode cX5_nextAt 37 = .ok (.aload_n 0, 1) := by decide +kernel
theorem dX5_nextAt_38 : decode cX5_nextAt 38 = .ok (.getfield 77, 3) := by decide +kernel
theorem dX5_nextAt_41 : decode cX5_nextAt 41 = .ok (.getfield 219, 3) := by decide +kernel
theorem dX5_nextAt_44 : decode cX5_nextAt 44 = .ok (.iload_n 1, 1) := by decide +kernel
theorem dX5_nextAt_45 : decode cX5_nextAt 45 = .ok (.iaload, 1) := by decide +kernel
theorem dX5_nextAt_46 : decode cX5_nextAt 46 = .ok (.ireturn, 1) := by decide +kernel
theorem dX5_runAll_0 : decode cX5_runAll 0 = .ok (.aload_n 0, 1) := by decide +kernel
theorem dX5_runAll_1 : decode cX5_runAll 1 = .ok (.invokevirtual 204, 3) := by decide +kernel
theorem dX5_runAll_4 : decode cX5_runAll 4 = .ok (.aload_n 0, 1) := by decide +kernel
theorem dX5_runAll_5 : decode cX5_runAll 5 = .ok (.getfield 77, 3) := by decide +kernel
theorem dX5_runAll_8 : decode cX5_runAll 8 = .ok (.aload_n 0, 1) := by decide +kernel
theorem dX5_runAll_9 : decode cX5_runAll 9 = .ok (.getfield 64, 3) := by decide +kernel
theorem dX5_runAll_12 : decode cX5_runAll 12 = .ok (.invokevirtual 216, 3) := by decide +kernel
theorem dX5_runAll_15 : decode cX5_runAll 15 = .ok (.iconst 0, 1) := by decide +kernel
theorem dX5_runAll_16 : decode cX5_runAll 16 = .ok (.istore_n 1, 1) := by decide +kernel
theorem dX5_runAll_17 : decode cX5_runAll 17 = .ok (.iconst 0, 1) := by decide +kernel
theorem dX5_runAll_18 : decode cX5_runAll 18 = .ok (.istore_n 2, 1) := by decide +kernel
theorem dX5_runAll_19 : decode cX5_runAll 19 = .ok (.iload_n 2, 1) := by decide +kernel

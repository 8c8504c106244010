theorem dX6_init_0 : decode cX6_init 0 = .ok (.aload_n 0, 1) := by decide +kernel
theorem dX6_init_1 : decode cX6_init 1 = .ok (.invokespecial 1, 3) := by decide +kernel
theorem dX6_init_4 : decode cX6_init 4 = .ok (.aload_n 0, 1) := by decide +kernel
theorem dX6_init_5 : decode cX6_init 5 = .ok (.bipush 20, 2) := by decide +kernel
theorem dX6_init_7 : decode cX6_init 7 = .ok (.newarray .int, 2) := by decide +kernel
theorem dX6_init_9 : decode cX6_init 9 = .ok (.putfield 7, 3) := by decide +kernel
theorem dX6_init_12 : decode cX6_init 12 = .ok (.aload_n 0, 1) := by decide +kernel
theorem dX6_init_13 : decode cX6_init 13 = .ok (.bipush 20, 2) := by decide +kernel
theorem dX6_init_15 : decode cX6_init 15 = .ok (.newarray .int, 2) := by decide +kernel
theorem dX6_init_17 : decode cX6_init 17 = .ok (.putfield 13, 3) := by decide +kernel
theorem dX6_init_20 : decode cX6_init 20 = .ok (.aload_n 0, 1) := by decide +kernel
theorem dX6_init_21 : decode cX6_init 21 = .ok (.bipush 20, 2) := by decide +kernel
theorem dX6_init_23 : decode cX6_init 23 = .ok (.newarray .int, 2) := by decide +kernel
theorem dX6_init_25 : decode cX6_init 25 = .ok (.putfield 16, 3) := by decide +kernel
theorem dX6_init_28 : decode cX6_init 28 = .ok (.aload_n 0, 1) := by decide +kernel
theorem dX6_init_29 : decode cX6_init 29 = .ok (.bipush 20, 2) := by decide +kernel
theorem dX6_init_31 : decode cX6_init 31 = .ok (.newarray .int, 2) := by decide +kernel
theorem dX6_init_33 : decode cX6_init 33 = .ok (.putfield 19, 3) := by decide +kernel
theorem dX6_init_36 : decode cX6_init 36 = .ok (.aload_n 0, 1) := by decide +kernel
theorem dX6_init_37 : decode cX6_init 37 = .ok (.sipush 160, 3) := by decide +kernel
theorem dX6_init_40 : decode cX6_init 40 = .ok (.newarray .int, 2) := by decide +kernel
theorem dX6_init_42 : decode cX6_init 42 = .ok (.putfield 22, 3) := by decide +kernel
theorem dX6_init_45 : decode cX6_init 45 = .ok (.aload_n 0, 1) := by decide +kernel
theorem dX6_init_46 : decode cX6_init 46 = .ok (.sipush 160, 3) := by decide +kernel
theorem dX6_init_49 : decode cX6_init 49 = .ok (.newarray .int, 2) := by decide +kernel
theorem dX6_init_51 : decode cX6_init 51 = .ok (.putfield 25, 3) := by decide +kernel
theorem dX6_init_54 : decode cX6_init 54 = .ok (.aload_n 0, 1) := by decide +kernel
theorem dX6_init_55 : decode cX6_init 55 = .ok (.bipush 20, 2) := by decide +kernel
theorem dX6_init_57 : decode cX6_init 57 = .ok (.newarray .int, 2) := by decide +kernel
theorem dX6_init_59 : decode cX6_init 59 = .ok (.putfield 28, 3) := by decide +kernel
theorem dX6_init_62 : decode cX6_init 62 = .ok (.aload_n 0, 1) := by decide +kernel
theorem dX6_init_63 : decode cX6_init 63 = .ok (.bipush 10, 2) := by decide +kernel
theorem dX6_init_65 : decode cX6_init 65 = .ok (.putfield 31, 3) := by decide +kernel
theorem dX6_init_68 : decode cX6_init 68 = .ok (.aload_n 0, 1) := by decide +kernel
theorem dX6_init_69 : decode cX6_init 69 = .ok (.bipush 20, 2) := by decide +kernel
theorem dX6_init_71 : decode cX6_init 71 = .ok (.putfield 35, 3) := by decide +kernel
theorem dX6_init_74 : decode cX6_init 74 = .ok (.aload_n 0, 1) := by decide +kernel
theorem dX6_init_75 : decode cX6_init 75 = .ok (.bipush 8, 2) := by decide +kernel
theorem dX6_init_77 : decode cX6_init 77 = .ok (.putfield 38, 3) := by decide +kernel
theorem dX6_init_80 : decode cX6_init 80 = .ok (.aload_n 0, 1) := by decide +kernel
theorem dX6_init_81 : decode cX6_init 81 = .ok (.bipush 12, 2) := by decide +kernel
theorem dX6_init_83 : decode cX6_init 83 = .ok (.newarray .int, 2) := by decide +kernel
theorem dX6_init_85 : decode cX6_init 85 = .ok (.putfield 41, 3) := by decide +kernel
theorem dX6_init_88 : decode cX6_init 88 = .ok (.aload_n 0, 1) := by decide +kernel
theorem dX6_init_89 : decode cX6_init 89 = .ok (.bipush 12, 2) := by decide +kernel
theorem dX6_init_91 : decode cX6_init 91 = .ok (.newarray .int, 2) := by decide +kernel
theorem dX6_init_93 : decode cX6_init 93 = .ok (.putfield 44, 3) := by decide +kernel
theorem dX6_init_96 : decode cX6_init 96 = .ok (.aload_n 0, 1) := by decide +kernel
theorem dX6_init_97 : decode cX6_init 97 = .ok (.bipush 12, 2) := by decide +kernel
theorem dX6_init_99 : decode cX6_init 99 = .ok (.newarray .int, 2) := by decide +kernel
theorem dX6_init_101 : decode cX6_init 101 = .ok (.putfield 47, 3) := by decide +kernel
theorem dX6_init_104 : decode cX6_init 104 = .ok (.aload_n 0, 1) := by decide +kernel
theorem dX6_init_105 : decode cX6_init 105 = .ok (.bipush 12, 2) := by decide +kernel
theorem dX6_init_107 : decode cX6_init 107 = .ok (.newarray .int, 2) := by decide +kernel
theorem dX6_init_109 : decode cX6_init 109 = .ok (.putfield 50, 3) := by decide +kernel
theorem dX6_init_112 : decode cX6_init 112 = .ok (.aload_n 0, 1) := by decide +kernel
theorem dX6_init_113 : decode cX6_init 113 = .ok (.sipush 165, 3) := by decide +kernel
theorem dX6_init_116 : decode cX6_init 116 = .ok (.newarray .int, 2) := by decide +kernel
theorem dX6_init_118 : decode cX6_init 118 = .ok (.putfield 53, 3) := by decide +kernel
theorem dX6_init_121 : decode cX6_init 121 = .ok (.aload_n 0, 1) := by decide +kernel
theorem dX6_init_122 : decode cX6_init 122 = .ok (.bipush 11, 2) := by decide +kernel
theorem dX6_init_124 : decode cX6_init 124 = .ok (.newarray .int, 2) := by decide +kernel
theorem dX6_init_126 : decode cX6_init 126 = .ok (.putfield 56, 3) := by decide +kernel
theorem dX6_init_129 : decode cX6_init 129 = .ok (.aload_n 0, 1) := by decide +kernel
theorem dX6_init_130 : decode cX6_init 130 = .ok (.bipush 20, 2) := by decide +kernel
theorem dX6_init_132 : decode cX6_init 132 = .ok (.newarray .int, 2) := by decide +kernel
theorem dX6_init_134 : decode cX6_init 134 = .ok (.putfield 59, 3) := by decide +kernel
theorem dX6_init_137 : decode cX6_init 137 = .ok (.aload_n 0, 1) := by decide +kernel
theorem dX6_init_138 : decode cX6_init 138 = .ok (.sipush 300, 3) := by decide +kernel
theorem dX6_init_141 : decode cX6_init 141 = .ok (.newarray .int, 2) := by decide +kernel
theorem dX6_init_143 : decode cX6_init 143 = .ok (.putfield 62, 3) := by decide +kernel
theorem dX6_init_146 : decode cX6_init 146 = .ok (.aload_n 0, 1) := by decide +kernel
theorem dX6_init_147 : decode cX6_init 147 = .ok (.sipush 300, 3) := by decide +kernel
theorem dX6_init_150 : decode cX6_init 150 = .ok (.newarray .int, 2) := by decide +kernel
theorem dX6_init_152 : decode cX6_init 152 = .ok (.putfield 65, 3) := by decide +kernel
theorem dX6_init_155 : decode cX6_init 155 = .ok (.aload_n 0, 1) := by decide +kernel
theorem dX6_init_156 : decode cX6_init 156 = .ok (.bipush 60, 2) := by decide +kernel
theorem dX6_init_158 : decode cX6_init 158 = .ok (.newarray .int, 2) := by decide +kernel
theorem dX6_init_160 : decode cX6_init 160 = .ok (.putfield 68, 3) := by decide +kernel
theorem dX6_init_163 : decode cX6_init 163 = .ok (.aload_n 0, 1) := by decide +kernel
theorem dX6_init_164 : decode cX6_init 164 = .ok (.iconst (-1), 1) := by decide +kernel
theorem dX6_init_165 : decode cX6_init 165 = .ok (.putfield 71, 3) := by decide +kernel
theorem dX6_init_168 : decode cX6_init 168 = .ok (.aload_n 0, 1) := by decide +kernel
theorem dX6_init_169 : decode cX6_init 169 = .ok (.bipush 7, 2) := by decide +kernel
theorem dX6_init_171 : decode cX6_init 171 = .ok (.newarray .int, 2) := by decide +kernel
theorem dX6_init_173 : decode cX6_init 173 = .ok (.putfield 74, 3) := by decide +kernel
theorem dX6_init_176 : decode cX6_init 176 = .ok (.aload_n 0, 1) := by decide +kernel
theorem dX6_init_177 : decode cX6_init 177 = .ok (.bipush 7, 2) := by decide +kernel
theorem dX6_init_179 : decode cX6_init 179 = .ok (.newarray .int, 2) := by decide +kernel
theorem dX6_init_181 : decode cX6_init 181 = .ok (.putfield 77, 3) := by decide +kernel
theorem dX6_init_184 : decode cX6_init 184 = .ok (.aload_n 0, 1) := by decide +kernel
theorem dX6_init_185 : decode cX6_init 185 = .ok (.sipush 2001, 3) := by decide +kernel
theorem dX6_init_188 : decode cX6_init 188 = .ok (.newarray .int, 2) := by decide +kernel
theorem dX6_init_190 : decode cX6_init 190 = .ok (.putfield 80, 3) := by decide +kernel
theorem dX6_init_193 : decode cX6_init 193 = .ok (.aload_n 0, 1) := by decide +kernel
theorem dX6_init_194 : decode cX6_init 194 = .ok (.sipush 1024, 3) := by decide +kernel
theorem dX6_init_197 : decode cX6_init 197 = .ok (.newarray .int, 2) := by decide +kernel
theorem dX6_init_199 : decode cX6_init 199 = .ok (.putfield 83, 3) := by decide +kernel
theorem dX6_init_202 : decode cX6_init 202 = .ok (.aload_n 0, 1) := by decide +kernel
theorem dX6_init_203 : decode cX6_init 203 = .ok (.bipush 7, 2) := by decide +kernel
theorem dX6_init_205 : decode cX6_init 205 = .ok (.newarray .int, 2) := by decide +kernel
theorem dX6_init_207 : decode cX6_init 207 = .ok (.putfield 86, 3) := by decide +kernel
theorem dX6_init_210 : decode cX6_init 210 = .ok (.return_, 1) := by decide +kernel
theorem dX6_thrown_0 : decode cX6_thrown 0 = .ok (.aload_n 0, 1) := by decide +kernel
theorem dX6_thrown_1 : decode cX6_thrown 1 = .ok (.getfield 89, 3) := by decide +kernel
theorem dX6_thrown_4 : decode cX6_thrown 4 = .ok (.ireturn, 1) := by decide +kernel
theorem dX6_in_0 : decode cX6_in 0 = .ok (.iload_n 0, 1) := by decide +kernel
theorem dX6_in_1 : decode cX6_in 1 = .ok (.iload_n 1, 1) := by decide +kernel
theorem dX6_in_2 : decode cX6_in 2 = .ok (.if_icmp .lt 12, 3) := by decide +kernel
theorem dX6_in_5 : decode cX6_in 5 = .ok (.iload_n 0, 1) := by decide +kernel
theorem dX6_in_6 : decode cX6_in 6 = .ok (.iload_n 2, 1) := by decide +kernel
theorem dX6_in_7 : decode cX6_in 7 = .ok (.if_icmp .gt 7, 3) := by decide +kernel
theorem dX6_in_10 : decode cX6_in 10 = .ok (.iconst 1, 1) := by decide +kernel
theorem dX6_in_11 : decode cX6_in 11 = .ok (.goto 4, 3) := by decide +kernel
theorem dX6_in_14 : decode cX6_in 14 = .ok (.iconst 0, 1) := by decide +kernel
theorem dX6_in_15 : decode cX6_in 15 = .ok (.ireturn, 1) := by decide +kernel
theorem dX6_asked_0 : decode cX6_asked 0 = .ok (.aload_n 0, 1) := by decide +kernel
theorem dX6_asked_1 : decode cX6_asked 1 = .ok (.iload_n 1, 1) := by decide +kernel
theorem dX6_asked_2 : decode cX6_asked 2 = .ok (.ifCond .eq 7, 3) := by decide +kernel
theorem dX6_asked_5 : decode cX6_asked 5 = .ok (.iconst 0, 1) := by decide +kernel
theorem dX6_asked_6 : decode cX6_asked 6 = .ok (.goto 4, 3) := by decide +kernel
theorem dX6_asked_9 : decode cX6_asked 9 = .ok (.iconst 1, 1) := by decide +kernel
theorem dX6_asked_10 : decode cX6_asked 10 = .ok (.putfield 89, 3) := by decide +kernel
theorem dX6_asked_13 : decode cX6_asked 13 = .ok (.iload_n 1, 1) := by decide +kernel
theorem dX6_asked_14 : decode cX6_asked 14 = .ok (.ireturn, 1) := by decide +kernel
theorem dX6_asked__0 : decode cX6_asked_ 0 = .ok (.aload_n 0, 1) := by decide +kernel
theorem dX6_asked__1 : decode cX6_asked_ 1 = .ok (.iload_n 1, 1) := by decide +kernel
theorem dX6_asked__2 : decode cX6_asked_ 2 = .ok (.ifCond .ne 7, 3) := by decide +kernel
theorem dX6_asked__5 : decode cX6_asked_ 5 = .ok (.iconst 1, 1) := by decide +kernel
theorem dX6_asked__6 : decode cX6_asked_ 6 = .ok (.goto 12, 3) := by decide +kernel
theorem dX6_asked__9 : decode cX6_asked_ 9 = .ok (.iload_n 2, 1) := by decide +kernel
theorem dX6_asked__10 : decode cX6_asked_ 10 = .ok (.ifCond .eq 7, 3) := by decide +kernel
theorem dX6_asked__13 : decode cX6_asked_ 13 = .ok (.iconst 0, 1) := by decide +kernel
theorem dX6_asked__14 : decode cX6_asked_ 14 = .ok (.goto 4, 3) := by decide +kernel
theorem dX6_asked__17 : decode cX6_asked_ 17 = .ok (.iconst 2, 1) := by decide +kernel
theorem dX6_asked__18 : decode cX6_asked_ 18 = .ok (.putfield 89, 3) := by decide +kernel
theorem dX6_asked__21 : decode cX6_asked_ 21 = .ok (.aload_n 0, 1) := by decide +kernel
theorem dX6_asked__22 : decode cX6_asked_ 22 = .ok (.getfield 89, 3) := by decide +kernel
theorem dX6_asked__25 : decode cX6_asked_ 25 = .ok (.ifCond .ne 7, 3) := by decide +kernel
theorem dX6_asked__28 : decode cX6_asked_ 28 = .ok (.iconst 1, 1) := by decide +kernel
theorem dX6_asked__29 : decode cX6_asked_ 29 = .ok (.goto 4, 3) := by decide +kernel
theorem dX6_asked__32 : decode cX6_asked_ 32 = .ok (.iconst 0, 1) := by decide +kernel
theorem dX6_asked__33 : decode cX6_asked_ 33 = .ok (.ireturn, 1) := by decide +kernel
theorem dX6_asked___0 : decode cX6_asked__ 0 = .ok (.aload_n 0, 1) := by decide +kernel
theorem dX6_asked___1 : decode cX6_asked__ 1 = .ok (.iload_n 1, 1) := by decide +kernel
theorem dX6_asked___2 : decode cX6_asked__ 2 = .ok (.ifCond .ne 7, 3) := by decide +kernel
theorem dX6_asked___5 : decode cX6_asked__ 5 = .ok (.iconst 1, 1) := by decide +kernel
theorem dX6_asked___6 : decode cX6_asked__ 6 = .ok (.goto 20, 3) := by decide +kernel
theorem dX6_asked___9 : decode cX6_asked__ 9 = .ok (.iload_n 2, 1) := by decide +kernel
theorem dX6_asked___10 : decode cX6_asked__ 10 = .ok (.ifCond .ne 7, 3) := by decide +kernel
theorem dX6_asked___13 : decode cX6_asked__ 13 = .ok (.iconst 2, 1) := by decide +kernel
theorem dX6_asked___14 : decode cX6_asked__ 14 = .ok (.goto 12, 3) := by decide +kernel
theorem dX6_asked___17 : decode cX6_asked__ 17 = .ok (.iload_n 3, 1) := by decide +kernel
theorem dX6_asked___18 : decode cX6_asked__ 18 = .ok (.ifCond .eq 7, 3) := by decide +kernel
theorem dX6_asked___21 : decode cX6_asked__ 21 = .ok (.iconst 0, 1) := by decide +kernel
theorem dX6_asked___22 : decode cX6_asked__ 22 = .ok (.goto 4, 3) := by decide +kernel
theorem dX6_asked___25 : decode cX6_asked__ 25 = .ok (.iconst 3, 1) := by decide +kernel
theorem dX6_asked___26 : decode cX6_asked__ 26 = .ok (.putfield 89, 3) := by decide +kernel
theorem dX6_asked___29 : decode cX6_asked__ 29 = .ok (.aload_n 0, 1) := by decide +kernel
theorem dX6_asked___30 : decode cX6_asked__ 30 = .ok (.getfield 89, 3) := by decide +kernel
theorem dX6_asked___33 : decode cX6_asked__ 33 = .ok (.ifCond .ne 7, 3) := by decide +kernel
theorem dX6_asked___36 : decode cX6_asked__ 36 = .ok (.iconst 1, 1) := by decide +kernel
theorem dX6_asked___37 : decode cX6_asked__ 37 = .ok (.goto 4, 3) := by decide +kernel
theorem dX6_asked___40 : decode cX6_asked__ 40 = .ok (.iconst 0, 1) := by decide +kernel
theorem dX6_asked___41 : decode cX6_asked__ 41 = .ok (.ireturn, 1) := by decide +kernel
theorem dX6_told_0 : decode cX6_told 0 = .ok (.aload_n 0, 1) := by decide +kernel
theorem dX6_told_1 : decode cX6_told 1 = .ok (.iconst 0, 1) := by decide +kernel
theorem dX6_told_2 : decode cX6_told 2 = .ok (.putfield 89, 3) := by decide +kernel
theorem dX6_told_5 : decode cX6_told 5 = .ok (.iload_n 1, 1) := by decide +kernel
theorem dX6_told_6 : decode cX6_told 6 = .ok (.ireturn, 1) := by decide +kernel
theorem dX6_isCoil_0 : decode cX6_isCoil 0 = .ok (.iload_n 1, 1) := by decide +kernel
theorem dX6_isCoil_1 : decode cX6_isCoil 1 = .ok (.iconst 0, 1) := by decide +kernel
theorem dX6_isCoil_2 : decode cX6_isCoil 2 = .ok (.aload_n 0, 1) := by decide +kernel
theorem dX6_isCoil_3 : decode cX6_isCoil 3 = .ok (.getfield 92, 3) := by decide +kernel
theorem dX6_isCoil_6 : decode cX6_isCoil 6 = .ok (.iconst 1, 1) := by decide +kernel
theorem dX6_isCoil_7 : decode cX6_isCoil 7 = .ok (.isub, 1) := by decide +kernel
theorem dX6_isCoil_8 : decode cX6_isCoil 8 = .ok (.invokestatic 95, 3) := by decide +kernel
theorem dX6_isCoil_11 : decode cX6_isCoil 11 = .ok (.ireturn, 1) := by decide +kernel
theorem dX6_isPattern_0 : decode cX6_isPattern 0 = .ok (.iload_n 1, 1) := by decide +kernel
theorem dX6_isPattern_1 : decode cX6_isPattern 1 = .ok (.iconst 0, 1) := by decide +kernel
theorem dX6_isPattern_2 : decode cX6_isPattern 2 = .ok (.aload_n 0, 1) := by decide +kernel
theorem dX6_isPattern_3 : decode cX6_isPattern 3 = .ok (.getfield 99, 3) := by decide +kernel
theorem dX6_isPattern_6 : decode cX6_isPattern 6 = .ok (.iconst 1, 1) := by decide +kernel
theorem dX6_isPattern_7 : decode cX6_isPattern 7 = .ok (.isub, 1) := by decide +kernel
theorem dX6_isPattern_8 : decode cX6_isPattern 8 = .ok (.invokestatic 95, 3) := by decide +kernel
theorem dX6_isPattern_11 : decode cX6_isPattern 11 = .ok (.ireturn, 1) := by decide +kernel
theorem dX6_coil_0 : decode cX6_coil 0 = .ok (.iload_n 1, 1) := by decide +kernel
theorem dX6_coil_1 : decode cX6_coil 1 = .ok (.bipush 100, 2) := by decide +kernel
theorem dX6_coil_3 : decode cX6_coil 3 = .ok (.sipush 2000, 3) := by decide +kernel
theorem dX6_coil_6 : decode cX6_coil 6 = .ok (.invokestatic 95, 3) := by decide +kernel
theorem dX6_coil_9 : decode cX6_coil 9 = .ok (.ifCond .eq 41, 3) := by decide +kernel
theorem dX6_coil_12 : decode cX6_coil 12 = .ok (.iload_n 2, 1) := by decide +kernel
theorem dX6_coil_13 : decode cX6_coil 13 = .ok (.iconst 1, 1) := by decide +kernel
theorem dX6_coil_14 : decode cX6_coil 14 = .ok (.sipush 30000, 3) := by decide +kernel
theorem dX6_coil_17 : decode cX6_coil 17 = .ok (.invokestatic 95, 3) := by decide +kernel
theorem dX6_coil_20 : decode cX6_coil 20 = .ok (.ifCond .eq 30, 3) := by decide +kernel
theorem dX6_coil_23 : decode cX6_coil 23 = .ok (.iload_n 3, 1) := by decide +kernel
theorem dX6_coil_24 : decode cX6_coil 24 = .ok (.bipush 10, 2) := by decide +kernel
theorem dX6_coil_26 : decode cX6_coil 26 = .ok (.sipush 5000, 3) := by decide +kernel
theorem dX6_coil_29 : decode cX6_coil 29 = .ok (.invokestatic 95, 3) := by decide +kernel
theorem dX6_coil_32 : decode cX6_coil 32 = .ok (.ifCond .eq 18, 3) := by decide +kernel
theorem dX6_coil_35 : decode cX6_coil 35 = .ok (.iload 4, 2) := by decide +kernel
theorem dX6_coil_37 : decode cX6_coil 37 = .ok (.iconst 1, 1) := by decide +kernel
theorem dX6_coil_38 : decode cX6_coil 38 = .ok (.bipush 99, 2) := by decide +kernel
theorem dX6_coil_40 : decode cX6_coil 40 = .ok (.invokestatic 95, 3) := by decide +kernel
theorem dX6_coil_43 : decode cX6_coil 43 = .ok (.ifCond .eq 7, 3) := by decide +kernel
theorem dX6_coil_46 : decode cX6_coil 46 = .ok (.iconst 1, 1) := by decide +kernel
theorem dX6_coil_47 : decode cX6_coil 47 = .ok (.goto 4, 3) := by decide +kernel
theorem dX6_coil_50 : decode cX6_coil 50 = .ok (.iconst 0, 1) := by decide +kernel
theorem dX6_coil_51 : decode cX6_coil 51 = .ok (.istore 5, 2) := by decide +kernel
theorem dX6_coil_53 : decode cX6_coil 53 = .ok (.aload_n 0, 1) := by decide +kernel
theorem dX6_coil_54 : decode cX6_coil 54 = .ok (.iload 5, 2) := by decide +kernel
theorem dX6_coil_56 : decode cX6_coil 56 = .ok (.aload_n 0, 1) := by decide +kernel
theorem dX6_coil_57 : decode cX6_coil 57 = .ok (.getfield 92, 3) := by decide +kernel
theorem dX6_coil_60 : decode cX6_coil 60 = .ok (.bipush 20, 2) := by decide +kernel
theorem dX6_coil_62 : decode cX6_coil 62 = .ok (.if_icmp .ge 7, 3) := by decide +kernel
theorem dX6_coil_65 : decode cX6_coil 65 = .ok (.iconst 1, 1) := by decide +kernel
theorem dX6_coil_66 : decode cX6_coil 66 = .ok (.goto 4, 3) := by decide +kernel
theorem dX6_coil_69 : decode cX6_coil 69 = .ok (.iconst 0, 1) := by decide +kernel
theorem dX6_coil_70 : decode cX6_coil 70 = .ok (.invokevirtual 102, 3) := by decide +kernel
theorem dX6_coil_73 : decode cX6_coil 73 = .ok (.ifCond .ne 5, 3) := by decide +kernel
theorem dX6_coil_76 : decode cX6_coil 76 = .ok (.iconst 0, 1) := by decide +kernel
theorem dX6_coil_77 : decode cX6_coil 77 = .ok (.ireturn, 1) := by decide +kernel
theorem dX6_coil_78 : decode cX6_coil 78 = .ok (.aload_n 0, 1) := by decide +kernel
theorem dX6_coil_79 : decode cX6_coil 79 = .ok (.getfield 7, 3) := by decide +kernel
theorem dX6_coil_82 : decode cX6_coil 82 = .ok (.aload_n 0, 1) := by decide +kernel
theorem dX6_coil_83 : decode cX6_coil 83 = .ok (.getfield 92, 3) := by decide +kernel
theorem dX6_coil_86 : decode cX6_coil 86 = .ok (.iload_n 1, 1) := by decide +kernel
theorem dX6_coil_87 : decode cX6_coil 87 = .ok (.iastore, 1) := by decide +kernel
theorem dX6_coil_88 : decode cX6_coil 88 = .ok (.aload_n 0, 1) := by decide +kernel
theorem dX6_coil_89 : decode cX6_coil 89 = .ok (.getfield 13, 3) := by decide +kernel
theorem dX6_coil_92 : decode cX6_coil 92 = .ok (.aload_n 0, 1) := by decide +kernel
theorem dX6_coil_93 : decode cX6_coil 93 = .ok (.getfield 92, 3) := by decide +kernel
theorem dX6_coil_96 : decode cX6_coil 96 = .ok (.iload_n 2, 1) := by decide +kernel
theorem dX6_coil_97 : decode cX6_coil 97 = .ok (.iastore, 1) := by decide +kernel
theorem dX6_coil_98 : decode cX6_coil 98 = .ok (.aload_n 0, 1) := by decide +kernel
theorem dX6_coil_99 : decode cX6_coil 99 = .ok (.getfield 16, 3) := by decide +kernel
theorem dX6_coil_102 : decode cX6_coil 102 = .ok (.aload_n 0, 1) := by decide +kernel
theorem dX6_coil_103 : decode cX6_coil 103 = .ok (.getfield 92, 3) := by decide +kernel
theorem dX6_coil_106 : decode cX6_coil 106 = .ok (.iload_n 3, 1) := by decide +kernel
theorem dX6_coil_107 : decode cX6_coil 107 = .ok (.iastore, 1) := by decide +kernel
theorem dX6_coil_108 : decode cX6_coil 108 = .ok (.aload_n 0, 1) := by decide +kernel
theorem dX6_coil_109 : decode cX6_coil 109 = .ok (.getfield 19, 3) := by decide +kernel
theorem dX6_coil_112 : decode cX6_coil 112 = .ok (.aload_n 0, 1) := by decide +kernel
theorem dX6_coil_113 : decode cX6_coil 113 = .ok (.getfield 92, 3) := by decide +kernel
theorem dX6_coil_116 : decode cX6_coil 116 = .ok (.iload 4, 2) := by decide +kernel
theorem dX6_coil_118 : decode cX6_coil 118 = .ok (.iastore, 1) := by decide +kernel
theorem dX6_coil_119 : decode cX6_coil 119 = .ok (.aload_n 0, 1) := by decide +kernel
theorem dX6_coil_120 : decode cX6_coil 120 = .ok (.getfield 59, 3) := by decide +kernel
theorem dX6_coil_123 : decode cX6_coil 123 = .ok (.aload_n 0, 1) := by decide +kernel
theorem dX6_coil_124 : decode cX6_coil 124 = .ok (.getfield 92, 3) := by decide +kernel
theorem dX6_coil_127 : decode cX6_coil 127 = .ok (.iconst (-1), 1) := by decide +kernel
theorem dX6_coil_128 : decode cX6_coil 128 = .ok (.iastore, 1) := by decide +kernel
theorem dX6_coil_129 : decode cX6_coil 129 = .ok (.aload_n 0, 1) := by decide +kernel
theorem dX6_coil_130 : decode cX6_coil 130 = .ok (.dup, 1) := by decide +kernel
theorem dX6_coil_131 : decode cX6_coil 131 = .ok (.getfield 92, 3) := by decide +kernel
theorem dX6_coil_134 : decode cX6_coil 134 = .ok (.iconst 1, 1) := by decide +kernel
theorem dX6_coil_135 : decode cX6_coil 135 = .ok (.iadd, 1) := by decide +kernel
theorem dX6_coil_136 : decode cX6_coil 136 = .ok (.putfield 92, 3) := by decide +kernel
theorem dX6_coil_139 : decode cX6_coil 139 = .ok (.aload_n 0, 1) := by decide +kernel
theorem dX6_coil_140 : decode cX6_coil 140 = .ok (.getfield 92, 3) := by decide +kernel
theorem dX6_coil_143 : decode cX6_coil 143 = .ok (.iconst 1, 1) := by decide +kernel
theorem dX6_coil_144 : decode cX6_coil 144 = .ok (.isub, 1) := by decide +kernel
theorem dX6_coil_145 : decode cX6_coil 145 = .ok (.ireturn, 1) := by decide +kernel
theorem dX6_cutOut_0 : decode cX6_cutOut 0 = .ok (.iconst 0, 1) := by decide +kernel
theorem dX6_cutOut_1 : decode cX6_cutOut 1 = .ok (.istore_n 2, 1) := by decide +kernel
theorem dX6_cutOut_2 : decode cX6_cutOut 2 = .ok (.iconst 0, 1) := by decide +kernel
theorem dX6_cutOut_3 : decode cX6_cutOut 3 = .ok (.istore_n 3, 1) := by decide +kernel
theorem dX6_cutOut_4 : decode cX6_cutOut 4 = .ok (.iload_n 3, 1) := by decide +kernel
theorem dX6_cutOut_5 : decode cX6_cutOut 5 = .ok (.aload_n 0, 1) := by decide +kernel
theorem dX6_cutOut_6 : decode cX6_cutOut 6 = .ok (.getfield 16, 3) := by decide +kernel
theorem dX6_cutOut_9 : decode cX6_cutOut 9 = .ok (.iload_n 1, 1) := by decide +kernel
theorem dX6_cutOut_10 : decode cX6_cutOut 10 = .ok (.iaload, 1) := by decide +kernel
theorem dX6_cutOut_11 : decode cX6_cutOut 11 = .ok (.if_icmp .ge 87, 3) := by decide +kernel
theorem dX6_cutOut_14 : decode cX6_cutOut 14 = .ok (.iconst 0, 1) := by decide +kernel
theorem dX6_cutOut_15 : decode cX6_cutOut 15 = .ok (.istore 4, 2) := by decide +kernel
theorem dX6_cutOut_17 : decode cX6_cutOut 17 = .ok (.bipush 8, 2) := by decide +kernel
theorem dX6_cutOut_19 : decode cX6_cutOut 19 = .ok (.iload_n 1, 1) := by decide +kernel
theorem dX6_cutOut_20 : decode cX6_cutOut 20 = .ok (.imul, 1) := by decide +kernel
theorem dX6_cutOut_21 : decode cX6_cutOut 21 = .ok (.istore 5, 2) := by decide +kernel
theorem dX6_cutOut_23 : decode cX6_cutOut 23 = .ok (.iload 5, 2) := by decide +kernel
theorem dX6_cutOut_25 : decode cX6_cutOut 25 = .ok (.bipush 8, 2) := by decide +kernel
theorem dX6_cutOut_27 : decode cX6_cutOut 27 = .ok (.iload_n 1, 1) := by decide +kernel
theorem dX6_cutOut_28 : decode cX6_cutOut 28 = .ok (.imul, 1) := by decide +kernel
theorem dX6_cutOut_29 : decode cX6_cutOut 29 = .ok (.aload_n 0, 1) := by decide +kernel
theorem dX6_cutOut_30 : decode cX6_cutOut 30 = .ok (.getfield 28, 3) := by decide +kernel
theorem dX6_cutOut_33 : decode cX6_cutOut 33 = .ok (.iload_n 1, 1) := by decide +kernel
theorem dX6_cutOut_34 : decode cX6_cutOut 34 = .ok (.iaload, 1) := by decide +kernel
theorem dX6_cutOut_35 : decode cX6_cutOut 35 = .ok (.iadd, 1) := by decide +kernel
theorem dX6_cutOut_36 : decode cX6_cutOut 36 = .ok (.if_icmp .ge 43, 3) := by decide +kernel
theorem dX6_cutOut_39 : decode cX6_cutOut 39 = .ok (.iload 4, 2) := by decide +kernel
theorem dX6_cutOut_41 : decode cX6_cutOut 41 = .ok (.ifCond .ne 25, 3) := by decide +kernel
theorem dX6_cutOut_44 : decode cX6_cutOut 44 = .ok (.iload_n 3, 1) := by decide +kernel
theorem dX6_cutOut_45 : decode cX6_cutOut 45 = .ok (.aload_n 0, 1) := by decide +kernel
theorem dX6_cutOut_46 : decode cX6_cutOut 46 = .ok (.getfield 22, 3) := by decide +kernel
theorem dX6_cutOut_49 : decode cX6_cutOut 49 = .ok (.iload 5, 2) := by decide +kernel
theorem dX6_cutOut_51 : decode cX6_cutOut 51 = .ok (.iaload, 1) := by decide +kernel
theorem dX6_cutOut_52 : decode cX6_cutOut 52 = .ok (.if_icmp .lt 18, 3) := by decide +kernel
theorem dX6_cutOut_55 : decode cX6_cutOut 55 = .ok (.iload_n 3, 1) := by decide +kernel
theorem dX6_cutOut_56 : decode cX6_cutOut 56 = .ok (.aload_n 0, 1) := by decide +kernel
theorem dX6_cutOut_57 : decode cX6_cutOut 57 = .ok (.getfield 25, 3) := by decide +kernel
theorem dX6_cutOut_60 : decode cX6_cutOut 60 = .ok (.iload 5, 2) := by decide +kernel
theorem dX6_cutOut_62 : decode cX6_cutOut 62 = .ok (.iaload, 1) := by decide +kernel
theorem dX6_cutOut_63 : decode cX6_cutOut 63 = .ok (.if_icmp .ge 7, 3) := by decide +kernel
theorem dX6_cutOut_66 : decode cX6_cutOut 66 = .ok (.iconst 1, 1) := by decide +kernel
theorem dX6_cutOut_67 : decode cX6_cutOut 67 = .ok (.goto 4, 3) := by decide +kernel
theorem dX6_cutOut_70 : decode cX6_cutOut 70 = .ok (.iconst 0, 1) := by decide +kernel
theorem dX6_cutOut_71 : decode cX6_cutOut 71 = .ok (.istore 4, 2) := by decide +kernel
theorem dX6_cutOut_73 : decode cX6_cutOut 73 = .ok (.iinc 5 1, 3) := by decide +kernel
theorem dX6_cutOut_76 : decode cX6_cutOut 76 = .ok (.goto (-53), 3) := by decide +kernel
theorem dX6_cutOut_79 : decode cX6_cutOut 79 = .ok (.iload_n 2, 1) := by decide +kernel
theorem dX6_cutOut_80 : decode cX6_cutOut 80 = .ok (.iload 4, 2) := by decide +kernel
theorem dX6_cutOut_82 : decode cX6_cutOut 82 = .ok (.ifCond .eq 7, 3) := by decide +kernel
theorem dX6_cutOut_85 : decode cX6_cutOut 85 = .ok (.iconst 1, 1) := by decide +kernel
theorem dX6_cutOut_86 : decode cX6_cutOut 86 = .ok (.goto 4, 3) := by decide +kernel
theorem dX6_cutOut_89 : decode cX6_cutOut 89 = .ok (.iconst 0, 1) := by decide +kernel
theorem dX6_cutOut_90 : decode cX6_cutOut 90 = .ok (.iadd, 1) := by decide +kernel
theorem dX6_cutOut_91 : decode cX6_cutOut 91 = .ok (.istore_n 2, 1) := by decide +kernel
theorem dX6_cutOut_92 : decode cX6_cutOut 92 = .ok (.iinc 3 1, 3) := by decide +kernel
theorem dX6_cutOut_95 : decode cX6_cutOut 95 = .ok (.goto (-91), 3) := by decide +kernel
theorem dX6_cutOut_98 : decode cX6_cutOut 98 = .ok (.iload_n 2, 1) := by decide +kernel
theorem dX6_cutOut_99 : decode cX6_cutOut 99 = .ok (.ireturn, 1) := by decide +kernel
theorem dX6_defect_0 : decode cX6_defect 0 = .ok (.aload_n 0, 1) := by decide +kernel
theorem dX6_defect_1 : decode cX6_defect 1 = .ok (.iload_n 1, 1) := by decide +kernel
theorem dX6_defect_2 : decode cX6_defect 2 = .ok (.invokevirtual 106, 3) := by decide +kernel
theorem dX6_defect_5 : decode cX6_defect 5 = .ok (.istore 4, 2) := by decide +kernel
theorem dX6_defect_7 : decode cX6_defect 7 = .ok (.iload 4, 2) := by decide +kernel
theorem dX6_defect_9 : decode cX6_defect 9 = .ok (.ifCond .eq 39, 3) := by decide +kernel
theorem dX6_defect_12 : decode cX6_defect 12 = .ok (.iload_n 2, 1) := by decide +kernel
theorem dX6_defect_13 : decode cX6_defect 13 = .ok (.iconst 0, 1) := by decide +kernel
theorem dX6_defect_14 : decode cX6_defect 14 = .ok (.aload_n 0, 1) := by decide +kernel
theorem dX6_defect_15 : decode cX6_defect 15 = .ok (.getfield 16, 3) := by decide +kernel
theorem dX6_defect_18 : decode cX6_defect 18 = .ok (.iload_n 1, 1) := by decide +kernel
theorem dX6_defect_19 : decode cX6_defect 19 = .ok (.iaload, 1) := by decide +kernel
theorem dX6_defect_20 : decode cX6_defect 20 = .ok (.iconst 1, 1) := by decide +kernel
theorem dX6_defect_21 : decode cX6_defect 21 = .ok (.isub, 1) := by decide +kernel
theorem dX6_defect_22 : decode cX6_defect 22 = .ok (.invokestatic 95, 3) := by decide +kernel
theorem dX6_defect_25 : decode cX6_defect 25 = .ok (.ifCond .eq 23, 3) := by decide +kernel
theorem dX6_defect_28 : decode cX6_defect 28 = .ok (.iload_n 3, 1) := by decide +kernel
theorem dX6_defect_29 : decode cX6_defect 29 = .ok (.iload_n 2, 1) := by decide +kernel
theorem dX6_defect_30 : decode cX6_defect 30 = .ok (.iconst 1, 1) := by decide +kernel
theorem dX6_defect_31 : decode cX6_defect 31 = .ok (.iadd, 1) := by decide +kernel
theorem dX6_defect_32 : decode cX6_defect 32 = .ok (.aload_n 0, 1) := by decide +kernel
theorem dX6_defect_33 : decode cX6_defect 33 = .ok (.getfield 16, 3) := by decide +kernel
theorem dX6_defect_36 : decode cX6_defect 36 = .ok (.iload_n 1, 1) := by decide +kernel
theorem dX6_defect_37 : decode cX6_defect 37 = .ok (.iaload, 1) := by decide +kernel
theorem dX6_defect_38 : decode cX6_defect 38 = .ok (.invokestatic 95, 3) := by decide +kernel
theorem dX6_defect_41 : decode cX6_defect 41 = .ok (.ifCond .eq 7, 3) := by decide +kernel
theorem dX6_defect_44 : decode cX6_defect 44 = .ok (.iconst 1, 1) := by decide +kernel
theorem dX6_defect_45 : decode cX6_defect 45 = .ok (.goto 4, 3) := by decide +kernel
theorem dX6_defect_48 : decode cX6_defect 48 = .ok (.iconst 0, 1) := by decide +kernel
theorem dX6_defect_49 : decode cX6_defect 49 = .ok (.istore 5, 2) := by decide +kernel
theorem dX6_defect_51 : decode cX6_defect 51 = .ok (.aload_n 0, 1) := by decide +kernel
theorem dX6_defect_52 : decode cX6_defect 52 = .ok (.iload 4, 2) := by decide +kernel
theorem dX6_defect_54 : decode cX6_defect 54 = .ok (.iload 5, 2) := by decide +kernel
theorem dX6_defect_56 : decode cX6_defect 56 = .ok (.iload 4, 2) := by decide +kernel
theorem dX6_defect_58 : decode cX6_defect 58 = .ok (.ifCond .eq 28, 3) := by decide +kernel
theorem dX6_defect_61 : decode cX6_defect 61 = .ok (.aload_n 0, 1) := by decide +kernel
theorem dX6_defect_62 : decode cX6_defect 62 = .ok (.getfield 59, 3) := by decide +kernel
theorem dX6_defect_65 : decode cX6_defect 65 = .ok (.iload_n 1, 1) := by decide +kernel
theorem dX6_defect_66 : decode cX6_defect 66 = .ok (.iaload, 1) := by decide +kernel
theorem dX6_defect_67 : decode cX6_defect 67 = .ok (.iconst (-1), 1) := by decide +kernel
theorem dX6_defect_68 : decode cX6_defect 68 = .ok (.if_icmp .ne 18, 3) := by decide +kernel
theorem dX6_defect_71 : decode cX6_defect 71 = .ok (.aload_n 0, 1) := by decide +kernel
theorem dX6_defect_72 : decode cX6_defect 72 = .ok (.getfield 28, 3) := by decide +kernel
theorem dX6_defect_75 : decode cX6_defect 75 = .ok (.iload_n 1, 1) := by decide +kernel
theorem dX6_defect_76 : decode cX6_defect 76 = .ok (.iaload, 1) := by decide +kernel
theorem dX6_defect_77 : decode cX6_defect 77 = .ok (.bipush 8, 2) := by decide +kernel
theorem dX6_defect_79 : decode cX6_defect 79 = .ok (.if_icmp .ge 7, 3) := by decide +kernel
theorem dX6_defect_82 : decode cX6_defect 82 = .ok (.iconst 1, 1) := by decide +kernel
theorem dX6_defect_83 : decode cX6_defect 83 = .ok (.goto 4, 3) := by decide +kernel
theorem dX6_defect_86 : decode cX6_defect 86 = .ok (.iconst 0, 1) := by decide +kernel
theorem dX6_defect_87 : decode cX6_defect 87 = .ok (.invokevirtual 110, 3) := by decide +kernel
theorem dX6_defect_90 : decode cX6_defect 90 = .ok (.ifCond .ne 5, 3) := by decide +kernel
theorem dX6_defect_93 : decode cX6_defect 93 = .ok (.iconst 0, 1) := by decide +kernel
theorem dX6_defect_94 : decode cX6_defect 94 = .ok (.ireturn, 1) := by decide +kernel
theorem dX6_defect_95 : decode cX6_defect 95 = .ok (.aload_n 0, 1) := by decide +kernel
theorem dX6_defect_96 : decode cX6_defect 96 = .ok (.getfield 22, 3) := by decide +kernel
theorem dX6_defect_99 : decode cX6_defect 99 = .ok (.bipush 8, 2) := by decide +kernel
theorem dX6_defect_101 : decode cX6_defect 101 = .ok (.iload_n 1, 1) := by decide +kernel
theorem dX6_defect_102 : decode cX6_defect 102 = .ok (.imul, 1) := by decide +kernel
theorem dX6_defect_103 : decode cX6_defect 103 = .ok (.aload_n 0, 1) := by decide +kernel
theorem dX6_defect_104 : decode cX6_defect 104 = .ok (.getfield 28, 3) := by decide +kernel
theorem dX6_defect_107 : decode cX6_defect 107 = .ok (.iload_n 1, 1) := by decide +kernel
theorem dX6_defect_108 : decode cX6_defect 108 = .ok (.iaload, 1) := by decide +kernel
theorem dX6_defect_109 : decode cX6_defect 109 = .ok (.iadd, 1) := by decide +kernel
theorem dX6_defect_110 : decode cX6_defect 110 = .ok (.iload_n 2, 1) := by decide +kernel
theorem dX6_defect_111 : decode cX6_defect 111 = .ok (.iastore, 1) := by decide +kernel
theorem dX6_defect_112 : decode cX6_defect 112 = .ok (.aload_n 0, 1) := by decide +kernel
theorem dX6_defect_113 : decode cX6_defect 113 = .ok (.getfield 25, 3) := by decide +kernel
theorem dX6_defect_116 : decode cX6_defect 116 = .ok (.bipush 8, 2) := by decide +kernel
theorem dX6_defect_118 : decode cX6_defect 118 = .ok (.iload_n 1, 1) := by decide +kernel
theorem dX6_defect_119 : decode cX6_defect 119 = .ok (.imul, 1) := by decide +kernel
theorem dX6_defect_120 : decode cX6_defect 120 = .ok (.aload_n 0, 1) := by decide +kernel
theorem dX6_defect_121 : decode cX6_defect 121 = .ok (.getfield 28, 3) := by decide +kernel
theorem dX6_defect_124 : decode cX6_defect 124 = .ok (.iload_n 1, 1) := by decide +kernel
theorem dX6_defect_125 : decode cX6_defect 125 = .ok (.iaload, 1) := by decide +kernel
theorem dX6_defect_126 : decode cX6_defect 126 = .ok (.iadd, 1) := by decide +kernel
theorem dX6_defect_127 : decode cX6_defect 127 = .ok (.iload_n 3, 1) := by decide +kernel
theorem dX6_defect_128 : decode cX6_defect 128 = .ok (.iastore, 1) := by decide +kernel
theorem dX6_defect_129 : decode cX6_defect 129 = .ok (.aload_n 0, 1) := by decide +kernel
theorem dX6_defect_130 : decode cX6_defect 130 = .ok (.getfield 28, 3) := by decide +kernel
theorem dX6_defect_133 : decode cX6_defect 133 = .ok (.iload_n 1, 1) := by decide +kernel
theorem dX6_defect_134 : decode cX6_defect 134 = .ok (.dup2, 1) := by decide +kernel
theorem dX6_defect_135 : decode cX6_defect 135 = .ok (.iaload, 1) := by decide +kernel
theorem dX6_defect_136 : decode cX6_defect 136 = .ok (.iconst 1, 1) := by decide +kernel
theorem dX6_defect_137 : decode cX6_defect 137 = .ok (.iadd, 1) := by decide +kernel
theorem dX6_defect_138 : decode cX6_defect 138 = .ok (.iastore, 1) := by decide +kernel
theorem dX6_defect_139 : decode cX6_defect 139 = .ok (.aload_n 0, 1) := by decide +kernel
theorem dX6_defect_140 : decode cX6_defect 140 = .ok (.iload_n 1, 1) := by decide +kernel
theorem dX6_defect_141 : decode cX6_defect 141 = .ok (.invokevirtual 113, 3) := by decide +kernel
theorem dX6_defect_144 : decode cX6_defect 144 = .ok (.ireturn, 1) := by decide +kernel
theorem dX6_setRules_0 : decode cX6_setRules 0 = .ok (.aload_n 0, 1) := by decide +kernel
theorem dX6_setRules_1 : decode cX6_setRules 1 = .ok (.iload_n 1, 1) := by decide +kernel
theorem dX6_setRules_2 : decode cX6_setRules 2 = .ok (.iconst 0, 1) := by decide +kernel
theorem dX6_setRules_3 : decode cX6_setRules 3 = .ok (.bipush 100, 2) := by decide +kernel
theorem dX6_setRules_5 : decode cX6_setRules 5 = .ok (.invokestatic 95, 3) := by decide +kernel
theorem dX6_setRules_8 : decode cX6_setRules 8 = .ok (.ifCond .eq 28, 3) := by decide +kernel
theorem dX6_setRules_11 : decode cX6_setRules 11 = .ok (.iload_n 2, 1) := by decide +kernel
theorem dX6_setRules_12 : decode cX6_setRules 12 = .ok (.iconst 0, 1) := by decide +kernel
theorem dX6_setRules_13 : decode cX6_setRules 13 = .ok (.sipush 500, 3) := by decide +kernel
theorem dX6_setRules_16 : decode cX6_setRules 16 = .ok (.invokestatic 95, 3) := by decide +kernel
theorem dX6_setRules_19 : decode cX6_setRules 19 = .ok (.ifCond .eq 17, 3) := by decide +kernel
theorem dX6_setRules_22 : decode cX6_setRules 22 = .ok (.iload_n 3, 1) := by decide +kernel
theorem dX6_setRules_23 : decode cX6_setRules 23 = .ok (.iconst 2, 1) := by decide +kernel
theorem dX6_setRules_24 : decode cX6_setRules 24 = .ok (.bipush 16, 2) := by decide +kernel
theorem dX6_setRules_26 : decode cX6_setRules 26 = .ok (.invokestatic 95, 3) := by decide +kernel
theorem dX6_setRules_29 : decode cX6_setRules 29 = .ok (.ifCond .eq 7, 3) := by decide +kernel
theorem dX6_setRules_32 : decode cX6_setRules 32 = .ok (.iconst 1, 1) := by decide +kernel
theorem dX6_setRules_33 : decode cX6_setRules 33 = .ok (.goto 4, 3) := by decide +kernel
theorem dX6_setRules_36 : decode cX6_setRules 36 = .ok (.iconst 0, 1) := by decide +kernel
theorem dX6_setRules_37 : decode cX6_setRules 37 = .ok (.invokevirtual 117, 3) := by decide +kernel
theorem dX6_setRules_40 : decode cX6_setRules 40 = .ok (.ifCond .ne 5, 3) := by decide +kernel
theorem dX6_setRules_43 : decode cX6_setRules 43 = .ok (.iconst 0, 1) := by decide +kernel
theorem dX6_setRules_44 : decode cX6_setRules 44 = .ok (.ireturn, 1) := by decide +kernel
theorem dX6_setRules_45 : decode cX6_setRules 45 = .ok (.aload_n 0, 1) := by decide +kernel
theorem dX6_setRules_46 : decode cX6_setRules 46 = .ok (.getfield 31, 3) := by decide +kernel
theorem dX6_setRules_49 : decode cX6_setRules 49 = .ok (.istore 4, 2) := by decide +kernel
theorem dX6_setRules_51 : decode cX6_setRules 51 = .ok (.aload_n 0, 1) := by decide +kernel
theorem dX6_setRules_52 : decode cX6_setRules 52 = .ok (.iload_n 1, 1) := by decide +kernel
theorem dX6_setRules_53 : decode cX6_setRules 53 = .ok (.putfield 31, 3) := by decide +kernel
theorem dX6_setRules_56 : decode cX6_setRules 56 = .ok (.aload_n 0, 1) := by decide +kernel
theorem dX6_setRules_57 : decode cX6_setRules 57 = .ok (.iload_n 2, 1) := by decide +kernel
theorem dX6_setRules_58 : decode cX6_setRules 58 = .ok (.putfield 35, 3) := by decide +kernel
theorem dX6_setRules_61 : decode cX6_setRules 61 = .ok (.aload_n 0, 1) := by decide +kernel
theorem dX6_setRules_62 : decode cX6_setRules 62 = .ok (.iload_n 3, 1) := by decide +kernel
theorem dX6_setRules_63 : decode cX6_setRules 63 = .ok (.putfield 38, 3) := by decide +kernel
theorem dX6_setRules_66 : decode cX6_setRules 66 = .ok (.iload 4, 2) := by decide +kernel
theorem dX6_setRules_68 : decode cX6_setRules 68 = .ok (.ireturn, 1) := by decide +kernel
theorem dX6_order_0 : decode cX6_order 0 = .ok (.aload_n 0, 1) := by decide +kernel
theorem dX6_order_1 : decode cX6_order 1 = .ok (.iload_n 1, 1) := by decide +kernel
theorem dX6_order_2 : decode cX6_order 2 = .ok (.bipush 20, 2) := by decide +kernel
theorem dX6_order_4 : decode cX6_order 4 = .ok (.sipush 1000, 3) := by decide +kernel
theorem dX6_order_7 : decode cX6_order 7 = .ok (.invokestatic 95, 3) := by decide +kernel
theorem dX6_order_10 : decode cX6_order 10 = .ok (.ifCond .eq 17, 3) := by decide +kernel
theorem dX6_order_13 : decode cX6_order 13 = .ok (.iload_n 2, 1) := by decide +kernel
theorem dX6_order_14 : decode cX6_order 14 = .ok (.iconst 1, 1) := by decide +kernel
theorem dX6_order_15 : decode cX6_order 15 = .ok (.ldc 120, 2) := by decide +kernel
theorem dX6_order_17 : decode cX6_order 17 = .ok (.invokestatic 95, 3) := by decide +kernel
theorem dX6_order_20 : decode cX6_order 20 = .ok (.ifCond .eq 7, 3) := by decide +kernel
theorem dX6_order_23 : decode cX6_order 23 = .ok (.iconst 1, 1) := by decide +kernel
theorem dX6_order_24 : decode cX6_order 24 = .ok (.goto 4, 3) := by decide +kernel
theorem dX6_order_27 : decode cX6_order 27 = .ok (.iconst 0, 1) := by decide +kernel
theorem dX6_order_28 : decode cX6_order 28 = .ok (.aload_n 0, 1) := by decide +kernel
theorem dX6_order_29 : decode cX6_order 29 = .ok (.getfield 121, 3) := by decide +kernel
theorem dX6_order_32 : decode cX6_order 32 = .ok (.bipush 12, 2) := by decide +kernel
theorem dX6_order_34 : decode cX6_order 34 = .ok (.if_icmp .ge 7, 3) := by decide +kernel
theorem dX6_order_37 : decode cX6_order 37 = .ok (.iconst 1, 1) := by decide +kernel
theorem dX6_order_38 : decode cX6_order 38 = .ok (.goto 4, 3) := by decide +kernel
theorem dX6_order_41 : decode cX6_order 41 = .ok (.iconst 0, 1) := by decide +kernel
theorem dX6_order_42 : decode cX6_order 42 = .ok (.invokevirtual 102, 3) := by decide +kernel
theorem dX6_order_45 : decode cX6_order 45 = .ok (.ifCond .ne 5, 3) := by decide +kernel
theorem dX6_order_48 : decode cX6_order 48 = .ok (.iconst 0, 1) := by decide +kernel
theorem dX6_order_49 : decode cX6_order 49 = .ok (.ireturn, 1) := by decide +kernel
theorem dX6_order_50 : decode cX6_order 50 = .ok (.aload_n 0, 1) := by decide +kernel
theorem dX6_order_51 : decode cX6_order 51 = .ok (.getfield 41, 3) := by decide +kernel
theorem dX6_order_54 : decode cX6_order 54 = .ok (.aload_n 0, 1) := by decide +kernel
theorem dX6_order_55 : decode cX6_order 55 = .ok (.getfield 121, 3) := by decide +kernel
theorem dX6_order_58 : decode cX6_order 58 = .ok (.iload_n 1, 1) := by decide +kernel
theorem dX6_order_59 : decode cX6_order 59 = .ok (.iastore, 1) := by decide +kernel
theorem dX6_order_60 : decode cX6_order 60 = .ok (.aload_n 0, 1) := by decide +kernel
theorem dX6_order_61 : decode cX6_order 61 = .ok (.getfield 44, 3) := by decide +kernel
theorem dX6_order_64 : decode cX6_order 64 = .ok (.aload_n 0, 1) := by decide +kernel
theorem dX6_order_65 : decode cX6_order 65 = .ok (.getfield 121, 3) := by decide +kernel
theorem dX6_order_68 : decode cX6_order 68 = .ok (.iload_n 2, 1) := by decide +kernel
theorem dX6_order_69 : decode cX6_order 69 = .ok (.iastore, 1) := by decide +kernel
theorem dX6_order_70 : decode cX6_order 70 = .ok (.aload_n 0, 1) := by decide +kernel
theorem dX6_order_71 : decode cX6_order 71 = .ok (.getfield 50, 3) := by decide +kernel
theorem dX6_order_74 : decode cX6_order 74 = .ok (.aload_n 0, 1) := by decide +kernel
theorem dX6_order_75 : decode cX6_order 75 = .ok (.getfield 121, 3) := by decide +kernel
theorem dX6_order_78 : decode cX6_order 78 = .ok (.iconst (-1), 1) := by decide +kernel
theorem dX6_order_79 : decode cX6_order 79 = .ok (.iastore, 1) := by decide +kernel
theorem dX6_order_80 : decode cX6_order 80 = .ok (.aload_n 0, 1) := by decide +kernel
theorem dX6_order_81 : decode cX6_order 81 = .ok (.dup, 1) := by decide +kernel
theorem dX6_order_82 : decode cX6_order 82 = .ok (.getfield 121, 3) := by decide +kernel
theorem dX6_order_85 : decode cX6_order 85 = .ok (.iconst 1, 1) := by decide +kernel
theorem dX6_order_86 : decode cX6_order 86 = .ok (.iadd, 1) := by decide +kernel
theorem dX6_order_87 : decode cX6_order 87 = .ok (.putfield 121, 3) := by decide +kernel
theorem dX6_order_90 : decode cX6_order 90 = .ok (.aload_n 0, 1) := by decide +kernel
theorem dX6_order_91 : decode cX6_order 91 = .ok (.getfield 121, 3) := by decide +kernel

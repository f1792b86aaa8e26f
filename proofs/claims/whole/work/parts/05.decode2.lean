theorem dX8_hanging_2 : decode cX8_hanging 2 = .ok (.iconst 0, 1) := by decide +kernel
theorem dX8_hanging_3 : decode cX8_hanging 3 = .ok (.istore_n 3, 1) := by decide +kernel
theorem dX8_hanging_4 : decode cX8_hanging 4 = .ok (.iload_n 3, 1) := by decide +kernel
theorem dX8_hanging_5 : decode cX8_hanging 5 = .ok (.iconst 4, 1) := by decide +kernel
theorem dX8_hanging_6 : decode cX8_hanging 6 = .ok (.if_icmp .ge 57, 3) := by decide +kernel
theorem dX8_hanging_9 : decode cX8_hanging 9 = .ok (.iload_n 2, 1) := by decide +kernel
theorem dX8_hanging_10 : decode cX8_hanging 10 = .ok (.aload_n 0, 1) := by decide +kernel
theorem dX8_hanging_11 : decode cX8_hanging 11 = .ok (.getfield 23, 3) := by decide +kernel
theorem dX8_hanging_14 : decode cX8_hanging 14 = .ok (.iload_n 3, 1) := by decide +kernel
theorem dX8_hanging_15 : decode cX8_hanging 15 = .ok (.aaload, 1) := by decide +kernel
theorem dX8_hanging_16 : decode cX8_hanging 16 = .ok (.aload_n 1, 1) := by decide +kernel
theorem dX8_hanging_17 : decode cX8_hanging 17 = .ok (.getfield 246, 3) := by decide +kernel
theorem dX8_hanging_20 : decode cX8_hanging 20 = .ok (.invokevirtual 250, 3) := by decide +kernel
theorem dX8_hanging_23 : decode cX8_hanging 23 = .ok (.ifCond .eq 7, 3) := by decide +kernel
theorem dX8_hanging_26 : decode cX8_hanging 26 = .ok (.iconst 1, 1) := by decide +kernel
theorem dX8_hanging_27 : decode cX8_hanging 27 = .ok (.goto 4, 3) := by decide +kernel
theorem dX8_hanging_30 : decode cX8_hanging 30 = .ok (.iconst 0, 1) := by decide +kernel
theorem dX8_hanging_31 : decode cX8_hanging 31 = .ok (.ior, 1) := by decide +kernel
theorem dX8_hanging_32 : decode cX8_hanging 32 = .ok (.istore_n 2, 1) := by decide +kernel
theorem dX8_hanging_33 : decode cX8_hanging 33 = .ok (.iload_n 2, 1) := by decide +kernel
theorem dX8_hanging_34 : decode cX8_hanging 34 = .ok (.aload_n 0, 1) := by decide +kernel
theorem dX8_hanging_35 : decode cX8_hanging 35 = .ok (.getfield 23, 3) := by decide +kernel
theorem dX8_hanging_38 : decode cX8_hanging 38 = .ok (.iload_n 3, 1) := by decide +kernel
theorem dX8_hanging_39 : decode cX8_hanging 39 = .ok (.aaload, 1) := by decide +kernel
theorem dX8_hanging_40 : decode cX8_hanging 40 = .ok (.aload_n 1, 1) := by decide +kernel
theorem dX8_hanging_41 : decode cX8_hanging 41 = .ok (.getfield 254, 3) := by decide +kernel
theorem dX8_hanging_44 : decode cX8_hanging 44 = .ok (.invokevirtual 250, 3) := by decide +kernel
theorem dX8_hanging_47 : decode cX8_hanging 47 = .ok (.ifCond .eq 7, 3) := by decide +kernel
theorem dX8_hanging_50 : decode cX8_hanging 50 = .ok (.iconst 2, 1) := by decide +kernel
theorem dX8_hanging_51 : decode cX8_hanging 51 = .ok (.goto 4, 3) := by decide +kernel
theorem dX8_hanging_54 : decode cX8_hanging 54 = .ok (.iconst 0, 1) := by decide +kernel
theorem dX8_hanging_55 : decode cX8_hanging 55 = .ok (.ior, 1) := by decide +kernel
theorem dX8_hanging_56 : decode cX8_hanging 56 = .ok (.istore_n 2, 1) := by decide +kernel
theorem dX8_hanging_57 : decode cX8_hanging 57 = .ok (.iinc 3 1, 3) := by decide +kernel
theorem dX8_hanging_60 : decode cX8_hanging 60 = .ok (.goto (-56), 3) := by decide +kernel
theorem dX8_hanging_63 : decode cX8_hanging 63 = .ok (.iload_n 2, 1) := by decide +kernel
theorem dX8_hanging_64 : decode cX8_hanging 64 = .ok (.ireturn, 1) := by decide +kernel
theorem dX9_init_0 : decode cX9_init 0 = .ok (.aload_n 0, 1) := by decide +kernel
theorem dX9_init_1 : decode cX9_init 1 = .ok (.invokespecial 1, 3) := by decide +kernel
theorem dX9_init_4 : decode cX9_init 4 = .ok (.aload_n 0, 1) := by decide +kernel
theorem dX9_init_5 : decode cX9_init 5 = .ok (.iconst 4, 1) := by decide +kernel
theorem dX9_init_6 : decode cX9_init 6 = .ok (.newarray .boolean, 2) := by decide +kernel
theorem dX9_init_8 : decode cX9_init 8 = .ok (.putfield 7, 3) := by decide +kernel
theorem dX9_init_11 : decode cX9_init 11 = .ok (.aload_n 0, 1) := by decide +kernel
theorem dX9_init_12 : decode cX9_init 12 = .ok (.iconst 4, 1) := by decide +kernel
theorem dX9_init_13 : decode cX9_init 13 = .ok (.newarray .int, 2) := by decide +kernel
theorem dX9_init_15 : decode cX9_init 15 = .ok (.putfield 13, 3) := by decide +kernel
theorem dX9_init_18 : decode cX9_init 18 = .ok (.aload_n 0, 1) := by decide +kernel
theorem dX9_init_19 : decode cX9_init 19 = .ok (.bipush 8, 2) := by decide +kernel
theorem dX9_init_21 : decode cX9_init 21 = .ok (.newarray .int, 2) := by decide +kernel
theorem dX9_init_23 : decode cX9_init 23 = .ok (.putfield 17, 3) := by decide +kernel
theorem dX9_init_26 : decode cX9_init 26 = .ok (.aload_n 0, 1) := by decide +kernel
theorem dX9_init_27 : decode cX9_init 27 = .ok (.iconst 4, 1) := by decide +kernel
theorem dX9_init_28 : decode cX9_init 28 = .ok (.newarray .int, 2) := by decide +kernel
theorem dX9_init_30 : decode cX9_init 30 = .ok (.putfield 20, 3) := by decide +kernel
theorem dX9_init_33 : decode cX9_init 33 = .ok (.aload_n 0, 1) := by decide +kernel
theorem dX9_init_34 : decode cX9_init 34 = .ok (.iconst 4, 1) := by decide +kernel
theorem dX9_init_35 : decode cX9_init 35 = .ok (.newarray .int, 2) := by decide +kernel
theorem dX9_init_37 : decode cX9_init 37 = .ok (.putfield 23, 3) := by decide +kernel
theorem dX9_init_40 : decode cX9_init 40 = .ok (.aload_n 0, 1) := by decide +kernel
theorem dX9_init_41 : decode cX9_init 41 = .ok (.bipush 100, 2) := by decide +kernel
theorem dX9_init_43 : decode cX9_init 43 = .ok (.newarray .int, 2) := by decide +kernel
theorem dX9_init_45 : decode cX9_init 45 = .ok (.putfield 26, 3) := by decide +kernel
theorem dX9_init_48 : decode cX9_init 48 = .ok (.aload_n 0, 1) := by decide +kernel
theorem dX9_init_49 : decode cX9_init 49 = .ok (.bipush 100, 2) := by decide +kernel
theorem dX9_init_51 : decode cX9_init 51 = .ok (.newarray .int, 2) := by decide +kernel
theorem dX9_init_53 : decode cX9_init 53 = .ok (.putfield 29, 3) := by decide +kernel
theorem dX9_init_56 : decode cX9_init 56 = .ok (.aload_n 0, 1) := by decide +kernel
theorem dX9_init_57 : decode cX9_init 57 = .ok (.bipush 100, 2) := by decide +kernel
theorem dX9_init_59 : decode cX9_init 59 = .ok (.newarray .boolean, 2) := by decide +kernel
theorem dX9_init_61 : decode cX9_init 61 = .ok (.putfield 32, 3) := by decide +kernel
theorem dX9_init_64 : decode cX9_init 64 = .ok (.aload_n 0, 1) := by decide +kernel
theorem dX9_init_65 : decode cX9_init 65 = .ok (.iconst 4, 1) := by decide +kernel
theorem dX9_init_66 : decode cX9_init 66 = .ok (.newarray .int, 2) := by decide +kernel
theorem dX9_init_68 : decode cX9_init 68 = .ok (.putfield 35, 3) := by decide +kernel
theorem dX9_init_71 : decode cX9_init 71 = .ok (.aload_n 0, 1) := by decide +kernel
theorem dX9_init_72 : decode cX9_init 72 = .ok (.bipush 80, 2) := by decide +kernel
theorem dX9_init_74 : decode cX9_init 74 = .ok (.newarray .int, 2) := by decide +kernel
theorem dX9_init_76 : decode cX9_init 76 = .ok (.putfield 38, 3) := by decide +kernel
theorem dX9_init_79 : decode cX9_init 79 = .ok (.aload_n 0, 1) := by decide +kernel
theorem dX9_init_80 : decode cX9_init 80 = .ok (.iconst 4, 1) := by decide +kernel
theorem dX9_init_81 : decode cX9_init 81 = .ok (.newarray .int, 2) := by decide +kernel
theorem dX9_init_83 : decode cX9_init 83 = .ok (.putfield 41, 3) := by decide +kernel
theorem dX9_init_86 : decode cX9_init 86 = .ok (.aload_n 0, 1) := by decide +kernel
theorem dX9_init_87 : decode cX9_init 87 = .ok (.iconst 4, 1) := by decide +kernel
theorem dX9_init_88 : decode cX9_init 88 = .ok (.newarray .boolean, 2) := by decide +kernel
theorem dX9_init_90 : decode cX9_init 90 = .ok (.putfield 44, 3) := by decide +kernel
theorem dX9_init_93 : decode cX9_init 93 = .ok (.aload_n 0, 1) := by decide +kernel
theorem dX9_init_94 : decode cX9_init 94 = .ok (.bipush 80, 2) := by decide +kernel
theorem dX9_init_96 : decode cX9_init 96 = .ok (.newarray .int, 2) := by decide +kernel
theorem dX9_init_98 : decode cX9_init 98 = .ok (.putfield 47, 3) := by decide +kernel
theorem dX9_init_101 : decode cX9_init 101 = .ok (.aload_n 0, 1) := by decide +kernel
theorem dX9_init_102 : decode cX9_init 102 = .ok (.iconst 4, 1) := by decide +kernel
theorem dX9_init_103 : decode cX9_init 103 = .ok (.newarray .int, 2) := by decide +kernel
theorem dX9_init_105 : decode cX9_init 105 = .ok (.putfield 50, 3) := by decide +kernel
theorem dX9_init_108 : decode cX9_init 108 = .ok (.aload_n 0, 1) := by decide +kernel
theorem dX9_init_109 : decode cX9_init 109 = .ok (.iconst 4, 1) := by decide +kernel
theorem dX9_init_110 : decode cX9_init 110 = .ok (.newarray .int, 2) := by decide +kernel
theorem dX9_init_112 : decode cX9_init 112 = .ok (.putfield 53, 3) := by decide +kernel
theorem dX9_init_115 : decode cX9_init 115 = .ok (.aload_n 0, 1) := by decide +kernel
theorem dX9_init_116 : decode cX9_init 116 = .ok (.sipush 1600, 3) := by decide +kernel
theorem dX9_init_119 : decode cX9_init 119 = .ok (.newarray .int, 2) := by decide +kernel
theorem dX9_init_121 : decode cX9_init 121 = .ok (.putfield 56, 3) := by decide +kernel
theorem dX9_init_124 : decode cX9_init 124 = .ok (.aload_n 0, 1) := by decide +kernel
theorem dX9_init_125 : decode cX9_init 125 = .ok (.iconst 4, 1) := by decide +kernel
theorem dX9_init_126 : decode cX9_init 126 = .ok (.newarray .int, 2) := by decide +kernel
theorem dX9_init_128 : decode cX9_init 128 = .ok (.putfield 59, 3) := by decide +kernel
theorem dX9_init_131 : decode cX9_init 131 = .ok (.aload_n 0, 1) := by decide +kernel
theorem dX9_init_132 : decode cX9_init 132 = .ok (.iconst 4, 1) := by decide +kernel
theorem dX9_init_133 : decode cX9_init 133 = .ok (.newarray .int, 2) := by decide +kernel
theorem dX9_init_135 : decode cX9_init 135 = .ok (.putfield 62, 3) := by decide +kernel
theorem dX9_init_138 : decode cX9_init 138 = .ok (.aload_n 0, 1) := by decide +kernel
theorem dX9_init_139 : decode cX9_init 139 = .ok (.sipush 320, 3) := by decide +kernel
theorem dX9_init_142 : decode cX9_init 142 = .ok (.newarray .int, 2) := by decide +kernel
theorem dX9_init_144 : decode cX9_init 144 = .ok (.putfield 65, 3) := by decide +kernel
theorem dX9_init_147 : decode cX9_init 147 = .ok (.aload_n 0, 1) := by decide +kernel
theorem dX9_init_148 : decode cX9_init 148 = .ok (.iconst (-1), 1) := by decide +kernel
theorem dX9_init_149 : decode cX9_init 149 = .ok (.putfield 68, 3) := by decide +kernel
theorem dX9_init_152 : decode cX9_init 152 = .ok (.aload_n 0, 1) := by decide +kernel
theorem dX9_init_153 : decode cX9_init 153 = .ok (.bipush 8, 2) := by decide +kernel
theorem dX9_init_155 : decode cX9_init 155 = .ok (.newarray .int, 2) := by decide +kernel
theorem dX9_init_157 : decode cX9_init 157 = .ok (.putfield 72, 3) := by decide +kernel
theorem dX9_init_160 : decode cX9_init 160 = .ok (.iconst 0, 1) := by decide +kernel
theorem dX9_init_161 : decode cX9_init 161 = .ok (.istore_n 1, 1) := by decide +kernel
theorem dX9_init_162 : decode cX9_init 162 = .ok (.iload_n 1, 1) := by decide +kernel
theorem dX9_init_163 : decode cX9_init 163 = .ok (.iconst 4, 1) := by decide +kernel
theorem dX9_init_164 : decode cX9_init 164 = .ok (.if_icmp .ge 30, 3) := by decide +kernel
theorem dX9_init_167 : decode cX9_init 167 = .ok (.aload_n 0, 1) := by decide +kernel
theorem dX9_init_168 : decode cX9_init 168 = .ok (.getfield 35, 3) := by decide +kernel
theorem dX9_init_171 : decode cX9_init 171 = .ok (.iload_n 1, 1) := by decide +kernel
theorem dX9_init_172 : decode cX9_init 172 = .ok (.iconst (-1), 1) := by decide +kernel
theorem dX9_init_173 : decode cX9_init 173 = .ok (.iastore, 1) := by decide +kernel
theorem dX9_init_174 : decode cX9_init 174 = .ok (.aload_n 0, 1) := by decide +kernel
theorem dX9_init_175 : decode cX9_init 175 = .ok (.getfield 41, 3) := by decide +kernel
theorem dX9_init_178 : decode cX9_init 178 = .ok (.iload_n 1, 1) := by decide +kernel
theorem dX9_init_179 : decode cX9_init 179 = .ok (.iconst (-1), 1) := by decide +kernel
theorem dX9_init_180 : decode cX9_init 180 = .ok (.iastore, 1) := by decide +kernel
theorem dX9_init_181 : decode cX9_init 181 = .ok (.aload_n 0, 1) := by decide +kernel
theorem dX9_init_182 : decode cX9_init 182 = .ok (.getfield 50, 3) := by decide +kernel
theorem dX9_init_185 : decode cX9_init 185 = .ok (.iload_n 1, 1) := by decide +kernel
theorem dX9_init_186 : decode cX9_init 186 = .ok (.iconst (-1), 1) := by decide +kernel
theorem dX9_init_187 : decode cX9_init 187 = .ok (.iastore, 1) := by decide +kernel
theorem dX9_init_188 : decode cX9_init 188 = .ok (.iinc 1 1, 3) := by decide +kernel
theorem dX9_init_191 : decode cX9_init 191 = .ok (.goto (-29), 3) := by decide +kernel
theorem dX9_init_194 : decode cX9_init 194 = .ok (.iconst 0, 1) := by decide +kernel
theorem dX9_init_195 : decode cX9_init 195 = .ok (.istore_n 1, 1) := by decide +kernel
theorem dX9_init_196 : decode cX9_init 196 = .ok (.iload_n 1, 1) := by decide +kernel
theorem dX9_init_197 : decode cX9_init 197 = .ok (.bipush 8, 2) := by decide +kernel
theorem dX9_init_199 : decode cX9_init 199 = .ok (.if_icmp .ge 16, 3) := by decide +kernel
theorem dX9_init_202 : decode cX9_init 202 = .ok (.aload_n 0, 1) := by decide +kernel
theorem dX9_init_203 : decode cX9_init 203 = .ok (.getfield 17, 3) := by decide +kernel
theorem dX9_init_206 : decode cX9_init 206 = .ok (.iload_n 1, 1) := by decide +kernel
theorem dX9_init_207 : decode cX9_init 207 = .ok (.iconst (-1), 1) := by decide +kernel
theorem dX9_init_208 : decode cX9_init 208 = .ok (.iastore, 1) := by decide +kernel
theorem dX9_init_209 : decode cX9_init 209 = .ok (.iinc 1 1, 3) := by decide +kernel
theorem dX9_init_212 : decode cX9_init 212 = .ok (.goto (-16), 3) := by decide +kernel
theorem dX9_init_215 : decode cX9_init 215 = .ok (.return_, 1) := by decide +kernel
theorem dX9_in_0 : decode cX9_in 0 = .ok (.lload_n 0, 1) := by decide +kernel
theorem dX9_in_1 : decode cX9_in 1 = .ok (.lload_n 2, 1) := by decide +kernel
theorem dX9_in_2 : decode cX9_in 2 = .ok (.lcmp, 1) := by decide +kernel
theorem dX9_in_3 : decode cX9_in 3 = .ok (.ifCond .lt 14, 3) := by decide +kernel
theorem dX9_in_6 : decode cX9_in 6 = .ok (.lload_n 0, 1) := by decide +kernel
theorem dX9_in_7 : decode cX9_in 7 = .ok (.lload 4, 2) := by decide +kernel
theorem dX9_in_9 : decode cX9_in 9 = .ok (.lcmp, 1) := by decide +kernel
theorem dX9_in_10 : decode cX9_in 10 = .ok (.ifCond .gt 7, 3) := by decide +kernel
theorem dX9_in_13 : decode cX9_in 13 = .ok (.iconst 1, 1) := by decide +kernel
theorem dX9_in_14 : decode cX9_in 14 = .ok (.goto 4, 3) := by decide +kernel
theorem dX9_in_17 : decode cX9_in 17 = .ok (.iconst 0, 1) := by decide +kernel
theorem dX9_in_18 : decode cX9_in 18 = .ok (.ireturn, 1) := by decide +kernel
theorem dX9_isStep_0 : decode cX9_isStep 0 = .ok (.iload_n 0, 1) := by decide +kernel
theorem dX9_isStep_1 : decode cX9_isStep 1 = .ok (.i2l, 1) := by decide +kernel
theorem dX9_isStep_2 : decode cX9_isStep 2 = .ok (.lconst 0, 1) := by decide +kernel
theorem dX9_isStep_3 : decode cX9_isStep 3 = .ok (.ldc2_w 75, 3) := by decide +kernel
theorem dX9_isStep_6 : decode cX9_isStep 6 = .ok (.invokestatic 77, 3) := by decide +kernel
theorem dX9_isStep_9 : decode cX9_isStep 9 = .ok (.ifCond .eq 15, 3) := by decide +kernel
theorem dX9_isStep_12 : decode cX9_isStep 12 = .ok (.iload_n 1, 1) := by decide +kernel
theorem dX9_isStep_13 : decode cX9_isStep 13 = .ok (.i2l, 1) := by decide +kernel
theorem dX9_isStep_14 : decode cX9_isStep 14 = .ok (.lconst 0, 1) := by decide +kernel
theorem dX9_isStep_15 : decode cX9_isStep 15 = .ok (.ldc2_w 81, 3) := by decide +kernel
theorem dX9_isStep_18 : decode cX9_isStep 18 = .ok (.invokestatic 77, 3) := by decide +kernel
theorem dX9_isStep_21 : decode cX9_isStep 21 = .ok (.ifCond .ne 5, 3) := by decide +kernel
theorem dX9_isStep_24 : decode cX9_isStep 24 = .ok (.iconst 0, 1) := by decide +kernel
theorem dX9_isStep_25 : decode cX9_isStep 25 = .ok (.ireturn, 1) := by decide +kernel
theorem dX9_isStep_26 : decode cX9_isStep 26 = .ok (.iload_n 0, 1) := by decide +kernel
theorem dX9_isStep_27 : decode cX9_isStep 27 = .ok (.bipush 13, 2) := by decide +kernel
theorem dX9_isStep_29 : decode cX9_isStep 29 = .ok (.if_icmp .ne 15, 3) := by decide +kernel
theorem dX9_isStep_32 : decode cX9_isStep 32 = .ok (.iload_n 3, 1) := by decide +kernel
theorem dX9_isStep_33 : decode cX9_isStep 33 = .ok (.i2l, 1) := by decide +kernel
theorem dX9_isStep_34 : decode cX9_isStep 34 = .ok (.lconst 0, 1) := by decide +kernel
theorem dX9_isStep_35 : decode cX9_isStep 35 = .ok (.ldc2_w 81, 3) := by decide +kernel
theorem dX9_isStep_38 : decode cX9_isStep 38 = .ok (.invokestatic 77, 3) := by decide +kernel
theorem dX9_isStep_41 : decode cX9_isStep 41 = .ok (.goto 38, 3) := by decide +kernel
theorem dX9_isStep_44 : decode cX9_isStep 44 = .ok (.iload_n 0, 1) := by decide +kernel
theorem dX9_isStep_45 : decode cX9_isStep 45 = .ok (.bipush 7, 2) := by decide +kernel
theorem dX9_isStep_47 : decode cX9_isStep 47 = .ok (.if_icmp .lt 27, 3) := by decide +kernel
theorem dX9_isStep_50 : decode cX9_isStep 50 = .ok (.iload_n 0, 1) := by decide +kernel
theorem dX9_isStep_51 : decode cX9_isStep 51 = .ok (.bipush 9, 2) := by decide +kernel
theorem dX9_isStep_53 : decode cX9_isStep 53 = .ok (.if_icmp .gt 21, 3) := by decide +kernel
theorem dX9_isStep_56 : decode cX9_isStep 56 = .ok (.iload_n 2, 1) := by decide +kernel
theorem dX9_isStep_57 : decode cX9_isStep 57 = .ok (.bipush 12, 2) := by decide +kernel
theorem dX9_isStep_59 : decode cX9_isStep 59 = .ok (.if_icmp .gt 19, 3) := by decide +kernel
theorem dX9_isStep_62 : decode cX9_isStep 62 = .ok (.iload_n 0, 1) := by decide +kernel
theorem dX9_isStep_63 : decode cX9_isStep 63 = .ok (.bipush 9, 2) := by decide +kernel
theorem dX9_isStep_65 : decode cX9_isStep 65 = .ok (.if_icmp .ne 9, 3) := by decide +kernel
theorem dX9_isStep_68 : decode cX9_isStep 68 = .ok (.iload_n 3, 1) := by decide +kernel
theorem dX9_isStep_69 : decode cX9_isStep 69 = .ok (.bipush 12, 2) := by decide +kernel
theorem dX9_isStep_71 : decode cX9_isStep 71 = .ok (.if_icmp .gt 7, 3) := by decide +kernel
theorem dX9_isStep_74 : decode cX9_isStep 74 = .ok (.iconst 1, 1) := by decide +kernel
theorem dX9_isStep_75 : decode cX9_isStep 75 = .ok (.goto 4, 3) := by decide +kernel
theorem dX9_isStep_78 : decode cX9_isStep 78 = .ok (.iconst 0, 1) := by decide +kernel
theorem dX9_isStep_79 : decode cX9_isStep 79 = .ok (.ireturn, 1) := by decide +kernel
theorem dX9_isUsed_0 : decode cX9_isUsed 0 = .ok (.iconst 0, 1) := by decide +kernel
theorem dX9_isUsed_1 : decode cX9_isUsed 1 = .ok (.istore_n 2, 1) := by decide +kernel
theorem dX9_isUsed_2 : decode cX9_isUsed 2 = .ok (.iconst 0, 1) := by decide +kernel
theorem dX9_isUsed_3 : decode cX9_isUsed 3 = .ok (.istore_n 3, 1) := by decide +kernel
theorem dX9_isUsed_4 : decode cX9_isUsed 4 = .ok (.iload_n 3, 1) := by decide +kernel
theorem dX9_isUsed_5 : decode cX9_isUsed 5 = .ok (.bipush 8, 2) := by decide +kernel
theorem dX9_isUsed_7 : decode cX9_isUsed 7 = .ok (.if_icmp .ge 29, 3) := by decide +kernel
theorem dX9_isUsed_10 : decode cX9_isUsed 10 = .ok (.iload_n 2, 1) := by decide +kernel
theorem dX9_isUsed_11 : decode cX9_isUsed 11 = .ok (.ifCond .ne 13, 3) := by decide +kernel
theorem dX9_isUsed_14 : decode cX9_isUsed 14 = .ok (.aload_n 0, 1) := by decide +kernel
theorem dX9_isUsed_15 : decode cX9_isUsed 15 = .ok (.getfield 17, 3) := by decide +kernel
theorem dX9_isUsed_18 : decode cX9_isUsed 18 = .ok (.iload_n 3, 1) := by decide +kernel
theorem dX9_isUsed_19 : decode cX9_isUsed 19 = .ok (.iaload, 1) := by decide +kernel
theorem dX9_isUsed_20 : decode cX9_isUsed 20 = .ok (.iload_n 1, 1) := by decide +kernel
theorem dX9_isUsed_21 : decode cX9_isUsed 21 = .ok (.if_icmp .ne 7, 3) := by decide +kernel
theorem dX9_isUsed_24 : decode cX9_isUsed 24 = .ok (.iconst 1, 1) := by decide +kernel
theorem dX9_isUsed_25 : decode cX9_isUsed 25 = .ok (.goto 4, 3) := by decide +kernel
theorem dX9_isUsed_28 : decode cX9_isUsed 28 = .ok (.iconst 0, 1) := by decide +kernel
theorem dX9_isUsed_29 : decode cX9_isUsed 29 = .ok (.istore_n 2, 1) := by decide +kernel
theorem dX9_isUsed_30 : decode cX9_isUsed 30 = .ok (.iinc 3 1, 3) := by decide +kernel
theorem dX9_isUsed_33 : decode cX9_isUsed 33 = .ok (.goto (-29), 3) := by decide +kernel
theorem dX9_isUsed_36 : decode cX9_isUsed 36 = .ok (.iconst 0, 1) := by decide +kernel
theorem dX9_isUsed_37 : decode cX9_isUsed 37 = .ok (.istore_n 3, 1) := by decide +kernel
theorem dX9_isUsed_38 : decode cX9_isUsed 38 = .ok (.iload_n 3, 1) := by decide +kernel
theorem dX9_isUsed_39 : decode cX9_isUsed 39 = .ok (.bipush 80, 2) := by decide +kernel
theorem dX9_isUsed_41 : decode cX9_isUsed 41 = .ok (.if_icmp .ge 45, 3) := by decide +kernel
theorem dX9_isUsed_44 : decode cX9_isUsed 44 = .ok (.iload_n 2, 1) := by decide +kernel
theorem dX9_isUsed_45 : decode cX9_isUsed 45 = .ok (.ifCond .ne 29, 3) := by decide +kernel
theorem dX9_isUsed_48 : decode cX9_isUsed 48 = .ok (.aload_n 0, 1) := by decide +kernel
theorem dX9_isUsed_49 : decode cX9_isUsed 49 = .ok (.getfield 41, 3) := by decide +kernel
theorem dX9_isUsed_52 : decode cX9_isUsed 52 = .ok (.iload_n 3, 1) := by decide +kernel
theorem dX9_isUsed_53 : decode cX9_isUsed 53 = .ok (.bipush 20, 2) := by decide +kernel
theorem dX9_isUsed_55 : decode cX9_isUsed 55 = .ok (.idiv, 1) := by decide +kernel
theorem dX9_isUsed_56 : decode cX9_isUsed 56 = .ok (.iaload, 1) := by decide +kernel
theorem dX9_isUsed_57 : decode cX9_isUsed 57 = .ok (.iload_n 3, 1) := by decide +kernel
theorem dX9_isUsed_58 : decode cX9_isUsed 58 = .ok (.bipush 20, 2) := by decide +kernel
theorem dX9_isUsed_60 : decode cX9_isUsed 60 = .ok (.irem, 1) := by decide +kernel
theorem dX9_isUsed_61 : decode cX9_isUsed 61 = .ok (.if_icmp .le 17, 3) := by decide +kernel
theorem dX9_isUsed_64 : decode cX9_isUsed 64 = .ok (.aload_n 0, 1) := by decide +kernel
theorem dX9_isUsed_65 : decode cX9_isUsed 65 = .ok (.getfield 47, 3) := by decide +kernel
theorem dX9_isUsed_68 : decode cX9_isUsed 68 = .ok (.iload_n 3, 1) := by decide +kernel
theorem dX9_isUsed_69 : decode cX9_isUsed 69 = .ok (.iaload, 1) := by decide +kernel
theorem dX9_isUsed_70 : decode cX9_isUsed 70 = .ok (.iload_n 1, 1) := by decide +kernel
theorem dX9_isUsed_71 : decode cX9_isUsed 71 = .ok (.if_icmp .ne 7, 3) := by decide +kernel
theorem dX9_isUsed_74 : decode cX9_isUsed 74 = .ok (.iconst 1, 1) := by decide +kernel
theorem dX9_isUsed_75 : decode cX9_isUsed 75 = .ok (.goto 4, 3) := by decide +kernel
theorem dX9_isUsed_78 : decode cX9_isUsed 78 = .ok (.iconst 0, 1) := by decide +kernel
theorem dX9_isUsed_79 : decode cX9_isUsed 79 = .ok (.istore_n 2, 1) := by decide +kernel
theorem dX9_isUsed_80 : decode cX9_isUsed 80 = .ok (.iinc 3 1, 3) := by decide +kernel
theorem dX9_isUsed_83 : decode cX9_isUsed 83 = .ok (.goto (-45), 3) := by decide +kernel
theorem dX9_isUsed_86 : decode cX9_isUsed 86 = .ok (.iload_n 2, 1) := by decide +kernel
theorem dX9_isUsed_87 : decode cX9_isUsed 87 = .ok (.ireturn, 1) := by decide +kernel
theorem dX9_newWheel_0 : decode cX9_newWheel 0 = .ok (.iconst 0, 1) := by decide +kernel
theorem dX9_newWheel_1 : decode cX9_newWheel 1 = .ok (.istore_n 2, 1) := by decide +kernel
theorem dX9_newWheel_2 : decode cX9_newWheel 2 = .ok (.aload_n 0, 1) := by decide +kernel
theorem dX9_newWheel_3 : decode cX9_newWheel 3 = .ok (.iload_n 2, 1) := by decide +kernel
theorem dX9_newWheel_4 : decode cX9_newWheel 4 = .ok (.invokevirtual 83, 3) := by decide +kernel
theorem dX9_newWheel_7 : decode cX9_newWheel 7 = .ok (.ifCond .eq 9, 3) := by decide +kernel
theorem dX9_newWheel_10 : decode cX9_newWheel 10 = .ok (.iinc 2 1, 3) := by decide +kernel
theorem dX9_newWheel_13 : decode cX9_newWheel 13 = .ok (.goto (-11), 3) := by decide +kernel
theorem dX9_newWheel_16 : decode cX9_newWheel 16 = .ok (.aload_n 0, 1) := by decide +kernel
theorem dX9_newWheel_17 : decode cX9_newWheel 17 = .ok (.getfield 32, 3) := by decide +kernel
theorem dX9_newWheel_20 : decode cX9_newWheel 20 = .ok (.iload_n 2, 1) := by decide +kernel
theorem dX9_newWheel_21 : decode cX9_newWheel 21 = .ok (.iload_n 1, 1) := by decide +kernel
theorem dX9_newWheel_22 : decode cX9_newWheel 22 = .ok (.bipush 100, 2) := by decide +kernel
theorem dX9_newWheel_24 : decode cX9_newWheel 24 = .ok (.if_icmp .lt 7, 3) := by decide +kernel
theorem dX9_newWheel_27 : decode cX9_newWheel 27 = .ok (.iconst 1, 1) := by decide +kernel
theorem dX9_newWheel_28 : decode cX9_newWheel 28 = .ok (.goto 4, 3) := by decide +kernel
theorem dX9_newWheel_31 : decode cX9_newWheel 31 = .ok (.iconst 0, 1) := by decide +kernel
theorem dX9_newWheel_32 : decode cX9_newWheel 32 = .ok (.bastore, 1) := by decide +kernel
theorem dX9_newWheel_33 : decode cX9_newWheel 33 = .ok (.aload_n 0, 1) := by decide +kernel
theorem dX9_newWheel_34 : decode cX9_newWheel 34 = .ok (.getfield 26, 3) := by decide +kernel
theorem dX9_newWheel_37 : decode cX9_newWheel 37 = .ok (.iload_n 2, 1) := by decide +kernel
theorem dX9_newWheel_38 : decode cX9_newWheel 38 = .ok (.iload_n 1, 1) := by decide +kernel
theorem dX9_newWheel_39 : decode cX9_newWheel 39 = .ok (.bipush 100, 2) := by decide +kernel
theorem dX9_newWheel_41 : decode cX9_newWheel 41 = .ok (.if_icmp .lt 10, 3) := by decide +kernel
theorem dX9_newWheel_44 : decode cX9_newWheel 44 = .ok (.iload_n 1, 1) := by decide +kernel
theorem dX9_newWheel_45 : decode cX9_newWheel 45 = .ok (.bipush 100, 2) := by decide +kernel
theorem dX9_newWheel_47 : decode cX9_newWheel 47 = .ok (.isub, 1) := by decide +kernel
theorem dX9_newWheel_48 : decode cX9_newWheel 48 = .ok (.goto 4, 3) := by decide +kernel
theorem dX9_newWheel_51 : decode cX9_newWheel 51 = .ok (.iload_n 1, 1) := by decide +kernel
theorem dX9_newWheel_52 : decode cX9_newWheel 52 = .ok (.iastore, 1) := by decide +kernel
theorem dX9_newWheel_53 : decode cX9_newWheel 53 = .ok (.aload_n 0, 1) := by decide +kernel
theorem dX9_newWheel_54 : decode cX9_newWheel 54 = .ok (.getfield 29, 3) := by decide +kernel
theorem dX9_newWheel_57 : decode cX9_newWheel 57 = .ok (.iload_n 2, 1) := by decide +kernel
theorem dX9_newWheel_58 : decode cX9_newWheel 58 = .ok (.iconst 0, 1) := by decide +kernel
theorem dX9_newWheel_59 : decode cX9_newWheel 59 = .ok (.iastore, 1) := by decide +kernel
theorem dX9_newWheel_60 : decode cX9_newWheel 60 = .ok (.iload_n 2, 1) := by decide +kernel
theorem dX9_newWheel_61 : decode cX9_newWheel 61 = .ok (.ireturn, 1) := by decide +kernel
theorem dX9_fails_0 : decode cX9_fails 0 = .ok (.aload_n 0, 1) := by decide +kernel
theorem dX9_fails_1 : decode cX9_fails 1 = .ok (.iload_n 1, 1) := by decide +kernel
theorem dX9_fails_2 : decode cX9_fails 2 = .ok (.putfield 87, 3) := by decide +kernel
theorem dX9_fails_5 : decode cX9_fails 5 = .ok (.aload_n 0, 1) := by decide +kernel
theorem dX9_fails_6 : decode cX9_fails 6 = .ok (.iconst 0, 1) := by decide +kernel
theorem dX9_fails_7 : decode cX9_fails 7 = .ok (.putfield 90, 3) := by decide +kernel
theorem dX9_fails_10 : decode cX9_fails 10 = .ok (.return_, 1) := by decide +kernel
theorem dX9_build_0 : decode cX9_build 0 = .ok (.aload_n 0, 1) := by decide +kernel
theorem dX9_build_1 : decode cX9_build 1 = .ok (.getfield 7, 3) := by decide +kernel
theorem dX9_build_4 : decode cX9_build 4 = .ok (.iload_n 1, 1) := by decide +kernel
theorem dX9_build_5 : decode cX9_build 5 = .ok (.iconst 1, 1) := by decide +kernel
theorem dX9_build_6 : decode cX9_build 6 = .ok (.bastore, 1) := by decide +kernel
theorem dX9_build_7 : decode cX9_build 7 = .ok (.aload_n 0, 1) := by decide +kernel
theorem dX9_build_8 : decode cX9_build 8 = .ok (.getfield 13, 3) := by decide +kernel
theorem dX9_build_11 : decode cX9_build 11 = .ok (.iload_n 1, 1) := by decide +kernel
theorem dX9_build_12 : decode cX9_build 12 = .ok (.iload_n 2, 1) := by decide +kernel
theorem dX9_build_13 : decode cX9_build 13 = .ok (.iastore, 1) := by decide +kernel
theorem dX9_build_14 : decode cX9_build 14 = .ok (.aload_n 0, 1) := by decide +kernel
theorem dX9_build_15 : decode cX9_build 15 = .ok (.iload_n 1, 1) := by decide +kernel
theorem dX9_build_16 : decode cX9_build 16 = .ok (.invokevirtual 93, 3) := by decide +kernel
theorem dX9_build_19 : decode cX9_build 19 = .ok (.aload_n 0, 1) := by decide +kernel
theorem dX9_build_20 : decode cX9_build 20 = .ok (.iload_n 2, 1) := by decide +kernel
theorem dX9_build_21 : decode cX9_build 21 = .ok (.putfield 90, 3) := by decide +kernel
theorem dX9_build_24 : decode cX9_build 24 = .ok (.return_, 1) := by decide +kernel
theorem dX9_strip_0 : decode cX9_strip 0 = .ok (.aload_n 0, 1) := by decide +kernel
theorem dX9_strip_1 : decode cX9_strip 1 = .ok (.getfield 17, 3) := by decide +kernel
theorem dX9_strip_4 : decode cX9_strip 4 = .ok (.iconst 2, 1) := by decide +kernel
theorem dX9_strip_5 : decode cX9_strip 5 = .ok (.iload_n 1, 1) := by decide +kernel
theorem dX9_strip_6 : decode cX9_strip 6 = .ok (.imul, 1) := by decide +kernel
theorem dX9_strip_7 : decode cX9_strip 7 = .ok (.iconst (-1), 1) := by decide +kernel
theorem dX9_strip_8 : decode cX9_strip 8 = .ok (.iastore, 1) := by decide +kernel
theorem dX9_strip_9 : decode cX9_strip 9 = .ok (.aload_n 0, 1) := by decide +kernel
theorem dX9_strip_10 : decode cX9_strip 10 = .ok (.getfield 17, 3) := by decide +kernel
theorem dX9_strip_13 : decode cX9_strip 13 = .ok (.iconst 2, 1) := by decide +kernel
theorem dX9_strip_14 : decode cX9_strip 14 = .ok (.iload_n 1, 1) := by decide +kernel
theorem dX9_strip_15 : decode cX9_strip 15 = .ok (.imul, 1) := by decide +kernel
theorem dX9_strip_16 : decode cX9_strip 16 = .ok (.iconst 1, 1) := by decide +kernel
theorem dX9_strip_17 : decode cX9_strip 17 = .ok (.iadd, 1) := by decide +kernel
theorem dX9_strip_18 : decode cX9_strip 18 = .ok (.iconst (-1), 1) := by decide +kernel
theorem dX9_strip_19 : decode cX9_strip 19 = .ok (.iastore, 1) := by decide +kernel
theorem dX9_strip_20 : decode cX9_strip 20 = .ok (.aload_n 0, 1) := by decide +kernel
theorem dX9_strip_21 : decode cX9_strip 21 = .ok (.getfield 20, 3) := by decide +kernel
theorem dX9_strip_24 : decode cX9_strip 24 = .ok (.iload_n 1, 1) := by decide +kernel
theorem dX9_strip_25 : decode cX9_strip 25 = .ok (.iconst 0, 1) := by decide +kernel
theorem dX9_strip_26 : decode cX9_strip 26 = .ok (.iastore, 1) := by decide +kernel
theorem dX9_strip_27 : decode cX9_strip 27 = .ok (.aload_n 0, 1) := by decide +kernel
theorem dX9_strip_28 : decode cX9_strip 28 = .ok (.iconst 1, 1) := by decide +kernel
theorem dX9_strip_29 : decode cX9_strip 29 = .ok (.putfield 90, 3) := by decide +kernel
theorem dX9_strip_32 : decode cX9_strip 32 = .ok (.return_, 1) := by decide +kernel
theorem dX9_fit_0 : decode cX9_fit 0 = .ok (.aload_n 0, 1) := by decide +kernel
theorem dX9_fit_1 : decode cX9_fit 1 = .ok (.getfield 7, 3) := by decide +kernel
theorem dX9_fit_4 : decode cX9_fit 4 = .ok (.iload_n 1, 1) := by decide +kernel
theorem dX9_fit_5 : decode cX9_fit 5 = .ok (.baload, 1) := by decide +kernel
theorem dX9_fit_6 : decode cX9_fit 6 = .ok (.ifCond .ne 9, 3) := by decide +kernel
theorem dX9_fit_9 : decode cX9_fit 9 = .ok (.aload_n 0, 1) := by decide +kernel
theorem dX9_fit_10 : decode cX9_fit 10 = .ok (.iconst 1, 1) := by decide +kernel
theorem dX9_fit_11 : decode cX9_fit 11 = .ok (.invokevirtual 97, 3) := by decide +kernel
theorem dX9_fit_14 : decode cX9_fit 14 = .ok (.return_, 1) := by decide +kernel
theorem dX9_fit_15 : decode cX9_fit 15 = .ok (.iconst 2, 1) := by decide +kernel
theorem dX9_fit_16 : decode cX9_fit 16 = .ok (.iload_n 1, 1) := by decide +kernel
theorem dX9_fit_17 : decode cX9_fit 17 = .ok (.imul, 1) := by decide +kernel
theorem dX9_fit_18 : decode cX9_fit 18 = .ok (.iload_n 2, 1) := by decide +kernel
theorem dX9_fit_19 : decode cX9_fit 19 = .ok (.iconst 1, 1) := by decide +kernel
theorem dX9_fit_20 : decode cX9_fit 20 = .ok (.iand, 1) := by decide +kernel
theorem dX9_fit_21 : decode cX9_fit 21 = .ok (.iadd, 1) := by decide +kernel
theorem dX9_fit_22 : decode cX9_fit 22 = .ok (.istore 4, 2) := by decide +kernel
theorem dX9_fit_24 : decode cX9_fit 24 = .ok (.aload_n 0, 1) := by decide +kernel
theorem dX9_fit_25 : decode cX9_fit 25 = .ok (.getfield 17, 3) := by decide +kernel
theorem dX9_fit_28 : decode cX9_fit 28 = .ok (.iload 4, 2) := by decide +kernel
theorem dX9_fit_30 : decode cX9_fit 30 = .ok (.iconst (-1), 1) := by decide +kernel
theorem dX9_fit_31 : decode cX9_fit 31 = .ok (.iastore, 1) := by decide +kernel
theorem dX9_fit_32 : decode cX9_fit 32 = .ok (.aload_n 0, 1) := by decide +kernel
theorem dX9_fit_33 : decode cX9_fit 33 = .ok (.getfield 17, 3) := by decide +kernel
theorem dX9_fit_36 : decode cX9_fit 36 = .ok (.iload 4, 2) := by decide +kernel
theorem dX9_fit_38 : decode cX9_fit 38 = .ok (.iload_n 3, 1) := by decide +kernel
theorem dX9_fit_39 : decode cX9_fit 39 = .ok (.ifCond .ne 7, 3) := by decide +kernel
theorem dX9_fit_42 : decode cX9_fit 42 = .ok (.iconst (-1), 1) := by decide +kernel
theorem dX9_fit_43 : decode cX9_fit 43 = .ok (.goto 8, 3) := by decide +kernel
theorem dX9_fit_46 : decode cX9_fit 46 = .ok (.aload_n 0, 1) := by decide +kernel
theorem dX9_fit_47 : decode cX9_fit 47 = .ok (.iload_n 3, 1) := by decide +kernel
theorem dX9_fit_48 : decode cX9_fit 48 = .ok (.invokevirtual 100, 3) := by decide +kernel
theorem dX9_fit_51 : decode cX9_fit 51 = .ok (.iastore, 1) := by decide +kernel
theorem dX9_fit_52 : decode cX9_fit 52 = .ok (.aload_n 0, 1) := by decide +kernel
theorem dX9_fit_53 : decode cX9_fit 53 = .ok (.iload_n 3, 1) := by decide +kernel
theorem dX9_fit_54 : decode cX9_fit 54 = .ok (.putfield 90, 3) := by decide +kernel
theorem dX9_fit_57 : decode cX9_fit 57 = .ok (.return_, 1) := by decide +kernel
theorem dX9_turn_0 : decode cX9_turn 0 = .ok (.aload_n 0, 1) := by decide +kernel
theorem dX9_turn_1 : decode cX9_turn 1 = .ok (.getfield 7, 3) := by decide +kernel
theorem dX9_turn_4 : decode cX9_turn 4 = .ok (.iload_n 1, 1) := by decide +kernel
theorem dX9_turn_5 : decode cX9_turn 5 = .ok (.baload, 1) := by decide +kernel
theorem dX9_turn_6 : decode cX9_turn 6 = .ok (.ifCond .eq 18, 3) := by decide +kernel
theorem dX9_turn_9 : decode cX9_turn 9 = .ok (.aload_n 0, 1) := by decide +kernel
theorem dX9_turn_10 : decode cX9_turn 10 = .ok (.getfield 17, 3) := by decide +kernel
theorem dX9_turn_13 : decode cX9_turn 13 = .ok (.iconst 2, 1) := by decide +kernel
theorem dX9_turn_14 : decode cX9_turn 14 = .ok (.iload_n 1, 1) := by decide +kernel
theorem dX9_turn_15 : decode cX9_turn 15 = .ok (.imul, 1) := by decide +kernel
theorem dX9_turn_16 : decode cX9_turn 16 = .ok (.iload_n 2, 1) := by decide +kernel
theorem dX9_turn_17 : decode cX9_turn 17 = .ok (.iconst 1, 1) := by decide +kernel
theorem dX9_turn_18 : decode cX9_turn 18 = .ok (.iand, 1) := by decide +kernel
theorem dX9_turn_19 : decode cX9_turn 19 = .ok (.iadd, 1) := by decide +kernel
theorem dX9_turn_20 : decode cX9_turn 20 = .ok (.iaload, 1) := by decide +kernel
theorem dX9_turn_21 : decode cX9_turn 21 = .ok (.goto 4, 3) := by decide +kernel
theorem dX9_turn_24 : decode cX9_turn 24 = .ok (.iconst (-1), 1) := by decide +kernel
theorem dX9_turn_25 : decode cX9_turn 25 = .ok (.istore 4, 2) := by decide +kernel
theorem dX9_turn_27 : decode cX9_turn 27 = .ok (.iload 4, 2) := by decide +kernel
theorem dX9_turn_29 : decode cX9_turn 29 = .ok (.iconst (-1), 1) := by decide +kernel
theorem dX9_turn_30 : decode cX9_turn 30 = .ok (.if_icmp .ne 9, 3) := by decide +kernel
theorem dX9_turn_33 : decode cX9_turn 33 = .ok (.aload_n 0, 1) := by decide +kernel
theorem dX9_turn_34 : decode cX9_turn 34 = .ok (.iconst 1, 1) := by decide +kernel
theorem dX9_turn_35 : decode cX9_turn 35 = .ok (.invokevirtual 97, 3) := by decide +kernel
theorem dX9_turn_38 : decode cX9_turn 38 = .ok (.return_, 1) := by decide +kernel
theorem dX9_turn_39 : decode cX9_turn 39 = .ok (.iload_n 3, 1) := by decide +kernel
theorem dX9_turn_40 : decode cX9_turn 40 = .ok (.ifCond .eq 15, 3) := by decide +kernel
theorem dX9_turn_43 : decode cX9_turn 43 = .ok (.aload_n 0, 1) := by decide +kernel
theorem dX9_turn_44 : decode cX9_turn 44 = .ok (.aload_n 0, 1) := by decide +kernel
theorem dX9_turn_45 : decode cX9_turn 45 = .ok (.getfield 26, 3) := by decide +kernel
theorem dX9_turn_48 : decode cX9_turn 48 = .ok (.iload 4, 2) := by decide +kernel
theorem dX9_turn_50 : decode cX9_turn 50 = .ok (.iaload, 1) := by decide +kernel
theorem dX9_turn_51 : decode cX9_turn 51 = .ok (.putfield 90, 3) := by decide +kernel
theorem dX9_turn_54 : decode cX9_turn 54 = .ok (.return_, 1) := by decide +kernel
theorem dX9_turn_55 : decode cX9_turn 55 = .ok (.aload_n 0, 1) := by decide +kernel
theorem dX9_turn_56 : decode cX9_turn 56 = .ok (.getfield 29, 3) := by decide +kernel
theorem dX9_turn_59 : decode cX9_turn 59 = .ok (.iload 4, 2) := by decide +kernel
theorem dX9_turn_61 : decode cX9_turn 61 = .ok (.dup2, 1) := by decide +kernel
theorem dX9_turn_62 : decode cX9_turn 62 = .ok (.iaload, 1) := by decide +kernel
theorem dX9_turn_63 : decode cX9_turn 63 = .ok (.iconst 1, 1) := by decide +kernel
theorem dX9_turn_64 : decode cX9_turn 64 = .ok (.iadd, 1) := by decide +kernel
theorem dX9_turn_65 : decode cX9_turn 65 = .ok (.iastore, 1) := by decide +kernel
theorem dX9_turn_66 : decode cX9_turn 66 = .ok (.aload_n 0, 1) := by decide +kernel
theorem dX9_turn_67 : decode cX9_turn 67 = .ok (.aload_n 0, 1) := by decide +kernel
theorem dX9_turn_68 : decode cX9_turn 68 = .ok (.getfield 29, 3) := by decide +kernel
theorem dX9_turn_71 : decode cX9_turn 71 = .ok (.iload 4, 2) := by decide +kernel
theorem dX9_turn_73 : decode cX9_turn 73 = .ok (.iaload, 1) := by decide +kernel
theorem dX9_turn_74 : decode cX9_turn 74 = .ok (.aload_n 0, 1) := by decide +kernel
theorem dX9_turn_75 : decode cX9_turn 75 = .ok (.getfield 26, 3) := by decide +kernel
theorem dX9_turn_78 : decode cX9_turn 78 = .ok (.iload 4, 2) := by decide +kernel
theorem dX9_turn_80 : decode cX9_turn 80 = .ok (.iaload, 1) := by decide +kernel
theorem dX9_turn_81 : decode cX9_turn 81 = .ok (.imul, 1) := by decide +kernel
theorem dX9_turn_82 : decode cX9_turn 82 = .ok (.aload_n 0, 1) := by decide +kernel
theorem dX9_turn_83 : decode cX9_turn 83 = .ok (.getfield 32, 3) := by decide +kernel
theorem dX9_turn_86 : decode cX9_turn 86 = .ok (.iload 4, 2) := by decide +kernel
theorem dX9_turn_88 : decode cX9_turn 88 = .ok (.baload, 1) := by decide +kernel
theorem dX9_turn_89 : decode cX9_turn 89 = .ok (.ifCond .eq 7, 3) := by decide +kernel
theorem dX9_turn_92 : decode cX9_turn 92 = .ok (.iconst 1, 1) := by decide +kernel
theorem dX9_turn_93 : decode cX9_turn 93 = .ok (.goto 4, 3) := by decide +kernel
theorem dX9_turn_96 : decode cX9_turn 96 = .ok (.iconst 0, 1) := by decide +kernel
theorem dX9_turn_97 : decode cX9_turn 97 = .ok (.iadd, 1) := by decide +kernel
theorem dX9_turn_98 : decode cX9_turn 98 = .ok (.putfield 90, 3) := by decide +kernel
theorem dX9_turn_101 : decode cX9_turn 101 = .ok (.return_, 1) := by decide +kernel
theorem dX9_light_0 : decode cX9_light 0 = .ok (.aload_n 0, 1) := by decide +kernel
theorem dX9_light_1 : decode cX9_light 1 = .ok (.getfield 7, 3) := by decide +kernel
theorem dX9_light_4 : decode cX9_light 4 = .ok (.iload_n 1, 1) := by decide +kernel
theorem dX9_light_5 : decode cX9_light 5 = .ok (.baload, 1) := by decide +kernel
theorem dX9_light_6 : decode cX9_light 6 = .ok (.ifCond .ne 9, 3) := by decide +kernel
theorem dX9_light_9 : decode cX9_light 9 = .ok (.aload_n 0, 1) := by decide +kernel
theorem dX9_light_10 : decode cX9_light 10 = .ok (.iconst 1, 1) := by decide +kernel
theorem dX9_light_11 : decode cX9_light 11 = .ok (.invokevirtual 97, 3) := by decide +kernel
theorem dX9_light_14 : decode cX9_light 14 = .ok (.return_, 1) := by decide +kernel
theorem dX9_light_15 : decode cX9_light 15 = .ok (.aload_n 0, 1) := by decide +kernel
theorem dX9_light_16 : decode cX9_light 16 = .ok (.getfield 20, 3) := by decide +kernel
theorem dX9_light_19 : decode cX9_light 19 = .ok (.iload_n 1, 1) := by decide +kernel
theorem dX9_light_20 : decode cX9_light 20 = .ok (.iload_n 2, 1) := by decide +kernel
theorem dX9_light_21 : decode cX9_light 21 = .ok (.ifCond .ne 7, 3) := by decide +kernel
theorem dX9_light_24 : decode cX9_light 24 = .ok (.iconst 0, 1) := by decide +kernel
theorem dX9_light_25 : decode cX9_light 25 = .ok (.goto 13, 3) := by decide +kernel
theorem dX9_light_28 : decode cX9_light 28 = .ok (.iload_n 2, 1) := by decide +kernel
theorem dX9_light_29 : decode cX9_light 29 = .ok (.iconst 1, 1) := by decide +kernel
theorem dX9_light_30 : decode cX9_light 30 = .ok (.if_icmp .ne 7, 3) := by decide +kernel
theorem dX9_light_33 : decode cX9_light 33 = .ok (.iconst 1, 1) := by decide +kernel
theorem dX9_light_34 : decode cX9_light 34 = .ok (.goto 4, 3) := by decide +kernel
theorem dX9_light_37 : decode cX9_light 37 = .ok (.iconst 2, 1) := by decide +kernel
theorem dX9_light_38 : decode cX9_light 38 = .ok (.iastore, 1) := by decide +kernel
theorem dX9_light_39 : decode cX9_light 39 = .ok (.aload_n 0, 1) := by decide +kernel
theorem dX9_light_40 : decode cX9_light 40 = .ok (.getfield 23, 3) := by decide +kernel
theorem dX9_light_43 : decode cX9_light 43 = .ok (.iload_n 1, 1) := by decide +kernel
theorem dX9_light_44 : decode cX9_light 44 = .ok (.iload_n 3, 1) := by decide +kernel
theorem dX9_light_45 : decode cX9_light 45 = .ok (.iastore, 1) := by decide +kernel
theorem dX9_light_46 : decode cX9_light 46 = .ok (.aload_n 0, 1) := by decide +kernel
theorem dX9_light_47 : decode cX9_light 47 = .ok (.iload_n 2, 1) := by decide +kernel
theorem dX9_light_48 : decode cX9_light 48 = .ok (.putfield 90, 3) := by decide +kernel
theorem dX9_light_51 : decode cX9_light 51 = .ok (.return_, 1) := by decide +kernel
theorem dX9_shine_0 : decode cX9_shine 0 = .ok (.aload_n 0, 1) := by decide +kernel
theorem dX9_shine_1 : decode cX9_shine 1 = .ok (.getfield 7, 3) := by decide +kernel
theorem dX9_shine_4 : decode cX9_shine 4 = .ok (.iload_n 1, 1) := by decide +kernel
theorem dX9_shine_5 : decode cX9_shine 5 = .ok (.baload, 1) := by decide +kernel
theorem dX9_shine_6 : decode cX9_shine 6 = .ok (.ifCond .eq 12, 3) := by decide +kernel
theorem dX9_shine_9 : decode cX9_shine 9 = .ok (.aload_n 0, 1) := by decide +kernel
theorem dX9_shine_10 : decode cX9_shine 10 = .ok (.getfield 20, 3) := by decide +kernel
theorem dX9_shine_13 : decode cX9_shine 13 = .ok (.iload_n 1, 1) := by decide +kernel
theorem dX9_shine_14 : decode cX9_shine 14 = .ok (.iaload, 1) := by decide +kernel
theorem dX9_shine_15 : decode cX9_shine 15 = .ok (.ifCond .ne 9, 3) := by decide +kernel
theorem dX9_shine_18 : decode cX9_shine 18 = .ok (.aload_n 0, 1) := by decide +kernel
theorem dX9_shine_19 : decode cX9_shine 19 = .ok (.iconst 1, 1) := by decide +kernel
theorem dX9_shine_20 : decode cX9_shine 20 = .ok (.invokevirtual 97, 3) := by decide +kernel
theorem dX9_shine_23 : decode cX9_shine 23 = .ok (.return_, 1) := by decide +kernel
theorem dX9_shine_24 : decode cX9_shine 24 = .ok (.aload_n 0, 1) := by decide +kernel
theorem dX9_shine_25 : decode cX9_shine 25 = .ok (.aload_n 0, 1) := by decide +kernel
theorem dX9_shine_26 : decode cX9_shine 26 = .ok (.getfield 20, 3) := by decide +kernel
theorem dX9_shine_29 : decode cX9_shine 29 = .ok (.iload_n 1, 1) := by decide +kernel
theorem dX9_shine_30 : decode cX9_shine 30 = .ok (.iaload, 1) := by decide +kernel
theorem dX9_shine_31 : decode cX9_shine 31 = .ok (.iconst 1, 1) := by decide +kernel
theorem dX9_shine_32 : decode cX9_shine 32 = .ok (.if_icmp .ne 9, 3) := by decide +kernel
theorem dX9_shine_35 : decode cX9_shine 35 = .ok (.iconst 3, 1) := by decide +kernel
theorem dX9_shine_36 : decode cX9_shine 36 = .ok (.iload_n 2, 1) := by decide +kernel
theorem dX9_shine_37 : decode cX9_shine 37 = .ok (.imul, 1) := by decide +kernel
theorem dX9_shine_38 : decode cX9_shine 38 = .ok (.goto 17, 3) := by decide +kernel
theorem dX9_shine_41 : decode cX9_shine 41 = .ok (.aload_n 0, 1) := by decide +kernel
theorem dX9_shine_42 : decode cX9_shine 42 = .ok (.getfield 23, 3) := by decide +kernel
theorem dX9_shine_45 : decode cX9_shine 45 = .ok (.iload_n 1, 1) := by decide +kernel
theorem dX9_shine_46 : decode cX9_shine 46 = .ok (.iaload, 1) := by decide +kernel
theorem dX9_shine_47 : decode cX9_shine 47 = .ok (.ifCond .le 7, 3) := by decide +kernel
theorem dX9_shine_50 : decode cX9_shine 50 = .ok (.iload_n 2, 1) := by decide +kernel
theorem dX9_shine_51 : decode cX9_shine 51 = .ok (.goto 4, 3) := by decide +kernel
theorem dX9_shine_54 : decode cX9_shine 54 = .ok (.iconst 0, 1) := by decide +kernel
theorem dX9_shine_55 : decode cX9_shine 55 = .ok (.putfield 90, 3) := by decide +kernel
theorem dX9_shine_58 : decode cX9_shine 58 = .ok (.aload_n 0, 1) := by decide +kernel
theorem dX9_shine_59 : decode cX9_shine 59 = .ok (.getfield 23, 3) := by decide +kernel
theorem dX9_shine_62 : decode cX9_shine 62 = .ok (.iload_n 1, 1) := by decide +kernel
theorem dX9_shine_63 : decode cX9_shine 63 = .ok (.aload_n 0, 1) := by decide +kernel
theorem dX9_shine_64 : decode cX9_shine 64 = .ok (.getfield 20, 3) := by decide +kernel
theorem dX9_shine_67 : decode cX9_shine 67 = .ok (.iload_n 1, 1) := by decide +kernel
theorem dX9_shine_68 : decode cX9_shine 68 = .ok (.iaload, 1) := by decide +kernel
theorem dX9_shine_69 : decode cX9_shine 69 = .ok (.iconst 2, 1) := by decide +kernel
theorem dX9_shine_70 : decode cX9_shine 70 = .ok (.if_icmp .ne 23, 3) := by decide +kernel
theorem dX9_shine_73 : decode cX9_shine 73 = .ok (.aload_n 0, 1) := by decide +kernel
theorem dX9_shine_74 : decode cX9_shine 74 = .ok (.getfield 23, 3) := by decide +kernel
theorem dX9_shine_77 : decode cX9_shine 77 = .ok (.iload_n 1, 1) := by decide +kernel
theorem dX9_shine_78 : decode cX9_shine 78 = .ok (.iaload, 1) := by decide +kernel
theorem dX9_shine_79 : decode cX9_shine 79 = .ok (.ifCond .le 14, 3) := by decide +kernel
theorem dX9_shine_82 : decode cX9_shine 82 = .ok (.aload_n 0, 1) := by decide +kernel
theorem dX9_shine_83 : decode cX9_shine 83 = .ok (.getfield 23, 3) := by decide +kernel
theorem dX9_shine_86 : decode cX9_shine 86 = .ok (.iload_n 1, 1) := by decide +kernel
theorem dX9_shine_87 : decode cX9_shine 87 = .ok (.iaload, 1) := by decide +kernel
theorem dX9_shine_88 : decode cX9_shine 88 = .ok (.iconst 1, 1) := by decide +kernel
theorem dX9_shine_89 : decode cX9_shine 89 = .ok (.isub, 1) := by decide +kernel
theorem dX9_shine_90 : decode cX9_shine 90 = .ok (.goto 9, 3) := by decide +kernel
theorem dX9_shine_93 : decode cX9_shine 93 = .ok (.aload_n 0, 1) := by decide +kernel
theorem dX9_shine_94 : decode cX9_shine 94 = .ok (.getfield 23, 3) := by decide +kernel
theorem dX9_shine_97 : decode cX9_shine 97 = .ok (.iload_n 1, 1) := by decide +kernel
theorem dX9_shine_98 : decode cX9_shine 98 = .ok (.iaload, 1) := by decide +kernel
theorem dX9_shine_99 : decode cX9_shine 99 = .ok (.iastore, 1) := by decide +kernel
theorem dX9_shine_100 : decode cX9_shine 100 = .ok (.return_, 1) := by decide +kernel
theorem dX9_make_0 : decode cX9_make 0 = .ok (.iload_n 3, 1) := by decide +kernel
theorem dX9_make_1 : decode cX9_make 1 = .ok (.ifCond .lt 14, 3) := by decide +kernel
theorem dX9_make_4 : decode cX9_make 4 = .ok (.iload_n 1, 1) := by decide +kernel
theorem dX9_make_5 : decode cX9_make 5 = .ok (.bipush 9, 2) := by decide +kernel
theorem dX9_make_7 : decode cX9_make 7 = .ok (.if_icmp .ne 14, 3) := by decide +kernel
theorem dX9_make_10 : decode cX9_make 10 = .ok (.iload 4, 2) := by decide +kernel
theorem dX9_make_12 : decode cX9_make 12 = .ok (.ifCond .ge 9, 3) := by decide +kernel
theorem dX9_make_15 : decode cX9_make 15 = .ok (.aload_n 0, 1) := by decide +kernel
theorem dX9_make_16 : decode cX9_make 16 = .ok (.iconst 2, 1) := by decide +kernel
theorem dX9_make_17 : decode cX9_make 17 = .ok (.invokevirtual 97, 3) := by decide +kernel
theorem dX9_make_20 : decode cX9_make 20 = .ok (.return_, 1) := by decide +kernel
theorem dX9_make_21 : decode cX9_make 21 = .ok (.aload_n 0, 1) := by decide +kernel
theorem dX9_make_22 : decode cX9_make 22 = .ok (.iload_n 3, 1) := by decide +kernel
theorem dX9_make_23 : decode cX9_make 23 = .ok (.putfield 90, 3) := by decide +kernel
theorem dX9_make_26 : decode cX9_make 26 = .ok (.iload_n 1, 1) := by decide +kernel
theorem dX9_make_27 : decode cX9_make 27 = .ok (.bipush 7, 2) := by decide +kernel
theorem dX9_make_29 : decode cX9_make 29 = .ok (.if_icmp .ne 42, 3) := by decide +kernel
theorem dX9_make_32 : decode cX9_make 32 = .ok (.aload_n 0, 1) := by decide +kernel
theorem dX9_make_33 : decode cX9_make 33 = .ok (.getfield 35, 3) := by decide +kernel
theorem dX9_make_36 : decode cX9_make 36 = .ok (.iload_n 2, 1) := by decide +kernel
theorem dX9_make_37 : decode cX9_make 37 = .ok (.iload_n 3, 1) := by decide +kernel
theorem dX9_make_38 : decode cX9_make 38 = .ok (.iastore, 1) := by decide +kernel
theorem dX9_make_39 : decode cX9_make 39 = .ok (.iconst 0, 1) := by decide +kernel
theorem dX9_make_40 : decode cX9_make 40 = .ok (.istore 5, 2) := by decide +kernel
theorem dX9_make_42 : decode cX9_make 42 = .ok (.iload 5, 2) := by decide +kernel
theorem dX9_make_44 : decode cX9_make 44 = .ok (.bipush 20, 2) := by decide +kernel
theorem dX9_make_46 : decode cX9_make 46 = .ok (.if_icmp .ge 22, 3) := by decide +kernel
theorem dX9_make_49 : decode cX9_make 49 = .ok (.aload_n 0, 1) := by decide +kernel
theorem dX9_make_50 : decode cX9_make 50 = .ok (.getfield 38, 3) := by decide +kernel
theorem dX9_make_53 : decode cX9_make 53 = .ok (.bipush 20, 2) := by decide +kernel
theorem dX9_make_55 : decode cX9_make 55 = .ok (.iload_n 2, 1) := by decide +kernel
theorem dX9_make_56 : decode cX9_make 56 = .ok (.imul, 1) := by decide +kernel
theorem dX9_make_57 : decode cX9_make 57 = .ok (.iload 5, 2) := by decide +kernel
theorem dX9_make_59 : decode cX9_make 59 = .ok (.iadd, 1) := by decide +kernel
theorem dX9_make_60 : decode cX9_make 60 = .ok (.iconst 0, 1) := by decide +kernel
theorem dX9_make_61 : decode cX9_make 61 = .ok (.iastore, 1) := by decide +kernel
theorem dX9_make_62 : decode cX9_make 62 = .ok (.iinc 5 1, 3) := by decide +kernel
theorem dX9_make_65 : decode cX9_make 65 = .ok (.goto (-23), 3) := by decide +kernel
theorem dX9_make_68 : decode cX9_make 68 = .ok (.goto 113, 3) := by decide +kernel
theorem dX9_make_71 : decode cX9_make 71 = .ok (.iload_n 1, 1) := by decide +kernel
theorem dX9_make_72 : decode cX9_make 72 = .ok (.bipush 8, 2) := by decide +kernel
theorem dX9_make_74 : decode cX9_make 74 = .ok (.if_icmp .ne 61, 3) := by decide +kernel
theorem dX9_make_77 : decode cX9_make 77 = .ok (.aload_n 0, 1) := by decide +kernel
theorem dX9_make_78 : decode cX9_make 78 = .ok (.getfield 41, 3) := by decide +kernel
theorem dX9_make_81 : decode cX9_make 81 = .ok (.iload_n 2, 1) := by decide +kernel
theorem dX9_make_82 : decode cX9_make 82 = .ok (.iload_n 3, 1) := by decide +kernel
theorem dX9_make_83 : decode cX9_make 83 = .ok (.iastore, 1) := by decide +kernel
theorem dX9_make_84 : decode cX9_make 84 = .ok (.aload_n 0, 1) := by decide +kernel
theorem dX9_make_85 : decode cX9_make 85 = .ok (.getfield 44, 3) := by decide +kernel
theorem dX9_make_88 : decode cX9_make 88 = .ok (.iload_n 2, 1) := by decide +kernel
theorem dX9_make_89 : decode cX9_make 89 = .ok (.iload 4, 2) := by decide +kernel
theorem dX9_make_91 : decode cX9_make 91 = .ok (.iconst 1, 1) := by decide +kernel
theorem dX9_make_92 : decode cX9_make 92 = .ok (.iand, 1) := by decide +kernel
theorem dX9_make_93 : decode cX9_make 93 = .ok (.iconst 1, 1) := by decide +kernel
theorem dX9_make_94 : decode cX9_make 94 = .ok (.if_icmp .ne 7, 3) := by decide +kernel
theorem dX9_make_97 : decode cX9_make 97 = .ok (.iconst 1, 1) := by decide +kernel
theorem dX9_make_98 : decode cX9_make 98 = .ok (.goto 4, 3) := by decide +kernel
theorem dX9_make_101 : decode cX9_make 101 = .ok (.iconst 0, 1) := by decide +kernel
theorem dX9_make_102 : decode cX9_make 102 = .ok (.bastore, 1) := by decide +kernel
theorem dX9_make_103 : decode cX9_make 103 = .ok (.iconst 0, 1) := by decide +kernel
theorem dX9_make_104 : decode cX9_make 104 = .ok (.istore 5, 2) := by decide +kernel
theorem dX9_make_106 : decode cX9_make 106 = .ok (.iload 5, 2) := by decide +kernel
theorem dX9_make_108 : decode cX9_make 108 = .ok (.bipush 20, 2) := by decide +kernel
theorem dX9_make_110 : decode cX9_make 110 = .ok (.if_icmp .ge 22, 3) := by decide +kernel
theorem dX9_make_113 : decode cX9_make 113 = .ok (.aload_n 0, 1) := by decide +kernel
theorem dX9_make_114 : decode cX9_make 114 = .ok (.getfield 47, 3) := by decide +kernel
theorem dX9_make_117 : decode cX9_make 117 = .ok (.bipush 20, 2) := by decide +kernel
theorem dX9_make_119 : decode cX9_make 119 = .ok (.iload_n 2, 1) := by decide +kernel
theorem dX9_make_120 : decode cX9_make 120 = .ok (.imul, 1) := by decide +kernel
theorem dX9_make_121 : decode cX9_make 121 = .ok (.iload 5, 2) := by decide +kernel
theorem dX9_make_123 : decode cX9_make 123 = .ok (.iadd, 1) := by decide +kernel
theorem dX9_make_124 : decode cX9_make 124 = .ok (.iconst (-1), 1) := by decide +kernel
theorem dX9_make_125 : decode cX9_make 125 = .ok (.iastore, 1) := by decide +kernel
theorem dX9_make_126 : decode cX9_make 126 = .ok (.iinc 5 1, 3) := by decide +kernel
theorem dX9_make_129 : decode cX9_make 129 = .ok (.goto (-23), 3) := by decide +kernel
theorem dX9_make_132 : decode cX9_make 132 = .ok (.goto 49, 3) := by decide +kernel
theorem dX9_make_135 : decode cX9_make 135 = .ok (.aload_n 0, 1) := by decide +kernel
theorem dX9_make_136 : decode cX9_make 136 = .ok (.getfield 50, 3) := by decide +kernel
theorem dX9_make_139 : decode cX9_make 139 = .ok (.iload_n 2, 1) := by decide +kernel
theorem dX9_make_140 : decode cX9_make 140 = .ok (.iload_n 3, 1) := by decide +kernel
theorem dX9_make_141 : decode cX9_make 141 = .ok (.iastore, 1) := by decide +kernel
theorem dX9_make_142 : decode cX9_make 142 = .ok (.aload_n 0, 1) := by decide +kernel
theorem dX9_make_143 : decode cX9_make 143 = .ok (.getfield 53, 3) := by decide +kernel
theorem dX9_make_146 : decode cX9_make 146 = .ok (.iload_n 2, 1) := by decide +kernel
theorem dX9_make_147 : decode cX9_make 147 = .ok (.iload 4, 2) := by decide +kernel
theorem dX9_make_149 : decode cX9_make 149 = .ok (.iastore, 1) := by decide +kernel
theorem dX9_make_150 : decode cX9_make 150 = .ok (.iconst 0, 1) := by decide +kernel
theorem dX9_make_151 : decode cX9_make 151 = .ok (.istore 5, 2) := by decide +kernel
theorem dX9_make_153 : decode cX9_make 153 = .ok (.iload 5, 2) := by decide +kernel
theorem dX9_make_155 : decode cX9_make 155 = .ok (.sipush 400, 3) := by decide +kernel
theorem dX9_make_158 : decode cX9_make 158 = .ok (.if_icmp .ge 23, 3) := by decide +kernel
theorem dX9_make_161 : decode cX9_make 161 = .ok (.aload_n 0, 1) := by decide +kernel
theorem dX9_make_162 : decode cX9_make 162 = .ok (.getfield 56, 3) := by decide +kernel
theorem dX9_make_165 : decode cX9_make 165 = .ok (.sipush 400, 3) := by decide +kernel
theorem dX9_make_168 : decode cX9_make 168 = .ok (.iload_n 2, 1) := by decide +kernel
theorem dX9_make_169 : decode cX9_make 169 = .ok (.imul, 1) := by decide +kernel
theorem dX9_make_170 : decode cX9_make 170 = .ok (.iload 5, 2) := by decide +kernel
theorem dX9_make_172 : decode cX9_make 172 = .ok (.iadd, 1) := by decide +kernel
theorem dX9_make_173 : decode cX9_make 173 = .ok (.iconst 0, 1) := by decide +kernel
theorem dX9_make_174 : decode cX9_make 174 = .ok (.iastore, 1) := by decide +kernel
theorem dX9_make_175 : decode cX9_make 175 = .ok (.iinc 5 1, 3) := by decide +kernel
theorem dX9_make_178 : decode cX9_make 178 = .ok (.goto (-25), 3) := by decide +kernel
theorem dX9_make_181 : decode cX9_make 181 = .ok (.return_, 1) := by decide +kernel
theorem dX9_measure_0 : decode cX9_measure 0 = .ok (.iload_n 2, 1) := by decide +kernel
theorem dX9_measure_1 : decode cX9_measure 1 = .ok (.ifCond .ne 12, 3) := by decide +kernel
theorem dX9_measure_4 : decode cX9_measure 4 = .ok (.aload_n 0, 1) := by decide +kernel
theorem dX9_measure_5 : decode cX9_measure 5 = .ok (.getfield 35, 3) := by decide +kernel
theorem dX9_measure_8 : decode cX9_measure 8 = .ok (.iload_n 1, 1) := by decide +kernel
theorem dX9_measure_9 : decode cX9_measure 9 = .ok (.iaload, 1) := by decide +kernel
theorem dX9_measure_10 : decode cX9_measure 10 = .ok (.goto 23, 3) := by decide +kernel
theorem dX9_measure_13 : decode cX9_measure 13 = .ok (.iload_n 2, 1) := by decide +kernel
theorem dX9_measure_14 : decode cX9_measure 14 = .ok (.iconst 1, 1) := by decide +kernel
theorem dX9_measure_15 : decode cX9_measure 15 = .ok (.if_icmp .ne 12, 3) := by decide +kernel
theorem dX9_measure_18 : decode cX9_measure 18 = .ok (.aload_n 0, 1) := by decide +kernel
theorem dX9_measure_19 : decode cX9_measure 19 = .ok (.getfield 41, 3) := by decide +kernel
theorem dX9_measure_22 : decode cX9_measure 22 = .ok (.iload_n 1, 1) := by decide +kernel
theorem dX9_measure_23 : decode cX9_measure 23 = .ok (.iaload, 1) := by decide +kernel
theorem dX9_measure_24 : decode cX9_measure 24 = .ok (.goto 9, 3) := by decide +kernel
theorem dX9_measure_27 : decode cX9_measure 27 = .ok (.aload_n 0, 1) := by decide +kernel
theorem dX9_measure_28 : decode cX9_measure 28 = .ok (.getfield 50, 3) := by decide +kernel
theorem dX9_measure_31 : decode cX9_measure 31 = .ok (.iload_n 1, 1) := by decide +kernel
theorem dX9_measure_32 : decode cX9_measure 32 = .ok (.iaload, 1) := by decide +kernel
theorem dX9_measure_33 : decode cX9_measure 33 = .ok (.istore 4, 2) := by decide +kernel
theorem dX9_measure_35 : decode cX9_measure 35 = .ok (.iload 4, 2) := by decide +kernel
theorem dX9_measure_37 : decode cX9_measure 37 = .ok (.iconst (-1), 1) := by decide +kernel
theorem dX9_measure_38 : decode cX9_measure 38 = .ok (.if_icmp .ne 11, 3) := by decide +kernel
theorem dX9_measure_41 : decode cX9_measure 41 = .ok (.aload_n 0, 1) := by decide +kernel
theorem dX9_measure_42 : decode cX9_measure 42 = .ok (.iconst 1, 1) := by decide +kernel
theorem dX9_measure_43 : decode cX9_measure 43 = .ok (.invokevirtual 97, 3) := by decide +kernel
theorem dX9_measure_46 : decode cX9_measure 46 = .ok (.goto 64, 3) := by decide +kernel
theorem dX9_measure_49 : decode cX9_measure 49 = .ok (.iload_n 2, 1) := by decide +kernel
theorem dX9_measure_50 : decode cX9_measure 50 = .ok (.i2l, 1) := by decide +kernel
theorem dX9_measure_51 : decode cX9_measure 51 = .ok (.lconst 0, 1) := by decide +kernel
theorem dX9_measure_52 : decode cX9_measure 52 = .ok (.ldc2_w 104, 3) := by decide +kernel
theorem dX9_measure_55 : decode cX9_measure 55 = .ok (.invokestatic 77, 3) := by decide +kernel
theorem dX9_measure_58 : decode cX9_measure 58 = .ok (.ifCond .ne 25, 3) := by decide +kernel
theorem dX9_measure_61 : decode cX9_measure 61 = .ok (.iload_n 3, 1) := by decide +kernel
theorem dX9_measure_62 : decode cX9_measure 62 = .ok (.i2l, 1) := by decide +kernel
theorem dX9_measure_63 : decode cX9_measure 63 = .ok (.lconst 0, 1) := by decide +kernel
theorem dX9_measure_64 : decode cX9_measure 64 = .ok (.iload 4, 2) := by decide +kernel
theorem dX9_measure_66 : decode cX9_measure 66 = .ok (.iconst 1, 1) := by decide +kernel
theorem dX9_measure_67 : decode cX9_measure 67 = .ok (.isub, 1) := by decide +kernel
theorem dX9_measure_68 : decode cX9_measure 68 = .ok (.i2l, 1) := by decide +kernel
theorem dX9_measure_69 : decode cX9_measure 69 = .ok (.invokestatic 77, 3) := by decide +kernel
theorem dX9_measure_72 : decode cX9_measure 72 = .ok (.ifCond .ne 11, 3) := by decide +kernel
theorem dX9_measure_75 : decode cX9_measure 75 = .ok (.aload_n 0, 1) := by decide +kernel
theorem dX9_measure_76 : decode cX9_measure 76 = .ok (.iconst 3, 1) := by decide +kernel
theorem dX9_measure_77 : decode cX9_measure 77 = .ok (.invokevirtual 97, 3) := by decide +kernel
theorem dX9_measure_80 : decode cX9_measure 80 = .ok (.goto 30, 3) := by decide +kernel
theorem dX9_measure_83 : decode cX9_measure 83 = .ok (.aload_n 0, 1) := by decide +kernel
theorem dX9_measure_84 : decode cX9_measure 84 = .ok (.iload_n 2, 1) := by decide +kernel
theorem dX9_measure_85 : decode cX9_measure 85 = .ok (.i2l, 1) := by decide +kernel
theorem dX9_measure_86 : decode cX9_measure 86 = .ok (.lconst 0, 1) := by decide +kernel
theorem dX9_measure_87 : decode cX9_measure 87 = .ok (.ldc2_w 104, 3) := by decide +kernel
theorem dX9_measure_90 : decode cX9_measure 90 = .ok (.invokestatic 77, 3) := by decide +kernel
theorem dX9_measure_93 : decode cX9_measure 93 = .ok (.ifCond .eq 8, 3) := by decide +kernel
theorem dX9_measure_96 : decode cX9_measure 96 = .ok (.iload 4, 2) := by decide +kernel
theorem dX9_measure_98 : decode cX9_measure 98 = .ok (.goto 9, 3) := by decide +kernel

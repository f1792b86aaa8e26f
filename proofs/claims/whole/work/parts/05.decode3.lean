theorem dX9_measure_101 : decode cX9_measure 101 = .ok (.aload_n 0, 1) := by decide +kernel
theorem dX9_measure_102 : decode cX9_measure 102 = .ok (.getfield 53, 3) := by decide +kernel
theorem dX9_measure_105 : decode cX9_measure 105 = .ok (.iload_n 1, 1) := by decide +kernel
theorem dX9_measure_106 : decode cX9_measure 106 = .ok (.iaload, 1) := by decide +kernel
theorem dX9_measure_107 : decode cX9_measure 107 = .ok (.putfield 90, 3) := by decide +kernel
theorem dX9_measure_110 : decode cX9_measure 110 = .ok (.return_, 1) := by decide +kernel
theorem dX9_has_0 : decode cX9_has 0 = .ok (.iload_n 1, 1) := by decide +kernel
theorem dX9_has_1 : decode cX9_has 1 = .ok (.iconst (-1), 1) := by decide +kernel
theorem dX9_has_2 : decode cX9_has 2 = .ok (.if_icmp .ne 11, 3) := by decide +kernel
theorem dX9_has_5 : decode cX9_has 5 = .ok (.aload_n 0, 1) := by decide +kernel
theorem dX9_has_6 : decode cX9_has 6 = .ok (.iconst 1, 1) := by decide +kernel
theorem dX9_has_7 : decode cX9_has 7 = .ok (.invokevirtual 97, 3) := by decide +kernel
theorem dX9_has_10 : decode cX9_has 10 = .ok (.goto 21, 3) := by decide +kernel
theorem dX9_has_13 : decode cX9_has 13 = .ok (.iload_n 2, 1) := by decide +kernel
theorem dX9_has_14 : decode cX9_has 14 = .ok (.i2l, 1) := by decide +kernel
theorem dX9_has_15 : decode cX9_has 15 = .ok (.lconst 0, 1) := by decide +kernel
theorem dX9_has_16 : decode cX9_has 16 = .ok (.iload_n 1, 1) := by decide +kernel
theorem dX9_has_17 : decode cX9_has 17 = .ok (.iconst 1, 1) := by decide +kernel
theorem dX9_has_18 : decode cX9_has 18 = .ok (.isub, 1) := by decide +kernel
theorem dX9_has_19 : decode cX9_has 19 = .ok (.i2l, 1) := by decide +kernel
theorem dX9_has_20 : decode cX9_has 20 = .ok (.invokestatic 77, 3) := by decide +kernel
theorem dX9_has_23 : decode cX9_has 23 = .ok (.ifCond .ne 8, 3) := by decide +kernel
theorem dX9_has_26 : decode cX9_has 26 = .ok (.aload_n 0, 1) := by decide +kernel
theorem dX9_has_27 : decode cX9_has 27 = .ok (.iconst 3, 1) := by decide +kernel
theorem dX9_has_28 : decode cX9_has 28 = .ok (.invokevirtual 97, 3) := by decide +kernel
theorem dX9_has_31 : decode cX9_has 31 = .ok (.aload_n 0, 1) := by decide +kernel
theorem dX9_has_32 : decode cX9_has 32 = .ok (.getfield 87, 3) := by decide +kernel
theorem dX9_has_35 : decode cX9_has 35 = .ok (.ifCond .ne 7, 3) := by decide +kernel
theorem dX9_has_38 : decode cX9_has 38 = .ok (.iconst 1, 1) := by decide +kernel
theorem dX9_has_39 : decode cX9_has 39 = .ok (.goto 4, 3) := by decide +kernel
theorem dX9_has_42 : decode cX9_has 42 = .ok (.iconst 0, 1) := by decide +kernel
theorem dX9_has_43 : decode cX9_has 43 = .ok (.ireturn, 1) := by decide +kernel
theorem dX9_hang_0 : decode cX9_hang 0 = .ok (.aload_n 0, 1) := by decide +kernel
theorem dX9_hang_1 : decode cX9_hang 1 = .ok (.getfield 41, 3) := by decide +kernel
theorem dX9_hang_4 : decode cX9_hang 4 = .ok (.iload_n 1, 1) := by decide +kernel
theorem dX9_hang_5 : decode cX9_hang 5 = .ok (.iaload, 1) := by decide +kernel
theorem dX9_hang_6 : decode cX9_hang 6 = .ok (.iconst (-1), 1) := by decide +kernel
theorem dX9_hang_7 : decode cX9_hang 7 = .ok (.if_icmp .eq 12, 3) := by decide +kernel
theorem dX9_hang_10 : decode cX9_hang 10 = .ok (.aload_n 0, 1) := by decide +kernel
theorem dX9_hang_11 : decode cX9_hang 11 = .ok (.getfield 7, 3) := by decide +kernel
theorem dX9_hang_14 : decode cX9_hang 14 = .ok (.iload_n 3, 1) := by decide +kernel
theorem dX9_hang_15 : decode cX9_hang 15 = .ok (.baload, 1) := by decide +kernel
theorem dX9_hang_16 : decode cX9_hang 16 = .ok (.ifCond .ne 9, 3) := by decide +kernel
theorem dX9_hang_19 : decode cX9_hang 19 = .ok (.aload_n 0, 1) := by decide +kernel
theorem dX9_hang_20 : decode cX9_hang 20 = .ok (.iconst 1, 1) := by decide +kernel
theorem dX9_hang_21 : decode cX9_hang 21 = .ok (.invokevirtual 97, 3) := by decide +kernel
theorem dX9_hang_24 : decode cX9_hang 24 = .ok (.return_, 1) := by decide +kernel
theorem dX9_hang_25 : decode cX9_hang 25 = .ok (.aload_n 0, 1) := by decide +kernel
theorem dX9_hang_26 : decode cX9_hang 26 = .ok (.aload_n 0, 1) := by decide +kernel
theorem dX9_hang_27 : decode cX9_hang 27 = .ok (.getfield 41, 3) := by decide +kernel
theorem dX9_hang_30 : decode cX9_hang 30 = .ok (.iload_n 1, 1) := by decide +kernel
theorem dX9_hang_31 : decode cX9_hang 31 = .ok (.iaload, 1) := by decide +kernel
theorem dX9_hang_32 : decode cX9_hang 32 = .ok (.iload_n 2, 1) := by decide +kernel
theorem dX9_hang_33 : decode cX9_hang 33 = .ok (.invokevirtual 106, 3) := by decide +kernel
theorem dX9_hang_36 : decode cX9_hang 36 = .ok (.ifCond .ne 4, 3) := by decide +kernel
theorem dX9_hang_39 : decode cX9_hang 39 = .ok (.return_, 1) := by decide +kernel
theorem dX9_hang_40 : decode cX9_hang 40 = .ok (.aload_n 0, 1) := by decide +kernel
theorem dX9_hang_41 : decode cX9_hang 41 = .ok (.getfield 17, 3) := by decide +kernel
theorem dX9_hang_44 : decode cX9_hang 44 = .ok (.iconst 2, 1) := by decide +kernel
theorem dX9_hang_45 : decode cX9_hang 45 = .ok (.iload_n 3, 1) := by decide +kernel
theorem dX9_hang_46 : decode cX9_hang 46 = .ok (.imul, 1) := by decide +kernel
theorem dX9_hang_47 : decode cX9_hang 47 = .ok (.iaload, 1) := by decide +kernel
theorem dX9_hang_48 : decode cX9_hang 48 = .ok (.istore 4, 2) := by decide +kernel
theorem dX9_hang_50 : decode cX9_hang 50 = .ok (.aload_n 0, 1) := by decide +kernel
theorem dX9_hang_51 : decode cX9_hang 51 = .ok (.getfield 44, 3) := by decide +kernel
theorem dX9_hang_54 : decode cX9_hang 54 = .ok (.iload_n 1, 1) := by decide +kernel
theorem dX9_hang_55 : decode cX9_hang 55 = .ok (.baload, 1) := by decide +kernel
theorem dX9_hang_56 : decode cX9_hang 56 = .ok (.ifCond .eq 25, 3) := by decide +kernel
theorem dX9_hang_59 : decode cX9_hang 59 = .ok (.iload 4, 2) := by decide +kernel
theorem dX9_hang_61 : decode cX9_hang 61 = .ok (.iconst (-1), 1) := by decide +kernel
theorem dX9_hang_62 : decode cX9_hang 62 = .ok (.if_icmp .eq 19, 3) := by decide +kernel
theorem dX9_hang_65 : decode cX9_hang 65 = .ok (.aload_n 0, 1) := by decide +kernel
theorem dX9_hang_66 : decode cX9_hang 66 = .ok (.getfield 32, 3) := by decide +kernel
theorem dX9_hang_69 : decode cX9_hang 69 = .ok (.iload 4, 2) := by decide +kernel
theorem dX9_hang_71 : decode cX9_hang 71 = .ok (.baload, 1) := by decide +kernel
theorem dX9_hang_72 : decode cX9_hang 72 = .ok (.ifCond .ne 9, 3) := by decide +kernel
theorem dX9_hang_75 : decode cX9_hang 75 = .ok (.aload_n 0, 1) := by decide +kernel
theorem dX9_hang_76 : decode cX9_hang 76 = .ok (.iconst 4, 1) := by decide +kernel
theorem dX9_hang_77 : decode cX9_hang 77 = .ok (.invokevirtual 97, 3) := by decide +kernel
theorem dX9_hang_80 : decode cX9_hang 80 = .ok (.return_, 1) := by decide +kernel
theorem dX9_hang_81 : decode cX9_hang 81 = .ok (.aload_n 0, 1) := by decide +kernel
theorem dX9_hang_82 : decode cX9_hang 82 = .ok (.getfield 47, 3) := by decide +kernel
theorem dX9_hang_85 : decode cX9_hang 85 = .ok (.bipush 20, 2) := by decide +kernel
theorem dX9_hang_87 : decode cX9_hang 87 = .ok (.iload_n 1, 1) := by decide +kernel
theorem dX9_hang_88 : decode cX9_hang 88 = .ok (.imul, 1) := by decide +kernel
theorem dX9_hang_89 : decode cX9_hang 89 = .ok (.iload_n 2, 1) := by decide +kernel
theorem dX9_hang_90 : decode cX9_hang 90 = .ok (.iadd, 1) := by decide +kernel
theorem dX9_hang_91 : decode cX9_hang 91 = .ok (.iload 4, 2) := by decide +kernel
theorem dX9_hang_93 : decode cX9_hang 93 = .ok (.iastore, 1) := by decide +kernel
theorem dX9_hang_94 : decode cX9_hang 94 = .ok (.aload_n 0, 1) := by decide +kernel
theorem dX9_hang_95 : decode cX9_hang 95 = .ok (.iconst 1, 1) := by decide +kernel
theorem dX9_hang_96 : decode cX9_hang 96 = .ok (.putfield 90, 3) := by decide +kernel
theorem dX9_hang_99 : decode cX9_hang 99 = .ok (.return_, 1) := by decide +kernel
theorem dX9_balance_0 : decode cX9_balance 0 = .ok (.aload_n 0, 1) := by decide +kernel
theorem dX9_balance_1 : decode cX9_balance 1 = .ok (.aload_n 0, 1) := by decide +kernel
theorem dX9_balance_2 : decode cX9_balance 2 = .ok (.getfield 41, 3) := by decide +kernel
theorem dX9_balance_5 : decode cX9_balance 5 = .ok (.iload_n 1, 1) := by decide +kernel
theorem dX9_balance_6 : decode cX9_balance 6 = .ok (.iaload, 1) := by decide +kernel
theorem dX9_balance_7 : decode cX9_balance 7 = .ok (.iload_n 2, 1) := by decide +kernel
theorem dX9_balance_8 : decode cX9_balance 8 = .ok (.invokevirtual 106, 3) := by decide +kernel
theorem dX9_balance_11 : decode cX9_balance 11 = .ok (.ifCond .ne 4, 3) := by decide +kernel
theorem dX9_balance_14 : decode cX9_balance 14 = .ok (.return_, 1) := by decide +kernel
theorem dX9_balance_15 : decode cX9_balance 15 = .ok (.aload_n 0, 1) := by decide +kernel
theorem dX9_balance_16 : decode cX9_balance 16 = .ok (.getfield 47, 3) := by decide +kernel
theorem dX9_balance_19 : decode cX9_balance 19 = .ok (.bipush 20, 2) := by decide +kernel
theorem dX9_balance_21 : decode cX9_balance 21 = .ok (.iload_n 1, 1) := by decide +kernel
theorem dX9_balance_22 : decode cX9_balance 22 = .ok (.imul, 1) := by decide +kernel
theorem dX9_balance_23 : decode cX9_balance 23 = .ok (.iload_n 2, 1) := by decide +kernel
theorem dX9_balance_24 : decode cX9_balance 24 = .ok (.iadd, 1) := by decide +kernel
theorem dX9_balance_25 : decode cX9_balance 25 = .ok (.iaload, 1) := by decide +kernel
theorem dX9_balance_26 : decode cX9_balance 26 = .ok (.istore_n 3, 1) := by decide +kernel
theorem dX9_balance_27 : decode cX9_balance 27 = .ok (.iload_n 3, 1) := by decide +kernel
theorem dX9_balance_28 : decode cX9_balance 28 = .ok (.iconst (-1), 1) := by decide +kernel
theorem dX9_balance_29 : decode cX9_balance 29 = .ok (.if_icmp .eq 12, 3) := by decide +kernel
theorem dX9_balance_32 : decode cX9_balance 32 = .ok (.aload_n 0, 1) := by decide +kernel
theorem dX9_balance_33 : decode cX9_balance 33 = .ok (.getfield 32, 3) := by decide +kernel
theorem dX9_balance_36 : decode cX9_balance 36 = .ok (.iload_n 3, 1) := by decide +kernel
theorem dX9_balance_37 : decode cX9_balance 37 = .ok (.baload, 1) := by decide +kernel
theorem dX9_balance_38 : decode cX9_balance 38 = .ok (.ifCond .ne 18, 3) := by decide +kernel
theorem dX9_balance_41 : decode cX9_balance 41 = .ok (.aload_n 0, 1) := by decide +kernel
theorem dX9_balance_42 : decode cX9_balance 42 = .ok (.iload_n 3, 1) := by decide +kernel
theorem dX9_balance_43 : decode cX9_balance 43 = .ok (.iconst (-1), 1) := by decide +kernel
theorem dX9_balance_44 : decode cX9_balance 44 = .ok (.if_icmp .ne 7, 3) := by decide +kernel
theorem dX9_balance_47 : decode cX9_balance 47 = .ok (.iconst 1, 1) := by decide +kernel
theorem dX9_balance_48 : decode cX9_balance 48 = .ok (.goto 4, 3) := by decide +kernel
theorem dX9_balance_51 : decode cX9_balance 51 = .ok (.iconst 5, 1) := by decide +kernel
theorem dX9_balance_52 : decode cX9_balance 52 = .ok (.invokevirtual 97, 3) := by decide +kernel
theorem dX9_balance_55 : decode cX9_balance 55 = .ok (.return_, 1) := by decide +kernel
theorem dX9_balance_56 : decode cX9_balance 56 = .ok (.aload_n 0, 1) := by decide +kernel
theorem dX9_balance_57 : decode cX9_balance 57 = .ok (.getfield 29, 3) := by decide +kernel
theorem dX9_balance_60 : decode cX9_balance 60 = .ok (.iload_n 3, 1) := by decide +kernel
theorem dX9_balance_61 : decode cX9_balance 61 = .ok (.iconst 0, 1) := by decide +kernel
theorem dX9_balance_62 : decode cX9_balance 62 = .ok (.iastore, 1) := by decide +kernel
theorem dX9_balance_63 : decode cX9_balance 63 = .ok (.aload_n 0, 1) := by decide +kernel
theorem dX9_balance_64 : decode cX9_balance 64 = .ok (.sipush 1000, 3) := by decide +kernel
theorem dX9_balance_67 : decode cX9_balance 67 = .ok (.aload_n 0, 1) := by decide +kernel
theorem dX9_balance_68 : decode cX9_balance 68 = .ok (.getfield 26, 3) := by decide +kernel
theorem dX9_balance_71 : decode cX9_balance 71 = .ok (.iload_n 3, 1) := by decide +kernel
theorem dX9_balance_72 : decode cX9_balance 72 = .ok (.iaload, 1) := by decide +kernel
theorem dX9_balance_73 : decode cX9_balance 73 = .ok (.iadd, 1) := by decide +kernel
theorem dX9_balance_74 : decode cX9_balance 74 = .ok (.putfield 90, 3) := by decide +kernel
theorem dX9_balance_77 : decode cX9_balance 77 = .ok (.return_, 1) := by decide +kernel
theorem dX9_does_0 : decode cX9_does 0 = .ok (.aload_n 0, 1) := by decide +kernel
theorem dX9_does_1 : decode cX9_does 1 = .ok (.iconst 0, 1) := by decide +kernel
theorem dX9_does_2 : decode cX9_does 2 = .ok (.putfield 87, 3) := by decide +kernel
theorem dX9_does_5 : decode cX9_does 5 = .ok (.aload_n 0, 1) := by decide +kernel
theorem dX9_does_6 : decode cX9_does 6 = .ok (.iconst 0, 1) := by decide +kernel
theorem dX9_does_7 : decode cX9_does 7 = .ok (.putfield 90, 3) := by decide +kernel
theorem dX9_does_10 : decode cX9_does 10 = .ok (.iload_n 1, 1) := by decide +kernel
theorem dX9_does_11 : decode cX9_does 11 = .ok (.tableswitch 354 0 15 #[77, 86, 108, 119, 119, 138, 149, 158, 158, 158, 170, 181, 226, 302, 313, 322], 77) := by decide +kernel
theorem dX9_does_88 : decode cX9_does 88 = .ok (.aload_n 0, 1) := by decide +kernel
theorem dX9_does_89 : decode cX9_does 89 = .ok (.iload_n 2, 1) := by decide +kernel
theorem dX9_does_90 : decode cX9_does 90 = .ok (.iload_n 3, 1) := by decide +kernel
theorem dX9_does_91 : decode cX9_does 91 = .ok (.invokevirtual 110, 3) := by decide +kernel
theorem dX9_does_94 : decode cX9_does 94 = .ok (.goto 300, 3) := by decide +kernel
theorem dX9_does_97 : decode cX9_does 97 = .ok (.aload_n 0, 1) := by decide +kernel
theorem dX9_does_98 : decode cX9_does 98 = .ok (.getfield 7, 3) := by decide +kernel
theorem dX9_does_101 : decode cX9_does 101 = .ok (.iload_n 2, 1) := by decide +kernel
theorem dX9_does_102 : decode cX9_does 102 = .ok (.iconst 0, 1) := by decide +kernel
theorem dX9_does_103 : decode cX9_does 103 = .ok (.bastore, 1) := by decide +kernel
theorem dX9_does_104 : decode cX9_does 104 = .ok (.aload_n 0, 1) := by decide +kernel
theorem dX9_does_105 : decode cX9_does 105 = .ok (.getfield 13, 3) := by decide +kernel
theorem dX9_does_108 : decode cX9_does 108 = .ok (.iload_n 2, 1) := by decide +kernel
theorem dX9_does_109 : decode cX9_does 109 = .ok (.iconst 0, 1) := by decide +kernel
theorem dX9_does_110 : decode cX9_does 110 = .ok (.iastore, 1) := by decide +kernel
theorem dX9_does_111 : decode cX9_does 111 = .ok (.aload_n 0, 1) := by decide +kernel
theorem dX9_does_112 : decode cX9_does 112 = .ok (.iload_n 2, 1) := by decide +kernel
theorem dX9_does_113 : decode cX9_does 113 = .ok (.invokevirtual 93, 3) := by decide +kernel
theorem dX9_does_116 : decode cX9_does 116 = .ok (.goto 278, 3) := by decide +kernel
theorem dX9_does_119 : decode cX9_does 119 = .ok (.aload_n 0, 1) := by decide +kernel
theorem dX9_does_120 : decode cX9_does 120 = .ok (.iload_n 2, 1) := by decide +kernel
theorem dX9_does_121 : decode cX9_does 121 = .ok (.iload_n 3, 1) := by decide +kernel
theorem dX9_does_122 : decode cX9_does 122 = .ok (.iload 4, 2) := by decide +kernel
theorem dX9_does_124 : decode cX9_does 124 = .ok (.invokevirtual 114, 3) := by decide +kernel
theorem dX9_does_127 : decode cX9_does 127 = .ok (.goto 267, 3) := by decide +kernel
theorem dX9_does_130 : decode cX9_does 130 = .ok (.aload_n 0, 1) := by decide +kernel
theorem dX9_does_131 : decode cX9_does 131 = .ok (.iload_n 2, 1) := by decide +kernel
theorem dX9_does_132 : decode cX9_does 132 = .ok (.iload_n 3, 1) := by decide +kernel
theorem dX9_does_133 : decode cX9_does 133 = .ok (.iload_n 1, 1) := by decide +kernel
theorem dX9_does_134 : decode cX9_does 134 = .ok (.iconst 4, 1) := by decide +kernel
theorem dX9_does_135 : decode cX9_does 135 = .ok (.if_icmp .ne 7, 3) := by decide +kernel
theorem dX9_does_138 : decode cX9_does 138 = .ok (.iconst 1, 1) := by decide +kernel
theorem dX9_does_139 : decode cX9_does 139 = .ok (.goto 4, 3) := by decide +kernel
theorem dX9_does_142 : decode cX9_does 142 = .ok (.iconst 0, 1) := by decide +kernel
theorem dX9_does_143 : decode cX9_does 143 = .ok (.invokevirtual 118, 3) := by decide +kernel
theorem dX9_does_146 : decode cX9_does 146 = .ok (.goto 248, 3) := by decide +kernel
theorem dX9_does_149 : decode cX9_does 149 = .ok (.aload_n 0, 1) := by decide +kernel
theorem dX9_does_150 : decode cX9_does 150 = .ok (.iload_n 2, 1) := by decide +kernel
theorem dX9_does_151 : decode cX9_does 151 = .ok (.iload_n 3, 1) := by decide +kernel
theorem dX9_does_152 : decode cX9_does 152 = .ok (.iload 4, 2) := by decide +kernel
theorem dX9_does_154 : decode cX9_does 154 = .ok (.invokevirtual 122, 3) := by decide +kernel
theorem dX9_does_157 : decode cX9_does 157 = .ok (.goto 237, 3) := by decide +kernel
theorem dX9_does_160 : decode cX9_does 160 = .ok (.aload_n 0, 1) := by decide +kernel
theorem dX9_does_161 : decode cX9_does 161 = .ok (.iload_n 2, 1) := by decide +kernel
theorem dX9_does_162 : decode cX9_does 162 = .ok (.iload_n 3, 1) := by decide +kernel
theorem dX9_does_163 : decode cX9_does 163 = .ok (.invokevirtual 125, 3) := by decide +kernel
theorem dX9_does_166 : decode cX9_does 166 = .ok (.goto 228, 3) := by decide +kernel
theorem dX9_does_169 : decode cX9_does 169 = .ok (.aload_n 0, 1) := by decide +kernel
theorem dX9_does_170 : decode cX9_does 170 = .ok (.iload_n 1, 1) := by decide +kernel
theorem dX9_does_171 : decode cX9_does 171 = .ok (.iload_n 2, 1) := by decide +kernel
theorem dX9_does_172 : decode cX9_does 172 = .ok (.iload_n 3, 1) := by decide +kernel
theorem dX9_does_173 : decode cX9_does 173 = .ok (.iload 4, 2) := by decide +kernel
theorem dX9_does_175 : decode cX9_does 175 = .ok (.invokevirtual 128, 3) := by decide +kernel
theorem dX9_does_178 : decode cX9_does 178 = .ok (.goto 216, 3) := by decide +kernel
theorem dX9_does_181 : decode cX9_does 181 = .ok (.aload_n 0, 1) := by decide +kernel
theorem dX9_does_182 : decode cX9_does 182 = .ok (.iload_n 2, 1) := by decide +kernel
theorem dX9_does_183 : decode cX9_does 183 = .ok (.iload_n 3, 1) := by decide +kernel
theorem dX9_does_184 : decode cX9_does 184 = .ok (.iload 4, 2) := by decide +kernel
theorem dX9_does_186 : decode cX9_does 186 = .ok (.invokevirtual 132, 3) := by decide +kernel
theorem dX9_does_189 : decode cX9_does 189 = .ok (.goto 205, 3) := by decide +kernel
theorem dX9_does_192 : decode cX9_does 192 = .ok (.aload_n 0, 1) := by decide +kernel
theorem dX9_does_193 : decode cX9_does 193 = .ok (.aload_n 0, 1) := by decide +kernel
theorem dX9_does_194 : decode cX9_does 194 = .ok (.getfield 35, 3) := by decide +kernel
theorem dX9_does_197 : decode cX9_does 197 = .ok (.iload_n 2, 1) := by decide +kernel
theorem dX9_does_198 : decode cX9_does 198 = .ok (.iaload, 1) := by decide +kernel
theorem dX9_does_199 : decode cX9_does 199 = .ok (.iload_n 3, 1) := by decide +kernel
theorem dX9_does_200 : decode cX9_does 200 = .ok (.invokevirtual 106, 3) := by decide +kernel
theorem dX9_does_203 : decode cX9_does 203 = .ok (.ifCond .eq 191, 3) := by decide +kernel
theorem dX9_does_206 : decode cX9_does 206 = .ok (.aload_n 0, 1) := by decide +kernel
theorem dX9_does_207 : decode cX9_does 207 = .ok (.aload_n 0, 1) := by decide +kernel
theorem dX9_does_208 : decode cX9_does 208 = .ok (.getfield 38, 3) := by decide +kernel
theorem dX9_does_211 : decode cX9_does 211 = .ok (.bipush 20, 2) := by decide +kernel
theorem dX9_does_213 : decode cX9_does 213 = .ok (.iload_n 2, 1) := by decide +kernel
theorem dX9_does_214 : decode cX9_does 214 = .ok (.imul, 1) := by decide +kernel
theorem dX9_does_215 : decode cX9_does 215 = .ok (.iload_n 3, 1) := by decide +kernel
theorem dX9_does_216 : decode cX9_does 216 = .ok (.iadd, 1) := by decide +kernel
theorem dX9_does_217 : decode cX9_does 217 = .ok (.iaload, 1) := by decide +kernel
theorem dX9_does_218 : decode cX9_does 218 = .ok (.putfield 90, 3) := by decide +kernel
theorem dX9_does_221 : decode cX9_does 221 = .ok (.aload_n 0, 1) := by decide +kernel
theorem dX9_does_222 : decode cX9_does 222 = .ok (.getfield 38, 3) := by decide +kernel
theorem dX9_does_225 : decode cX9_does 225 = .ok (.bipush 20, 2) := by decide +kernel
theorem dX9_does_227 : decode cX9_does 227 = .ok (.iload_n 2, 1) := by decide +kernel
theorem dX9_does_228 : decode cX9_does 228 = .ok (.imul, 1) := by decide +kernel
theorem dX9_does_229 : decode cX9_does 229 = .ok (.iload_n 3, 1) := by decide +kernel
theorem dX9_does_230 : decode cX9_does 230 = .ok (.iadd, 1) := by decide +kernel
theorem dX9_does_231 : decode cX9_does 231 = .ok (.iload 4, 2) := by decide +kernel
theorem dX9_does_233 : decode cX9_does 233 = .ok (.iastore, 1) := by decide +kernel
theorem dX9_does_234 : decode cX9_does 234 = .ok (.goto 160, 3) := by decide +kernel
theorem dX9_does_237 : decode cX9_does 237 = .ok (.aload_n 0, 1) := by decide +kernel
theorem dX9_does_238 : decode cX9_does 238 = .ok (.aload_n 0, 1) := by decide +kernel
theorem dX9_does_239 : decode cX9_does 239 = .ok (.getfield 50, 3) := by decide +kernel
theorem dX9_does_242 : decode cX9_does 242 = .ok (.iload_n 2, 1) := by decide +kernel
theorem dX9_does_243 : decode cX9_does 243 = .ok (.iaload, 1) := by decide +kernel
theorem dX9_does_244 : decode cX9_does 244 = .ok (.iload_n 3, 1) := by decide +kernel
theorem dX9_does_245 : decode cX9_does 245 = .ok (.invokevirtual 106, 3) := by decide +kernel
theorem dX9_does_248 : decode cX9_does 248 = .ok (.ifCond .eq 146, 3) := by decide +kernel
theorem dX9_does_251 : decode cX9_does 251 = .ok (.aload_n 0, 1) := by decide +kernel
theorem dX9_does_252 : decode cX9_does 252 = .ok (.aload_n 0, 1) := by decide +kernel
theorem dX9_does_253 : decode cX9_does 253 = .ok (.getfield 53, 3) := by decide +kernel
theorem dX9_does_256 : decode cX9_does 256 = .ok (.iload_n 2, 1) := by decide +kernel
theorem dX9_does_257 : decode cX9_does 257 = .ok (.iaload, 1) := by decide +kernel
theorem dX9_does_258 : decode cX9_does 258 = .ok (.iload 4, 2) := by decide +kernel
theorem dX9_does_260 : decode cX9_does 260 = .ok (.invokevirtual 106, 3) := by decide +kernel
theorem dX9_does_263 : decode cX9_does 263 = .ok (.ifCond .eq 131, 3) := by decide +kernel
theorem dX9_does_266 : decode cX9_does 266 = .ok (.aload_n 0, 1) := by decide +kernel
theorem dX9_does_267 : decode cX9_does 267 = .ok (.getfield 56, 3) := by decide +kernel
theorem dX9_does_270 : decode cX9_does 270 = .ok (.sipush 400, 3) := by decide +kernel
theorem dX9_does_273 : decode cX9_does 273 = .ok (.iload_n 2, 1) := by decide +kernel
theorem dX9_does_274 : decode cX9_does 274 = .ok (.imul, 1) := by decide +kernel
theorem dX9_does_275 : decode cX9_does 275 = .ok (.bipush 20, 2) := by decide +kernel
theorem dX9_does_277 : decode cX9_does 277 = .ok (.iload_n 3, 1) := by decide +kernel
theorem dX9_does_278 : decode cX9_does 278 = .ok (.imul, 1) := by decide +kernel
theorem dX9_does_279 : decode cX9_does 279 = .ok (.iadd, 1) := by decide +kernel
theorem dX9_does_280 : decode cX9_does 280 = .ok (.iload 4, 2) := by decide +kernel
theorem dX9_does_282 : decode cX9_does 282 = .ok (.iadd, 1) := by decide +kernel
theorem dX9_does_283 : decode cX9_does 283 = .ok (.dup2, 1) := by decide +kernel
theorem dX9_does_284 : decode cX9_does 284 = .ok (.iaload, 1) := by decide +kernel
theorem dX9_does_285 : decode cX9_does 285 = .ok (.iconst 1, 1) := by decide +kernel
theorem dX9_does_286 : decode cX9_does 286 = .ok (.iadd, 1) := by decide +kernel
theorem dX9_does_287 : decode cX9_does 287 = .ok (.iastore, 1) := by decide +kernel
theorem dX9_does_288 : decode cX9_does 288 = .ok (.aload_n 0, 1) := by decide +kernel
theorem dX9_does_289 : decode cX9_does 289 = .ok (.aload_n 0, 1) := by decide +kernel
theorem dX9_does_290 : decode cX9_does 290 = .ok (.getfield 56, 3) := by decide +kernel
theorem dX9_does_293 : decode cX9_does 293 = .ok (.sipush 400, 3) := by decide +kernel
theorem dX9_does_296 : decode cX9_does 296 = .ok (.iload_n 2, 1) := by decide +kernel
theorem dX9_does_297 : decode cX9_does 297 = .ok (.imul, 1) := by decide +kernel
theorem dX9_does_298 : decode cX9_does 298 = .ok (.bipush 20, 2) := by decide +kernel
theorem dX9_does_300 : decode cX9_does 300 = .ok (.iload_n 3, 1) := by decide +kernel
theorem dX9_does_301 : decode cX9_does 301 = .ok (.imul, 1) := by decide +kernel
theorem dX9_does_302 : decode cX9_does 302 = .ok (.iadd, 1) := by decide +kernel
theorem dX9_does_303 : decode cX9_does 303 = .ok (.iload 4, 2) := by decide +kernel
theorem dX9_does_305 : decode cX9_does 305 = .ok (.iadd, 1) := by decide +kernel
theorem dX9_does_306 : decode cX9_does 306 = .ok (.iaload, 1) := by decide +kernel
theorem dX9_does_307 : decode cX9_does 307 = .ok (.putfield 90, 3) := by decide +kernel
theorem dX9_does_310 : decode cX9_does 310 = .ok (.goto 84, 3) := by decide +kernel
theorem dX9_does_313 : decode cX9_does 313 = .ok (.aload_n 0, 1) := by decide +kernel
theorem dX9_does_314 : decode cX9_does 314 = .ok (.iload_n 2, 1) := by decide +kernel
theorem dX9_does_315 : decode cX9_does 315 = .ok (.iload_n 3, 1) := by decide +kernel
theorem dX9_does_316 : decode cX9_does 316 = .ok (.iload 4, 2) := by decide +kernel
theorem dX9_does_318 : decode cX9_does 318 = .ok (.invokevirtual 135, 3) := by decide +kernel
theorem dX9_does_321 : decode cX9_does 321 = .ok (.goto 73, 3) := by decide +kernel
theorem dX9_does_324 : decode cX9_does 324 = .ok (.aload_n 0, 1) := by decide +kernel
theorem dX9_does_325 : decode cX9_does 325 = .ok (.iload_n 2, 1) := by decide +kernel
theorem dX9_does_326 : decode cX9_does 326 = .ok (.iload_n 3, 1) := by decide +kernel
theorem dX9_does_327 : decode cX9_does 327 = .ok (.invokevirtual 138, 3) := by decide +kernel
theorem dX9_does_330 : decode cX9_does 330 = .ok (.goto 64, 3) := by decide +kernel
theorem dX9_does_333 : decode cX9_does 333 = .ok (.aload_n 0, 1) := by decide +kernel
theorem dX9_does_334 : decode cX9_does 334 = .ok (.getfield 59, 3) := by decide +kernel
theorem dX9_does_337 : decode cX9_does 337 = .ok (.iload_n 2, 1) := by decide +kernel
theorem dX9_does_338 : decode cX9_does 338 = .ok (.iload_n 3, 1) := by decide +kernel
theorem dX9_does_339 : decode cX9_does 339 = .ok (.ifCond .ne 7, 3) := by decide +kernel
theorem dX9_does_342 : decode cX9_does 342 = .ok (.iconst 0, 1) := by decide +kernel
theorem dX9_does_343 : decode cX9_does 343 = .ok (.goto 13, 3) := by decide +kernel
theorem dX9_does_346 : decode cX9_does 346 = .ok (.iload_n 3, 1) := by decide +kernel
theorem dX9_does_347 : decode cX9_does 347 = .ok (.iconst 1, 1) := by decide +kernel
theorem dX9_does_348 : decode cX9_does 348 = .ok (.if_icmp .ne 7, 3) := by decide +kernel
theorem dX9_does_351 : decode cX9_does 351 = .ok (.iconst 1, 1) := by decide +kernel
theorem dX9_does_352 : decode cX9_does 352 = .ok (.goto 4, 3) := by decide +kernel
theorem dX9_does_355 : decode cX9_does 355 = .ok (.iconst 2, 1) := by decide +kernel
theorem dX9_does_356 : decode cX9_does 356 = .ok (.iastore, 1) := by decide +kernel
theorem dX9_does_357 : decode cX9_does 357 = .ok (.aload_n 0, 1) := by decide +kernel
theorem dX9_does_358 : decode cX9_does 358 = .ok (.iload_n 3, 1) := by decide +kernel
theorem dX9_does_359 : decode cX9_does 359 = .ok (.putfield 90, 3) := by decide +kernel
theorem dX9_does_362 : decode cX9_does 362 = .ok (.goto 32, 3) := by decide +kernel
theorem dX9_does_365 : decode cX9_does 365 = .ok (.iload_n 3, 1) := by decide +kernel
theorem dX9_does_366 : decode cX9_does 366 = .ok (.ifCond .eq 28, 3) := by decide +kernel
theorem dX9_does_369 : decode cX9_does 369 = .ok (.aload_n 0, 1) := by decide +kernel
theorem dX9_does_370 : decode cX9_does 370 = .ok (.aload_n 0, 1) := by decide +kernel
theorem dX9_does_371 : decode cX9_does 371 = .ok (.getfield 59, 3) := by decide +kernel
theorem dX9_does_374 : decode cX9_does 374 = .ok (.iload_n 2, 1) := by decide +kernel
theorem dX9_does_375 : decode cX9_does 375 = .ok (.iaload, 1) := by decide +kernel
theorem dX9_does_376 : decode cX9_does 376 = .ok (.ifCond .ne 7, 3) := by decide +kernel
theorem dX9_does_379 : decode cX9_does 379 = .ok (.iconst 1, 1) := by decide +kernel
theorem dX9_does_380 : decode cX9_does 380 = .ok (.goto 11, 3) := by decide +kernel
theorem dX9_does_383 : decode cX9_does 383 = .ok (.iconst 5, 1) := by decide +kernel
theorem dX9_does_384 : decode cX9_does 384 = .ok (.aload_n 0, 1) := by decide +kernel
theorem dX9_does_385 : decode cX9_does 385 = .ok (.getfield 59, 3) := by decide +kernel
theorem dX9_does_388 : decode cX9_does 388 = .ok (.iload_n 2, 1) := by decide +kernel
theorem dX9_does_389 : decode cX9_does 389 = .ok (.iaload, 1) := by decide +kernel
theorem dX9_does_390 : decode cX9_does 390 = .ok (.iadd, 1) := by decide +kernel
theorem dX9_does_391 : decode cX9_does 391 = .ok (.invokevirtual 97, 3) := by decide +kernel
theorem dX9_does_394 : decode cX9_does 394 = .ok (.aload_n 0, 1) := by decide +kernel
theorem dX9_does_395 : decode cX9_does 395 = .ok (.getfield 87, 3) := by decide +kernel
theorem dX9_does_398 : decode cX9_does 398 = .ok (.ifCond .eq 16, 3) := by decide +kernel
theorem dX9_does_401 : decode cX9_does 401 = .ok (.aload_n 0, 1) := by decide +kernel
theorem dX9_does_402 : decode cX9_does 402 = .ok (.getfield 72, 3) := by decide +kernel
theorem dX9_does_405 : decode cX9_does 405 = .ok (.aload_n 0, 1) := by decide +kernel
theorem dX9_does_406 : decode cX9_does 406 = .ok (.getfield 87, 3) := by decide +kernel
theorem dX9_does_409 : decode cX9_does 409 = .ok (.dup2, 1) := by decide +kernel
theorem dX9_does_410 : decode cX9_does 410 = .ok (.iaload, 1) := by decide +kernel
theorem dX9_does_411 : decode cX9_does 411 = .ok (.iconst 1, 1) := by decide +kernel
theorem dX9_does_412 : decode cX9_does 412 = .ok (.iadd, 1) := by decide +kernel
theorem dX9_does_413 : decode cX9_does 413 = .ok (.iastore, 1) := by decide +kernel
theorem dX9_does_414 : decode cX9_does 414 = .ok (.return_, 1) := by decide +kernel
theorem dX9_act_0 : decode cX9_act 0 = .ok (.iload_n 1, 1) := by decide +kernel
theorem dX9_act_1 : decode cX9_act 1 = .ok (.iload_n 2, 1) := by decide +kernel
theorem dX9_act_2 : decode cX9_act 2 = .ok (.iload_n 3, 1) := by decide +kernel
theorem dX9_act_3 : decode cX9_act 3 = .ok (.iload 4, 2) := by decide +kernel
theorem dX9_act_5 : decode cX9_act 5 = .ok (.invokestatic 141, 3) := by decide +kernel
theorem dX9_act_8 : decode cX9_act 8 = .ok (.ifCond .ne 7, 3) := by decide +kernel
theorem dX9_act_11 : decode cX9_act 11 = .ok (.ldc2_w 145, 3) := by decide +kernel
theorem dX9_act_14 : decode cX9_act 14 = .ok (.lreturn, 1) := by decide +kernel
theorem dX9_act_15 : decode cX9_act 15 = .ok (.aload_n 0, 1) := by decide +kernel
theorem dX9_act_16 : decode cX9_act 16 = .ok (.iload_n 1, 1) := by decide +kernel
theorem dX9_act_17 : decode cX9_act 17 = .ok (.iload_n 2, 1) := by decide +kernel
theorem dX9_act_18 : decode cX9_act 18 = .ok (.iload_n 3, 1) := by decide +kernel
theorem dX9_act_19 : decode cX9_act 19 = .ok (.iload 4, 2) := by decide +kernel
theorem dX9_act_21 : decode cX9_act 21 = .ok (.invokevirtual 147, 3) := by decide +kernel
theorem dX9_act_24 : decode cX9_act 24 = .ok (.aload_n 0, 1) := by decide +kernel
theorem dX9_act_25 : decode cX9_act 25 = .ok (.getfield 87, 3) := by decide +kernel
theorem dX9_act_28 : decode cX9_act 28 = .ok (.ifCond .eq 15, 3) := by decide +kernel
theorem dX9_act_31 : decode cX9_act 31 = .ok (.ldc2_w 145, 3) := by decide +kernel
theorem dX9_act_34 : decode cX9_act 34 = .ok (.aload_n 0, 1) := by decide +kernel
theorem dX9_act_35 : decode cX9_act 35 = .ok (.getfield 87, 3) := by decide +kernel
theorem dX9_act_38 : decode cX9_act 38 = .ok (.i2l, 1) := by decide +kernel
theorem dX9_act_39 : decode cX9_act 39 = .ok (.ladd, 1) := by decide +kernel
theorem dX9_act_40 : decode cX9_act 40 = .ok (.goto 8, 3) := by decide +kernel
theorem dX9_act_43 : decode cX9_act 43 = .ok (.aload_n 0, 1) := by decide +kernel
theorem dX9_act_44 : decode cX9_act 44 = .ok (.getfield 90, 3) := by decide +kernel
theorem dX9_act_47 : decode cX9_act 47 = .ok (.i2l, 1) := by decide +kernel
theorem dX9_act_48 : decode cX9_act 48 = .ok (.lreturn, 1) := by decide +kernel
theorem dX9_step_0 : decode cX9_step 0 = .ok (.iload_n 1, 1) := by decide +kernel
theorem dX9_step_1 : decode cX9_step 1 = .ok (.i2l, 1) := by decide +kernel
theorem dX9_step_2 : decode cX9_step 2 = .ok (.lconst 0, 1) := by decide +kernel
theorem dX9_step_3 : decode cX9_step 3 = .ok (.ldc2_w 81, 3) := by decide +kernel
theorem dX9_step_6 : decode cX9_step 6 = .ok (.invokestatic 77, 3) := by decide +kernel
theorem dX9_step_9 : decode cX9_step 9 = .ok (.ifCond .eq 30, 3) := by decide +kernel
theorem dX9_step_12 : decode cX9_step 12 = .ok (.iload_n 2, 1) := by decide +kernel
theorem dX9_step_13 : decode cX9_step 13 = .ok (.iload_n 3, 1) := by decide +kernel
theorem dX9_step_14 : decode cX9_step 14 = .ok (.iload 4, 2) := by decide +kernel
theorem dX9_step_16 : decode cX9_step 16 = .ok (.iload 5, 2) := by decide +kernel
theorem dX9_step_18 : decode cX9_step 18 = .ok (.invokestatic 141, 3) := by decide +kernel
theorem dX9_step_21 : decode cX9_step 21 = .ok (.ifCond .eq 18, 3) := by decide +kernel
theorem dX9_step_24 : decode cX9_step 24 = .ok (.iload 6, 2) := by decide +kernel
theorem dX9_step_26 : decode cX9_step 26 = .ok (.i2l, 1) := by decide +kernel
theorem dX9_step_27 : decode cX9_step 27 = .ok (.ldc2_w 150, 3) := by decide +kernel
theorem dX9_step_30 : decode cX9_step 30 = .ok (.ldc2_w 152, 3) := by decide +kernel
theorem dX9_step_33 : decode cX9_step 33 = .ok (.invokestatic 77, 3) := by decide +kernel
theorem dX9_step_36 : decode cX9_step 36 = .ok (.ifCond .ne 6, 3) := by decide +kernel
theorem dX9_step_39 : decode cX9_step 39 = .ok (.bipush (-2), 2) := by decide +kernel
theorem dX9_step_41 : decode cX9_step 41 = .ok (.ireturn, 1) := by decide +kernel
theorem dX9_step_42 : decode cX9_step 42 = .ok (.aload_n 0, 1) := by decide +kernel
theorem dX9_step_43 : decode cX9_step 43 = .ok (.getfield 62, 3) := by decide +kernel
theorem dX9_step_46 : decode cX9_step 46 = .ok (.iload_n 1, 1) := by decide +kernel
theorem dX9_step_47 : decode cX9_step 47 = .ok (.iaload, 1) := by decide +kernel
theorem dX9_step_48 : decode cX9_step 48 = .ok (.bipush 16, 2) := by decide +kernel
theorem dX9_step_50 : decode cX9_step 50 = .ok (.if_icmp .ne 6, 3) := by decide +kernel
theorem dX9_step_53 : decode cX9_step 53 = .ok (.bipush (-3), 2) := by decide +kernel
theorem dX9_step_55 : decode cX9_step 55 = .ok (.ireturn, 1) := by decide +kernel
theorem dX9_step_56 : decode cX9_step 56 = .ok (.iconst 5, 1) := by decide +kernel
theorem dX9_step_57 : decode cX9_step 57 = .ok (.bipush 16, 2) := by decide +kernel
theorem dX9_step_59 : decode cX9_step 59 = .ok (.iload_n 1, 1) := by decide +kernel
theorem dX9_step_60 : decode cX9_step 60 = .ok (.imul, 1) := by decide +kernel
theorem dX9_step_61 : decode cX9_step 61 = .ok (.aload_n 0, 1) := by decide +kernel
theorem dX9_step_62 : decode cX9_step 62 = .ok (.getfield 62, 3) := by decide +kernel
theorem dX9_step_65 : decode cX9_step 65 = .ok (.iload_n 1, 1) := by decide +kernel
theorem dX9_step_66 : decode cX9_step 66 = .ok (.iaload, 1) := by decide +kernel
theorem dX9_step_67 : decode cX9_step 67 = .ok (.iadd, 1) := by decide +kernel
theorem dX9_step_68 : decode cX9_step 68 = .ok (.imul, 1) := by decide +kernel
theorem dX9_step_69 : decode cX9_step 69 = .ok (.istore 7, 2) := by decide +kernel
theorem dX9_step_71 : decode cX9_step 71 = .ok (.aload_n 0, 1) := by decide +kernel
theorem dX9_step_72 : decode cX9_step 72 = .ok (.getfield 65, 3) := by decide +kernel
theorem dX9_step_75 : decode cX9_step 75 = .ok (.iload 7, 2) := by decide +kernel
theorem dX9_step_77 : decode cX9_step 77 = .ok (.iload_n 2, 1) := by decide +kernel
theorem dX9_step_78 : decode cX9_step 78 = .ok (.iastore, 1) := by decide +kernel
theorem dX9_step_79 : decode cX9_step 79 = .ok (.aload_n 0, 1) := by decide +kernel
theorem dX9_step_80 : decode cX9_step 80 = .ok (.getfield 65, 3) := by decide +kernel
theorem dX9_step_83 : decode cX9_step 83 = .ok (.iload 7, 2) := by decide +kernel
theorem dX9_step_85 : decode cX9_step 85 = .ok (.iconst 1, 1) := by decide +kernel
theorem dX9_step_86 : decode cX9_step 86 = .ok (.iadd, 1) := by decide +kernel
theorem dX9_step_87 : decode cX9_step 87 = .ok (.iload_n 3, 1) := by decide +kernel
theorem dX9_step_88 : decode cX9_step 88 = .ok (.iastore, 1) := by decide +kernel
theorem dX9_step_89 : decode cX9_step 89 = .ok (.aload_n 0, 1) := by decide +kernel
theorem dX9_step_90 : decode cX9_step 90 = .ok (.getfield 65, 3) := by decide +kernel
theorem dX9_step_93 : decode cX9_step 93 = .ok (.iload 7, 2) := by decide +kernel
theorem dX9_step_95 : decode cX9_step 95 = .ok (.iconst 2, 1) := by decide +kernel
theorem dX9_step_96 : decode cX9_step 96 = .ok (.iadd, 1) := by decide +kernel
theorem dX9_step_97 : decode cX9_step 97 = .ok (.iload 4, 2) := by decide +kernel
theorem dX9_step_99 : decode cX9_step 99 = .ok (.iastore, 1) := by decide +kernel
theorem dX9_step_100 : decode cX9_step 100 = .ok (.aload_n 0, 1) := by decide +kernel
theorem dX9_step_101 : decode cX9_step 101 = .ok (.getfield 65, 3) := by decide +kernel
theorem dX9_step_104 : decode cX9_step 104 = .ok (.iload 7, 2) := by decide +kernel
theorem dX9_step_106 : decode cX9_step 106 = .ok (.iconst 3, 1) := by decide +kernel
theorem dX9_step_107 : decode cX9_step 107 = .ok (.iadd, 1) := by decide +kernel
theorem dX9_step_108 : decode cX9_step 108 = .ok (.iload 5, 2) := by decide +kernel
theorem dX9_step_110 : decode cX9_step 110 = .ok (.iastore, 1) := by decide +kernel
theorem dX9_step_111 : decode cX9_step 111 = .ok (.aload_n 0, 1) := by decide +kernel
theorem dX9_step_112 : decode cX9_step 112 = .ok (.getfield 65, 3) := by decide +kernel
theorem dX9_step_115 : decode cX9_step 115 = .ok (.iload 7, 2) := by decide +kernel
theorem dX9_step_117 : decode cX9_step 117 = .ok (.iconst 4, 1) := by decide +kernel
theorem dX9_step_118 : decode cX9_step 118 = .ok (.iadd, 1) := by decide +kernel
theorem dX9_step_119 : decode cX9_step 119 = .ok (.iload 6, 2) := by decide +kernel
theorem dX9_step_121 : decode cX9_step 121 = .ok (.iastore, 1) := by decide +kernel
theorem dX9_step_122 : decode cX9_step 122 = .ok (.aload_n 0, 1) := by decide +kernel
theorem dX9_step_123 : decode cX9_step 123 = .ok (.getfield 62, 3) := by decide +kernel
theorem dX9_step_126 : decode cX9_step 126 = .ok (.iload_n 1, 1) := by decide +kernel
theorem dX9_step_127 : decode cX9_step 127 = .ok (.dup2, 1) := by decide +kernel
theorem dX9_step_128 : decode cX9_step 128 = .ok (.iaload, 1) := by decide +kernel
theorem dX9_step_129 : decode cX9_step 129 = .ok (.iconst 1, 1) := by decide +kernel
theorem dX9_step_130 : decode cX9_step 130 = .ok (.iadd, 1) := by decide +kernel
theorem dX9_step_131 : decode cX9_step 131 = .ok (.iastore, 1) := by decide +kernel
theorem dX9_step_132 : decode cX9_step 132 = .ok (.aload_n 0, 1) := by decide +kernel
theorem dX9_step_133 : decode cX9_step 133 = .ok (.getfield 62, 3) := by decide +kernel
theorem dX9_step_136 : decode cX9_step 136 = .ok (.iload_n 1, 1) := by decide +kernel
theorem dX9_step_137 : decode cX9_step 137 = .ok (.iaload, 1) := by decide +kernel
theorem dX9_step_138 : decode cX9_step 138 = .ok (.iconst 1, 1) := by decide +kernel
theorem dX9_step_139 : decode cX9_step 139 = .ok (.isub, 1) := by decide +kernel
theorem dX9_step_140 : decode cX9_step 140 = .ok (.ireturn, 1) := by decide +kernel
theorem dX9_clear_0 : decode cX9_clear 0 = .ok (.iload_n 1, 1) := by decide +kernel
theorem dX9_clear_1 : decode cX9_clear 1 = .ok (.i2l, 1) := by decide +kernel
theorem dX9_clear_2 : decode cX9_clear 2 = .ok (.lconst 0, 1) := by decide +kernel
theorem dX9_clear_3 : decode cX9_clear 3 = .ok (.ldc2_w 81, 3) := by decide +kernel
theorem dX9_clear_6 : decode cX9_clear 6 = .ok (.invokestatic 77, 3) := by decide +kernel
theorem dX9_clear_9 : decode cX9_clear 9 = .ok (.ifCond .ne 6, 3) := by decide +kernel
theorem dX9_clear_12 : decode cX9_clear 12 = .ok (.bipush (-2), 2) := by decide +kernel
theorem dX9_clear_14 : decode cX9_clear 14 = .ok (.ireturn, 1) := by decide +kernel
theorem dX9_clear_15 : decode cX9_clear 15 = .ok (.aload_n 0, 1) := by decide +kernel
theorem dX9_clear_16 : decode cX9_clear 16 = .ok (.getfield 62, 3) := by decide +kernel
theorem dX9_clear_19 : decode cX9_clear 19 = .ok (.iload_n 1, 1) := by decide +kernel
theorem dX9_clear_20 : decode cX9_clear 20 = .ok (.iaload, 1) := by decide +kernel
theorem dX9_clear_21 : decode cX9_clear 21 = .ok (.istore_n 2, 1) := by decide +kernel
theorem dX9_clear_22 : decode cX9_clear 22 = .ok (.aload_n 0, 1) := by decide +kernel
theorem dX9_clear_23 : decode cX9_clear 23 = .ok (.getfield 62, 3) := by decide +kernel
theorem dX9_clear_26 : decode cX9_clear 26 = .ok (.iload_n 1, 1) := by decide +kernel
theorem dX9_clear_27 : decode cX9_clear 27 = .ok (.iconst 0, 1) := by decide +kernel
theorem dX9_clear_28 : decode cX9_clear 28 = .ok (.iastore, 1) := by decide +kernel
theorem dX9_clear_29 : decode cX9_clear 29 = .ok (.iload_n 2, 1) := by decide +kernel
theorem dX9_clear_30 : decode cX9_clear 30 = .ok (.ireturn, 1) := by decide +kernel
theorem dX9_goes_0 : decode cX9_goes 0 = .ok (.iconst 5, 1) := by decide +kernel
theorem dX9_goes_1 : decode cX9_goes 1 = .ok (.bipush 16, 2) := by decide +kernel
theorem dX9_goes_3 : decode cX9_goes 3 = .ok (.iload_n 1, 1) := by decide +kernel
theorem dX9_goes_4 : decode cX9_goes 4 = .ok (.imul, 1) := by decide +kernel
theorem dX9_goes_5 : decode cX9_goes 5 = .ok (.iload_n 2, 1) := by decide +kernel
theorem dX9_goes_6 : decode cX9_goes 6 = .ok (.iadd, 1) := by decide +kernel
theorem dX9_goes_7 : decode cX9_goes 7 = .ok (.imul, 1) := by decide +kernel
theorem dX9_goes_8 : decode cX9_goes 8 = .ok (.istore_n 3, 1) := by decide +kernel
theorem dX9_goes_9 : decode cX9_goes 9 = .ok (.aload_n 0, 1) := by decide +kernel
theorem dX9_goes_10 : decode cX9_goes 10 = .ok (.aload_n 0, 1) := by decide +kernel
theorem dX9_goes_11 : decode cX9_goes 11 = .ok (.getfield 65, 3) := by decide +kernel
theorem dX9_goes_14 : decode cX9_goes 14 = .ok (.iload_n 3, 1) := by decide +kernel
theorem dX9_goes_15 : decode cX9_goes 15 = .ok (.iaload, 1) := by decide +kernel
theorem dX9_goes_16 : decode cX9_goes 16 = .ok (.aload_n 0, 1) := by decide +kernel
theorem dX9_goes_17 : decode cX9_goes 17 = .ok (.getfield 65, 3) := by decide +kernel
theorem dX9_goes_20 : decode cX9_goes 20 = .ok (.iload_n 3, 1) := by decide +kernel
theorem dX9_goes_21 : decode cX9_goes 21 = .ok (.iconst 1, 1) := by decide +kernel
theorem dX9_goes_22 : decode cX9_goes 22 = .ok (.iadd, 1) := by decide +kernel
theorem dX9_goes_23 : decode cX9_goes 23 = .ok (.iaload, 1) := by decide +kernel
theorem dX9_goes_24 : decode cX9_goes 24 = .ok (.aload_n 0, 1) := by decide +kernel
theorem dX9_goes_25 : decode cX9_goes 25 = .ok (.getfield 65, 3) := by decide +kernel
theorem dX9_goes_28 : decode cX9_goes 28 = .ok (.iload_n 3, 1) := by decide +kernel
theorem dX9_goes_29 : decode cX9_goes 29 = .ok (.iconst 2, 1) := by decide +kernel
theorem dX9_goes_30 : decode cX9_goes 30 = .ok (.iadd, 1) := by decide +kernel
theorem dX9_goes_31 : decode cX9_goes 31 = .ok (.iaload, 1) := by decide +kernel
theorem dX9_goes_32 : decode cX9_goes 32 = .ok (.aload_n 0, 1) := by decide +kernel
theorem dX9_goes_33 : decode cX9_goes 33 = .ok (.getfield 65, 3) := by decide +kernel
theorem dX9_goes_36 : decode cX9_goes 36 = .ok (.iload_n 3, 1) := by decide +kernel
theorem dX9_goes_37 : decode cX9_goes 37 = .ok (.iconst 3, 1) := by decide +kernel
theorem dX9_goes_38 : decode cX9_goes 38 = .ok (.iadd, 1) := by decide +kernel
theorem dX9_goes_39 : decode cX9_goes 39 = .ok (.iaload, 1) := by decide +kernel
theorem dX9_goes_40 : decode cX9_goes 40 = .ok (.invokevirtual 147, 3) := by decide +kernel
theorem dX9_goes_43 : decode cX9_goes 43 = .ok (.aload_n 0, 1) := by decide +kernel
theorem dX9_goes_44 : decode cX9_goes 44 = .ok (.getfield 87, 3) := by decide +kernel
theorem dX9_goes_47 : decode cX9_goes 47 = .ok (.ifCond .ne 30, 3) := by decide +kernel
theorem dX9_goes_50 : decode cX9_goes 50 = .ok (.aload_n 0, 1) := by decide +kernel
theorem dX9_goes_51 : decode cX9_goes 51 = .ok (.dup, 1) := by decide +kernel
theorem dX9_goes_52 : decode cX9_goes 52 = .ok (.getfield 154, 3) := by decide +kernel
theorem dX9_goes_55 : decode cX9_goes 55 = .ok (.iconst 1, 1) := by decide +kernel
theorem dX9_goes_56 : decode cX9_goes 56 = .ok (.iadd, 1) := by decide +kernel
theorem dX9_goes_57 : decode cX9_goes 57 = .ok (.putfield 154, 3) := by decide +kernel
theorem dX9_goes_60 : decode cX9_goes 60 = .ok (.aload_n 0, 1) := by decide +kernel
theorem dX9_goes_61 : decode cX9_goes 61 = .ok (.dup, 1) := by decide +kernel
theorem dX9_goes_62 : decode cX9_goes 62 = .ok (.getfield 157, 3) := by decide +kernel
theorem dX9_goes_65 : decode cX9_goes 65 = .ok (.aload_n 0, 1) := by decide +kernel
theorem dX9_goes_66 : decode cX9_goes 66 = .ok (.getfield 90, 3) := by decide +kernel
theorem dX9_goes_69 : decode cX9_goes 69 = .ok (.i2l, 1) := by decide +kernel
theorem dX9_goes_70 : decode cX9_goes 70 = .ok (.ladd, 1) := by decide +kernel
theorem dX9_goes_71 : decode cX9_goes 71 = .ok (.putfield 157, 3) := by decide +kernel
theorem dX9_goes_74 : decode cX9_goes 74 = .ok (.goto 26, 3) := by decide +kernel
theorem dX9_goes_77 : decode cX9_goes 77 = .ok (.aload_n 0, 1) := by decide +kernel
theorem dX9_goes_78 : decode cX9_goes 78 = .ok (.dup, 1) := by decide +kernel
theorem dX9_goes_79 : decode cX9_goes 79 = .ok (.getfield 161, 3) := by decide +kernel
theorem dX9_goes_82 : decode cX9_goes 82 = .ok (.iconst 1, 1) := by decide +kernel
theorem dX9_goes_83 : decode cX9_goes 83 = .ok (.iadd, 1) := by decide +kernel
theorem dX9_goes_84 : decode cX9_goes 84 = .ok (.putfield 161, 3) := by decide +kernel
theorem dX9_goes_87 : decode cX9_goes 87 = .ok (.aload_n 0, 1) := by decide +kernel
theorem dX9_goes_88 : decode cX9_goes 88 = .ok (.aload_n 0, 1) := by decide +kernel
theorem dX9_goes_89 : decode cX9_goes 89 = .ok (.getfield 87, 3) := by decide +kernel
theorem dX9_goes_92 : decode cX9_goes 92 = .ok (.putfield 164, 3) := by decide +kernel
theorem dX9_goes_95 : decode cX9_goes 95 = .ok (.aload_n 0, 1) := by decide +kernel
theorem dX9_goes_96 : decode cX9_goes 96 = .ok (.iload_n 2, 1) := by decide +kernel
theorem dX9_goes_97 : decode cX9_goes 97 = .ok (.putfield 68, 3) := by decide +kernel
theorem dX9_goes_100 : decode cX9_goes 100 = .ok (.return_, 1) := by decide +kernel
theorem dX9_run_0 : decode cX9_run 0 = .ok (.iload_n 1, 1) := by decide +kernel
theorem dX9_run_1 : decode cX9_run 1 = .ok (.i2l, 1) := by decide +kernel
theorem dX9_run_2 : decode cX9_run 2 = .ok (.lconst 0, 1) := by decide +kernel
theorem dX9_run_3 : decode cX9_run 3 = .ok (.ldc2_w 81, 3) := by decide +kernel
theorem dX9_run_6 : decode cX9_run 6 = .ok (.invokestatic 77, 3) := by decide +kernel
theorem dX9_run_9 : decode cX9_run 9 = .ok (.ifCond .eq 13, 3) := by decide +kernel
theorem dX9_run_12 : decode cX9_run 12 = .ok (.iload_n 2, 1) := by decide +kernel
theorem dX9_run_13 : decode cX9_run 13 = .ok (.i2l, 1) := by decide +kernel
theorem dX9_run_14 : decode cX9_run 14 = .ok (.lconst 0, 1) := by decide +kernel
theorem dX9_run_15 : decode cX9_run 15 = .ok (.lconst 1, 1) := by decide +kernel
theorem dX9_run_16 : decode cX9_run 16 = .ok (.invokestatic 77, 3) := by decide +kernel
theorem dX9_run_19 : decode cX9_run 19 = .ok (.ifCond .ne 6, 3) := by decide +kernel
theorem dX9_run_22 : decode cX9_run 22 = .ok (.bipush (-2), 2) := by decide +kernel
theorem dX9_run_24 : decode cX9_run 24 = .ok (.ireturn, 1) := by decide +kernel
theorem dX9_run_25 : decode cX9_run 25 = .ok (.aload_n 0, 1) := by decide +kernel
theorem dX9_run_26 : decode cX9_run 26 = .ok (.iconst 0, 1) := by decide +kernel
theorem dX9_run_27 : decode cX9_run 27 = .ok (.putfield 154, 3) := by decide +kernel
theorem dX9_run_30 : decode cX9_run 30 = .ok (.aload_n 0, 1) := by decide +kernel
theorem dX9_run_31 : decode cX9_run 31 = .ok (.iconst 0, 1) := by decide +kernel
theorem dX9_run_32 : decode cX9_run 32 = .ok (.putfield 161, 3) := by decide +kernel
theorem dX9_run_35 : decode cX9_run 35 = .ok (.aload_n 0, 1) := by decide +kernel
theorem dX9_run_36 : decode cX9_run 36 = .ok (.iconst 0, 1) := by decide +kernel
theorem dX9_run_37 : decode cX9_run 37 = .ok (.putfield 164, 3) := by decide +kernel
theorem dX9_run_40 : decode cX9_run 40 = .ok (.aload_n 0, 1) := by decide +kernel
theorem dX9_run_41 : decode cX9_run 41 = .ok (.iconst (-1), 1) := by decide +kernel
theorem dX9_run_42 : decode cX9_run 42 = .ok (.putfield 68, 3) := by decide +kernel
theorem dX9_run_45 : decode cX9_run 45 = .ok (.aload_n 0, 1) := by decide +kernel
theorem dX9_run_46 : decode cX9_run 46 = .ok (.iconst 0, 1) := by decide +kernel
theorem dX9_run_47 : decode cX9_run 47 = .ok (.putfield 167, 3) := by decide +kernel
theorem dX9_run_50 : decode cX9_run 50 = .ok (.aload_n 0, 1) := by decide +kernel
theorem dX9_run_51 : decode cX9_run 51 = .ok (.lconst 0, 1) := by decide +kernel
theorem dX9_run_52 : decode cX9_run 52 = .ok (.putfield 157, 3) := by decide +kernel
theorem dX9_run_55 : decode cX9_run 55 = .ok (.iconst 1, 1) := by decide +kernel
theorem dX9_run_56 : decode cX9_run 56 = .ok (.istore_n 3, 1) := by decide +kernel
theorem dX9_run_57 : decode cX9_run 57 = .ok (.iconst 0, 1) := by decide +kernel
theorem dX9_run_58 : decode cX9_run 58 = .ok (.istore 4, 2) := by decide +kernel
theorem dX9_run_60 : decode cX9_run 60 = .ok (.iload 4, 2) := by decide +kernel
theorem dX9_run_62 : decode cX9_run 62 = .ok (.aload_n 0, 1) := by decide +kernel
theorem dX9_run_63 : decode cX9_run 63 = .ok (.getfield 62, 3) := by decide +kernel
theorem dX9_run_66 : decode cX9_run 66 = .ok (.iload_n 1, 1) := by decide +kernel
theorem dX9_run_67 : decode cX9_run 67 = .ok (.iaload, 1) := by decide +kernel
theorem dX9_run_68 : decode cX9_run 68 = .ok (.if_icmp .ge 99, 3) := by decide +kernel
theorem dX9_run_71 : decode cX9_run 71 = .ok (.iload_n 3, 1) := by decide +kernel
theorem dX9_run_72 : decode cX9_run 72 = .ok (.ifCond .eq 95, 3) := by decide +kernel
theorem dX9_run_75 : decode cX9_run 75 = .ok (.aload_n 0, 1) := by decide +kernel
theorem dX9_run_76 : decode cX9_run 76 = .ok (.iload_n 1, 1) := by decide +kernel
theorem dX9_run_77 : decode cX9_run 77 = .ok (.iload 4, 2) := by decide +kernel
theorem dX9_run_79 : decode cX9_run 79 = .ok (.invokevirtual 170, 3) := by decide +kernel
theorem dX9_run_82 : decode cX9_run 82 = .ok (.aload_n 0, 1) := by decide +kernel
theorem dX9_run_83 : decode cX9_run 83 = .ok (.getfield 87, 3) := by decide +kernel
theorem dX9_run_86 : decode cX9_run 86 = .ok (.ifCond .eq 75, 3) := by decide +kernel
theorem dX9_run_89 : decode cX9_run 89 = .ok (.aload_n 0, 1) := by decide +kernel
theorem dX9_run_90 : decode cX9_run 90 = .ok (.getfield 65, 3) := by decide +kernel
theorem dX9_run_93 : decode cX9_run 93 = .ok (.iconst 5, 1) := by decide +kernel
theorem dX9_run_94 : decode cX9_run 94 = .ok (.bipush 16, 2) := by decide +kernel
theorem dX9_run_96 : decode cX9_run 96 = .ok (.iload_n 1, 1) := by decide +kernel
theorem dX9_run_97 : decode cX9_run 97 = .ok (.imul, 1) := by decide +kernel
theorem dX9_run_98 : decode cX9_run 98 = .ok (.iload 4, 2) := by decide +kernel
theorem dX9_run_100 : decode cX9_run 100 = .ok (.iadd, 1) := by decide +kernel
theorem dX9_run_101 : decode cX9_run 101 = .ok (.imul, 1) := by decide +kernel
theorem dX9_run_102 : decode cX9_run 102 = .ok (.iconst 4, 1) := by decide +kernel
theorem dX9_run_103 : decode cX9_run 103 = .ok (.iadd, 1) := by decide +kernel
theorem dX9_run_104 : decode cX9_run 104 = .ok (.iaload, 1) := by decide +kernel
theorem dX9_run_105 : decode cX9_run 105 = .ok (.istore 5, 2) := by decide +kernel
theorem dX9_run_107 : decode cX9_run 107 = .ok (.iload 5, 2) := by decide +kernel
theorem dX9_run_109 : decode cX9_run 109 = .ok (.i2l, 1) := by decide +kernel
theorem dX9_run_110 : decode cX9_run 110 = .ok (.lconst 0, 1) := by decide +kernel
theorem dX9_run_111 : decode cX9_run 111 = .ok (.aload_n 0, 1) := by decide +kernel
theorem dX9_run_112 : decode cX9_run 112 = .ok (.getfield 62, 3) := by decide +kernel
theorem dX9_run_115 : decode cX9_run 115 = .ok (.iload_n 1, 1) := by decide +kernel
theorem dX9_run_116 : decode cX9_run 116 = .ok (.iaload, 1) := by decide +kernel
theorem dX9_run_117 : decode cX9_run 117 = .ok (.iconst 1, 1) := by decide +kernel
theorem dX9_run_118 : decode cX9_run 118 = .ok (.isub, 1) := by decide +kernel
theorem dX9_run_119 : decode cX9_run 119 = .ok (.i2l, 1) := by decide +kernel
theorem dX9_run_120 : decode cX9_run 120 = .ok (.invokestatic 77, 3) := by decide +kernel
theorem dX9_run_123 : decode cX9_run 123 = .ok (.ifCond .eq 20, 3) := by decide +kernel
theorem dX9_run_126 : decode cX9_run 126 = .ok (.aload_n 0, 1) := by decide +kernel
theorem dX9_run_127 : decode cX9_run 127 = .ok (.dup, 1) := by decide +kernel
theorem dX9_run_128 : decode cX9_run 128 = .ok (.getfield 167, 3) := by decide +kernel
theorem dX9_run_131 : decode cX9_run 131 = .ok (.iconst 1, 1) := by decide +kernel
theorem dX9_run_132 : decode cX9_run 132 = .ok (.iadd, 1) := by decide +kernel
theorem dX9_run_133 : decode cX9_run 133 = .ok (.putfield 167, 3) := by decide +kernel
theorem dX9_run_136 : decode cX9_run 136 = .ok (.aload_n 0, 1) := by decide +kernel
theorem dX9_run_137 : decode cX9_run 137 = .ok (.iload_n 1, 1) := by decide +kernel
theorem dX9_run_138 : decode cX9_run 138 = .ok (.iload 5, 2) := by decide +kernel
theorem dX9_run_140 : decode cX9_run 140 = .ok (.invokevirtual 170, 3) := by decide +kernel
theorem dX9_run_143 : decode cX9_run 143 = .ok (.aload_n 0, 1) := by decide +kernel
theorem dX9_run_144 : decode cX9_run 144 = .ok (.getfield 87, 3) := by decide +kernel
theorem dX9_run_147 : decode cX9_run 147 = .ok (.ifCond .eq 8, 3) := by decide +kernel
theorem dX9_run_150 : decode cX9_run 150 = .ok (.iload_n 2, 1) := by decide +kernel
theorem dX9_run_151 : decode cX9_run 151 = .ok (.iconst 1, 1) := by decide +kernel
theorem dX9_run_152 : decode cX9_run 152 = .ok (.if_icmp .ne 7, 3) := by decide +kernel
theorem dX9_run_155 : decode cX9_run 155 = .ok (.iconst 1, 1) := by decide +kernel
theorem dX9_run_156 : decode cX9_run 156 = .ok (.goto 4, 3) := by decide +kernel
theorem dX9_run_159 : decode cX9_run 159 = .ok (.iconst 0, 1) := by decide +kernel
theorem dX9_run_160 : decode cX9_run 160 = .ok (.istore_n 3, 1) := by decide +kernel
theorem dX9_run_161 : decode cX9_run 161 = .ok (.iinc 4 1, 3) := by decide +kernel
theorem dX9_run_164 : decode cX9_run 164 = .ok (.goto (-104), 3) := by decide +kernel
theorem dX9_run_167 : decode cX9_run 167 = .ok (.aload_n 0, 1) := by decide +kernel
theorem dX9_run_168 : decode cX9_run 168 = .ok (.getfield 154, 3) := by decide +kernel
theorem dX9_run_171 : decode cX9_run 171 = .ok (.ireturn, 1) := by decide +kernel
theorem dX9_told_0 : decode cX9_told 0 = .ok (.iload_n 1, 1) := by decide +kernel
theorem dX9_told_1 : decode cX9_told 1 = .ok (.tableswitch 60 0 4 #[35, 40, 45, 50, 55], 35) := by decide +kernel
theorem dX9_told_36 : decode cX9_told 36 = .ok (.aload_n 0, 1) := by decide +kernel
theorem dX9_told_37 : decode cX9_told 37 = .ok (.getfield 154, 3) := by decide +kernel
theorem dX9_told_40 : decode cX9_told 40 = .ok (.ireturn, 1) := by decide +kernel
theorem dX9_told_41 : decode cX9_told 41 = .ok (.aload_n 0, 1) := by decide +kernel
theorem dX9_told_42 : decode cX9_told 42 = .ok (.getfield 161, 3) := by decide +kernel
theorem dX9_told_45 : decode cX9_told 45 = .ok (.ireturn, 1) := by decide +kernel
theorem dX9_told_46 : decode cX9_told 46 = .ok (.aload_n 0, 1) := by decide +kernel
theorem dX9_told_47 : decode cX9_told 47 = .ok (.getfield 164, 3) := by decide +kernel
theorem dX9_told_50 : decode cX9_told 50 = .ok (.ireturn, 1) := by decide +kernel
theorem dX9_told_51 : decode cX9_told 51 = .ok (.aload_n 0, 1) := by decide +kernel
theorem dX9_told_52 : decode cX9_told 52 = .ok (.getfield 68, 3) := by decide +kernel
theorem dX9_told_55 : decode cX9_told 55 = .ok (.ireturn, 1) := by decide +kernel
theorem dX9_told_56 : decode cX9_told 56 = .ok (.aload_n 0, 1) := by decide +kernel
theorem dX9_told_57 : decode cX9_told 57 = .ok (.getfield 167, 3) := by decide +kernel
theorem dX9_told_60 : decode cX9_told 60 = .ok (.ireturn, 1) := by decide +kernel
theorem dX9_told_61 : decode cX9_told 61 = .ok (.bipush (-2), 2) := by decide +kernel
theorem dX9_told_63 : decode cX9_told 63 = .ok (.ireturn, 1) := by decide +kernel
theorem dX9_sum_0 : decode cX9_sum 0 = .ok (.aload_n 0, 1) := by decide +kernel
theorem dX9_sum_1 : decode cX9_sum 1 = .ok (.getfield 157, 3) := by decide +kernel
theorem dX9_sum_4 : decode cX9_sum 4 = .ok (.lreturn, 1) := by decide +kernel
theorem dX9_tally_0 : decode cX9_tally 0 = .ok (.iload_n 1, 1) := by decide +kernel
theorem dX9_tally_1 : decode cX9_tally 1 = .ok (.i2l, 1) := by decide +kernel
theorem dX9_tally_2 : decode cX9_tally 2 = .ok (.lconst 1, 1) := by decide +kernel
theorem dX9_tally_3 : decode cX9_tally 3 = .ok (.ldc2_w 173, 3) := by decide +kernel
theorem dX9_tally_6 : decode cX9_tally 6 = .ok (.invokestatic 77, 3) := by decide +kernel
theorem dX9_tally_9 : decode cX9_tally 9 = .ok (.ifCond .eq 12, 3) := by decide +kernel
theorem dX9_tally_12 : decode cX9_tally 12 = .ok (.aload_n 0, 1) := by decide +kernel
theorem dX9_tally_13 : decode cX9_tally 13 = .ok (.getfield 72, 3) := by decide +kernel
theorem dX9_tally_16 : decode cX9_tally 16 = .ok (.iload_n 1, 1) := by decide +kernel
theorem dX9_tally_17 : decode cX9_tally 17 = .ok (.iaload, 1) := by decide +kernel
theorem dX9_tally_18 : decode cX9_tally 18 = .ok (.goto 5, 3) := by decide +kernel
theorem dX9_tally_21 : decode cX9_tally 21 = .ok (.bipush (-2), 2) := by decide +kernel
theorem dX9_tally_23 : decode cX9_tally 23 = .ok (.ireturn, 1) := by decide +kernel
theorem dX9_hangs_0 : decode cX9_hangs 0 = .ok (.iconst 0, 1) := by decide +kernel
theorem dX9_hangs_1 : decode cX9_hangs 1 = .ok (.istore_n 2, 1) := by decide +kernel
theorem dX9_hangs_2 : decode cX9_hangs 2 = .ok (.iconst 0, 1) := by decide +kernel
theorem dX9_hangs_3 : decode cX9_hangs 3 = .ok (.istore_n 3, 1) := by decide +kernel
theorem dX9_hangs_4 : decode cX9_hangs 4 = .ok (.iload_n 3, 1) := by decide +kernel
theorem dX9_hangs_5 : decode cX9_hangs 5 = .ok (.bipush 80, 2) := by decide +kernel
theorem dX9_hangs_7 : decode cX9_hangs 7 = .ok (.if_icmp .ge 50, 3) := by decide +kernel
theorem dX9_hangs_10 : decode cX9_hangs 10 = .ok (.iload_n 2, 1) := by decide +kernel
theorem dX9_hangs_11 : decode cX9_hangs 11 = .ok (.ifCond .ne 34, 3) := by decide +kernel
theorem dX9_hangs_14 : decode cX9_hangs 14 = .ok (.iload_n 1, 1) := by decide +kernel
theorem dX9_hangs_15 : decode cX9_hangs 15 = .ok (.iconst (-1), 1) := by decide +kernel
theorem dX9_hangs_16 : decode cX9_hangs 16 = .ok (.if_icmp .eq 33, 3) := by decide +kernel
theorem dX9_hangs_19 : decode cX9_hangs 19 = .ok (.aload_n 0, 1) := by decide +kernel
theorem dX9_hangs_20 : decode cX9_hangs 20 = .ok (.getfield 41, 3) := by decide +kernel
theorem dX9_hangs_23 : decode cX9_hangs 23 = .ok (.iload_n 3, 1) := by decide +kernel
theorem dX9_hangs_24 : decode cX9_hangs 24 = .ok (.bipush 20, 2) := by decide +kernel
theorem dX9_hangs_26 : decode cX9_hangs 26 = .ok (.idiv, 1) := by decide +kernel
theorem dX9_hangs_27 : decode cX9_hangs 27 = .ok (.iaload, 1) := by decide +kernel
theorem dX9_hangs_28 : decode cX9_hangs 28 = .ok (.iload_n 3, 1) := by decide +kernel
theorem dX9_hangs_29 : decode cX9_hangs 29 = .ok (.bipush 20, 2) := by decide +kernel
theorem dX9_hangs_31 : decode cX9_hangs 31 = .ok (.irem, 1) := by decide +kernel
theorem dX9_hangs_32 : decode cX9_hangs 32 = .ok (.if_icmp .le 17, 3) := by decide +kernel

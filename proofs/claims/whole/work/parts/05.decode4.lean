theorem dX9_hangs_35 : decode cX9_hangs 35 = .ok (.aload_n 0, 1) := by decide +kernel
theorem dX9_hangs_36 : decode cX9_hangs 36 = .ok (.getfield 47, 3) := by decide +kernel
theorem dX9_hangs_39 : decode cX9_hangs 39 = .ok (.iload_n 3, 1) := by decide +kernel
theorem dX9_hangs_40 : decode cX9_hangs 40 = .ok (.iaload, 1) := by decide +kernel
theorem dX9_hangs_41 : decode cX9_hangs 41 = .ok (.iload_n 1, 1) := by decide +kernel
theorem dX9_hangs_42 : decode cX9_hangs 42 = .ok (.if_icmp .ne 7, 3) := by decide +kernel
theorem dX9_hangs_45 : decode cX9_hangs 45 = .ok (.iconst 1, 1) := by decide +kernel
theorem dX9_hangs_46 : decode cX9_hangs 46 = .ok (.goto 4, 3) := by decide +kernel
theorem dX9_hangs_49 : decode cX9_hangs 49 = .ok (.iconst 0, 1) := by decide +kernel
theorem dX9_hangs_50 : decode cX9_hangs 50 = .ok (.istore_n 2, 1) := by decide +kernel
theorem dX9_hangs_51 : decode cX9_hangs 51 = .ok (.iinc 3 1, 3) := by decide +kernel
theorem dX9_hangs_54 : decode cX9_hangs 54 = .ok (.goto (-50), 3) := by decide +kernel
theorem dX9_hangs_57 : decode cX9_hangs 57 = .ok (.iload_n 2, 1) := by decide +kernel
theorem dX9_hangs_58 : decode cX9_hangs 58 = .ok (.ireturn, 1) := by decide +kernel
theorem dX9_stand_0 : decode cX9_stand 0 = .ok (.iload_n 1, 1) := by decide +kernel
theorem dX9_stand_1 : decode cX9_stand 1 = .ok (.i2l, 1) := by decide +kernel
theorem dX9_stand_2 : decode cX9_stand 2 = .ok (.lconst 0, 1) := by decide +kernel
theorem dX9_stand_3 : decode cX9_stand 3 = .ok (.ldc2_w 81, 3) := by decide +kernel
theorem dX9_stand_6 : decode cX9_stand 6 = .ok (.invokestatic 77, 3) := by decide +kernel
theorem dX9_stand_9 : decode cX9_stand 9 = .ok (.ifCond .eq 15, 3) := by decide +kernel
theorem dX9_stand_12 : decode cX9_stand 12 = .ok (.iload_n 2, 1) := by decide +kernel
theorem dX9_stand_13 : decode cX9_stand 13 = .ok (.i2l, 1) := by decide +kernel
theorem dX9_stand_14 : decode cX9_stand 14 = .ok (.lconst 0, 1) := by decide +kernel
theorem dX9_stand_15 : decode cX9_stand 15 = .ok (.ldc2_w 173, 3) := by decide +kernel
theorem dX9_stand_18 : decode cX9_stand 18 = .ok (.invokestatic 77, 3) := by decide +kernel
theorem dX9_stand_21 : decode cX9_stand 21 = .ok (.ifCond .ne 6, 3) := by decide +kernel
theorem dX9_stand_24 : decode cX9_stand 24 = .ok (.ldc 175, 2) := by decide +kernel
theorem dX9_stand_26 : decode cX9_stand 26 = .ok (.ireturn, 1) := by decide +kernel
theorem dX9_stand_27 : decode cX9_stand 27 = .ok (.aload_n 0, 1) := by decide +kernel
theorem dX9_stand_28 : decode cX9_stand 28 = .ok (.getfield 7, 3) := by decide +kernel
theorem dX9_stand_31 : decode cX9_stand 31 = .ok (.iload_n 1, 1) := by decide +kernel
theorem dX9_stand_32 : decode cX9_stand 32 = .ok (.baload, 1) := by decide +kernel
theorem dX9_stand_33 : decode cX9_stand 33 = .ok (.ifCond .ne 5, 3) := by decide +kernel
theorem dX9_stand_36 : decode cX9_stand 36 = .ok (.iconst 0, 1) := by decide +kernel
theorem dX9_stand_37 : decode cX9_stand 37 = .ok (.ireturn, 1) := by decide +kernel
theorem dX9_stand_38 : decode cX9_stand 38 = .ok (.aload_n 0, 1) := by decide +kernel
theorem dX9_stand_39 : decode cX9_stand 39 = .ok (.getfield 17, 3) := by decide +kernel
theorem dX9_stand_42 : decode cX9_stand 42 = .ok (.iconst 2, 1) := by decide +kernel
theorem dX9_stand_43 : decode cX9_stand 43 = .ok (.iload_n 1, 1) := by decide +kernel
theorem dX9_stand_44 : decode cX9_stand 44 = .ok (.imul, 1) := by decide +kernel
theorem dX9_stand_45 : decode cX9_stand 45 = .ok (.iload_n 2, 1) := by decide +kernel
theorem dX9_stand_46 : decode cX9_stand 46 = .ok (.iconst 1, 1) := by decide +kernel
theorem dX9_stand_47 : decode cX9_stand 47 = .ok (.iand, 1) := by decide +kernel
theorem dX9_stand_48 : decode cX9_stand 48 = .ok (.iadd, 1) := by decide +kernel
theorem dX9_stand_49 : decode cX9_stand 49 = .ok (.iaload, 1) := by decide +kernel
theorem dX9_stand_50 : decode cX9_stand 50 = .ok (.istore_n 3, 1) := by decide +kernel
theorem dX9_stand_51 : decode cX9_stand 51 = .ok (.iload_n 2, 1) := by decide +kernel
theorem dX9_stand_52 : decode cX9_stand 52 = .ok (.tableswitch 129 0 6 #[44, 46, 53, 53, 69, 69, 85], 44) := by decide +kernel
theorem dX9_stand_96 : decode cX9_stand 96 = .ok (.iconst 1, 1) := by decide +kernel
theorem dX9_stand_97 : decode cX9_stand 97 = .ok (.ireturn, 1) := by decide +kernel
theorem dX9_stand_98 : decode cX9_stand 98 = .ok (.aload_n 0, 1) := by decide +kernel
theorem dX9_stand_99 : decode cX9_stand 99 = .ok (.getfield 13, 3) := by decide +kernel
theorem dX9_stand_102 : decode cX9_stand 102 = .ok (.iload_n 1, 1) := by decide +kernel
theorem dX9_stand_103 : decode cX9_stand 103 = .ok (.iaload, 1) := by decide +kernel
theorem dX9_stand_104 : decode cX9_stand 104 = .ok (.ireturn, 1) := by decide +kernel
theorem dX9_stand_105 : decode cX9_stand 105 = .ok (.iload_n 3, 1) := by decide +kernel
theorem dX9_stand_106 : decode cX9_stand 106 = .ok (.iconst (-1), 1) := by decide +kernel
theorem dX9_stand_107 : decode cX9_stand 107 = .ok (.if_icmp .ne 7, 3) := by decide +kernel
theorem dX9_stand_110 : decode cX9_stand 110 = .ok (.iconst 0, 1) := by decide +kernel
theorem dX9_stand_111 : decode cX9_stand 111 = .ok (.goto 9, 3) := by decide +kernel
theorem dX9_stand_114 : decode cX9_stand 114 = .ok (.aload_n 0, 1) := by decide +kernel
theorem dX9_stand_115 : decode cX9_stand 115 = .ok (.getfield 26, 3) := by decide +kernel
theorem dX9_stand_118 : decode cX9_stand 118 = .ok (.iload_n 3, 1) := by decide +kernel
theorem dX9_stand_119 : decode cX9_stand 119 = .ok (.iaload, 1) := by decide +kernel
theorem dX9_stand_120 : decode cX9_stand 120 = .ok (.ireturn, 1) := by decide +kernel
theorem dX9_stand_121 : decode cX9_stand 121 = .ok (.iload_n 3, 1) := by decide +kernel
theorem dX9_stand_122 : decode cX9_stand 122 = .ok (.iconst (-1), 1) := by decide +kernel
theorem dX9_stand_123 : decode cX9_stand 123 = .ok (.if_icmp .ne 7, 3) := by decide +kernel
theorem dX9_stand_126 : decode cX9_stand 126 = .ok (.iconst 0, 1) := by decide +kernel
theorem dX9_stand_127 : decode cX9_stand 127 = .ok (.goto 9, 3) := by decide +kernel
theorem dX9_stand_130 : decode cX9_stand 130 = .ok (.aload_n 0, 1) := by decide +kernel
theorem dX9_stand_131 : decode cX9_stand 131 = .ok (.getfield 29, 3) := by decide +kernel
theorem dX9_stand_134 : decode cX9_stand 134 = .ok (.iload_n 3, 1) := by decide +kernel
theorem dX9_stand_135 : decode cX9_stand 135 = .ok (.iaload, 1) := by decide +kernel
theorem dX9_stand_136 : decode cX9_stand 136 = .ok (.ireturn, 1) := by decide +kernel
theorem dX9_stand_137 : decode cX9_stand 137 = .ok (.aload_n 0, 1) := by decide +kernel
theorem dX9_stand_138 : decode cX9_stand 138 = .ok (.aload_n 0, 1) := by decide +kernel
theorem dX9_stand_139 : decode cX9_stand 139 = .ok (.getfield 17, 3) := by decide +kernel
theorem dX9_stand_142 : decode cX9_stand 142 = .ok (.iconst 2, 1) := by decide +kernel
theorem dX9_stand_143 : decode cX9_stand 143 = .ok (.iload_n 1, 1) := by decide +kernel
theorem dX9_stand_144 : decode cX9_stand 144 = .ok (.imul, 1) := by decide +kernel
theorem dX9_stand_145 : decode cX9_stand 145 = .ok (.iaload, 1) := by decide +kernel
theorem dX9_stand_146 : decode cX9_stand 146 = .ok (.invokevirtual 176, 3) := by decide +kernel
theorem dX9_stand_149 : decode cX9_stand 149 = .ok (.ifCond .eq 7, 3) := by decide +kernel
theorem dX9_stand_152 : decode cX9_stand 152 = .ok (.iconst 1, 1) := by decide +kernel
theorem dX9_stand_153 : decode cX9_stand 153 = .ok (.goto 4, 3) := by decide +kernel
theorem dX9_stand_156 : decode cX9_stand 156 = .ok (.iconst 0, 1) := by decide +kernel
theorem dX9_stand_157 : decode cX9_stand 157 = .ok (.aload_n 0, 1) := by decide +kernel
theorem dX9_stand_158 : decode cX9_stand 158 = .ok (.aload_n 0, 1) := by decide +kernel
theorem dX9_stand_159 : decode cX9_stand 159 = .ok (.getfield 17, 3) := by decide +kernel
theorem dX9_stand_162 : decode cX9_stand 162 = .ok (.iconst 2, 1) := by decide +kernel
theorem dX9_stand_163 : decode cX9_stand 163 = .ok (.iload_n 1, 1) := by decide +kernel
theorem dX9_stand_164 : decode cX9_stand 164 = .ok (.imul, 1) := by decide +kernel
theorem dX9_stand_165 : decode cX9_stand 165 = .ok (.iconst 1, 1) := by decide +kernel
theorem dX9_stand_166 : decode cX9_stand 166 = .ok (.iadd, 1) := by decide +kernel
theorem dX9_stand_167 : decode cX9_stand 167 = .ok (.iaload, 1) := by decide +kernel
theorem dX9_stand_168 : decode cX9_stand 168 = .ok (.invokevirtual 176, 3) := by decide +kernel
theorem dX9_stand_171 : decode cX9_stand 171 = .ok (.ifCond .eq 7, 3) := by decide +kernel
theorem dX9_stand_174 : decode cX9_stand 174 = .ok (.iconst 2, 1) := by decide +kernel
theorem dX9_stand_175 : decode cX9_stand 175 = .ok (.goto 4, 3) := by decide +kernel
theorem dX9_stand_178 : decode cX9_stand 178 = .ok (.iconst 0, 1) := by decide +kernel
theorem dX9_stand_179 : decode cX9_stand 179 = .ok (.iadd, 1) := by decide +kernel
theorem dX9_stand_180 : decode cX9_stand 180 = .ok (.ireturn, 1) := by decide +kernel
theorem dX9_stand_181 : decode cX9_stand 181 = .ok (.aload_n 0, 1) := by decide +kernel
theorem dX9_stand_182 : decode cX9_stand 182 = .ok (.getfield 20, 3) := by decide +kernel
theorem dX9_stand_185 : decode cX9_stand 185 = .ok (.iload_n 1, 1) := by decide +kernel
theorem dX9_stand_186 : decode cX9_stand 186 = .ok (.iaload, 1) := by decide +kernel
theorem dX9_stand_187 : decode cX9_stand 187 = .ok (.ifCond .ne 7, 3) := by decide +kernel
theorem dX9_stand_190 : decode cX9_stand 190 = .ok (.iconst 0, 1) := by decide +kernel
theorem dX9_stand_191 : decode cX9_stand 191 = .ok (.goto 23, 3) := by decide +kernel
theorem dX9_stand_194 : decode cX9_stand 194 = .ok (.aload_n 0, 1) := by decide +kernel
theorem dX9_stand_195 : decode cX9_stand 195 = .ok (.getfield 20, 3) := by decide +kernel
theorem dX9_stand_198 : decode cX9_stand 198 = .ok (.iload_n 1, 1) := by decide +kernel
theorem dX9_stand_199 : decode cX9_stand 199 = .ok (.iaload, 1) := by decide +kernel
theorem dX9_stand_200 : decode cX9_stand 200 = .ok (.iconst 1, 1) := by decide +kernel
theorem dX9_stand_201 : decode cX9_stand 201 = .ok (.if_icmp .ne 7, 3) := by decide +kernel
theorem dX9_stand_204 : decode cX9_stand 204 = .ok (.iconst (-1), 1) := by decide +kernel
theorem dX9_stand_205 : decode cX9_stand 205 = .ok (.goto 9, 3) := by decide +kernel
theorem dX9_stand_208 : decode cX9_stand 208 = .ok (.aload_n 0, 1) := by decide +kernel
theorem dX9_stand_209 : decode cX9_stand 209 = .ok (.getfield 23, 3) := by decide +kernel
theorem dX9_stand_212 : decode cX9_stand 212 = .ok (.iload_n 1, 1) := by decide +kernel
theorem dX9_stand_213 : decode cX9_stand 213 = .ok (.iaload, 1) := by decide +kernel
theorem dX9_stand_214 : decode cX9_stand 214 = .ok (.ireturn, 1) := by decide +kernel
theorem dX9_basket_0 : decode cX9_basket 0 = .ok (.iload_n 1, 1) := by decide +kernel
theorem dX9_basket_1 : decode cX9_basket 1 = .ok (.i2l, 1) := by decide +kernel
theorem dX9_basket_2 : decode cX9_basket 2 = .ok (.lconst 0, 1) := by decide +kernel
theorem dX9_basket_3 : decode cX9_basket 3 = .ok (.ldc2_w 81, 3) := by decide +kernel
theorem dX9_basket_6 : decode cX9_basket 6 = .ok (.invokestatic 77, 3) := by decide +kernel
theorem dX9_basket_9 : decode cX9_basket 9 = .ok (.ifCond .eq 35, 3) := by decide +kernel
theorem dX9_basket_12 : decode cX9_basket 12 = .ok (.iload_n 2, 1) := by decide +kernel
theorem dX9_basket_13 : decode cX9_basket 13 = .ok (.i2l, 1) := by decide +kernel
theorem dX9_basket_14 : decode cX9_basket 14 = .ok (.lconst 0, 1) := by decide +kernel
theorem dX9_basket_15 : decode cX9_basket 15 = .ok (.aload_n 0, 1) := by decide +kernel
theorem dX9_basket_16 : decode cX9_basket 16 = .ok (.getfield 35, 3) := by decide +kernel
theorem dX9_basket_19 : decode cX9_basket 19 = .ok (.iload_n 1, 1) := by decide +kernel
theorem dX9_basket_20 : decode cX9_basket 20 = .ok (.iaload, 1) := by decide +kernel
theorem dX9_basket_21 : decode cX9_basket 21 = .ok (.iconst 1, 1) := by decide +kernel
theorem dX9_basket_22 : decode cX9_basket 22 = .ok (.isub, 1) := by decide +kernel
theorem dX9_basket_23 : decode cX9_basket 23 = .ok (.i2l, 1) := by decide +kernel
theorem dX9_basket_24 : decode cX9_basket 24 = .ok (.invokestatic 77, 3) := by decide +kernel
theorem dX9_basket_27 : decode cX9_basket 27 = .ok (.ifCond .eq 17, 3) := by decide +kernel
theorem dX9_basket_30 : decode cX9_basket 30 = .ok (.aload_n 0, 1) := by decide +kernel
theorem dX9_basket_31 : decode cX9_basket 31 = .ok (.getfield 38, 3) := by decide +kernel
theorem dX9_basket_34 : decode cX9_basket 34 = .ok (.bipush 20, 2) := by decide +kernel
theorem dX9_basket_36 : decode cX9_basket 36 = .ok (.iload_n 1, 1) := by decide +kernel
theorem dX9_basket_37 : decode cX9_basket 37 = .ok (.imul, 1) := by decide +kernel
theorem dX9_basket_38 : decode cX9_basket 38 = .ok (.iload_n 2, 1) := by decide +kernel
theorem dX9_basket_39 : decode cX9_basket 39 = .ok (.iadd, 1) := by decide +kernel
theorem dX9_basket_40 : decode cX9_basket 40 = .ok (.iaload, 1) := by decide +kernel
theorem dX9_basket_41 : decode cX9_basket 41 = .ok (.goto 4, 3) := by decide +kernel
theorem dX9_basket_44 : decode cX9_basket 44 = .ok (.iconst 0, 1) := by decide +kernel
theorem dX9_basket_45 : decode cX9_basket 45 = .ok (.ireturn, 1) := by decide +kernel
theorem dX9_rack_0 : decode cX9_rack 0 = .ok (.iload_n 1, 1) := by decide +kernel
theorem dX9_rack_1 : decode cX9_rack 1 = .ok (.i2l, 1) := by decide +kernel
theorem dX9_rack_2 : decode cX9_rack 2 = .ok (.lconst 0, 1) := by decide +kernel
theorem dX9_rack_3 : decode cX9_rack 3 = .ok (.ldc2_w 81, 3) := by decide +kernel
theorem dX9_rack_6 : decode cX9_rack 6 = .ok (.invokestatic 77, 3) := by decide +kernel
theorem dX9_rack_9 : decode cX9_rack 9 = .ok (.ifCond .eq 35, 3) := by decide +kernel
theorem dX9_rack_12 : decode cX9_rack 12 = .ok (.iload_n 2, 1) := by decide +kernel
theorem dX9_rack_13 : decode cX9_rack 13 = .ok (.i2l, 1) := by decide +kernel
theorem dX9_rack_14 : decode cX9_rack 14 = .ok (.lconst 0, 1) := by decide +kernel
theorem dX9_rack_15 : decode cX9_rack 15 = .ok (.aload_n 0, 1) := by decide +kernel
theorem dX9_rack_16 : decode cX9_rack 16 = .ok (.getfield 41, 3) := by decide +kernel
theorem dX9_rack_19 : decode cX9_rack 19 = .ok (.iload_n 1, 1) := by decide +kernel
theorem dX9_rack_20 : decode cX9_rack 20 = .ok (.iaload, 1) := by decide +kernel
theorem dX9_rack_21 : decode cX9_rack 21 = .ok (.iconst 1, 1) := by decide +kernel
theorem dX9_rack_22 : decode cX9_rack 22 = .ok (.isub, 1) := by decide +kernel
theorem dX9_rack_23 : decode cX9_rack 23 = .ok (.i2l, 1) := by decide +kernel
theorem dX9_rack_24 : decode cX9_rack 24 = .ok (.invokestatic 77, 3) := by decide +kernel
theorem dX9_rack_27 : decode cX9_rack 27 = .ok (.ifCond .eq 17, 3) := by decide +kernel
theorem dX9_rack_30 : decode cX9_rack 30 = .ok (.aload_n 0, 1) := by decide +kernel
theorem dX9_rack_31 : decode cX9_rack 31 = .ok (.getfield 47, 3) := by decide +kernel
theorem dX9_rack_34 : decode cX9_rack 34 = .ok (.bipush 20, 2) := by decide +kernel
theorem dX9_rack_36 : decode cX9_rack 36 = .ok (.iload_n 1, 1) := by decide +kernel
theorem dX9_rack_37 : decode cX9_rack 37 = .ok (.imul, 1) := by decide +kernel
theorem dX9_rack_38 : decode cX9_rack 38 = .ok (.iload_n 2, 1) := by decide +kernel
theorem dX9_rack_39 : decode cX9_rack 39 = .ok (.iadd, 1) := by decide +kernel
theorem dX9_rack_40 : decode cX9_rack 40 = .ok (.iaload, 1) := by decide +kernel
theorem dX9_rack_41 : decode cX9_rack 41 = .ok (.goto 4, 3) := by decide +kernel
theorem dX9_rack_44 : decode cX9_rack 44 = .ok (.iconst (-1), 1) := by decide +kernel
theorem dX9_rack_45 : decode cX9_rack 45 = .ok (.istore_n 3, 1) := by decide +kernel
theorem dX9_rack_46 : decode cX9_rack 46 = .ok (.iload_n 3, 1) := by decide +kernel
theorem dX9_rack_47 : decode cX9_rack 47 = .ok (.iconst (-1), 1) := by decide +kernel
theorem dX9_rack_48 : decode cX9_rack 48 = .ok (.if_icmp .ne 8, 3) := by decide +kernel
theorem dX9_rack_51 : decode cX9_rack 51 = .ok (.ldc 175, 2) := by decide +kernel
theorem dX9_rack_53 : decode cX9_rack 53 = .ok (.goto 26, 3) := by decide +kernel
theorem dX9_rack_56 : decode cX9_rack 56 = .ok (.aload_n 0, 1) := by decide +kernel
theorem dX9_rack_57 : decode cX9_rack 57 = .ok (.getfield 26, 3) := by decide +kernel
theorem dX9_rack_60 : decode cX9_rack 60 = .ok (.iload_n 3, 1) := by decide +kernel
theorem dX9_rack_61 : decode cX9_rack 61 = .ok (.iaload, 1) := by decide +kernel
theorem dX9_rack_62 : decode cX9_rack 62 = .ok (.aload_n 0, 1) := by decide +kernel
theorem dX9_rack_63 : decode cX9_rack 63 = .ok (.getfield 32, 3) := by decide +kernel
theorem dX9_rack_66 : decode cX9_rack 66 = .ok (.iload_n 3, 1) := by decide +kernel
theorem dX9_rack_67 : decode cX9_rack 67 = .ok (.baload, 1) := by decide +kernel
theorem dX9_rack_68 : decode cX9_rack 68 = .ok (.ifCond .eq 9, 3) := by decide +kernel
theorem dX9_rack_71 : decode cX9_rack 71 = .ok (.sipush 1000, 3) := by decide +kernel
theorem dX9_rack_74 : decode cX9_rack 74 = .ok (.goto 4, 3) := by decide +kernel
theorem dX9_rack_77 : decode cX9_rack 77 = .ok (.iconst 0, 1) := by decide +kernel
theorem dX9_rack_78 : decode cX9_rack 78 = .ok (.iadd, 1) := by decide +kernel
theorem dX9_rack_79 : decode cX9_rack 79 = .ok (.ireturn, 1) := by decide +kernel
theorem dX9_grid_0 : decode cX9_grid 0 = .ok (.iload_n 1, 1) := by decide +kernel
theorem dX9_grid_1 : decode cX9_grid 1 = .ok (.i2l, 1) := by decide +kernel
theorem dX9_grid_2 : decode cX9_grid 2 = .ok (.lconst 0, 1) := by decide +kernel
theorem dX9_grid_3 : decode cX9_grid 3 = .ok (.ldc2_w 81, 3) := by decide +kernel
theorem dX9_grid_6 : decode cX9_grid 6 = .ok (.invokestatic 77, 3) := by decide +kernel
theorem dX9_grid_9 : decode cX9_grid 9 = .ok (.ifCond .eq 59, 3) := by decide +kernel
theorem dX9_grid_12 : decode cX9_grid 12 = .ok (.iload_n 2, 1) := by decide +kernel
theorem dX9_grid_13 : decode cX9_grid 13 = .ok (.i2l, 1) := by decide +kernel
theorem dX9_grid_14 : decode cX9_grid 14 = .ok (.lconst 0, 1) := by decide +kernel
theorem dX9_grid_15 : decode cX9_grid 15 = .ok (.aload_n 0, 1) := by decide +kernel
theorem dX9_grid_16 : decode cX9_grid 16 = .ok (.getfield 50, 3) := by decide +kernel
theorem dX9_grid_19 : decode cX9_grid 19 = .ok (.iload_n 1, 1) := by decide +kernel
theorem dX9_grid_20 : decode cX9_grid 20 = .ok (.iaload, 1) := by decide +kernel
theorem dX9_grid_21 : decode cX9_grid 21 = .ok (.iconst 1, 1) := by decide +kernel
theorem dX9_grid_22 : decode cX9_grid 22 = .ok (.isub, 1) := by decide +kernel
theorem dX9_grid_23 : decode cX9_grid 23 = .ok (.i2l, 1) := by decide +kernel
theorem dX9_grid_24 : decode cX9_grid 24 = .ok (.invokestatic 77, 3) := by decide +kernel
theorem dX9_grid_27 : decode cX9_grid 27 = .ok (.ifCond .eq 41, 3) := by decide +kernel
theorem dX9_grid_30 : decode cX9_grid 30 = .ok (.iload_n 3, 1) := by decide +kernel
theorem dX9_grid_31 : decode cX9_grid 31 = .ok (.i2l, 1) := by decide +kernel
theorem dX9_grid_32 : decode cX9_grid 32 = .ok (.lconst 0, 1) := by decide +kernel
theorem dX9_grid_33 : decode cX9_grid 33 = .ok (.aload_n 0, 1) := by decide +kernel
theorem dX9_grid_34 : decode cX9_grid 34 = .ok (.getfield 53, 3) := by decide +kernel
theorem dX9_grid_37 : decode cX9_grid 37 = .ok (.iload_n 1, 1) := by decide +kernel
theorem dX9_grid_38 : decode cX9_grid 38 = .ok (.iaload, 1) := by decide +kernel
theorem dX9_grid_39 : decode cX9_grid 39 = .ok (.iconst 1, 1) := by decide +kernel
theorem dX9_grid_40 : decode cX9_grid 40 = .ok (.isub, 1) := by decide +kernel
theorem dX9_grid_41 : decode cX9_grid 41 = .ok (.i2l, 1) := by decide +kernel
theorem dX9_grid_42 : decode cX9_grid 42 = .ok (.invokestatic 77, 3) := by decide +kernel
theorem dX9_grid_45 : decode cX9_grid 45 = .ok (.ifCond .eq 23, 3) := by decide +kernel
theorem dX9_grid_48 : decode cX9_grid 48 = .ok (.aload_n 0, 1) := by decide +kernel
theorem dX9_grid_49 : decode cX9_grid 49 = .ok (.getfield 56, 3) := by decide +kernel
theorem dX9_grid_52 : decode cX9_grid 52 = .ok (.sipush 400, 3) := by decide +kernel
theorem dX9_grid_55 : decode cX9_grid 55 = .ok (.iload_n 1, 1) := by decide +kernel
theorem dX9_grid_56 : decode cX9_grid 56 = .ok (.imul, 1) := by decide +kernel
theorem dX9_grid_57 : decode cX9_grid 57 = .ok (.bipush 20, 2) := by decide +kernel
theorem dX9_grid_59 : decode cX9_grid 59 = .ok (.iload_n 2, 1) := by decide +kernel
theorem dX9_grid_60 : decode cX9_grid 60 = .ok (.imul, 1) := by decide +kernel
theorem dX9_grid_61 : decode cX9_grid 61 = .ok (.iadd, 1) := by decide +kernel
theorem dX9_grid_62 : decode cX9_grid 62 = .ok (.iload_n 3, 1) := by decide +kernel
theorem dX9_grid_63 : decode cX9_grid 63 = .ok (.iadd, 1) := by decide +kernel
theorem dX9_grid_64 : decode cX9_grid 64 = .ok (.iaload, 1) := by decide +kernel
theorem dX9_grid_65 : decode cX9_grid 65 = .ok (.goto 4, 3) := by decide +kernel
theorem dX9_grid_68 : decode cX9_grid 68 = .ok (.iconst 0, 1) := by decide +kernel
theorem dX9_grid_69 : decode cX9_grid 69 = .ok (.ireturn, 1) := by decide +kernel
theorem dJ7_fill_53178_0 : decode cJ7_fill_53178 0 = .ok (.iconst 0, 1) := by decide +kernel
theorem dJ7_fill_53178_1 : decode cJ7_fill_53178 1 = .ok (.istore_n 2, 1) := by decide +kernel
theorem dJ7_fill_53178_2 : decode cJ7_fill_53178 2 = .ok (.aload_n 0, 1) := by decide +kernel
theorem dJ7_fill_53178_3 : decode cJ7_fill_53178 3 = .ok (.arraylength, 1) := by decide +kernel
theorem dJ7_fill_53178_4 : decode cJ7_fill_53178 4 = .ok (.istore_n 3, 1) := by decide +kernel
theorem dJ7_fill_53178_5 : decode cJ7_fill_53178 5 = .ok (.iload_n 2, 1) := by decide +kernel
theorem dJ7_fill_53178_6 : decode cJ7_fill_53178 6 = .ok (.iload_n 3, 1) := by decide +kernel
theorem dJ7_fill_53178_7 : decode cJ7_fill_53178 7 = .ok (.if_icmp .ge 13, 3) := by decide +kernel
theorem dJ7_fill_53178_10 : decode cJ7_fill_53178 10 = .ok (.aload_n 0, 1) := by decide +kernel
theorem dJ7_fill_53178_11 : decode cJ7_fill_53178 11 = .ok (.iload_n 2, 1) := by decide +kernel
theorem dJ7_fill_53178_12 : decode cJ7_fill_53178 12 = .ok (.iload_n 1, 1) := by decide +kernel
theorem dJ7_fill_53178_13 : decode cJ7_fill_53178 13 = .ok (.iastore, 1) := by decide +kernel
theorem dJ7_fill_53178_14 : decode cJ7_fill_53178 14 = .ok (.iinc 2 1, 3) := by decide +kernel
theorem dJ7_fill_53178_17 : decode cJ7_fill_53178 17 = .ok (.goto (-12), 3) := by decide +kernel
theorem dJ7_fill_53178_20 : decode cJ7_fill_53178 20 = .ok (.return_, 1) := by decide +kernel
theorem dL_law_0 : decode cL_law 0 = .ok (.new 7, 3) := by decide +kernel
theorem dL_law_3 : decode cL_law 3 = .ok (.dup, 1) := by decide +kernel
theorem dL_law_4 : decode cL_law 4 = .ok (.invokespecial 9, 3) := by decide +kernel
theorem dL_law_7 : decode cL_law 7 = .ok (.astore_n 1, 1) := by decide +kernel
theorem dL_law_8 : decode cL_law 8 = .ok (.new 10, 3) := by decide +kernel
theorem dL_law_11 : decode cL_law 11 = .ok (.dup, 1) := by decide +kernel
theorem dL_law_12 : decode cL_law 12 = .ok (.invokespecial 12, 3) := by decide +kernel
theorem dL_law_15 : decode cL_law 15 = .ok (.astore_n 2, 1) := by decide +kernel
theorem dL_law_16 : decode cL_law 16 = .ok (.iconst 0, 1) := by decide +kernel
theorem dL_law_17 : decode cL_law 17 = .ok (.istore_n 3, 1) := by decide +kernel
theorem dL_law_18 : decode cL_law 18 = .ok (.iload_n 3, 1) := by decide +kernel
theorem dL_law_19 : decode cL_law 19 = .ok (.aload_n 0, 1) := by decide +kernel
theorem dL_law_20 : decode cL_law 20 = .ok (.arraylength, 1) := by decide +kernel
theorem dL_law_21 : decode cL_law 21 = .ok (.bipush 7, 2) := by decide +kernel
theorem dL_law_23 : decode cL_law 23 = .ok (.isub, 1) := by decide +kernel
theorem dL_law_24 : decode cL_law 24 = .ok (.if_icmp .gt 461, 3) := by decide +kernel
theorem dL_law_27 : decode cL_law 27 = .ok (.aload_n 0, 1) := by decide +kernel
theorem dL_law_28 : decode cL_law 28 = .ok (.iload_n 3, 1) := by decide +kernel
theorem dL_law_29 : decode cL_law 29 = .ok (.iaload, 1) := by decide +kernel
theorem dL_law_30 : decode cL_law 30 = .ok (.bipush 15, 2) := by decide +kernel
theorem dL_law_32 : decode cL_law 32 = .ok (.iand, 1) := by decide +kernel
theorem dL_law_33 : decode cL_law 33 = .ok (.tableswitch 446 0 10 #[59, 113, 188, 211, 244, 267, 281, 304, 337, 370, 403], 59) := by decide +kernel
theorem dL_law_92 : decode cL_law 92 = .ok (.aload_n 1, 1) := by decide +kernel
theorem dL_law_93 : decode cL_law 93 = .ok (.aload_n 0, 1) := by decide +kernel
theorem dL_law_94 : decode cL_law 94 = .ok (.iload_n 3, 1) := by decide +kernel
theorem dL_law_95 : decode cL_law 95 = .ok (.iconst 1, 1) := by decide +kernel
theorem dL_law_96 : decode cL_law 96 = .ok (.iadd, 1) := by decide +kernel
theorem dL_law_97 : decode cL_law 97 = .ok (.iaload, 1) := by decide +kernel
theorem dL_law_98 : decode cL_law 98 = .ok (.aload_n 0, 1) := by decide +kernel
theorem dL_law_99 : decode cL_law 99 = .ok (.iload_n 3, 1) := by decide +kernel
theorem dL_law_100 : decode cL_law 100 = .ok (.iconst 2, 1) := by decide +kernel
theorem dL_law_101 : decode cL_law 101 = .ok (.iadd, 1) := by decide +kernel
theorem dL_law_102 : decode cL_law 102 = .ok (.iaload, 1) := by decide +kernel
theorem dL_law_103 : decode cL_law 103 = .ok (.aload_n 0, 1) := by decide +kernel
theorem dL_law_104 : decode cL_law 104 = .ok (.iload_n 3, 1) := by decide +kernel
theorem dL_law_105 : decode cL_law 105 = .ok (.iconst 3, 1) := by decide +kernel
theorem dL_law_106 : decode cL_law 106 = .ok (.iadd, 1) := by decide +kernel
theorem dL_law_107 : decode cL_law 107 = .ok (.iaload, 1) := by decide +kernel
theorem dL_law_108 : decode cL_law 108 = .ok (.aload_n 0, 1) := by decide +kernel
theorem dL_law_109 : decode cL_law 109 = .ok (.iload_n 3, 1) := by decide +kernel
theorem dL_law_110 : decode cL_law 110 = .ok (.iconst 4, 1) := by decide +kernel
theorem dL_law_111 : decode cL_law 111 = .ok (.iadd, 1) := by decide +kernel
theorem dL_law_112 : decode cL_law 112 = .ok (.iaload, 1) := by decide +kernel
theorem dL_law_113 : decode cL_law 113 = .ok (.invokevirtual 13, 3) := by decide +kernel
theorem dL_law_116 : decode cL_law 116 = .ok (.aload_n 2, 1) := by decide +kernel
theorem dL_law_117 : decode cL_law 117 = .ok (.aload_n 0, 1) := by decide +kernel
theorem dL_law_118 : decode cL_law 118 = .ok (.iload_n 3, 1) := by decide +kernel
theorem dL_law_119 : decode cL_law 119 = .ok (.iconst 1, 1) := by decide +kernel
theorem dL_law_120 : decode cL_law 120 = .ok (.iadd, 1) := by decide +kernel
theorem dL_law_121 : decode cL_law 121 = .ok (.iaload, 1) := by decide +kernel
theorem dL_law_122 : decode cL_law 122 = .ok (.aload_n 0, 1) := by decide +kernel
theorem dL_law_123 : decode cL_law 123 = .ok (.iload_n 3, 1) := by decide +kernel
theorem dL_law_124 : decode cL_law 124 = .ok (.iconst 2, 1) := by decide +kernel
theorem dL_law_125 : decode cL_law 125 = .ok (.iadd, 1) := by decide +kernel
theorem dL_law_126 : decode cL_law 126 = .ok (.iaload, 1) := by decide +kernel
theorem dL_law_127 : decode cL_law 127 = .ok (.aload_n 0, 1) := by decide +kernel
theorem dL_law_128 : decode cL_law 128 = .ok (.iload_n 3, 1) := by decide +kernel
theorem dL_law_129 : decode cL_law 129 = .ok (.iconst 3, 1) := by decide +kernel
theorem dL_law_130 : decode cL_law 130 = .ok (.iadd, 1) := by decide +kernel
theorem dL_law_131 : decode cL_law 131 = .ok (.iaload, 1) := by decide +kernel
theorem dL_law_132 : decode cL_law 132 = .ok (.aload_n 0, 1) := by decide +kernel
theorem dL_law_133 : decode cL_law 133 = .ok (.iload_n 3, 1) := by decide +kernel
theorem dL_law_134 : decode cL_law 134 = .ok (.iconst 4, 1) := by decide +kernel
theorem dL_law_135 : decode cL_law 135 = .ok (.iadd, 1) := by decide +kernel
theorem dL_law_136 : decode cL_law 136 = .ok (.iaload, 1) := by decide +kernel
theorem dL_law_137 : decode cL_law 137 = .ok (.invokevirtual 17, 3) := by decide +kernel
theorem dL_law_140 : decode cL_law 140 = .ok (.lcmp, 1) := by decide +kernel
theorem dL_law_141 : decode cL_law 141 = .ok (.ifCond .eq 338, 3) := by decide +kernel
theorem dL_law_144 : decode cL_law 144 = .ok (.iconst 0, 1) := by decide +kernel
theorem dL_law_145 : decode cL_law 145 = .ok (.ireturn, 1) := by decide +kernel
theorem dL_law_146 : decode cL_law 146 = .ok (.aload_n 1, 1) := by decide +kernel
theorem dL_law_147 : decode cL_law 147 = .ok (.aload_n 0, 1) := by decide +kernel
theorem dL_law_148 : decode cL_law 148 = .ok (.iload_n 3, 1) := by decide +kernel
theorem dL_law_149 : decode cL_law 149 = .ok (.iconst 1, 1) := by decide +kernel
theorem dL_law_150 : decode cL_law 150 = .ok (.iadd, 1) := by decide +kernel
theorem dL_law_151 : decode cL_law 151 = .ok (.iaload, 1) := by decide +kernel
theorem dL_law_152 : decode cL_law 152 = .ok (.aload_n 0, 1) := by decide +kernel
theorem dL_law_153 : decode cL_law 153 = .ok (.iload_n 3, 1) := by decide +kernel
theorem dL_law_154 : decode cL_law 154 = .ok (.iconst 2, 1) := by decide +kernel
theorem dL_law_155 : decode cL_law 155 = .ok (.iadd, 1) := by decide +kernel
theorem dL_law_156 : decode cL_law 156 = .ok (.iaload, 1) := by decide +kernel
theorem dL_law_157 : decode cL_law 157 = .ok (.aload_n 0, 1) := by decide +kernel
theorem dL_law_158 : decode cL_law 158 = .ok (.iload_n 3, 1) := by decide +kernel
theorem dL_law_159 : decode cL_law 159 = .ok (.iconst 3, 1) := by decide +kernel
theorem dL_law_160 : decode cL_law 160 = .ok (.iadd, 1) := by decide +kernel
theorem dL_law_161 : decode cL_law 161 = .ok (.iaload, 1) := by decide +kernel
theorem dL_law_162 : decode cL_law 162 = .ok (.aload_n 0, 1) := by decide +kernel
theorem dL_law_163 : decode cL_law 163 = .ok (.iload_n 3, 1) := by decide +kernel
theorem dL_law_164 : decode cL_law 164 = .ok (.iconst 4, 1) := by decide +kernel
theorem dL_law_165 : decode cL_law 165 = .ok (.iadd, 1) := by decide +kernel
theorem dL_law_166 : decode cL_law 166 = .ok (.iaload, 1) := by decide +kernel
theorem dL_law_167 : decode cL_law 167 = .ok (.aload_n 0, 1) := by decide +kernel
theorem dL_law_168 : decode cL_law 168 = .ok (.iload_n 3, 1) := by decide +kernel
theorem dL_law_169 : decode cL_law 169 = .ok (.iconst 5, 1) := by decide +kernel
theorem dL_law_170 : decode cL_law 170 = .ok (.iadd, 1) := by decide +kernel
theorem dL_law_171 : decode cL_law 171 = .ok (.iaload, 1) := by decide +kernel
theorem dL_law_172 : decode cL_law 172 = .ok (.aload_n 0, 1) := by decide +kernel
theorem dL_law_173 : decode cL_law 173 = .ok (.iload_n 3, 1) := by decide +kernel
theorem dL_law_174 : decode cL_law 174 = .ok (.bipush 6, 2) := by decide +kernel
theorem dL_law_176 : decode cL_law 176 = .ok (.iadd, 1) := by decide +kernel
theorem dL_law_177 : decode cL_law 177 = .ok (.iaload, 1) := by decide +kernel
theorem dL_law_178 : decode cL_law 178 = .ok (.invokevirtual 18, 3) := by decide +kernel
theorem dL_law_181 : decode cL_law 181 = .ok (.aload_n 2, 1) := by decide +kernel
theorem dL_law_182 : decode cL_law 182 = .ok (.aload_n 0, 1) := by decide +kernel
theorem dL_law_183 : decode cL_law 183 = .ok (.iload_n 3, 1) := by decide +kernel
theorem dL_law_184 : decode cL_law 184 = .ok (.iconst 1, 1) := by decide +kernel
theorem dL_law_185 : decode cL_law 185 = .ok (.iadd, 1) := by decide +kernel
theorem dL_law_186 : decode cL_law 186 = .ok (.iaload, 1) := by decide +kernel
theorem dL_law_187 : decode cL_law 187 = .ok (.aload_n 0, 1) := by decide +kernel
theorem dL_law_188 : decode cL_law 188 = .ok (.iload_n 3, 1) := by decide +kernel
theorem dL_law_189 : decode cL_law 189 = .ok (.iconst 2, 1) := by decide +kernel
theorem dL_law_190 : decode cL_law 190 = .ok (.iadd, 1) := by decide +kernel
theorem dL_law_191 : decode cL_law 191 = .ok (.iaload, 1) := by decide +kernel
theorem dL_law_192 : decode cL_law 192 = .ok (.aload_n 0, 1) := by decide +kernel
theorem dL_law_193 : decode cL_law 193 = .ok (.iload_n 3, 1) := by decide +kernel
theorem dL_law_194 : decode cL_law 194 = .ok (.iconst 3, 1) := by decide +kernel
theorem dL_law_195 : decode cL_law 195 = .ok (.iadd, 1) := by decide +kernel
theorem dL_law_196 : decode cL_law 196 = .ok (.iaload, 1) := by decide +kernel
theorem dL_law_197 : decode cL_law 197 = .ok (.aload_n 0, 1) := by decide +kernel
theorem dL_law_198 : decode cL_law 198 = .ok (.iload_n 3, 1) := by decide +kernel
theorem dL_law_199 : decode cL_law 199 = .ok (.iconst 4, 1) := by decide +kernel
theorem dL_law_200 : decode cL_law 200 = .ok (.iadd, 1) := by decide +kernel
theorem dL_law_201 : decode cL_law 201 = .ok (.iaload, 1) := by decide +kernel
theorem dL_law_202 : decode cL_law 202 = .ok (.aload_n 0, 1) := by decide +kernel
theorem dL_law_203 : decode cL_law 203 = .ok (.iload_n 3, 1) := by decide +kernel
theorem dL_law_204 : decode cL_law 204 = .ok (.iconst 5, 1) := by decide +kernel
theorem dL_law_205 : decode cL_law 205 = .ok (.iadd, 1) := by decide +kernel
theorem dL_law_206 : decode cL_law 206 = .ok (.iaload, 1) := by decide +kernel
theorem dL_law_207 : decode cL_law 207 = .ok (.aload_n 0, 1) := by decide +kernel
theorem dL_law_208 : decode cL_law 208 = .ok (.iload_n 3, 1) := by decide +kernel
theorem dL_law_209 : decode cL_law 209 = .ok (.bipush 6, 2) := by decide +kernel
theorem dL_law_211 : decode cL_law 211 = .ok (.iadd, 1) := by decide +kernel
theorem dL_law_212 : decode cL_law 212 = .ok (.iaload, 1) := by decide +kernel
theorem dL_law_213 : decode cL_law 213 = .ok (.invokevirtual 22, 3) := by decide +kernel
theorem dL_law_216 : decode cL_law 216 = .ok (.if_icmp .eq 263, 3) := by decide +kernel
theorem dL_law_219 : decode cL_law 219 = .ok (.iconst 0, 1) := by decide +kernel
theorem dL_law_220 : decode cL_law 220 = .ok (.ireturn, 1) := by decide +kernel
theorem dL_law_221 : decode cL_law 221 = .ok (.aload_n 1, 1) := by decide +kernel
theorem dL_law_222 : decode cL_law 222 = .ok (.aload_n 0, 1) := by decide +kernel
theorem dL_law_223 : decode cL_law 223 = .ok (.iload_n 3, 1) := by decide +kernel
theorem dL_law_224 : decode cL_law 224 = .ok (.iconst 1, 1) := by decide +kernel
theorem dL_law_225 : decode cL_law 225 = .ok (.iadd, 1) := by decide +kernel
theorem dL_law_226 : decode cL_law 226 = .ok (.iaload, 1) := by decide +kernel
theorem dL_law_227 : decode cL_law 227 = .ok (.invokevirtual 23, 3) := by decide +kernel
theorem dL_law_230 : decode cL_law 230 = .ok (.aload_n 2, 1) := by decide +kernel
theorem dL_law_231 : decode cL_law 231 = .ok (.aload_n 0, 1) := by decide +kernel
theorem dL_law_232 : decode cL_law 232 = .ok (.iload_n 3, 1) := by decide +kernel
theorem dL_law_233 : decode cL_law 233 = .ok (.iconst 1, 1) := by decide +kernel
theorem dL_law_234 : decode cL_law 234 = .ok (.iadd, 1) := by decide +kernel
theorem dL_law_235 : decode cL_law 235 = .ok (.iaload, 1) := by decide +kernel
theorem dL_law_236 : decode cL_law 236 = .ok (.invokevirtual 27, 3) := by decide +kernel
theorem dL_law_239 : decode cL_law 239 = .ok (.if_icmp .eq 240, 3) := by decide +kernel
theorem dL_law_242 : decode cL_law 242 = .ok (.iconst 0, 1) := by decide +kernel
theorem dL_law_243 : decode cL_law 243 = .ok (.ireturn, 1) := by decide +kernel
theorem dL_law_244 : decode cL_law 244 = .ok (.aload_n 1, 1) := by decide +kernel
theorem dL_law_245 : decode cL_law 245 = .ok (.aload_n 0, 1) := by decide +kernel
theorem dL_law_246 : decode cL_law 246 = .ok (.iload_n 3, 1) := by decide +kernel
theorem dL_law_247 : decode cL_law 247 = .ok (.iconst 1, 1) := by decide +kernel
theorem dL_law_248 : decode cL_law 248 = .ok (.iadd, 1) := by decide +kernel
theorem dL_law_249 : decode cL_law 249 = .ok (.iaload, 1) := by decide +kernel
theorem dL_law_250 : decode cL_law 250 = .ok (.aload_n 0, 1) := by decide +kernel
theorem dL_law_251 : decode cL_law 251 = .ok (.iload_n 3, 1) := by decide +kernel
theorem dL_law_252 : decode cL_law 252 = .ok (.iconst 2, 1) := by decide +kernel
theorem dL_law_253 : decode cL_law 253 = .ok (.iadd, 1) := by decide +kernel
theorem dL_law_254 : decode cL_law 254 = .ok (.iaload, 1) := by decide +kernel
theorem dL_law_255 : decode cL_law 255 = .ok (.invokevirtual 28, 3) := by decide +kernel
theorem dL_law_258 : decode cL_law 258 = .ok (.aload_n 2, 1) := by decide +kernel
theorem dL_law_259 : decode cL_law 259 = .ok (.aload_n 0, 1) := by decide +kernel
theorem dL_law_260 : decode cL_law 260 = .ok (.iload_n 3, 1) := by decide +kernel
theorem dL_law_261 : decode cL_law 261 = .ok (.iconst 1, 1) := by decide +kernel
theorem dL_law_262 : decode cL_law 262 = .ok (.iadd, 1) := by decide +kernel
theorem dL_law_263 : decode cL_law 263 = .ok (.iaload, 1) := by decide +kernel
theorem dL_law_264 : decode cL_law 264 = .ok (.aload_n 0, 1) := by decide +kernel
theorem dL_law_265 : decode cL_law 265 = .ok (.iload_n 3, 1) := by decide +kernel
theorem dL_law_266 : decode cL_law 266 = .ok (.iconst 2, 1) := by decide +kernel
theorem dL_law_267 : decode cL_law 267 = .ok (.iadd, 1) := by decide +kernel
theorem dL_law_268 : decode cL_law 268 = .ok (.iaload, 1) := by decide +kernel
theorem dL_law_269 : decode cL_law 269 = .ok (.invokevirtual 32, 3) := by decide +kernel
theorem dL_law_272 : decode cL_law 272 = .ok (.if_icmp .eq 207, 3) := by decide +kernel
theorem dL_law_275 : decode cL_law 275 = .ok (.iconst 0, 1) := by decide +kernel
theorem dL_law_276 : decode cL_law 276 = .ok (.ireturn, 1) := by decide +kernel
theorem dL_law_277 : decode cL_law 277 = .ok (.aload_n 1, 1) := by decide +kernel
theorem dL_law_278 : decode cL_law 278 = .ok (.aload_n 0, 1) := by decide +kernel
theorem dL_law_279 : decode cL_law 279 = .ok (.iload_n 3, 1) := by decide +kernel
theorem dL_law_280 : decode cL_law 280 = .ok (.iconst 1, 1) := by decide +kernel
theorem dL_law_281 : decode cL_law 281 = .ok (.iadd, 1) := by decide +kernel
theorem dL_law_282 : decode cL_law 282 = .ok (.iaload, 1) := by decide +kernel
theorem dL_law_283 : decode cL_law 283 = .ok (.invokevirtual 33, 3) := by decide +kernel
theorem dL_law_286 : decode cL_law 286 = .ok (.aload_n 2, 1) := by decide +kernel
theorem dL_law_287 : decode cL_law 287 = .ok (.aload_n 0, 1) := by decide +kernel
theorem dL_law_288 : decode cL_law 288 = .ok (.iload_n 3, 1) := by decide +kernel
theorem dL_law_289 : decode cL_law 289 = .ok (.iconst 1, 1) := by decide +kernel
theorem dL_law_290 : decode cL_law 290 = .ok (.iadd, 1) := by decide +kernel
theorem dL_law_291 : decode cL_law 291 = .ok (.iaload, 1) := by decide +kernel
theorem dL_law_292 : decode cL_law 292 = .ok (.invokevirtual 36, 3) := by decide +kernel
theorem dL_law_295 : decode cL_law 295 = .ok (.if_icmp .eq 184, 3) := by decide +kernel
theorem dL_law_298 : decode cL_law 298 = .ok (.iconst 0, 1) := by decide +kernel
theorem dL_law_299 : decode cL_law 299 = .ok (.ireturn, 1) := by decide +kernel
theorem dL_law_300 : decode cL_law 300 = .ok (.aload_n 1, 1) := by decide +kernel
theorem dL_law_301 : decode cL_law 301 = .ok (.invokevirtual 37, 3) := by decide +kernel
theorem dL_law_304 : decode cL_law 304 = .ok (.aload_n 2, 1) := by decide +kernel
theorem dL_law_305 : decode cL_law 305 = .ok (.invokevirtual 41, 3) := by decide +kernel
theorem dL_law_308 : decode cL_law 308 = .ok (.lcmp, 1) := by decide +kernel
theorem dL_law_309 : decode cL_law 309 = .ok (.ifCond .eq 170, 3) := by decide +kernel
theorem dL_law_312 : decode cL_law 312 = .ok (.iconst 0, 1) := by decide +kernel
theorem dL_law_313 : decode cL_law 313 = .ok (.ireturn, 1) := by decide +kernel
theorem dL_law_314 : decode cL_law 314 = .ok (.aload_n 1, 1) := by decide +kernel
theorem dL_law_315 : decode cL_law 315 = .ok (.aload_n 0, 1) := by decide +kernel
theorem dL_law_316 : decode cL_law 316 = .ok (.iload_n 3, 1) := by decide +kernel
theorem dL_law_317 : decode cL_law 317 = .ok (.iconst 1, 1) := by decide +kernel
theorem dL_law_318 : decode cL_law 318 = .ok (.iadd, 1) := by decide +kernel
theorem dL_law_319 : decode cL_law 319 = .ok (.iaload, 1) := by decide +kernel
theorem dL_law_320 : decode cL_law 320 = .ok (.invokevirtual 42, 3) := by decide +kernel
theorem dL_law_323 : decode cL_law 323 = .ok (.aload_n 2, 1) := by decide +kernel
theorem dL_law_324 : decode cL_law 324 = .ok (.aload_n 0, 1) := by decide +kernel
theorem dL_law_325 : decode cL_law 325 = .ok (.iload_n 3, 1) := by decide +kernel
theorem dL_law_326 : decode cL_law 326 = .ok (.iconst 1, 1) := by decide +kernel
theorem dL_law_327 : decode cL_law 327 = .ok (.iadd, 1) := by decide +kernel
theorem dL_law_328 : decode cL_law 328 = .ok (.iaload, 1) := by decide +kernel
theorem dL_law_329 : decode cL_law 329 = .ok (.invokevirtual 45, 3) := by decide +kernel
theorem dL_law_332 : decode cL_law 332 = .ok (.if_icmp .eq 147, 3) := by decide +kernel
theorem dL_law_335 : decode cL_law 335 = .ok (.iconst 0, 1) := by decide +kernel
theorem dL_law_336 : decode cL_law 336 = .ok (.ireturn, 1) := by decide +kernel
theorem dL_law_337 : decode cL_law 337 = .ok (.aload_n 1, 1) := by decide +kernel
theorem dL_law_338 : decode cL_law 338 = .ok (.aload_n 0, 1) := by decide +kernel
theorem dL_law_339 : decode cL_law 339 = .ok (.iload_n 3, 1) := by decide +kernel
theorem dL_law_340 : decode cL_law 340 = .ok (.iconst 1, 1) := by decide +kernel
theorem dL_law_341 : decode cL_law 341 = .ok (.iadd, 1) := by decide +kernel
theorem dL_law_342 : decode cL_law 342 = .ok (.iaload, 1) := by decide +kernel
theorem dL_law_343 : decode cL_law 343 = .ok (.aload_n 0, 1) := by decide +kernel
theorem dL_law_344 : decode cL_law 344 = .ok (.iload_n 3, 1) := by decide +kernel
theorem dL_law_345 : decode cL_law 345 = .ok (.iconst 2, 1) := by decide +kernel
theorem dL_law_346 : decode cL_law 346 = .ok (.iadd, 1) := by decide +kernel
theorem dL_law_347 : decode cL_law 347 = .ok (.iaload, 1) := by decide +kernel
theorem dL_law_348 : decode cL_law 348 = .ok (.invokevirtual 46, 3) := by decide +kernel
theorem dL_law_351 : decode cL_law 351 = .ok (.aload_n 2, 1) := by decide +kernel
theorem dL_law_352 : decode cL_law 352 = .ok (.aload_n 0, 1) := by decide +kernel
theorem dL_law_353 : decode cL_law 353 = .ok (.iload_n 3, 1) := by decide +kernel
theorem dL_law_354 : decode cL_law 354 = .ok (.iconst 1, 1) := by decide +kernel
theorem dL_law_355 : decode cL_law 355 = .ok (.iadd, 1) := by decide +kernel
theorem dL_law_356 : decode cL_law 356 = .ok (.iaload, 1) := by decide +kernel
theorem dL_law_357 : decode cL_law 357 = .ok (.aload_n 0, 1) := by decide +kernel
theorem dL_law_358 : decode cL_law 358 = .ok (.iload_n 3, 1) := by decide +kernel
theorem dL_law_359 : decode cL_law 359 = .ok (.iconst 2, 1) := by decide +kernel
theorem dL_law_360 : decode cL_law 360 = .ok (.iadd, 1) := by decide +kernel
theorem dL_law_361 : decode cL_law 361 = .ok (.iaload, 1) := by decide +kernel
theorem dL_law_362 : decode cL_law 362 = .ok (.invokevirtual 49, 3) := by decide +kernel
theorem dL_law_365 : decode cL_law 365 = .ok (.if_icmp .eq 114, 3) := by decide +kernel
theorem dL_law_368 : decode cL_law 368 = .ok (.iconst 0, 1) := by decide +kernel
theorem dL_law_369 : decode cL_law 369 = .ok (.ireturn, 1) := by decide +kernel
theorem dL_law_370 : decode cL_law 370 = .ok (.aload_n 1, 1) := by decide +kernel
theorem dL_law_371 : decode cL_law 371 = .ok (.aload_n 0, 1) := by decide +kernel
theorem dL_law_372 : decode cL_law 372 = .ok (.iload_n 3, 1) := by decide +kernel
theorem dL_law_373 : decode cL_law 373 = .ok (.iconst 1, 1) := by decide +kernel
theorem dL_law_374 : decode cL_law 374 = .ok (.iadd, 1) := by decide +kernel
theorem dL_law_375 : decode cL_law 375 = .ok (.iaload, 1) := by decide +kernel
theorem dL_law_376 : decode cL_law 376 = .ok (.aload_n 0, 1) := by decide +kernel
theorem dL_law_377 : decode cL_law 377 = .ok (.iload_n 3, 1) := by decide +kernel
theorem dL_law_378 : decode cL_law 378 = .ok (.iconst 2, 1) := by decide +kernel
theorem dL_law_379 : decode cL_law 379 = .ok (.iadd, 1) := by decide +kernel
theorem dL_law_380 : decode cL_law 380 = .ok (.iaload, 1) := by decide +kernel
theorem dL_law_381 : decode cL_law 381 = .ok (.invokevirtual 50, 3) := by decide +kernel
theorem dL_law_384 : decode cL_law 384 = .ok (.aload_n 2, 1) := by decide +kernel
theorem dL_law_385 : decode cL_law 385 = .ok (.aload_n 0, 1) := by decide +kernel
theorem dL_law_386 : decode cL_law 386 = .ok (.iload_n 3, 1) := by decide +kernel
theorem dL_law_387 : decode cL_law 387 = .ok (.iconst 1, 1) := by decide +kernel
theorem dL_law_388 : decode cL_law 388 = .ok (.iadd, 1) := by decide +kernel
theorem dL_law_389 : decode cL_law 389 = .ok (.iaload, 1) := by decide +kernel
theorem dL_law_390 : decode cL_law 390 = .ok (.aload_n 0, 1) := by decide +kernel
theorem dL_law_391 : decode cL_law 391 = .ok (.iload_n 3, 1) := by decide +kernel
theorem dL_law_392 : decode cL_law 392 = .ok (.iconst 2, 1) := by decide +kernel
theorem dL_law_393 : decode cL_law 393 = .ok (.iadd, 1) := by decide +kernel
theorem dL_law_394 : decode cL_law 394 = .ok (.iaload, 1) := by decide +kernel
theorem dL_law_395 : decode cL_law 395 = .ok (.invokevirtual 53, 3) := by decide +kernel
theorem dL_law_398 : decode cL_law 398 = .ok (.if_icmp .eq 81, 3) := by decide +kernel
theorem dL_law_401 : decode cL_law 401 = .ok (.iconst 0, 1) := by decide +kernel
theorem dL_law_402 : decode cL_law 402 = .ok (.ireturn, 1) := by decide +kernel
theorem dL_law_403 : decode cL_law 403 = .ok (.aload_n 1, 1) := by decide +kernel
theorem dL_law_404 : decode cL_law 404 = .ok (.aload_n 0, 1) := by decide +kernel
theorem dL_law_405 : decode cL_law 405 = .ok (.iload_n 3, 1) := by decide +kernel
theorem dL_law_406 : decode cL_law 406 = .ok (.iconst 1, 1) := by decide +kernel
theorem dL_law_407 : decode cL_law 407 = .ok (.iadd, 1) := by decide +kernel
theorem dL_law_408 : decode cL_law 408 = .ok (.iaload, 1) := by decide +kernel
theorem dL_law_409 : decode cL_law 409 = .ok (.aload_n 0, 1) := by decide +kernel
theorem dL_law_410 : decode cL_law 410 = .ok (.iload_n 3, 1) := by decide +kernel
theorem dL_law_411 : decode cL_law 411 = .ok (.iconst 2, 1) := by decide +kernel
theorem dL_law_412 : decode cL_law 412 = .ok (.iadd, 1) := by decide +kernel
theorem dL_law_413 : decode cL_law 413 = .ok (.iaload, 1) := by decide +kernel
theorem dL_law_414 : decode cL_law 414 = .ok (.invokevirtual 54, 3) := by decide +kernel
theorem dL_law_417 : decode cL_law 417 = .ok (.aload_n 2, 1) := by decide +kernel
theorem dL_law_418 : decode cL_law 418 = .ok (.aload_n 0, 1) := by decide +kernel
theorem dL_law_419 : decode cL_law 419 = .ok (.iload_n 3, 1) := by decide +kernel
theorem dL_law_420 : decode cL_law 420 = .ok (.iconst 1, 1) := by decide +kernel
theorem dL_law_421 : decode cL_law 421 = .ok (.iadd, 1) := by decide +kernel
theorem dL_law_422 : decode cL_law 422 = .ok (.iaload, 1) := by decide +kernel
theorem dL_law_423 : decode cL_law 423 = .ok (.aload_n 0, 1) := by decide +kernel
theorem dL_law_424 : decode cL_law 424 = .ok (.iload_n 3, 1) := by decide +kernel
theorem dL_law_425 : decode cL_law 425 = .ok (.iconst 2, 1) := by decide +kernel
theorem dL_law_426 : decode cL_law 426 = .ok (.iadd, 1) := by decide +kernel
theorem dL_law_427 : decode cL_law 427 = .ok (.iaload, 1) := by decide +kernel
theorem dL_law_428 : decode cL_law 428 = .ok (.invokevirtual 57, 3) := by decide +kernel
theorem dL_law_431 : decode cL_law 431 = .ok (.if_icmp .eq 48, 3) := by decide +kernel
theorem dL_law_434 : decode cL_law 434 = .ok (.iconst 0, 1) := by decide +kernel
theorem dL_law_435 : decode cL_law 435 = .ok (.ireturn, 1) := by decide +kernel
theorem dL_law_436 : decode cL_law 436 = .ok (.aload_n 1, 1) := by decide +kernel
theorem dL_law_437 : decode cL_law 437 = .ok (.aload_n 0, 1) := by decide +kernel
theorem dL_law_438 : decode cL_law 438 = .ok (.iload_n 3, 1) := by decide +kernel
theorem dL_law_439 : decode cL_law 439 = .ok (.iconst 1, 1) := by decide +kernel
theorem dL_law_440 : decode cL_law 440 = .ok (.iadd, 1) := by decide +kernel
theorem dL_law_441 : decode cL_law 441 = .ok (.iaload, 1) := by decide +kernel
theorem dL_law_442 : decode cL_law 442 = .ok (.aload_n 0, 1) := by decide +kernel
theorem dL_law_443 : decode cL_law 443 = .ok (.iload_n 3, 1) := by decide +kernel
theorem dL_law_444 : decode cL_law 444 = .ok (.iconst 2, 1) := by decide +kernel
theorem dL_law_445 : decode cL_law 445 = .ok (.iadd, 1) := by decide +kernel
theorem dL_law_446 : decode cL_law 446 = .ok (.iaload, 1) := by decide +kernel
theorem dL_law_447 : decode cL_law 447 = .ok (.aload_n 0, 1) := by decide +kernel
theorem dL_law_448 : decode cL_law 448 = .ok (.iload_n 3, 1) := by decide +kernel
theorem dL_law_449 : decode cL_law 449 = .ok (.iconst 3, 1) := by decide +kernel
theorem dL_law_450 : decode cL_law 450 = .ok (.iadd, 1) := by decide +kernel
theorem dL_law_451 : decode cL_law 451 = .ok (.iaload, 1) := by decide +kernel
theorem dL_law_452 : decode cL_law 452 = .ok (.invokevirtual 58, 3) := by decide +kernel
theorem dL_law_455 : decode cL_law 455 = .ok (.aload_n 2, 1) := by decide +kernel
theorem dL_law_456 : decode cL_law 456 = .ok (.aload_n 0, 1) := by decide +kernel
theorem dL_law_457 : decode cL_law 457 = .ok (.iload_n 3, 1) := by decide +kernel
theorem dL_law_458 : decode cL_law 458 = .ok (.iconst 1, 1) := by decide +kernel
theorem dL_law_459 : decode cL_law 459 = .ok (.iadd, 1) := by decide +kernel
theorem dL_law_460 : decode cL_law 460 = .ok (.iaload, 1) := by decide +kernel
theorem dL_law_461 : decode cL_law 461 = .ok (.aload_n 0, 1) := by decide +kernel
theorem dL_law_462 : decode cL_law 462 = .ok (.iload_n 3, 1) := by decide +kernel
theorem dL_law_463 : decode cL_law 463 = .ok (.iconst 2, 1) := by decide +kernel
theorem dL_law_464 : decode cL_law 464 = .ok (.iadd, 1) := by decide +kernel
theorem dL_law_465 : decode cL_law 465 = .ok (.iaload, 1) := by decide +kernel
theorem dL_law_466 : decode cL_law 466 = .ok (.aload_n 0, 1) := by decide +kernel
theorem dL_law_467 : decode cL_law 467 = .ok (.iload_n 3, 1) := by decide +kernel
theorem dL_law_468 : decode cL_law 468 = .ok (.iconst 3, 1) := by decide +kernel
theorem dL_law_469 : decode cL_law 469 = .ok (.iadd, 1) := by decide +kernel
theorem dL_law_470 : decode cL_law 470 = .ok (.iaload, 1) := by decide +kernel
theorem dL_law_471 : decode cL_law 471 = .ok (.invokevirtual 62, 3) := by decide +kernel
theorem dL_law_474 : decode cL_law 474 = .ok (.if_icmp .eq 5, 3) := by decide +kernel
theorem dL_law_477 : decode cL_law 477 = .ok (.iconst 0, 1) := by decide +kernel
theorem dL_law_478 : decode cL_law 478 = .ok (.ireturn, 1) := by decide +kernel
theorem dL_law_479 : decode cL_law 479 = .ok (.iinc 3 7, 3) := by decide +kernel
theorem dL_law_482 : decode cL_law 482 = .ok (.goto (-464), 3) := by decide +kernel
theorem dL_law_485 : decode cL_law 485 = .ok (.iconst 1, 1) := by decide +kernel
theorem dL_law_486 : decode cL_law 486 = .ok (.ireturn, 1) := by decide +kernel

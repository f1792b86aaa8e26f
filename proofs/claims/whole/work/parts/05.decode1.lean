theorem dX7_init_11 : decode cX7_init 11 = .ok (.putfield 13, 3) := by decide +kernel
theorem dX7_init_14 : decode cX7_init 14 = .ok (.return_, 1) := by decide +kernel
theorem dX7_turn_0 : decode cX7_turn 0 = .ok (.aload_n 0, 1) := by decide +kernel
theorem dX7_turn_1 : decode cX7_turn 1 = .ok (.dup, 1) := by decide +kernel
theorem dX7_turn_2 : decode cX7_turn 2 = .ok (.getfield 17, 3) := by decide +kernel
theorem dX7_turn_5 : decode cX7_turn 5 = .ok (.iconst 1, 1) := by decide +kernel
theorem dX7_turn_6 : decode cX7_turn 6 = .ok (.iadd, 1) := by decide +kernel
theorem dX7_turn_7 : decode cX7_turn 7 = .ok (.putfield 17, 3) := by decide +kernel
theorem dX7_turn_10 : decode cX7_turn 10 = .ok (.aload_n 0, 1) := by decide +kernel
theorem dX7_turn_11 : decode cX7_turn 11 = .ok (.getfield 17, 3) := by decide +kernel
theorem dX7_turn_14 : decode cX7_turn 14 = .ok (.aload_n 0, 1) := by decide +kernel
theorem dX7_turn_15 : decode cX7_turn 15 = .ok (.getfield 7, 3) := by decide +kernel
theorem dX7_turn_18 : decode cX7_turn 18 = .ok (.imul, 1) := by decide +kernel
theorem dX7_turn_19 : decode cX7_turn 19 = .ok (.aload_n 0, 1) := by decide +kernel
theorem dX7_turn_20 : decode cX7_turn 20 = .ok (.getfield 13, 3) := by decide +kernel
theorem dX7_turn_23 : decode cX7_turn 23 = .ok (.ifCond .eq 7, 3) := by decide +kernel
theorem dX7_turn_26 : decode cX7_turn 26 = .ok (.iconst 1, 1) := by decide +kernel
theorem dX7_turn_27 : decode cX7_turn 27 = .ok (.goto 4, 3) := by decide +kernel
theorem dX7_turn_30 : decode cX7_turn 30 = .ok (.iconst 0, 1) := by decide +kernel
theorem dX7_turn_31 : decode cX7_turn 31 = .ok (.iadd, 1) := by decide +kernel
theorem dX7_turn_32 : decode cX7_turn 32 = .ok (.ireturn, 1) := by decide +kernel
theorem dX7_label_0 : decode cX7_label 0 = .ok (.aload_n 0, 1) := by decide +kernel
theorem dX7_label_1 : decode cX7_label 1 = .ok (.getfield 13, 3) := by decide +kernel
theorem dX7_label_4 : decode cX7_label 4 = .ok (.ifCond .eq 14, 3) := by decide +kernel
theorem dX7_label_7 : decode cX7_label 7 = .ok (.sipush 1000, 3) := by decide +kernel
theorem dX7_label_10 : decode cX7_label 10 = .ok (.aload_n 0, 1) := by decide +kernel
theorem dX7_label_11 : decode cX7_label 11 = .ok (.getfield 7, 3) := by decide +kernel
theorem dX7_label_14 : decode cX7_label 14 = .ok (.iadd, 1) := by decide +kernel
theorem dX7_label_15 : decode cX7_label 15 = .ok (.goto 7, 3) := by decide +kernel
theorem dX7_label_18 : decode cX7_label 18 = .ok (.aload_n 0, 1) := by decide +kernel
theorem dX7_label_19 : decode cX7_label 19 = .ok (.getfield 7, 3) := by decide +kernel
theorem dX7_label_22 : decode cX7_label 22 = .ok (.ireturn, 1) := by decide +kernel
theorem dX8_init_0 : decode cX8_init 0 = .ok (.aload_n 0, 1) := by decide +kernel
theorem dX8_init_1 : decode cX8_init 1 = .ok (.invokespecial 1, 3) := by decide +kernel
theorem dX8_init_4 : decode cX8_init 4 = .ok (.aload_n 0, 1) := by decide +kernel
theorem dX8_init_5 : decode cX8_init 5 = .ok (.iconst 4, 1) := by decide +kernel
theorem dX8_init_6 : decode cX8_init 6 = .ok (.anewarray 9, 3) := by decide +kernel
theorem dX8_init_9 : decode cX8_init 9 = .ok (.putfield 11, 3) := by decide +kernel
theorem dX8_init_12 : decode cX8_init 12 = .ok (.aload_n 0, 1) := by decide +kernel
theorem dX8_init_13 : decode cX8_init 13 = .ok (.iconst 4, 1) := by decide +kernel
theorem dX8_init_14 : decode cX8_init 14 = .ok (.anewarray 15, 3) := by decide +kernel
theorem dX8_init_17 : decode cX8_init 17 = .ok (.putfield 17, 3) := by decide +kernel
theorem dX8_init_20 : decode cX8_init 20 = .ok (.aload_n 0, 1) := by decide +kernel
theorem dX8_init_21 : decode cX8_init 21 = .ok (.iconst 4, 1) := by decide +kernel
theorem dX8_init_22 : decode cX8_init 22 = .ok (.anewarray 21, 3) := by decide +kernel
theorem dX8_init_25 : decode cX8_init 25 = .ok (.putfield 23, 3) := by decide +kernel
theorem dX8_init_28 : decode cX8_init 28 = .ok (.aload_n 0, 1) := by decide +kernel
theorem dX8_init_29 : decode cX8_init 29 = .ok (.iconst 4, 1) := by decide +kernel
theorem dX8_init_30 : decode cX8_init 30 = .ok (.anewarray 27, 3) := by decide +kernel
theorem dX8_init_33 : decode cX8_init 33 = .ok (.putfield 29, 3) := by decide +kernel
theorem dX8_init_36 : decode cX8_init 36 = .ok (.aload_n 0, 1) := by decide +kernel
theorem dX8_init_37 : decode cX8_init 37 = .ok (.iconst 4, 1) := by decide +kernel
theorem dX8_init_38 : decode cX8_init 38 = .ok (.anewarray 33, 3) := by decide +kernel
theorem dX8_init_41 : decode cX8_init 41 = .ok (.putfield 35, 3) := by decide +kernel
theorem dX8_init_44 : decode cX8_init 44 = .ok (.aload_n 0, 1) := by decide +kernel
theorem dX8_init_45 : decode cX8_init 45 = .ok (.iconst 4, 1) := by decide +kernel
theorem dX8_init_46 : decode cX8_init 46 = .ok (.newarray .int, 2) := by decide +kernel
theorem dX8_init_48 : decode cX8_init 48 = .ok (.putfield 39, 3) := by decide +kernel
theorem dX8_init_51 : decode cX8_init 51 = .ok (.aload_n 0, 1) := by decide +kernel
theorem dX8_init_52 : decode cX8_init 52 = .ok (.bipush 8, 2) := by decide +kernel
theorem dX8_init_54 : decode cX8_init 54 = .ok (.newarray .int, 2) := by decide +kernel
theorem dX8_init_56 : decode cX8_init 56 = .ok (.putfield 43, 3) := by decide +kernel
theorem dX8_init_59 : decode cX8_init 59 = .ok (.aload_n 0, 1) := by decide +kernel
theorem dX8_init_60 : decode cX8_init 60 = .ok (.new 46, 3) := by decide +kernel
theorem dX8_init_63 : decode cX8_init 63 = .ok (.dup, 1) := by decide +kernel
theorem dX8_init_64 : decode cX8_init 64 = .ok (.invokespecial 48, 3) := by decide +kernel
theorem dX8_init_67 : decode cX8_init 67 = .ok (.putfield 49, 3) := by decide +kernel
theorem dX8_init_70 : decode cX8_init 70 = .ok (.iconst 0, 1) := by decide +kernel
theorem dX8_init_71 : decode cX8_init 71 = .ok (.istore_n 1, 1) := by decide +kernel
theorem dX8_init_72 : decode cX8_init 72 = .ok (.iload_n 1, 1) := by decide +kernel
theorem dX8_init_73 : decode cX8_init 73 = .ok (.iconst 4, 1) := by decide +kernel
theorem dX8_init_74 : decode cX8_init 74 = .ok (.if_icmp .ge 81, 3) := by decide +kernel
theorem dX8_init_77 : decode cX8_init 77 = .ok (.aload_n 0, 1) := by decide +kernel
theorem dX8_init_78 : decode cX8_init 78 = .ok (.getfield 11, 3) := by decide +kernel
theorem dX8_init_81 : decode cX8_init 81 = .ok (.iload_n 1, 1) := by decide +kernel
theorem dX8_init_82 : decode cX8_init 82 = .ok (.new 9, 3) := by decide +kernel
theorem dX8_init_85 : decode cX8_init 85 = .ok (.dup, 1) := by decide +kernel
theorem dX8_init_86 : decode cX8_init 86 = .ok (.invokespecial 53, 3) := by decide +kernel
theorem dX8_init_89 : decode cX8_init 89 = .ok (.aastore, 1) := by decide +kernel
theorem dX8_init_90 : decode cX8_init 90 = .ok (.aload_n 0, 1) := by decide +kernel
theorem dX8_init_91 : decode cX8_init 91 = .ok (.getfield 17, 3) := by decide +kernel
theorem dX8_init_94 : decode cX8_init 94 = .ok (.iload_n 1, 1) := by decide +kernel
theorem dX8_init_95 : decode cX8_init 95 = .ok (.new 15, 3) := by decide +kernel
theorem dX8_init_98 : decode cX8_init 98 = .ok (.dup, 1) := by decide +kernel
theorem dX8_init_99 : decode cX8_init 99 = .ok (.invokespecial 54, 3) := by decide +kernel
theorem dX8_init_102 : decode cX8_init 102 = .ok (.aastore, 1) := by decide +kernel
theorem dX8_init_103 : decode cX8_init 103 = .ok (.aload_n 0, 1) := by decide +kernel
theorem dX8_init_104 : decode cX8_init 104 = .ok (.getfield 23, 3) := by decide +kernel
theorem dX8_init_107 : decode cX8_init 107 = .ok (.iload_n 1, 1) := by decide +kernel
theorem dX8_init_108 : decode cX8_init 108 = .ok (.new 21, 3) := by decide +kernel
theorem dX8_init_111 : decode cX8_init 111 = .ok (.dup, 1) := by decide +kernel
theorem dX8_init_112 : decode cX8_init 112 = .ok (.invokespecial 55, 3) := by decide +kernel
theorem dX8_init_115 : decode cX8_init 115 = .ok (.aastore, 1) := by decide +kernel
theorem dX8_init_116 : decode cX8_init 116 = .ok (.aload_n 0, 1) := by decide +kernel
theorem dX8_init_117 : decode cX8_init 117 = .ok (.getfield 29, 3) := by decide +kernel
theorem dX8_init_120 : decode cX8_init 120 = .ok (.iload_n 1, 1) := by decide +kernel
theorem dX8_init_121 : decode cX8_init 121 = .ok (.new 27, 3) := by decide +kernel
theorem dX8_init_124 : decode cX8_init 124 = .ok (.dup, 1) := by decide +kernel
theorem dX8_init_125 : decode cX8_init 125 = .ok (.invokespecial 56, 3) := by decide +kernel
theorem dX8_init_128 : decode cX8_init 128 = .ok (.aastore, 1) := by decide +kernel
theorem dX8_init_129 : decode cX8_init 129 = .ok (.aload_n 0, 1) := by decide +kernel
theorem dX8_init_130 : decode cX8_init 130 = .ok (.getfield 35, 3) := by decide +kernel
theorem dX8_init_133 : decode cX8_init 133 = .ok (.iload_n 1, 1) := by decide +kernel
theorem dX8_init_134 : decode cX8_init 134 = .ok (.new 33, 3) := by decide +kernel
theorem dX8_init_137 : decode cX8_init 137 = .ok (.dup, 1) := by decide +kernel
theorem dX8_init_138 : decode cX8_init 138 = .ok (.invokespecial 57, 3) := by decide +kernel
theorem dX8_init_141 : decode cX8_init 141 = .ok (.aastore, 1) := by decide +kernel
theorem dX8_init_142 : decode cX8_init 142 = .ok (.aload_n 0, 1) := by decide +kernel
theorem dX8_init_143 : decode cX8_init 143 = .ok (.getfield 39, 3) := by decide +kernel
theorem dX8_init_146 : decode cX8_init 146 = .ok (.iload_n 1, 1) := by decide +kernel
theorem dX8_init_147 : decode cX8_init 147 = .ok (.iconst 1, 1) := by decide +kernel
theorem dX8_init_148 : decode cX8_init 148 = .ok (.iastore, 1) := by decide +kernel
theorem dX8_init_149 : decode cX8_init 149 = .ok (.iinc 1 1, 3) := by decide +kernel
theorem dX8_init_152 : decode cX8_init 152 = .ok (.goto (-80), 3) := by decide +kernel
theorem dX8_init_155 : decode cX8_init 155 = .ok (.return_, 1) := by decide +kernel
theorem dX8_act_0 : decode cX8_act 0 = .ok (.iload_n 1, 1) := by decide +kernel
theorem dX8_act_1 : decode cX8_act 1 = .ok (.iload_n 2, 1) := by decide +kernel
theorem dX8_act_2 : decode cX8_act 2 = .ok (.iload_n 3, 1) := by decide +kernel
theorem dX8_act_3 : decode cX8_act 3 = .ok (.iload 4, 2) := by decide +kernel
theorem dX8_act_5 : decode cX8_act 5 = .ok (.invokestatic 58, 3) := by decide +kernel
theorem dX8_act_8 : decode cX8_act 8 = .ok (.ifCond .eq 15, 3) := by decide +kernel
theorem dX8_act_11 : decode cX8_act 11 = .ok (.aload_n 0, 1) := by decide +kernel
theorem dX8_act_12 : decode cX8_act 12 = .ok (.iload_n 1, 1) := by decide +kernel
theorem dX8_act_13 : decode cX8_act 13 = .ok (.iload_n 2, 1) := by decide +kernel
theorem dX8_act_14 : decode cX8_act 14 = .ok (.iload_n 3, 1) := by decide +kernel
theorem dX8_act_15 : decode cX8_act 15 = .ok (.iload 4, 2) := by decide +kernel
theorem dX8_act_17 : decode cX8_act 17 = .ok (.invokevirtual 62, 3) := by decide +kernel
theorem dX8_act_20 : decode cX8_act 20 = .ok (.goto 6, 3) := by decide +kernel
theorem dX8_act_23 : decode cX8_act 23 = .ok (.ldc2_w 66, 3) := by decide +kernel
theorem dX8_act_26 : decode cX8_act 26 = .ok (.lreturn, 1) := by decide +kernel
theorem dX8_step_0 : decode cX8_step 0 = .ok (.iload 6, 2) := by decide +kernel
theorem dX8_step_2 : decode cX8_step 2 = .ok (.iconst (-1), 1) := by decide +kernel
theorem dX8_step_3 : decode cX8_step 3 = .ok (.if_icmp .eq 13, 3) := by decide +kernel
theorem dX8_step_6 : decode cX8_step 6 = .ok (.iload 6, 2) := by decide +kernel
theorem dX8_step_8 : decode cX8_step 8 = .ok (.bipush 16, 2) := by decide +kernel
theorem dX8_step_10 : decode cX8_step 10 = .ok (.invokestatic 68, 3) := by decide +kernel
theorem dX8_step_13 : decode cX8_step 13 = .ok (.ifCond .eq 7, 3) := by decide +kernel
theorem dX8_step_16 : decode cX8_step 16 = .ok (.iconst 1, 1) := by decide +kernel
theorem dX8_step_17 : decode cX8_step 17 = .ok (.goto 4, 3) := by decide +kernel
theorem dX8_step_20 : decode cX8_step 20 = .ok (.iconst 0, 1) := by decide +kernel
theorem dX8_step_21 : decode cX8_step 21 = .ok (.istore 7, 2) := by decide +kernel
theorem dX8_step_23 : decode cX8_step 23 = .ok (.iload_n 1, 1) := by decide +kernel
theorem dX8_step_24 : decode cX8_step 24 = .ok (.iconst 4, 1) := by decide +kernel
theorem dX8_step_25 : decode cX8_step 25 = .ok (.invokestatic 68, 3) := by decide +kernel
theorem dX8_step_28 : decode cX8_step 28 = .ok (.ifCond .eq 20, 3) := by decide +kernel
theorem dX8_step_31 : decode cX8_step 31 = .ok (.iload 7, 2) := by decide +kernel
theorem dX8_step_33 : decode cX8_step 33 = .ok (.ifCond .eq 15, 3) := by decide +kernel
theorem dX8_step_36 : decode cX8_step 36 = .ok (.iload_n 2, 1) := by decide +kernel
theorem dX8_step_37 : decode cX8_step 37 = .ok (.iload_n 3, 1) := by decide +kernel
theorem dX8_step_38 : decode cX8_step 38 = .ok (.iload 4, 2) := by decide +kernel
theorem dX8_step_40 : decode cX8_step 40 = .ok (.iload 5, 2) := by decide +kernel
theorem dX8_step_42 : decode cX8_step 42 = .ok (.invokestatic 58, 3) := by decide +kernel
theorem dX8_step_45 : decode cX8_step 45 = .ok (.ifCond .ne 6, 3) := by decide +kernel
theorem dX8_step_48 : decode cX8_step 48 = .ok (.bipush (-2), 2) := by decide +kernel
theorem dX8_step_50 : decode cX8_step 50 = .ok (.ireturn, 1) := by decide +kernel
theorem dX8_step_51 : decode cX8_step 51 = .ok (.aload_n 0, 1) := by decide +kernel
theorem dX8_step_52 : decode cX8_step 52 = .ok (.getfield 35, 3) := by decide +kernel
theorem dX8_step_55 : decode cX8_step 55 = .ok (.iload_n 1, 1) := by decide +kernel
theorem dX8_step_56 : decode cX8_step 56 = .ok (.aaload, 1) := by decide +kernel
theorem dX8_step_57 : decode cX8_step 57 = .ok (.new 72, 3) := by decide +kernel
theorem dX8_step_60 : decode cX8_step 60 = .ok (.dup, 1) := by decide +kernel
theorem dX8_step_61 : decode cX8_step 61 = .ok (.iload_n 2, 1) := by decide +kernel
theorem dX8_step_62 : decode cX8_step 62 = .ok (.iload_n 3, 1) := by decide +kernel
theorem dX8_step_63 : decode cX8_step 63 = .ok (.iload 4, 2) := by decide +kernel
theorem dX8_step_65 : decode cX8_step 65 = .ok (.iload 5, 2) := by decide +kernel
theorem dX8_step_67 : decode cX8_step 67 = .ok (.iload 6, 2) := by decide +kernel
theorem dX8_step_69 : decode cX8_step 69 = .ok (.invokespecial 74, 3) := by decide +kernel
theorem dX8_step_72 : decode cX8_step 72 = .ok (.invokevirtual 77, 3) := by decide +kernel
theorem dX8_step_75 : decode cX8_step 75 = .ok (.ireturn, 1) := by decide +kernel
theorem dX8_clear_0 : decode cX8_clear 0 = .ok (.iload_n 1, 1) := by decide +kernel
theorem dX8_clear_1 : decode cX8_clear 1 = .ok (.iconst 4, 1) := by decide +kernel
theorem dX8_clear_2 : decode cX8_clear 2 = .ok (.invokestatic 68, 3) := by decide +kernel
theorem dX8_clear_5 : decode cX8_clear 5 = .ok (.ifCond .eq 15, 3) := by decide +kernel
theorem dX8_clear_8 : decode cX8_clear 8 = .ok (.aload_n 0, 1) := by decide +kernel
theorem dX8_clear_9 : decode cX8_clear 9 = .ok (.getfield 35, 3) := by decide +kernel
theorem dX8_clear_12 : decode cX8_clear 12 = .ok (.iload_n 1, 1) := by decide +kernel
theorem dX8_clear_13 : decode cX8_clear 13 = .ok (.aaload, 1) := by decide +kernel
theorem dX8_clear_14 : decode cX8_clear 14 = .ok (.invokevirtual 81, 3) := by decide +kernel
theorem dX8_clear_17 : decode cX8_clear 17 = .ok (.goto 5, 3) := by decide +kernel
theorem dX8_clear_20 : decode cX8_clear 20 = .ok (.bipush (-2), 2) := by decide +kernel
theorem dX8_clear_22 : decode cX8_clear 22 = .ok (.ireturn, 1) := by decide +kernel
theorem dX8_run_0 : decode cX8_run 0 = .ok (.iload_n 1, 1) := by decide +kernel
theorem dX8_run_1 : decode cX8_run 1 = .ok (.iconst 4, 1) := by decide +kernel
theorem dX8_run_2 : decode cX8_run 2 = .ok (.invokestatic 68, 3) := by decide +kernel
theorem dX8_run_5 : decode cX8_run 5 = .ok (.ifCond .eq 11, 3) := by decide +kernel
theorem dX8_run_8 : decode cX8_run 8 = .ok (.iload_n 2, 1) := by decide +kernel
theorem dX8_run_9 : decode cX8_run 9 = .ok (.iconst 2, 1) := by decide +kernel
theorem dX8_run_10 : decode cX8_run 10 = .ok (.invokestatic 68, 3) := by decide +kernel
theorem dX8_run_13 : decode cX8_run 13 = .ok (.ifCond .ne 6, 3) := by decide +kernel
theorem dX8_run_16 : decode cX8_run 16 = .ok (.bipush (-2), 2) := by decide +kernel
theorem dX8_run_18 : decode cX8_run 18 = .ok (.ireturn, 1) := by decide +kernel
theorem dX8_run_19 : decode cX8_run 19 = .ok (.aload_n 0, 1) := by decide +kernel
theorem dX8_run_20 : decode cX8_run 20 = .ok (.getfield 49, 3) := by decide +kernel
theorem dX8_run_23 : decode cX8_run 23 = .ok (.invokevirtual 85, 3) := by decide +kernel
theorem dX8_run_26 : decode cX8_run 26 = .ok (.aload_n 0, 1) := by decide +kernel
theorem dX8_run_27 : decode cX8_run 27 = .ok (.getfield 35, 3) := by decide +kernel
theorem dX8_run_30 : decode cX8_run 30 = .ok (.iload_n 1, 1) := by decide +kernel
theorem dX8_run_31 : decode cX8_run 31 = .ok (.aaload, 1) := by decide +kernel
theorem dX8_run_32 : decode cX8_run 32 = .ok (.astore_n 3, 1) := by decide +kernel
theorem dX8_run_33 : decode cX8_run 33 = .ok (.iconst 1, 1) := by decide +kernel
theorem dX8_run_34 : decode cX8_run 34 = .ok (.istore 4, 2) := by decide +kernel
theorem dX8_run_36 : decode cX8_run 36 = .ok (.iconst 0, 1) := by decide +kernel
theorem dX8_run_37 : decode cX8_run 37 = .ok (.istore 5, 2) := by decide +kernel
theorem dX8_run_39 : decode cX8_run 39 = .ok (.iload 5, 2) := by decide +kernel
theorem dX8_run_41 : decode cX8_run 41 = .ok (.aload_n 3, 1) := by decide +kernel
theorem dX8_run_42 : decode cX8_run 42 = .ok (.getfield 88, 3) := by decide +kernel
theorem dX8_run_45 : decode cX8_run 45 = .ok (.if_icmp .ge 46, 3) := by decide +kernel
theorem dX8_run_48 : decode cX8_run 48 = .ok (.iload 4, 2) := by decide +kernel
theorem dX8_run_50 : decode cX8_run 50 = .ok (.ifCond .eq 41, 3) := by decide +kernel
theorem dX8_run_53 : decode cX8_run 53 = .ok (.aload_n 0, 1) := by decide +kernel
theorem dX8_run_54 : decode cX8_run 54 = .ok (.aload_n 3, 1) := by decide +kernel
theorem dX8_run_55 : decode cX8_run 55 = .ok (.iload 5, 2) := by decide +kernel
theorem dX8_run_57 : decode cX8_run 57 = .ok (.invokevirtual 92, 3) := by decide +kernel
theorem dX8_run_60 : decode cX8_run 60 = .ok (.ifCond .ne 18, 3) := by decide +kernel
theorem dX8_run_63 : decode cX8_run 63 = .ok (.aload_n 0, 1) := by decide +kernel
theorem dX8_run_64 : decode cX8_run 64 = .ok (.aload_n 3, 1) := by decide +kernel
theorem dX8_run_65 : decode cX8_run 65 = .ok (.iload 5, 2) := by decide +kernel
theorem dX8_run_67 : decode cX8_run 67 = .ok (.invokevirtual 96, 3) := by decide +kernel
theorem dX8_run_70 : decode cX8_run 70 = .ok (.ifCond .ne 8, 3) := by decide +kernel
theorem dX8_run_73 : decode cX8_run 73 = .ok (.iload_n 2, 1) := by decide +kernel
theorem dX8_run_74 : decode cX8_run 74 = .ok (.iconst 1, 1) := by decide +kernel
theorem dX8_run_75 : decode cX8_run 75 = .ok (.if_icmp .ne 7, 3) := by decide +kernel
theorem dX8_run_78 : decode cX8_run 78 = .ok (.iconst 1, 1) := by decide +kernel
theorem dX8_run_79 : decode cX8_run 79 = .ok (.goto 4, 3) := by decide +kernel
theorem dX8_run_82 : decode cX8_run 82 = .ok (.iconst 0, 1) := by decide +kernel
theorem dX8_run_83 : decode cX8_run 83 = .ok (.istore 4, 2) := by decide +kernel
theorem dX8_run_85 : decode cX8_run 85 = .ok (.iinc 5 1, 3) := by decide +kernel
theorem dX8_run_88 : decode cX8_run 88 = .ok (.goto (-49), 3) := by decide +kernel
theorem dX8_run_91 : decode cX8_run 91 = .ok (.aload_n 0, 1) := by decide +kernel
theorem dX8_run_92 : decode cX8_run 92 = .ok (.getfield 49, 3) := by decide +kernel
theorem dX8_run_95 : decode cX8_run 95 = .ok (.getfield 99, 3) := by decide +kernel
theorem dX8_run_98 : decode cX8_run 98 = .ok (.ireturn, 1) := by decide +kernel
theorem dX8_told_0 : decode cX8_told 0 = .ok (.iload_n 1, 1) := by decide +kernel
theorem dX8_told_1 : decode cX8_told 1 = .ok (.tableswitch 75 0 4 #[35, 43, 51, 59, 67], 35) := by decide +kernel
theorem dX8_told_36 : decode cX8_told 36 = .ok (.aload_n 0, 1) := by decide +kernel
theorem dX8_told_37 : decode cX8_told 37 = .ok (.getfield 49, 3) := by decide +kernel
theorem dX8_told_40 : decode cX8_told 40 = .ok (.getfield 99, 3) := by decide +kernel
theorem dX8_told_43 : decode cX8_told 43 = .ok (.ireturn, 1) := by decide +kernel
theorem dX8_told_44 : decode cX8_told 44 = .ok (.aload_n 0, 1) := by decide +kernel
theorem dX8_told_45 : decode cX8_told 45 = .ok (.getfield 49, 3) := by decide +kernel
theorem dX8_told_48 : decode cX8_told 48 = .ok (.getfield 102, 3) := by decide +kernel
theorem dX8_told_51 : decode cX8_told 51 = .ok (.ireturn, 1) := by decide +kernel
theorem dX8_told_52 : decode cX8_told 52 = .ok (.aload_n 0, 1) := by decide +kernel
theorem dX8_told_53 : decode cX8_told 53 = .ok (.getfield 49, 3) := by decide +kernel
theorem dX8_told_56 : decode cX8_told 56 = .ok (.getfield 105, 3) := by decide +kernel
theorem dX8_told_59 : decode cX8_told 59 = .ok (.ireturn, 1) := by decide +kernel
theorem dX8_told_60 : decode cX8_told 60 = .ok (.aload_n 0, 1) := by decide +kernel
theorem dX8_told_61 : decode cX8_told 61 = .ok (.getfield 49, 3) := by decide +kernel
theorem dX8_told_64 : decode cX8_told 64 = .ok (.getfield 108, 3) := by decide +kernel
theorem dX8_told_67 : decode cX8_told 67 = .ok (.ireturn, 1) := by decide +kernel
theorem dX8_told_68 : decode cX8_told 68 = .ok (.aload_n 0, 1) := by decide +kernel
theorem dX8_told_69 : decode cX8_told 69 = .ok (.getfield 49, 3) := by decide +kernel
theorem dX8_told_72 : decode cX8_told 72 = .ok (.getfield 111, 3) := by decide +kernel
theorem dX8_told_75 : decode cX8_told 75 = .ok (.ireturn, 1) := by decide +kernel
theorem dX8_told_76 : decode cX8_told 76 = .ok (.bipush (-2), 2) := by decide +kernel
theorem dX8_told_78 : decode cX8_told 78 = .ok (.ireturn, 1) := by decide +kernel
theorem dX8_sum_0 : decode cX8_sum 0 = .ok (.aload_n 0, 1) := by decide +kernel
theorem dX8_sum_1 : decode cX8_sum 1 = .ok (.getfield 49, 3) := by decide +kernel
theorem dX8_sum_4 : decode cX8_sum 4 = .ok (.getfield 114, 3) := by decide +kernel
theorem dX8_sum_7 : decode cX8_sum 7 = .ok (.lreturn, 1) := by decide +kernel
theorem dX8_tally_0 : decode cX8_tally 0 = .ok (.iload_n 1, 1) := by decide +kernel
theorem dX8_tally_1 : decode cX8_tally 1 = .ok (.iconst 1, 1) := by decide +kernel
theorem dX8_tally_2 : decode cX8_tally 2 = .ok (.if_icmp .lt 18, 3) := by decide +kernel
theorem dX8_tally_5 : decode cX8_tally 5 = .ok (.iload_n 1, 1) := by decide +kernel
theorem dX8_tally_6 : decode cX8_tally 6 = .ok (.bipush 7, 2) := by decide +kernel
theorem dX8_tally_8 : decode cX8_tally 8 = .ok (.if_icmp .gt 12, 3) := by decide +kernel
theorem dX8_tally_11 : decode cX8_tally 11 = .ok (.aload_n 0, 1) := by decide +kernel
theorem dX8_tally_12 : decode cX8_tally 12 = .ok (.getfield 43, 3) := by decide +kernel
theorem dX8_tally_15 : decode cX8_tally 15 = .ok (.iload_n 1, 1) := by decide +kernel
theorem dX8_tally_16 : decode cX8_tally 16 = .ok (.iaload, 1) := by decide +kernel
theorem dX8_tally_17 : decode cX8_tally 17 = .ok (.goto 5, 3) := by decide +kernel
theorem dX8_tally_20 : decode cX8_tally 20 = .ok (.bipush (-2), 2) := by decide +kernel
theorem dX8_tally_22 : decode cX8_tally 22 = .ok (.ireturn, 1) := by decide +kernel
theorem dX8_stand_0 : decode cX8_stand 0 = .ok (.iload_n 1, 1) := by decide +kernel
theorem dX8_stand_1 : decode cX8_stand 1 = .ok (.iconst 4, 1) := by decide +kernel
theorem dX8_stand_2 : decode cX8_stand 2 = .ok (.invokestatic 68, 3) := by decide +kernel
theorem dX8_stand_5 : decode cX8_stand 5 = .ok (.ifCond .eq 12, 3) := by decide +kernel
theorem dX8_stand_8 : decode cX8_stand 8 = .ok (.iload_n 2, 1) := by decide +kernel
theorem dX8_stand_9 : decode cX8_stand 9 = .ok (.bipush 8, 2) := by decide +kernel
theorem dX8_stand_11 : decode cX8_stand 11 = .ok (.invokestatic 68, 3) := by decide +kernel
theorem dX8_stand_14 : decode cX8_stand 14 = .ok (.ifCond .ne 6, 3) := by decide +kernel
theorem dX8_stand_17 : decode cX8_stand 17 = .ok (.ldc 118, 2) := by decide +kernel
theorem dX8_stand_19 : decode cX8_stand 19 = .ok (.ireturn, 1) := by decide +kernel
theorem dX8_stand_20 : decode cX8_stand 20 = .ok (.iload_n 2, 1) := by decide +kernel
theorem dX8_stand_21 : decode cX8_stand 21 = .ok (.bipush 6, 2) := by decide +kernel
theorem dX8_stand_23 : decode cX8_stand 23 = .ok (.if_icmp .ne 16, 3) := by decide +kernel
theorem dX8_stand_26 : decode cX8_stand 26 = .ok (.aload_n 0, 1) := by decide +kernel
theorem dX8_stand_27 : decode cX8_stand 27 = .ok (.aload_n 0, 1) := by decide +kernel
theorem dX8_stand_28 : decode cX8_stand 28 = .ok (.getfield 11, 3) := by decide +kernel
theorem dX8_stand_31 : decode cX8_stand 31 = .ok (.iload_n 1, 1) := by decide +kernel
theorem dX8_stand_32 : decode cX8_stand 32 = .ok (.aaload, 1) := by decide +kernel
theorem dX8_stand_33 : decode cX8_stand 33 = .ok (.invokevirtual 119, 3) := by decide +kernel
theorem dX8_stand_36 : decode cX8_stand 36 = .ok (.goto 13, 3) := by decide +kernel
theorem dX8_stand_39 : decode cX8_stand 39 = .ok (.aload_n 0, 1) := by decide +kernel
theorem dX8_stand_40 : decode cX8_stand 40 = .ok (.getfield 11, 3) := by decide +kernel
theorem dX8_stand_43 : decode cX8_stand 43 = .ok (.iload_n 1, 1) := by decide +kernel
theorem dX8_stand_44 : decode cX8_stand 44 = .ok (.aaload, 1) := by decide +kernel
theorem dX8_stand_45 : decode cX8_stand 45 = .ok (.iload_n 2, 1) := by decide +kernel
theorem dX8_stand_46 : decode cX8_stand 46 = .ok (.invokevirtual 123, 3) := by decide +kernel
theorem dX8_stand_49 : decode cX8_stand 49 = .ok (.ireturn, 1) := by decide +kernel
theorem dX8_basket_0 : decode cX8_basket 0 = .ok (.iload_n 1, 1) := by decide +kernel
theorem dX8_basket_1 : decode cX8_basket 1 = .ok (.iconst 4, 1) := by decide +kernel
theorem dX8_basket_2 : decode cX8_basket 2 = .ok (.invokestatic 68, 3) := by decide +kernel
theorem dX8_basket_5 : decode cX8_basket 5 = .ok (.ifCond .eq 16, 3) := by decide +kernel
theorem dX8_basket_8 : decode cX8_basket 8 = .ok (.aload_n 0, 1) := by decide +kernel
theorem dX8_basket_9 : decode cX8_basket 9 = .ok (.getfield 17, 3) := by decide +kernel
theorem dX8_basket_12 : decode cX8_basket 12 = .ok (.iload_n 1, 1) := by decide +kernel
theorem dX8_basket_13 : decode cX8_basket 13 = .ok (.aaload, 1) := by decide +kernel
theorem dX8_basket_14 : decode cX8_basket 14 = .ok (.iload_n 2, 1) := by decide +kernel
theorem dX8_basket_15 : decode cX8_basket 15 = .ok (.invokevirtual 127, 3) := by decide +kernel
theorem dX8_basket_18 : decode cX8_basket 18 = .ok (.goto 4, 3) := by decide +kernel
theorem dX8_basket_21 : decode cX8_basket 21 = .ok (.iconst 0, 1) := by decide +kernel
theorem dX8_basket_22 : decode cX8_basket 22 = .ok (.ireturn, 1) := by decide +kernel
theorem dX8_rack_0 : decode cX8_rack 0 = .ok (.iload_n 1, 1) := by decide +kernel
theorem dX8_rack_1 : decode cX8_rack 1 = .ok (.iconst 4, 1) := by decide +kernel
theorem dX8_rack_2 : decode cX8_rack 2 = .ok (.invokestatic 68, 3) := by decide +kernel
theorem dX8_rack_5 : decode cX8_rack 5 = .ok (.ifCond .eq 16, 3) := by decide +kernel
theorem dX8_rack_8 : decode cX8_rack 8 = .ok (.aload_n 0, 1) := by decide +kernel
theorem dX8_rack_9 : decode cX8_rack 9 = .ok (.getfield 23, 3) := by decide +kernel
theorem dX8_rack_12 : decode cX8_rack 12 = .ok (.iload_n 1, 1) := by decide +kernel
theorem dX8_rack_13 : decode cX8_rack 13 = .ok (.aaload, 1) := by decide +kernel
theorem dX8_rack_14 : decode cX8_rack 14 = .ok (.iload_n 2, 1) := by decide +kernel
theorem dX8_rack_15 : decode cX8_rack 15 = .ok (.invokevirtual 130, 3) := by decide +kernel
theorem dX8_rack_18 : decode cX8_rack 18 = .ok (.goto 4, 3) := by decide +kernel
theorem dX8_rack_21 : decode cX8_rack 21 = .ok (.aconst_null, 1) := by decide +kernel
theorem dX8_rack_22 : decode cX8_rack 22 = .ok (.astore_n 3, 1) := by decide +kernel
theorem dX8_rack_23 : decode cX8_rack 23 = .ok (.aload_n 3, 1) := by decide +kernel
theorem dX8_rack_24 : decode cX8_rack 24 = .ok (.ifnonnull 8, 3) := by decide +kernel
theorem dX8_rack_27 : decode cX8_rack 27 = .ok (.ldc 118, 2) := by decide +kernel
theorem dX8_rack_29 : decode cX8_rack 29 = .ok (.goto 7, 3) := by decide +kernel
theorem dX8_rack_32 : decode cX8_rack 32 = .ok (.aload_n 3, 1) := by decide +kernel
theorem dX8_rack_33 : decode cX8_rack 33 = .ok (.invokevirtual 134, 3) := by decide +kernel
theorem dX8_rack_36 : decode cX8_rack 36 = .ok (.ireturn, 1) := by decide +kernel
theorem dX8_grid_0 : decode cX8_grid 0 = .ok (.iload_n 1, 1) := by decide +kernel
theorem dX8_grid_1 : decode cX8_grid 1 = .ok (.iconst 4, 1) := by decide +kernel
theorem dX8_grid_2 : decode cX8_grid 2 = .ok (.invokestatic 68, 3) := by decide +kernel
theorem dX8_grid_5 : decode cX8_grid 5 = .ok (.ifCond .eq 17, 3) := by decide +kernel
theorem dX8_grid_8 : decode cX8_grid 8 = .ok (.aload_n 0, 1) := by decide +kernel
theorem dX8_grid_9 : decode cX8_grid 9 = .ok (.getfield 29, 3) := by decide +kernel
theorem dX8_grid_12 : decode cX8_grid 12 = .ok (.iload_n 1, 1) := by decide +kernel
theorem dX8_grid_13 : decode cX8_grid 13 = .ok (.aaload, 1) := by decide +kernel
theorem dX8_grid_14 : decode cX8_grid 14 = .ok (.iload_n 2, 1) := by decide +kernel
theorem dX8_grid_15 : decode cX8_grid 15 = .ok (.iload_n 3, 1) := by decide +kernel
theorem dX8_grid_16 : decode cX8_grid 16 = .ok (.invokevirtual 139, 3) := by decide +kernel
theorem dX8_grid_19 : decode cX8_grid 19 = .ok (.goto 4, 3) := by decide +kernel
theorem dX8_grid_22 : decode cX8_grid 22 = .ok (.iconst 0, 1) := by decide +kernel
theorem dX8_grid_23 : decode cX8_grid 23 = .ok (.ireturn, 1) := by decide +kernel
theorem dX8_isWithin_0 : decode cX8_isWithin 0 = .ok (.iload_n 0, 1) := by decide +kernel
theorem dX8_isWithin_1 : decode cX8_isWithin 1 = .ok (.ifCond .lt 12, 3) := by decide +kernel
theorem dX8_isWithin_4 : decode cX8_isWithin 4 = .ok (.iload_n 0, 1) := by decide +kernel
theorem dX8_isWithin_5 : decode cX8_isWithin 5 = .ok (.iload_n 1, 1) := by decide +kernel
theorem dX8_isWithin_6 : decode cX8_isWithin 6 = .ok (.if_icmp .ge 7, 3) := by decide +kernel
theorem dX8_isWithin_9 : decode cX8_isWithin 9 = .ok (.iconst 1, 1) := by decide +kernel
theorem dX8_isWithin_10 : decode cX8_isWithin 10 = .ok (.goto 4, 3) := by decide +kernel
theorem dX8_isWithin_13 : decode cX8_isWithin 13 = .ok (.iconst 0, 1) := by decide +kernel
theorem dX8_isWithin_14 : decode cX8_isWithin 14 = .ok (.ireturn, 1) := by decide +kernel
theorem dX8_failure_0 : decode cX8_failure 0 = .ok (.ldc2_w 66, 3) := by decide +kernel
theorem dX8_failure_3 : decode cX8_failure 3 = .ok (.iload_n 0, 1) := by decide +kernel
theorem dX8_failure_4 : decode cX8_failure 4 = .ok (.i2l, 1) := by decide +kernel
theorem dX8_failure_5 : decode cX8_failure 5 = .ok (.ladd, 1) := by decide +kernel
theorem dX8_failure_6 : decode cX8_failure 6 = .ok (.lreturn, 1) := by decide +kernel
theorem dX8_reasonOf_0 : decode cX8_reasonOf 0 = .ok (.lload_n 0, 1) := by decide +kernel
theorem dX8_reasonOf_1 : decode cX8_reasonOf 1 = .ok (.ldc2_w 142, 3) := by decide +kernel
theorem dX8_reasonOf_4 : decode cX8_reasonOf 4 = .ok (.lcmp, 1) := by decide +kernel
theorem dX8_reasonOf_5 : decode cX8_reasonOf 5 = .ok (.ifCond .ge 12, 3) := by decide +kernel
theorem dX8_reasonOf_8 : decode cX8_reasonOf 8 = .ok (.lload_n 0, 1) := by decide +kernel
theorem dX8_reasonOf_9 : decode cX8_reasonOf 9 = .ok (.ldc2_w 66, 3) := by decide +kernel
theorem dX8_reasonOf_12 : decode cX8_reasonOf 12 = .ok (.lsub, 1) := by decide +kernel
theorem dX8_reasonOf_13 : decode cX8_reasonOf 13 = .ok (.l2i, 1) := by decide +kernel
theorem dX8_reasonOf_14 : decode cX8_reasonOf 14 = .ok (.goto 4, 3) := by decide +kernel
theorem dX8_reasonOf_17 : decode cX8_reasonOf 17 = .ok (.iconst 0, 1) := by decide +kernel
theorem dX8_reasonOf_18 : decode cX8_reasonOf 18 = .ok (.ireturn, 1) := by decide +kernel
theorem dX8_isStep_0 : decode cX8_isStep 0 = .ok (.iload_n 1, 1) := by decide +kernel
theorem dX8_isStep_1 : decode cX8_isStep 1 = .ok (.iconst 4, 1) := by decide +kernel
theorem dX8_isStep_2 : decode cX8_isStep 2 = .ok (.invokestatic 68, 3) := by decide +kernel
theorem dX8_isStep_5 : decode cX8_isStep 5 = .ok (.ifCond .ne 5, 3) := by decide +kernel
theorem dX8_isStep_8 : decode cX8_isStep 8 = .ok (.iconst 0, 1) := by decide +kernel
theorem dX8_isStep_9 : decode cX8_isStep 9 = .ok (.ireturn, 1) := by decide +kernel
theorem dX8_isStep_10 : decode cX8_isStep 10 = .ok (.iload_n 0, 1) := by decide +kernel
theorem dX8_isStep_11 : decode cX8_isStep 11 = .ok (.tableswitch 77 7 13 #[41, 41, 53, 77, 77, 77, 71], 41) := by decide +kernel
theorem dX8_isStep_52 : decode cX8_isStep 52 = .ok (.iload_n 2, 1) := by decide +kernel
theorem dX8_isStep_53 : decode cX8_isStep 53 = .ok (.bipush 12, 2) := by decide +kernel
theorem dX8_isStep_55 : decode cX8_isStep 55 = .ok (.if_icmp .gt 7, 3) := by decide +kernel
theorem dX8_isStep_58 : decode cX8_isStep 58 = .ok (.iconst 1, 1) := by decide +kernel
theorem dX8_isStep_59 : decode cX8_isStep 59 = .ok (.goto 4, 3) := by decide +kernel
theorem dX8_isStep_62 : decode cX8_isStep 62 = .ok (.iconst 0, 1) := by decide +kernel
theorem dX8_isStep_63 : decode cX8_isStep 63 = .ok (.ireturn, 1) := by decide +kernel
theorem dX8_isStep_64 : decode cX8_isStep 64 = .ok (.iload_n 2, 1) := by decide +kernel
theorem dX8_isStep_65 : decode cX8_isStep 65 = .ok (.bipush 12, 2) := by decide +kernel
theorem dX8_isStep_67 : decode cX8_isStep 67 = .ok (.if_icmp .gt 13, 3) := by decide +kernel
theorem dX8_isStep_70 : decode cX8_isStep 70 = .ok (.iload_n 3, 1) := by decide +kernel
theorem dX8_isStep_71 : decode cX8_isStep 71 = .ok (.bipush 12, 2) := by decide +kernel
theorem dX8_isStep_73 : decode cX8_isStep 73 = .ok (.if_icmp .gt 7, 3) := by decide +kernel
theorem dX8_isStep_76 : decode cX8_isStep 76 = .ok (.iconst 1, 1) := by decide +kernel
theorem dX8_isStep_77 : decode cX8_isStep 77 = .ok (.goto 4, 3) := by decide +kernel
theorem dX8_isStep_80 : decode cX8_isStep 80 = .ok (.iconst 0, 1) := by decide +kernel
theorem dX8_isStep_81 : decode cX8_isStep 81 = .ok (.ireturn, 1) := by decide +kernel
theorem dX8_isStep_82 : decode cX8_isStep 82 = .ok (.iload_n 3, 1) := by decide +kernel
theorem dX8_isStep_83 : decode cX8_isStep 83 = .ok (.iconst 4, 1) := by decide +kernel
theorem dX8_isStep_84 : decode cX8_isStep 84 = .ok (.invokestatic 68, 3) := by decide +kernel
theorem dX8_isStep_87 : decode cX8_isStep 87 = .ok (.ireturn, 1) := by decide +kernel
theorem dX8_isStep_88 : decode cX8_isStep 88 = .ok (.iload_n 0, 1) := by decide +kernel
theorem dX8_isStep_89 : decode cX8_isStep 89 = .ok (.ifCond .lt 13, 3) := by decide +kernel
theorem dX8_isStep_92 : decode cX8_isStep 92 = .ok (.iload_n 0, 1) := by decide +kernel
theorem dX8_isStep_93 : decode cX8_isStep 93 = .ok (.bipush 16, 2) := by decide +kernel
theorem dX8_isStep_95 : decode cX8_isStep 95 = .ok (.if_icmp .gt 7, 3) := by decide +kernel
theorem dX8_isStep_98 : decode cX8_isStep 98 = .ok (.iconst 1, 1) := by decide +kernel
theorem dX8_isStep_99 : decode cX8_isStep 99 = .ok (.goto 4, 3) := by decide +kernel
theorem dX8_isStep_102 : decode cX8_isStep 102 = .ok (.iconst 0, 1) := by decide +kernel
theorem dX8_isStep_103 : decode cX8_isStep 103 = .ok (.ireturn, 1) := by decide +kernel
theorem dX8_attempt_0 : decode cX8_attempt 0 = .ok (.aload_n 0, 1) := by decide +kernel
theorem dX8_attempt_1 : decode cX8_attempt 1 = .ok (.iload_n 1, 1) := by decide +kernel
theorem dX8_attempt_2 : decode cX8_attempt 2 = .ok (.iload_n 2, 1) := by decide +kernel
theorem dX8_attempt_3 : decode cX8_attempt 3 = .ok (.iload_n 3, 1) := by decide +kernel
theorem dX8_attempt_4 : decode cX8_attempt 4 = .ok (.iload 4, 2) := by decide +kernel
theorem dX8_attempt_6 : decode cX8_attempt 6 = .ok (.invokevirtual 144, 3) := by decide +kernel
theorem dX8_attempt_9 : decode cX8_attempt 9 = .ok (.lstore 5, 2) := by decide +kernel
theorem dX8_attempt_11 : decode cX8_attempt 11 = .ok (.lload 5, 2) := by decide +kernel
theorem dX8_attempt_13 : decode cX8_attempt 13 = .ok (.invokestatic 147, 3) := by decide +kernel
theorem dX8_attempt_16 : decode cX8_attempt 16 = .ok (.istore 7, 2) := by decide +kernel
theorem dX8_attempt_18 : decode cX8_attempt 18 = .ok (.iload 7, 2) := by decide +kernel
theorem dX8_attempt_20 : decode cX8_attempt 20 = .ok (.iconst 1, 1) := by decide +kernel
theorem dX8_attempt_21 : decode cX8_attempt 21 = .ok (.if_icmp .lt 21, 3) := by decide +kernel
theorem dX8_attempt_24 : decode cX8_attempt 24 = .ok (.iload 7, 2) := by decide +kernel
theorem dX8_attempt_26 : decode cX8_attempt 26 = .ok (.bipush 7, 2) := by decide +kernel
theorem dX8_attempt_28 : decode cX8_attempt 28 = .ok (.if_icmp .gt 14, 3) := by decide +kernel
theorem dX8_attempt_31 : decode cX8_attempt 31 = .ok (.aload_n 0, 1) := by decide +kernel
theorem dX8_attempt_32 : decode cX8_attempt 32 = .ok (.getfield 43, 3) := by decide +kernel
theorem dX8_attempt_35 : decode cX8_attempt 35 = .ok (.iload 7, 2) := by decide +kernel
theorem dX8_attempt_37 : decode cX8_attempt 37 = .ok (.dup2, 1) := by decide +kernel
theorem dX8_attempt_38 : decode cX8_attempt 38 = .ok (.iaload, 1) := by decide +kernel
theorem dX8_attempt_39 : decode cX8_attempt 39 = .ok (.iconst 1, 1) := by decide +kernel
theorem dX8_attempt_40 : decode cX8_attempt 40 = .ok (.iadd, 1) := by decide +kernel
theorem dX8_attempt_41 : decode cX8_attempt 41 = .ok (.iastore, 1) := by decide +kernel
theorem dX8_attempt_42 : decode cX8_attempt 42 = .ok (.lload 5, 2) := by decide +kernel
theorem dX8_attempt_44 : decode cX8_attempt 44 = .ok (.lreturn, 1) := by decide +kernel
theorem dX8_perform_0 : decode cX8_perform 0 = .ok (.iload_n 1, 1) := by decide +kernel
theorem dX8_perform_1 : decode cX8_perform 1 = .ok (.tableswitch 299 0 16 #[83, 94, 104, 117, 128, 139, 152, 163, 174, 197, 210, 219, 232, 245, 263, 274, 281], 83) := by decide +kernel
theorem dX8_perform_84 : decode cX8_perform 84 = .ok (.aload_n 0, 1) := by decide +kernel
theorem dX8_perform_85 : decode cX8_perform 85 = .ok (.getfield 11, 3) := by decide +kernel
theorem dX8_perform_88 : decode cX8_perform 88 = .ok (.iload_n 2, 1) := by decide +kernel
theorem dX8_perform_89 : decode cX8_perform 89 = .ok (.aaload, 1) := by decide +kernel
theorem dX8_perform_90 : decode cX8_perform 90 = .ok (.iload_n 3, 1) := by decide +kernel
theorem dX8_perform_91 : decode cX8_perform 91 = .ok (.invokevirtual 151, 3) := by decide +kernel
theorem dX8_perform_94 : decode cX8_perform 94 = .ok (.lreturn, 1) := by decide +kernel
theorem dX8_perform_95 : decode cX8_perform 95 = .ok (.aload_n 0, 1) := by decide +kernel
theorem dX8_perform_96 : decode cX8_perform 96 = .ok (.getfield 11, 3) := by decide +kernel
theorem dX8_perform_99 : decode cX8_perform 99 = .ok (.iload_n 2, 1) := by decide +kernel
theorem dX8_perform_100 : decode cX8_perform 100 = .ok (.aaload, 1) := by decide +kernel
theorem dX8_perform_101 : decode cX8_perform 101 = .ok (.invokevirtual 155, 3) := by decide +kernel
theorem dX8_perform_104 : decode cX8_perform 104 = .ok (.lreturn, 1) := by decide +kernel
theorem dX8_perform_105 : decode cX8_perform 105 = .ok (.aload_n 0, 1) := by decide +kernel
theorem dX8_perform_106 : decode cX8_perform 106 = .ok (.getfield 11, 3) := by decide +kernel
theorem dX8_perform_109 : decode cX8_perform 109 = .ok (.iload_n 2, 1) := by decide +kernel
theorem dX8_perform_110 : decode cX8_perform 110 = .ok (.aaload, 1) := by decide +kernel
theorem dX8_perform_111 : decode cX8_perform 111 = .ok (.iload_n 3, 1) := by decide +kernel
theorem dX8_perform_112 : decode cX8_perform 112 = .ok (.iload 4, 2) := by decide +kernel
theorem dX8_perform_114 : decode cX8_perform 114 = .ok (.invokevirtual 159, 3) := by decide +kernel
theorem dX8_perform_117 : decode cX8_perform 117 = .ok (.lreturn, 1) := by decide +kernel
theorem dX8_perform_118 : decode cX8_perform 118 = .ok (.aload_n 0, 1) := by decide +kernel
theorem dX8_perform_119 : decode cX8_perform 119 = .ok (.getfield 11, 3) := by decide +kernel
theorem dX8_perform_122 : decode cX8_perform 122 = .ok (.iload_n 2, 1) := by decide +kernel
theorem dX8_perform_123 : decode cX8_perform 123 = .ok (.aaload, 1) := by decide +kernel
theorem dX8_perform_124 : decode cX8_perform 124 = .ok (.iload_n 3, 1) := by decide +kernel
theorem dX8_perform_125 : decode cX8_perform 125 = .ok (.invokevirtual 163, 3) := by decide +kernel
theorem dX8_perform_128 : decode cX8_perform 128 = .ok (.lreturn, 1) := by decide +kernel
theorem dX8_perform_129 : decode cX8_perform 129 = .ok (.aload_n 0, 1) := by decide +kernel
theorem dX8_perform_130 : decode cX8_perform 130 = .ok (.getfield 11, 3) := by decide +kernel
theorem dX8_perform_133 : decode cX8_perform 133 = .ok (.iload_n 2, 1) := by decide +kernel
theorem dX8_perform_134 : decode cX8_perform 134 = .ok (.aaload, 1) := by decide +kernel
theorem dX8_perform_135 : decode cX8_perform 135 = .ok (.iload_n 3, 1) := by decide +kernel
theorem dX8_perform_136 : decode cX8_perform 136 = .ok (.invokevirtual 166, 3) := by decide +kernel
theorem dX8_perform_139 : decode cX8_perform 139 = .ok (.lreturn, 1) := by decide +kernel
theorem dX8_perform_140 : decode cX8_perform 140 = .ok (.aload_n 0, 1) := by decide +kernel
theorem dX8_perform_141 : decode cX8_perform 141 = .ok (.getfield 11, 3) := by decide +kernel
theorem dX8_perform_144 : decode cX8_perform 144 = .ok (.iload_n 2, 1) := by decide +kernel
theorem dX8_perform_145 : decode cX8_perform 145 = .ok (.aaload, 1) := by decide +kernel
theorem dX8_perform_146 : decode cX8_perform 146 = .ok (.iload_n 3, 1) := by decide +kernel
theorem dX8_perform_147 : decode cX8_perform 147 = .ok (.iload 4, 2) := by decide +kernel
theorem dX8_perform_149 : decode cX8_perform 149 = .ok (.invokevirtual 169, 3) := by decide +kernel
theorem dX8_perform_152 : decode cX8_perform 152 = .ok (.lreturn, 1) := by decide +kernel
theorem dX8_perform_153 : decode cX8_perform 153 = .ok (.aload_n 0, 1) := by decide +kernel
theorem dX8_perform_154 : decode cX8_perform 154 = .ok (.getfield 11, 3) := by decide +kernel
theorem dX8_perform_157 : decode cX8_perform 157 = .ok (.iload_n 2, 1) := by decide +kernel
theorem dX8_perform_158 : decode cX8_perform 158 = .ok (.aaload, 1) := by decide +kernel
theorem dX8_perform_159 : decode cX8_perform 159 = .ok (.iload_n 3, 1) := by decide +kernel
theorem dX8_perform_160 : decode cX8_perform 160 = .ok (.invokevirtual 172, 3) := by decide +kernel
theorem dX8_perform_163 : decode cX8_perform 163 = .ok (.lreturn, 1) := by decide +kernel
theorem dX8_perform_164 : decode cX8_perform 164 = .ok (.aload_n 0, 1) := by decide +kernel
theorem dX8_perform_165 : decode cX8_perform 165 = .ok (.getfield 17, 3) := by decide +kernel
theorem dX8_perform_168 : decode cX8_perform 168 = .ok (.iload_n 2, 1) := by decide +kernel
theorem dX8_perform_169 : decode cX8_perform 169 = .ok (.aaload, 1) := by decide +kernel
theorem dX8_perform_170 : decode cX8_perform 170 = .ok (.iload_n 3, 1) := by decide +kernel
theorem dX8_perform_171 : decode cX8_perform 171 = .ok (.invokevirtual 175, 3) := by decide +kernel
theorem dX8_perform_174 : decode cX8_perform 174 = .ok (.lreturn, 1) := by decide +kernel
theorem dX8_perform_175 : decode cX8_perform 175 = .ok (.aload_n 0, 1) := by decide +kernel
theorem dX8_perform_176 : decode cX8_perform 176 = .ok (.getfield 23, 3) := by decide +kernel
theorem dX8_perform_179 : decode cX8_perform 179 = .ok (.iload_n 2, 1) := by decide +kernel
theorem dX8_perform_180 : decode cX8_perform 180 = .ok (.aaload, 1) := by decide +kernel
theorem dX8_perform_181 : decode cX8_perform 181 = .ok (.iload_n 3, 1) := by decide +kernel
theorem dX8_perform_182 : decode cX8_perform 182 = .ok (.iload 4, 2) := by decide +kernel
theorem dX8_perform_184 : decode cX8_perform 184 = .ok (.iconst 1, 1) := by decide +kernel
theorem dX8_perform_185 : decode cX8_perform 185 = .ok (.iand, 1) := by decide +kernel
theorem dX8_perform_186 : decode cX8_perform 186 = .ok (.ifCond .eq 7, 3) := by decide +kernel
theorem dX8_perform_189 : decode cX8_perform 189 = .ok (.iconst 1, 1) := by decide +kernel
theorem dX8_perform_190 : decode cX8_perform 190 = .ok (.goto 4, 3) := by decide +kernel
theorem dX8_perform_193 : decode cX8_perform 193 = .ok (.iconst 0, 1) := by decide +kernel
theorem dX8_perform_194 : decode cX8_perform 194 = .ok (.invokevirtual 178, 3) := by decide +kernel
theorem dX8_perform_197 : decode cX8_perform 197 = .ok (.lreturn, 1) := by decide +kernel
theorem dX8_perform_198 : decode cX8_perform 198 = .ok (.aload_n 0, 1) := by decide +kernel
theorem dX8_perform_199 : decode cX8_perform 199 = .ok (.getfield 29, 3) := by decide +kernel
theorem dX8_perform_202 : decode cX8_perform 202 = .ok (.iload_n 2, 1) := by decide +kernel
theorem dX8_perform_203 : decode cX8_perform 203 = .ok (.aaload, 1) := by decide +kernel
theorem dX8_perform_204 : decode cX8_perform 204 = .ok (.iload_n 3, 1) := by decide +kernel
theorem dX8_perform_205 : decode cX8_perform 205 = .ok (.iload 4, 2) := by decide +kernel
theorem dX8_perform_207 : decode cX8_perform 207 = .ok (.invokevirtual 181, 3) := by decide +kernel
theorem dX8_perform_210 : decode cX8_perform 210 = .ok (.lreturn, 1) := by decide +kernel
theorem dX8_perform_211 : decode cX8_perform 211 = .ok (.aload_n 0, 1) := by decide +kernel
theorem dX8_perform_212 : decode cX8_perform 212 = .ok (.iload_n 2, 1) := by decide +kernel
theorem dX8_perform_213 : decode cX8_perform 213 = .ok (.iload_n 3, 1) := by decide +kernel
theorem dX8_perform_214 : decode cX8_perform 214 = .ok (.iload 4, 2) := by decide +kernel
theorem dX8_perform_216 : decode cX8_perform 216 = .ok (.invokevirtual 183, 3) := by decide +kernel
theorem dX8_perform_219 : decode cX8_perform 219 = .ok (.lreturn, 1) := by decide +kernel
theorem dX8_perform_220 : decode cX8_perform 220 = .ok (.aload_n 0, 1) := by decide +kernel
theorem dX8_perform_221 : decode cX8_perform 221 = .ok (.getfield 17, 3) := by decide +kernel
theorem dX8_perform_224 : decode cX8_perform 224 = .ok (.iload_n 2, 1) := by decide +kernel
theorem dX8_perform_225 : decode cX8_perform 225 = .ok (.aaload, 1) := by decide +kernel
theorem dX8_perform_226 : decode cX8_perform 226 = .ok (.iload_n 3, 1) := by decide +kernel
theorem dX8_perform_227 : decode cX8_perform 227 = .ok (.iload 4, 2) := by decide +kernel
theorem dX8_perform_229 : decode cX8_perform 229 = .ok (.invokevirtual 187, 3) := by decide +kernel
theorem dX8_perform_232 : decode cX8_perform 232 = .ok (.lreturn, 1) := by decide +kernel
theorem dX8_perform_233 : decode cX8_perform 233 = .ok (.aload_n 0, 1) := by decide +kernel
theorem dX8_perform_234 : decode cX8_perform 234 = .ok (.getfield 29, 3) := by decide +kernel
theorem dX8_perform_237 : decode cX8_perform 237 = .ok (.iload_n 2, 1) := by decide +kernel
theorem dX8_perform_238 : decode cX8_perform 238 = .ok (.aaload, 1) := by decide +kernel
theorem dX8_perform_239 : decode cX8_perform 239 = .ok (.iload_n 3, 1) := by decide +kernel
theorem dX8_perform_240 : decode cX8_perform 240 = .ok (.iload 4, 2) := by decide +kernel
theorem dX8_perform_242 : decode cX8_perform 242 = .ok (.invokevirtual 190, 3) := by decide +kernel
theorem dX8_perform_245 : decode cX8_perform 245 = .ok (.lreturn, 1) := by decide +kernel
theorem dX8_perform_246 : decode cX8_perform 246 = .ok (.aload_n 0, 1) := by decide +kernel
theorem dX8_perform_247 : decode cX8_perform 247 = .ok (.getfield 23, 3) := by decide +kernel
theorem dX8_perform_250 : decode cX8_perform 250 = .ok (.iload_n 2, 1) := by decide +kernel
theorem dX8_perform_251 : decode cX8_perform 251 = .ok (.aaload, 1) := by decide +kernel
theorem dX8_perform_252 : decode cX8_perform 252 = .ok (.iload_n 3, 1) := by decide +kernel
theorem dX8_perform_253 : decode cX8_perform 253 = .ok (.aload_n 0, 1) := by decide +kernel
theorem dX8_perform_254 : decode cX8_perform 254 = .ok (.getfield 11, 3) := by decide +kernel
theorem dX8_perform_257 : decode cX8_perform 257 = .ok (.iload 4, 2) := by decide +kernel
theorem dX8_perform_259 : decode cX8_perform 259 = .ok (.aaload, 1) := by decide +kernel
theorem dX8_perform_260 : decode cX8_perform 260 = .ok (.invokevirtual 193, 3) := by decide +kernel
theorem dX8_perform_263 : decode cX8_perform 263 = .ok (.lreturn, 1) := by decide +kernel
theorem dX8_perform_264 : decode cX8_perform 264 = .ok (.aload_n 0, 1) := by decide +kernel
theorem dX8_perform_265 : decode cX8_perform 265 = .ok (.getfield 23, 3) := by decide +kernel
theorem dX8_perform_268 : decode cX8_perform 268 = .ok (.iload_n 2, 1) := by decide +kernel
theorem dX8_perform_269 : decode cX8_perform 269 = .ok (.aaload, 1) := by decide +kernel
theorem dX8_perform_270 : decode cX8_perform 270 = .ok (.iload_n 3, 1) := by decide +kernel
theorem dX8_perform_271 : decode cX8_perform 271 = .ok (.invokevirtual 197, 3) := by decide +kernel
theorem dX8_perform_274 : decode cX8_perform 274 = .ok (.lreturn, 1) := by decide +kernel
theorem dX8_perform_275 : decode cX8_perform 275 = .ok (.aload_n 0, 1) := by decide +kernel
theorem dX8_perform_276 : decode cX8_perform 276 = .ok (.iload_n 2, 1) := by decide +kernel
theorem dX8_perform_277 : decode cX8_perform 277 = .ok (.iload_n 3, 1) := by decide +kernel
theorem dX8_perform_278 : decode cX8_perform 278 = .ok (.invokevirtual 200, 3) := by decide +kernel
theorem dX8_perform_281 : decode cX8_perform 281 = .ok (.lreturn, 1) := by decide +kernel
theorem dX8_perform_282 : decode cX8_perform 282 = .ok (.iload_n 3, 1) := by decide +kernel
theorem dX8_perform_283 : decode cX8_perform 283 = .ok (.ifCond .ne 7, 3) := by decide +kernel
theorem dX8_perform_286 : decode cX8_perform 286 = .ok (.lconst 0, 1) := by decide +kernel
theorem dX8_perform_287 : decode cX8_perform 287 = .ok (.goto 12, 3) := by decide +kernel
theorem dX8_perform_290 : decode cX8_perform 290 = .ok (.aload_n 0, 1) := by decide +kernel
theorem dX8_perform_291 : decode cX8_perform 291 = .ok (.getfield 39, 3) := by decide +kernel
theorem dX8_perform_294 : decode cX8_perform 294 = .ok (.iload_n 2, 1) := by decide +kernel
theorem dX8_perform_295 : decode cX8_perform 295 = .ok (.iaload, 1) := by decide +kernel
theorem dX8_perform_296 : decode cX8_perform 296 = .ok (.invokestatic 203, 3) := by decide +kernel
theorem dX8_perform_299 : decode cX8_perform 299 = .ok (.lreturn, 1) := by decide +kernel
theorem dX8_perform_300 : decode cX8_perform 300 = .ok (.ldc2_w 66, 3) := by decide +kernel
theorem dX8_perform_303 : decode cX8_perform 303 = .ok (.lreturn, 1) := by decide +kernel
theorem dX8_measure_0 : decode cX8_measure 0 = .ok (.iload_n 2, 1) := by decide +kernel
theorem dX8_measure_1 : decode cX8_measure 1 = .ok (.tableswitch 66 0 2 #[27, 40, 53], 27) := by decide +kernel
theorem dX8_measure_28 : decode cX8_measure 28 = .ok (.aload_n 0, 1) := by decide +kernel
theorem dX8_measure_29 : decode cX8_measure 29 = .ok (.getfield 17, 3) := by decide +kernel
theorem dX8_measure_32 : decode cX8_measure 32 = .ok (.iload_n 1, 1) := by decide +kernel
theorem dX8_measure_33 : decode cX8_measure 33 = .ok (.aaload, 1) := by decide +kernel
theorem dX8_measure_34 : decode cX8_measure 34 = .ok (.getfield 206, 3) := by decide +kernel
theorem dX8_measure_37 : decode cX8_measure 37 = .ok (.invokestatic 209, 3) := by decide +kernel
theorem dX8_measure_40 : decode cX8_measure 40 = .ok (.lreturn, 1) := by decide +kernel
theorem dX8_measure_41 : decode cX8_measure 41 = .ok (.aload_n 0, 1) := by decide +kernel
theorem dX8_measure_42 : decode cX8_measure 42 = .ok (.getfield 23, 3) := by decide +kernel
theorem dX8_measure_45 : decode cX8_measure 45 = .ok (.iload_n 1, 1) := by decide +kernel
theorem dX8_measure_46 : decode cX8_measure 46 = .ok (.aaload, 1) := by decide +kernel
theorem dX8_measure_47 : decode cX8_measure 47 = .ok (.getfield 212, 3) := by decide +kernel
theorem dX8_measure_50 : decode cX8_measure 50 = .ok (.invokestatic 209, 3) := by decide +kernel
theorem dX8_measure_53 : decode cX8_measure 53 = .ok (.lreturn, 1) := by decide +kernel
theorem dX8_measure_54 : decode cX8_measure 54 = .ok (.aload_n 0, 1) := by decide +kernel
theorem dX8_measure_55 : decode cX8_measure 55 = .ok (.getfield 29, 3) := by decide +kernel
theorem dX8_measure_58 : decode cX8_measure 58 = .ok (.iload_n 1, 1) := by decide +kernel
theorem dX8_measure_59 : decode cX8_measure 59 = .ok (.aaload, 1) := by decide +kernel
theorem dX8_measure_60 : decode cX8_measure 60 = .ok (.getfield 213, 3) := by decide +kernel
theorem dX8_measure_63 : decode cX8_measure 63 = .ok (.invokestatic 209, 3) := by decide +kernel
theorem dX8_measure_66 : decode cX8_measure 66 = .ok (.lreturn, 1) := by decide +kernel
theorem dX8_measure_67 : decode cX8_measure 67 = .ok (.aload_n 0, 1) := by decide +kernel
theorem dX8_measure_68 : decode cX8_measure 68 = .ok (.getfield 29, 3) := by decide +kernel
theorem dX8_measure_71 : decode cX8_measure 71 = .ok (.iload_n 1, 1) := by decide +kernel
theorem dX8_measure_72 : decode cX8_measure 72 = .ok (.aaload, 1) := by decide +kernel
theorem dX8_measure_73 : decode cX8_measure 73 = .ok (.iload_n 3, 1) := by decide +kernel
theorem dX8_measure_74 : decode cX8_measure 74 = .ok (.invokevirtual 216, 3) := by decide +kernel
theorem dX8_measure_77 : decode cX8_measure 77 = .ok (.lreturn, 1) := by decide +kernel
theorem dX8_lengthOrFailure_0 : decode cX8_lengthOrFailure 0 = .ok (.iload_n 0, 1) := by decide +kernel
theorem dX8_lengthOrFailure_1 : decode cX8_lengthOrFailure 1 = .ok (.iconst (-1), 1) := by decide +kernel
theorem dX8_lengthOrFailure_2 : decode cX8_lengthOrFailure 2 = .ok (.if_icmp .ne 10, 3) := by decide +kernel
theorem dX8_lengthOrFailure_5 : decode cX8_lengthOrFailure 5 = .ok (.iconst 1, 1) := by decide +kernel
theorem dX8_lengthOrFailure_6 : decode cX8_lengthOrFailure 6 = .ok (.invokestatic 203, 3) := by decide +kernel
theorem dX8_lengthOrFailure_9 : decode cX8_lengthOrFailure 9 = .ok (.goto 5, 3) := by decide +kernel
theorem dX8_lengthOrFailure_12 : decode cX8_lengthOrFailure 12 = .ok (.iload_n 0, 1) := by decide +kernel
theorem dX8_lengthOrFailure_13 : decode cX8_lengthOrFailure 13 = .ok (.i2l, 1) := by decide +kernel
theorem dX8_lengthOrFailure_14 : decode cX8_lengthOrFailure 14 = .ok (.lreturn, 1) := by decide +kernel
theorem dX8_excuse_0 : decode cX8_excuse 0 = .ok (.iload_n 2, 1) := by decide +kernel
theorem dX8_excuse_1 : decode cX8_excuse 1 = .ok (.lookupswitch 48 #[(0, 27), (1, 37)], 27) := by decide +kernel
theorem dX8_excuse_28 : decode cX8_excuse 28 = .ok (.aload_n 0, 1) := by decide +kernel
theorem dX8_excuse_29 : decode cX8_excuse 29 = .ok (.getfield 39, 3) := by decide +kernel
theorem dX8_excuse_32 : decode cX8_excuse 32 = .ok (.iload_n 1, 1) := by decide +kernel
theorem dX8_excuse_33 : decode cX8_excuse 33 = .ok (.iconst 1, 1) := by decide +kernel
theorem dX8_excuse_34 : decode cX8_excuse 34 = .ok (.iastore, 1) := by decide +kernel
theorem dX8_excuse_35 : decode cX8_excuse 35 = .ok (.goto 22, 3) := by decide +kernel
theorem dX8_excuse_38 : decode cX8_excuse 38 = .ok (.aload_n 0, 1) := by decide +kernel
theorem dX8_excuse_39 : decode cX8_excuse 39 = .ok (.getfield 39, 3) := by decide +kernel
theorem dX8_excuse_42 : decode cX8_excuse 42 = .ok (.iload_n 1, 1) := by decide +kernel
theorem dX8_excuse_43 : decode cX8_excuse 43 = .ok (.bipush 6, 2) := by decide +kernel
theorem dX8_excuse_45 : decode cX8_excuse 45 = .ok (.iastore, 1) := by decide +kernel
theorem dX8_excuse_46 : decode cX8_excuse 46 = .ok (.goto 11, 3) := by decide +kernel
theorem dX8_excuse_49 : decode cX8_excuse 49 = .ok (.aload_n 0, 1) := by decide +kernel
theorem dX8_excuse_50 : decode cX8_excuse 50 = .ok (.getfield 39, 3) := by decide +kernel
theorem dX8_excuse_53 : decode cX8_excuse 53 = .ok (.iload_n 1, 1) := by decide +kernel
theorem dX8_excuse_54 : decode cX8_excuse 54 = .ok (.bipush 7, 2) := by decide +kernel
theorem dX8_excuse_56 : decode cX8_excuse 56 = .ok (.iastore, 1) := by decide +kernel
theorem dX8_excuse_57 : decode cX8_excuse 57 = .ok (.iload_n 2, 1) := by decide +kernel
theorem dX8_excuse_58 : decode cX8_excuse 58 = .ok (.i2l, 1) := by decide +kernel
theorem dX8_excuse_59 : decode cX8_excuse 59 = .ok (.lreturn, 1) := by decide +kernel
theorem dX8_isDone_0 : decode cX8_isDone 0 = .ok (.aload_n 1, 1) := by decide +kernel
theorem dX8_isDone_1 : decode cX8_isDone 1 = .ok (.iload_n 2, 1) := by decide +kernel
theorem dX8_isDone_2 : decode cX8_isDone 2 = .ok (.invokevirtual 219, 3) := by decide +kernel
theorem dX8_isDone_5 : decode cX8_isDone 5 = .ok (.astore_n 3, 1) := by decide +kernel
theorem dX8_isDone_6 : decode cX8_isDone 6 = .ok (.aload_n 3, 1) := by decide +kernel
theorem dX8_isDone_7 : decode cX8_isDone 7 = .ok (.ifnonnull 5, 3) := by decide +kernel
theorem dX8_isDone_10 : decode cX8_isDone 10 = .ok (.iconst 0, 1) := by decide +kernel
theorem dX8_isDone_11 : decode cX8_isDone 11 = .ok (.ireturn, 1) := by decide +kernel
theorem dX8_isDone_12 : decode cX8_isDone 12 = .ok (.aload_n 0, 1) := by decide +kernel
theorem dX8_isDone_13 : decode cX8_isDone 13 = .ok (.aload_n 3, 1) := by decide +kernel
theorem dX8_isDone_14 : decode cX8_isDone 14 = .ok (.getfield 223, 3) := by decide +kernel
theorem dX8_isDone_17 : decode cX8_isDone 17 = .ok (.aload_n 3, 1) := by decide +kernel
theorem dX8_isDone_18 : decode cX8_isDone 18 = .ok (.getfield 226, 3) := by decide +kernel
theorem dX8_isDone_21 : decode cX8_isDone 21 = .ok (.aload_n 3, 1) := by decide +kernel
theorem dX8_isDone_22 : decode cX8_isDone 22 = .ok (.getfield 229, 3) := by decide +kernel
theorem dX8_isDone_25 : decode cX8_isDone 25 = .ok (.aload_n 3, 1) := by decide +kernel
theorem dX8_isDone_26 : decode cX8_isDone 26 = .ok (.getfield 232, 3) := by decide +kernel
theorem dX8_isDone_29 : decode cX8_isDone 29 = .ok (.invokevirtual 62, 3) := by decide +kernel
theorem dX8_isDone_32 : decode cX8_isDone 32 = .ok (.lstore 4, 2) := by decide +kernel
theorem dX8_isDone_34 : decode cX8_isDone 34 = .ok (.lload 4, 2) := by decide +kernel
theorem dX8_isDone_36 : decode cX8_isDone 36 = .ok (.invokestatic 147, 3) := by decide +kernel
theorem dX8_isDone_39 : decode cX8_isDone 39 = .ok (.istore 6, 2) := by decide +kernel
theorem dX8_isDone_41 : decode cX8_isDone 41 = .ok (.iload 6, 2) := by decide +kernel
theorem dX8_isDone_43 : decode cX8_isDone 43 = .ok (.ifCond .eq 15, 3) := by decide +kernel
theorem dX8_isDone_46 : decode cX8_isDone 46 = .ok (.aload_n 0, 1) := by decide +kernel
theorem dX8_isDone_47 : decode cX8_isDone 47 = .ok (.getfield 49, 3) := by decide +kernel
theorem dX8_isDone_50 : decode cX8_isDone 50 = .ok (.iload 6, 2) := by decide +kernel
theorem dX8_isDone_52 : decode cX8_isDone 52 = .ok (.iload_n 2, 1) := by decide +kernel
theorem dX8_isDone_53 : decode cX8_isDone 53 = .ok (.invokevirtual 235, 3) := by decide +kernel
theorem dX8_isDone_56 : decode cX8_isDone 56 = .ok (.iconst 0, 1) := by decide +kernel
theorem dX8_isDone_57 : decode cX8_isDone 57 = .ok (.ireturn, 1) := by decide +kernel
theorem dX8_isDone_58 : decode cX8_isDone 58 = .ok (.aload_n 0, 1) := by decide +kernel
theorem dX8_isDone_59 : decode cX8_isDone 59 = .ok (.getfield 49, 3) := by decide +kernel
theorem dX8_isDone_62 : decode cX8_isDone 62 = .ok (.lload 4, 2) := by decide +kernel
theorem dX8_isDone_64 : decode cX8_isDone 64 = .ok (.invokevirtual 239, 3) := by decide +kernel
theorem dX8_isDone_67 : decode cX8_isDone 67 = .ok (.iconst 1, 1) := by decide +kernel
theorem dX8_isDone_68 : decode cX8_isDone 68 = .ok (.ireturn, 1) := by decide +kernel
theorem dX8_isDoneInStead_0 : decode cX8_isDoneInStead 0 = .ok (.aload_n 1, 1) := by decide +kernel
theorem dX8_isDoneInStead_1 : decode cX8_isDoneInStead 1 = .ok (.iload_n 2, 1) := by decide +kernel
theorem dX8_isDoneInStead_2 : decode cX8_isDoneInStead 2 = .ok (.invokevirtual 219, 3) := by decide +kernel
theorem dX8_isDoneInStead_5 : decode cX8_isDoneInStead 5 = .ok (.astore_n 3, 1) := by decide +kernel
theorem dX8_isDoneInStead_6 : decode cX8_isDoneInStead 6 = .ok (.aload_n 3, 1) := by decide +kernel
theorem dX8_isDoneInStead_7 : decode cX8_isDoneInStead 7 = .ok (.ifnull 14, 3) := by decide +kernel
theorem dX8_isDoneInStead_10 : decode cX8_isDoneInStead 10 = .ok (.aload_n 1, 1) := by decide +kernel
theorem dX8_isDoneInStead_11 : decode cX8_isDoneInStead 11 = .ok (.aload_n 3, 1) := by decide +kernel
theorem dX8_isDoneInStead_12 : decode cX8_isDoneInStead 12 = .ok (.getfield 243, 3) := by decide +kernel
theorem dX8_isDoneInStead_15 : decode cX8_isDoneInStead 15 = .ok (.invokevirtual 219, 3) := by decide +kernel
theorem dX8_isDoneInStead_18 : decode cX8_isDoneInStead 18 = .ok (.ifnonnull 5, 3) := by decide +kernel
theorem dX8_isDoneInStead_21 : decode cX8_isDoneInStead 21 = .ok (.iconst 0, 1) := by decide +kernel
theorem dX8_isDoneInStead_22 : decode cX8_isDoneInStead 22 = .ok (.ireturn, 1) := by decide +kernel
theorem dX8_isDoneInStead_23 : decode cX8_isDoneInStead 23 = .ok (.aload_n 0, 1) := by decide +kernel
theorem dX8_isDoneInStead_24 : decode cX8_isDoneInStead 24 = .ok (.getfield 49, 3) := by decide +kernel
theorem dX8_isDoneInStead_27 : decode cX8_isDoneInStead 27 = .ok (.dup, 1) := by decide +kernel
theorem dX8_isDoneInStead_28 : decode cX8_isDoneInStead 28 = .ok (.getfield 111, 3) := by decide +kernel
theorem dX8_isDoneInStead_31 : decode cX8_isDoneInStead 31 = .ok (.iconst 1, 1) := by decide +kernel
theorem dX8_isDoneInStead_32 : decode cX8_isDoneInStead 32 = .ok (.iadd, 1) := by decide +kernel
theorem dX8_isDoneInStead_33 : decode cX8_isDoneInStead 33 = .ok (.putfield 111, 3) := by decide +kernel
theorem dX8_isDoneInStead_36 : decode cX8_isDoneInStead 36 = .ok (.aload_n 0, 1) := by decide +kernel
theorem dX8_isDoneInStead_37 : decode cX8_isDoneInStead 37 = .ok (.aload_n 1, 1) := by decide +kernel
theorem dX8_isDoneInStead_38 : decode cX8_isDoneInStead 38 = .ok (.aload_n 3, 1) := by decide +kernel
theorem dX8_isDoneInStead_39 : decode cX8_isDoneInStead 39 = .ok (.getfield 243, 3) := by decide +kernel
theorem dX8_isDoneInStead_42 : decode cX8_isDoneInStead 42 = .ok (.invokevirtual 92, 3) := by decide +kernel
theorem dX8_isDoneInStead_45 : decode cX8_isDoneInStead 45 = .ok (.ireturn, 1) := by decide +kernel
theorem dX8_hanging_0 : decode cX8_hanging 0 = .ok (.iconst 0, 1) := by decide +kernel
theorem dX8_hanging_1 : decode cX8_hanging 1 = .ok (.istore_n 2, 1) := by decide +kernel

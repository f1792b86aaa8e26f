theorem dX0_init_0 : decode cX0_init 0 = .ok (.aload_n 0, 1) := by decide +kernel
theorem dX0_init_1 : decode cX0_init 1 = .ok (.invokespecial 3, 3) := by decide +kernel
theorem dX0_init_4 : decode cX0_init 4 = .ok (.aload_n 0, 1) := by decide +kernel
theorem dX0_init_5 : decode cX0_init 5 = .ok (.bipush 12, 2) := by decide +kernel
theorem dX0_init_7 : decode cX0_init 7 = .ok (.newarray .int, 2) := by decide +kernel
theorem dX0_init_9 : decode cX0_init 9 = .ok (.putfield 9, 3) := by decide +kernel
theorem dX0_init_12 : decode cX0_init 12 = .ok (.aload_n 0, 1) := by decide +kernel
theorem dX0_init_13 : decode cX0_init 13 = .ok (.iconst (-1), 1) := by decide +kernel
theorem dX0_init_14 : decode cX0_init 14 = .ok (.putfield 15, 3) := by decide +kernel
theorem dX0_init_17 : decode cX0_init 17 = .ok (.return_, 1) := by decide +kernel
theorem dX0_make_0 : decode cX0_make 0 = .ok (.iload_n 1, 1) := by decide +kernel
theorem dX0_make_1 : decode cX0_make 1 = .ok (.ifCond .lt 9, 3) := by decide +kernel
theorem dX0_make_4 : decode cX0_make 4 = .ok (.iload_n 1, 1) := by decide +kernel
theorem dX0_make_5 : decode cX0_make 5 = .ok (.bipush 12, 2) := by decide +kernel
theorem dX0_make_7 : decode cX0_make 7 = .ok (.if_icmp .le 8, 3) := by decide +kernel
theorem dX0_make_10 : decode cX0_make 10 = .ok (.iconst 2, 1) := by decide +kernel
theorem dX0_make_11 : decode cX0_make 11 = .ok (.invokestatic 19, 3) := by decide +kernel
theorem dX0_make_14 : decode cX0_make 14 = .ok (.lreturn, 1) := by decide +kernel
theorem dX0_make_15 : decode cX0_make 15 = .ok (.aload_n 0, 1) := by decide +kernel
theorem dX0_make_16 : decode cX0_make 16 = .ok (.getfield 9, 3) := by decide +kernel
theorem dX0_make_19 : decode cX0_make 19 = .ok (.iconst 0, 1) := by decide +kernel
theorem dX0_make_20 : decode cX0_make 20 = .ok (.invokestatic 23, 3) := by decide +kernel
theorem dX0_make_23 : decode cX0_make 23 = .ok (.aload_n 0, 1) := by decide +kernel
theorem dX0_make_24 : decode cX0_make 24 = .ok (.iload_n 1, 1) := by decide +kernel
theorem dX0_make_25 : decode cX0_make 25 = .ok (.putfield 15, 3) := by decide +kernel
theorem dX0_make_28 : decode cX0_make 28 = .ok (.iload_n 1, 1) := by decide +kernel
theorem dX0_make_29 : decode cX0_make 29 = .ok (.i2l, 1) := by decide +kernel
theorem dX0_make_30 : decode cX0_make 30 = .ok (.lreturn, 1) := by decide +kernel
theorem dX0_put_0 : decode cX0_put 0 = .ok (.aload_n 0, 1) := by decide +kernel
theorem dX0_put_1 : decode cX0_put 1 = .ok (.getfield 15, 3) := by decide +kernel
theorem dX0_put_4 : decode cX0_put 4 = .ok (.iconst (-1), 1) := by decide +kernel
theorem dX0_put_5 : decode cX0_put 5 = .ok (.if_icmp .ne 8, 3) := by decide +kernel
theorem dX0_put_8 : decode cX0_put 8 = .ok (.iconst 1, 1) := by decide +kernel
theorem dX0_put_9 : decode cX0_put 9 = .ok (.invokestatic 19, 3) := by decide +kernel
theorem dX0_put_12 : decode cX0_put 12 = .ok (.lreturn, 1) := by decide +kernel
theorem dX0_put_13 : decode cX0_put 13 = .ok (.iload_n 1, 1) := by decide +kernel
theorem dX0_put_14 : decode cX0_put 14 = .ok (.aload_n 0, 1) := by decide +kernel
theorem dX0_put_15 : decode cX0_put 15 = .ok (.getfield 15, 3) := by decide +kernel
theorem dX0_put_18 : decode cX0_put 18 = .ok (.invokestatic 29, 3) := by decide +kernel
theorem dX0_put_21 : decode cX0_put 21 = .ok (.ifCond .ne 8, 3) := by decide +kernel
theorem dX0_put_24 : decode cX0_put 24 = .ok (.iconst 3, 1) := by decide +kernel
theorem dX0_put_25 : decode cX0_put 25 = .ok (.invokestatic 19, 3) := by decide +kernel
theorem dX0_put_28 : decode cX0_put 28 = .ok (.lreturn, 1) := by decide +kernel
theorem dX0_put_29 : decode cX0_put 29 = .ok (.aload_n 0, 1) := by decide +kernel
theorem dX0_put_30 : decode cX0_put 30 = .ok (.getfield 9, 3) := by decide +kernel
theorem dX0_put_33 : decode cX0_put 33 = .ok (.iload_n 1, 1) := by decide +kernel
theorem dX0_put_34 : decode cX0_put 34 = .ok (.iaload, 1) := by decide +kernel
theorem dX0_put_35 : decode cX0_put 35 = .ok (.istore_n 3, 1) := by decide +kernel
theorem dX0_put_36 : decode cX0_put 36 = .ok (.aload_n 0, 1) := by decide +kernel
theorem dX0_put_37 : decode cX0_put 37 = .ok (.getfield 9, 3) := by decide +kernel
theorem dX0_put_40 : decode cX0_put 40 = .ok (.iload_n 1, 1) := by decide +kernel
theorem dX0_put_41 : decode cX0_put 41 = .ok (.iload_n 2, 1) := by decide +kernel
theorem dX0_put_42 : decode cX0_put 42 = .ok (.iastore, 1) := by decide +kernel
theorem dX0_put_43 : decode cX0_put 43 = .ok (.iload_n 3, 1) := by decide +kernel
theorem dX0_put_44 : decode cX0_put 44 = .ok (.i2l, 1) := by decide +kernel
theorem dX0_put_45 : decode cX0_put 45 = .ok (.lreturn, 1) := by decide +kernel
theorem dX0_numberAt_0 : decode cX0_numberAt 0 = .ok (.iload_n 1, 1) := by decide +kernel
theorem dX0_numberAt_1 : decode cX0_numberAt 1 = .ok (.aload_n 0, 1) := by decide +kernel
theorem dX0_numberAt_2 : decode cX0_numberAt 2 = .ok (.getfield 15, 3) := by decide +kernel
theorem dX0_numberAt_5 : decode cX0_numberAt 5 = .ok (.invokestatic 29, 3) := by decide +kernel
theorem dX0_numberAt_8 : decode cX0_numberAt 8 = .ok (.ifCond .eq 12, 3) := by decide +kernel
theorem dX0_numberAt_11 : decode cX0_numberAt 11 = .ok (.aload_n 0, 1) := by decide +kernel
theorem dX0_numberAt_12 : decode cX0_numberAt 12 = .ok (.getfield 9, 3) := by decide +kernel
theorem dX0_numberAt_15 : decode cX0_numberAt 15 = .ok (.iload_n 1, 1) := by decide +kernel
theorem dX0_numberAt_16 : decode cX0_numberAt 16 = .ok (.iaload, 1) := by decide +kernel
theorem dX0_numberAt_17 : decode cX0_numberAt 17 = .ok (.goto 4, 3) := by decide +kernel
theorem dX0_numberAt_20 : decode cX0_numberAt 20 = .ok (.iconst 0, 1) := by decide +kernel
theorem dX0_numberAt_21 : decode cX0_numberAt 21 = .ok (.ireturn, 1) := by decide +kernel
theorem dX1_init_0 : decode cX1_init 0 = .ok (.aload_n 0, 1) := by decide +kernel
theorem dX1_init_1 : decode cX1_init 1 = .ok (.invokespecial 3, 3) := by decide +kernel
theorem dX1_init_4 : decode cX1_init 4 = .ok (.aload_n 0, 1) := by decide +kernel
theorem dX1_init_5 : decode cX1_init 5 = .ok (.sipush 144, 3) := by decide +kernel
theorem dX1_init_8 : decode cX1_init 8 = .ok (.newarray .int, 2) := by decide +kernel
theorem dX1_init_10 : decode cX1_init 10 = .ok (.putfield 9, 3) := by decide +kernel
theorem dX1_init_13 : decode cX1_init 13 = .ok (.aload_n 0, 1) := by decide +kernel
theorem dX1_init_14 : decode cX1_init 14 = .ok (.iconst (-1), 1) := by decide +kernel
theorem dX1_init_15 : decode cX1_init 15 = .ok (.putfield 15, 3) := by decide +kernel
theorem dX1_init_18 : decode cX1_init 18 = .ok (.return_, 1) := by decide +kernel
theorem dX1_make_0 : decode cX1_make 0 = .ok (.iload_n 1, 1) := by decide +kernel
theorem dX1_make_1 : decode cX1_make 1 = .ok (.ifCond .lt 19, 3) := by decide +kernel
theorem dX1_make_4 : decode cX1_make 4 = .ok (.iload_n 2, 1) := by decide +kernel
theorem dX1_make_5 : decode cX1_make 5 = .ok (.ifCond .lt 15, 3) := by decide +kernel
theorem dX1_make_8 : decode cX1_make 8 = .ok (.iload_n 1, 1) := by decide +kernel
theorem dX1_make_9 : decode cX1_make 9 = .ok (.bipush 12, 2) := by decide +kernel
theorem dX1_make_11 : decode cX1_make 11 = .ok (.if_icmp .gt 9, 3) := by decide +kernel
theorem dX1_make_14 : decode cX1_make 14 = .ok (.iload_n 2, 1) := by decide +kernel
theorem dX1_make_15 : decode cX1_make 15 = .ok (.bipush 12, 2) := by decide +kernel
theorem dX1_make_17 : decode cX1_make 17 = .ok (.if_icmp .le 8, 3) := by decide +kernel
theorem dX1_make_20 : decode cX1_make 20 = .ok (.iconst 2, 1) := by decide +kernel
theorem dX1_make_21 : decode cX1_make 21 = .ok (.invokestatic 19, 3) := by decide +kernel
theorem dX1_make_24 : decode cX1_make 24 = .ok (.lreturn, 1) := by decide +kernel
theorem dX1_make_25 : decode cX1_make 25 = .ok (.aload_n 0, 1) := by decide +kernel
theorem dX1_make_26 : decode cX1_make 26 = .ok (.getfield 9, 3) := by decide +kernel
theorem dX1_make_29 : decode cX1_make 29 = .ok (.iconst 0, 1) := by decide +kernel
theorem dX1_make_30 : decode cX1_make 30 = .ok (.invokestatic 23, 3) := by decide +kernel
theorem dX1_make_33 : decode cX1_make 33 = .ok (.aload_n 0, 1) := by decide +kernel
theorem dX1_make_34 : decode cX1_make 34 = .ok (.iload_n 1, 1) := by decide +kernel
theorem dX1_make_35 : decode cX1_make 35 = .ok (.putfield 15, 3) := by decide +kernel
theorem dX1_make_38 : decode cX1_make 38 = .ok (.aload_n 0, 1) := by decide +kernel
theorem dX1_make_39 : decode cX1_make 39 = .ok (.iload_n 2, 1) := by decide +kernel
theorem dX1_make_40 : decode cX1_make 40 = .ok (.putfield 29, 3) := by decide +kernel
theorem dX1_make_43 : decode cX1_make 43 = .ok (.iload_n 1, 1) := by decide +kernel
theorem dX1_make_44 : decode cX1_make 44 = .ok (.i2l, 1) := by decide +kernel
theorem dX1_make_45 : decode cX1_make 45 = .ok (.lreturn, 1) := by decide +kernel
theorem dX1_has_0 : decode cX1_has 0 = .ok (.iload_n 1, 1) := by decide +kernel
theorem dX1_has_1 : decode cX1_has 1 = .ok (.aload_n 0, 1) := by decide +kernel
theorem dX1_has_2 : decode cX1_has 2 = .ok (.getfield 15, 3) := by decide +kernel
theorem dX1_has_5 : decode cX1_has 5 = .ok (.invokestatic 32, 3) := by decide +kernel
theorem dX1_has_8 : decode cX1_has 8 = .ok (.ifCond .eq 18, 3) := by decide +kernel
theorem dX1_has_11 : decode cX1_has 11 = .ok (.iload_n 2, 1) := by decide +kernel
theorem dX1_has_12 : decode cX1_has 12 = .ok (.aload_n 0, 1) := by decide +kernel
theorem dX1_has_13 : decode cX1_has 13 = .ok (.getfield 29, 3) := by decide +kernel
theorem dX1_has_16 : decode cX1_has 16 = .ok (.invokestatic 32, 3) := by decide +kernel
theorem dX1_has_19 : decode cX1_has 19 = .ok (.ifCond .eq 7, 3) := by decide +kernel
theorem dX1_has_22 : decode cX1_has 22 = .ok (.iconst 1, 1) := by decide +kernel
theorem dX1_has_23 : decode cX1_has 23 = .ok (.goto 4, 3) := by decide +kernel
theorem dX1_has_26 : decode cX1_has 26 = .ok (.iconst 0, 1) := by decide +kernel
theorem dX1_has_27 : decode cX1_has 27 = .ok (.ireturn, 1) := by decide +kernel
theorem dX1_rowLength_0 : decode cX1_rowLength 0 = .ok (.aload_n 0, 1) := by decide +kernel
theorem dX1_rowLength_1 : decode cX1_rowLength 1 = .ok (.getfield 15, 3) := by decide +kernel
theorem dX1_rowLength_4 : decode cX1_rowLength 4 = .ok (.iconst (-1), 1) := by decide +kernel
theorem dX1_rowLength_5 : decode cX1_rowLength 5 = .ok (.if_icmp .ne 8, 3) := by decide +kernel
theorem dX1_rowLength_8 : decode cX1_rowLength 8 = .ok (.iconst 1, 1) := by decide +kernel
theorem dX1_rowLength_9 : decode cX1_rowLength 9 = .ok (.invokestatic 19, 3) := by decide +kernel
theorem dX1_rowLength_12 : decode cX1_rowLength 12 = .ok (.lreturn, 1) := by decide +kernel
theorem dX1_rowLength_13 : decode cX1_rowLength 13 = .ok (.iload_n 1, 1) := by decide +kernel
theorem dX1_rowLength_14 : decode cX1_rowLength 14 = .ok (.aload_n 0, 1) := by decide +kernel
theorem dX1_rowLength_15 : decode cX1_rowLength 15 = .ok (.getfield 15, 3) := by decide +kernel
theorem dX1_rowLength_18 : decode cX1_rowLength 18 = .ok (.invokestatic 32, 3) := by decide +kernel
theorem dX1_rowLength_21 : decode cX1_rowLength 21 = .ok (.ifCond .eq 11, 3) := by decide +kernel
theorem dX1_rowLength_24 : decode cX1_rowLength 24 = .ok (.aload_n 0, 1) := by decide +kernel
theorem dX1_rowLength_25 : decode cX1_rowLength 25 = .ok (.getfield 29, 3) := by decide +kernel
theorem dX1_rowLength_28 : decode cX1_rowLength 28 = .ok (.i2l, 1) := by decide +kernel
theorem dX1_rowLength_29 : decode cX1_rowLength 29 = .ok (.goto 7, 3) := by decide +kernel
theorem dX1_rowLength_32 : decode cX1_rowLength 32 = .ok (.iconst 3, 1) := by decide +kernel
theorem dX1_rowLength_33 : decode cX1_rowLength 33 = .ok (.invokestatic 19, 3) := by decide +kernel
theorem dX1_rowLength_36 : decode cX1_rowLength 36 = .ok (.lreturn, 1) := by decide +kernel
theorem dX1_addOne_0 : decode cX1_addOne 0 = .ok (.aload_n 0, 1) := by decide +kernel
theorem dX1_addOne_1 : decode cX1_addOne 1 = .ok (.getfield 15, 3) := by decide +kernel
theorem dX1_addOne_4 : decode cX1_addOne 4 = .ok (.iconst (-1), 1) := by decide +kernel
theorem dX1_addOne_5 : decode cX1_addOne 5 = .ok (.if_icmp .ne 8, 3) := by decide +kernel
theorem dX1_addOne_8 : decode cX1_addOne 8 = .ok (.iconst 1, 1) := by decide +kernel
theorem dX1_addOne_9 : decode cX1_addOne 9 = .ok (.invokestatic 19, 3) := by decide +kernel
theorem dX1_addOne_12 : decode cX1_addOne 12 = .ok (.lreturn, 1) := by decide +kernel
theorem dX1_addOne_13 : decode cX1_addOne 13 = .ok (.aload_n 0, 1) := by decide +kernel
theorem dX1_addOne_14 : decode cX1_addOne 14 = .ok (.iload_n 1, 1) := by decide +kernel
theorem dX1_addOne_15 : decode cX1_addOne 15 = .ok (.iload_n 2, 1) := by decide +kernel
theorem dX1_addOne_16 : decode cX1_addOne 16 = .ok (.invokevirtual 36, 3) := by decide +kernel
theorem dX1_addOne_19 : decode cX1_addOne 19 = .ok (.ifCond .ne 8, 3) := by decide +kernel
theorem dX1_addOne_22 : decode cX1_addOne 22 = .ok (.iconst 3, 1) := by decide +kernel
theorem dX1_addOne_23 : decode cX1_addOne 23 = .ok (.invokestatic 19, 3) := by decide +kernel
theorem dX1_addOne_26 : decode cX1_addOne 26 = .ok (.lreturn, 1) := by decide +kernel
theorem dX1_addOne_27 : decode cX1_addOne 27 = .ok (.iload_n 1, 1) := by decide +kernel
theorem dX1_addOne_28 : decode cX1_addOne 28 = .ok (.bipush 12, 2) := by decide +kernel
theorem dX1_addOne_30 : decode cX1_addOne 30 = .ok (.imul, 1) := by decide +kernel
theorem dX1_addOne_31 : decode cX1_addOne 31 = .ok (.iload_n 2, 1) := by decide +kernel
theorem dX1_addOne_32 : decode cX1_addOne 32 = .ok (.iadd, 1) := by decide +kernel
theorem dX1_addOne_33 : decode cX1_addOne 33 = .ok (.istore_n 3, 1) := by decide +kernel
theorem dX1_addOne_34 : decode cX1_addOne 34 = .ok (.aload_n 0, 1) := by decide +kernel
theorem dX1_addOne_35 : decode cX1_addOne 35 = .ok (.getfield 9, 3) := by decide +kernel
theorem dX1_addOne_38 : decode cX1_addOne 38 = .ok (.iload_n 3, 1) := by decide +kernel
theorem dX1_addOne_39 : decode cX1_addOne 39 = .ok (.dup2, 1) := by decide +kernel
theorem dX1_addOne_40 : decode cX1_addOne 40 = .ok (.iaload, 1) := by decide +kernel
theorem dX1_addOne_41 : decode cX1_addOne 41 = .ok (.iconst 1, 1) := by decide +kernel
theorem dX1_addOne_42 : decode cX1_addOne 42 = .ok (.iadd, 1) := by decide +kernel
theorem dX1_addOne_43 : decode cX1_addOne 43 = .ok (.iastore, 1) := by decide +kernel
theorem dX1_addOne_44 : decode cX1_addOne 44 = .ok (.aload_n 0, 1) := by decide +kernel
theorem dX1_addOne_45 : decode cX1_addOne 45 = .ok (.getfield 9, 3) := by decide +kernel
theorem dX1_addOne_48 : decode cX1_addOne 48 = .ok (.iload_n 3, 1) := by decide +kernel
theorem dX1_addOne_49 : decode cX1_addOne 49 = .ok (.iaload, 1) := by decide +kernel
theorem dX1_addOne_50 : decode cX1_addOne 50 = .ok (.i2l, 1) := by decide +kernel
theorem dX1_addOne_51 : decode cX1_addOne 51 = .ok (.lreturn, 1) := by decide +kernel
theorem dX1_numberAt_0 : decode cX1_numberAt 0 = .ok (.aload_n 0, 1) := by decide +kernel
theorem dX1_numberAt_1 : decode cX1_numberAt 1 = .ok (.iload_n 1, 1) := by decide +kernel
theorem dX1_numberAt_2 : decode cX1_numberAt 2 = .ok (.iload_n 2, 1) := by decide +kernel
theorem dX1_numberAt_3 : decode cX1_numberAt 3 = .ok (.invokevirtual 36, 3) := by decide +kernel
theorem dX1_numberAt_6 : decode cX1_numberAt 6 = .ok (.ifCond .eq 17, 3) := by decide +kernel
theorem dX1_numberAt_9 : decode cX1_numberAt 9 = .ok (.aload_n 0, 1) := by decide +kernel
theorem dX1_numberAt_10 : decode cX1_numberAt 10 = .ok (.getfield 9, 3) := by decide +kernel
theorem dX1_numberAt_13 : decode cX1_numberAt 13 = .ok (.iload_n 1, 1) := by decide +kernel
theorem dX1_numberAt_14 : decode cX1_numberAt 14 = .ok (.bipush 12, 2) := by decide +kernel
theorem dX1_numberAt_16 : decode cX1_numberAt 16 = .ok (.imul, 1) := by decide +kernel
theorem dX1_numberAt_17 : decode cX1_numberAt 17 = .ok (.iload_n 2, 1) := by decide +kernel
theorem dX1_numberAt_18 : decode cX1_numberAt 18 = .ok (.iadd, 1) := by decide +kernel
theorem dX1_numberAt_19 : decode cX1_numberAt 19 = .ok (.iaload, 1) := by decide +kernel
theorem dX1_numberAt_20 : decode cX1_numberAt 20 = .ok (.goto 4, 3) := by decide +kernel
theorem dX1_numberAt_23 : decode cX1_numberAt 23 = .ok (.iconst 0, 1) := by decide +kernel
theorem dX1_numberAt_24 : decode cX1_numberAt 24 = .ok (.ireturn, 1) := by decide +kernel
theorem dX2_init_0 : decode cX2_init 0 = .ok (.aload_n 0, 1) := by decide +kernel
theorem dX2_init_1 : decode cX2_init 1 = .ok (.invokespecial 3, 3) := by decide +kernel
theorem dX2_init_4 : decode cX2_init 4 = .ok (.aload_n 0, 1) := by decide +kernel
theorem dX2_init_5 : decode cX2_init 5 = .ok (.bipush 16, 2) := by decide +kernel
theorem dX2_init_7 : decode cX2_init 7 = .ok (.anewarray 9, 3) := by decide +kernel
theorem dX2_init_10 : decode cX2_init 10 = .ok (.putfield 11, 3) := by decide +kernel
theorem dX2_init_13 : decode cX2_init 13 = .ok (.return_, 1) := by decide +kernel
theorem dX2_append_0 : decode cX2_append 0 = .ok (.aload_n 0, 1) := by decide +kernel
theorem dX2_append_1 : decode cX2_append 1 = .ok (.getfield 17, 3) := by decide +kernel
theorem dX2_append_4 : decode cX2_append 4 = .ok (.bipush 16, 2) := by decide +kernel
theorem dX2_append_6 : decode cX2_append 6 = .ok (.if_icmp .lt 6, 3) := by decide +kernel
theorem dX2_append_9 : decode cX2_append 9 = .ok (.bipush (-3), 2) := by decide +kernel
theorem dX2_append_11 : decode cX2_append 11 = .ok (.ireturn, 1) := by decide +kernel
theorem dX2_append_12 : decode cX2_append 12 = .ok (.aload_n 0, 1) := by decide +kernel
theorem dX2_append_13 : decode cX2_append 13 = .ok (.getfield 11, 3) := by decide +kernel
theorem dX2_append_16 : decode cX2_append 16 = .ok (.aload_n 0, 1) := by decide +kernel
theorem dX2_append_17 : decode cX2_append 17 = .ok (.getfield 17, 3) := by decide +kernel
theorem dX2_append_20 : decode cX2_append 20 = .ok (.aload_n 1, 1) := by decide +kernel
theorem dX2_append_21 : decode cX2_append 21 = .ok (.aastore, 1) := by decide +kernel
theorem dX2_append_22 : decode cX2_append 22 = .ok (.aload_n 0, 1) := by decide +kernel
theorem dX2_append_23 : decode cX2_append 23 = .ok (.dup, 1) := by decide +kernel
theorem dX2_append_24 : decode cX2_append 24 = .ok (.getfield 17, 3) := by decide +kernel
theorem dX2_append_27 : decode cX2_append 27 = .ok (.iconst 1, 1) := by decide +kernel
theorem dX2_append_28 : decode cX2_append 28 = .ok (.iadd, 1) := by decide +kernel
theorem dX2_append_29 : decode cX2_append 29 = .ok (.putfield 17, 3) := by decide +kernel
theorem dX2_append_32 : decode cX2_append 32 = .ok (.aload_n 0, 1) := by decide +kernel
theorem dX2_append_33 : decode cX2_append 33 = .ok (.getfield 17, 3) := by decide +kernel
theorem dX2_append_36 : decode cX2_append 36 = .ok (.iconst 1, 1) := by decide +kernel
theorem dX2_append_37 : decode cX2_append 37 = .ok (.isub, 1) := by decide +kernel
theorem dX2_append_38 : decode cX2_append 38 = .ok (.ireturn, 1) := by decide +kernel
theorem dX2_empty_0 : decode cX2_empty 0 = .ok (.aload_n 0, 1) := by decide +kernel
theorem dX2_empty_1 : decode cX2_empty 1 = .ok (.getfield 17, 3) := by decide +kernel
theorem dX2_empty_4 : decode cX2_empty 4 = .ok (.istore_n 1, 1) := by decide +kernel
theorem dX2_empty_5 : decode cX2_empty 5 = .ok (.aload_n 0, 1) := by decide +kernel
theorem dX2_empty_6 : decode cX2_empty 6 = .ok (.iconst 0, 1) := by decide +kernel
theorem dX2_empty_7 : decode cX2_empty 7 = .ok (.putfield 17, 3) := by decide +kernel
theorem dX2_empty_10 : decode cX2_empty 10 = .ok (.iload_n 1, 1) := by decide +kernel
theorem dX2_empty_11 : decode cX2_empty 11 = .ok (.ireturn, 1) := by decide +kernel
theorem dX2_stepAt_0 : decode cX2_stepAt 0 = .ok (.iload_n 1, 1) := by decide +kernel
theorem dX2_stepAt_1 : decode cX2_stepAt 1 = .ok (.aload_n 0, 1) := by decide +kernel
theorem dX2_stepAt_2 : decode cX2_stepAt 2 = .ok (.getfield 17, 3) := by decide +kernel
theorem dX2_stepAt_5 : decode cX2_stepAt 5 = .ok (.invokestatic 21, 3) := by decide +kernel
theorem dX2_stepAt_8 : decode cX2_stepAt 8 = .ok (.ifCond .eq 12, 3) := by decide +kernel
theorem dX2_stepAt_11 : decode cX2_stepAt 11 = .ok (.aload_n 0, 1) := by decide +kernel
theorem dX2_stepAt_12 : decode cX2_stepAt 12 = .ok (.getfield 11, 3) := by decide +kernel
theorem dX2_stepAt_15 : decode cX2_stepAt 15 = .ok (.iload_n 1, 1) := by decide +kernel
theorem dX2_stepAt_16 : decode cX2_stepAt 16 = .ok (.aaload, 1) := by decide +kernel
theorem dX2_stepAt_17 : decode cX2_stepAt 17 = .ok (.goto 4, 3) := by decide +kernel
theorem dX2_stepAt_20 : decode cX2_stepAt 20 = .ok (.aconst_null, 1) := by decide +kernel
theorem dX2_stepAt_21 : decode cX2_stepAt 21 = .ok (.areturn, 1) := by decide +kernel
theorem dX3_init_0 : decode cX3_init 0 = .ok (.aload_n 0, 1) := by decide +kernel
theorem dX3_init_1 : decode cX3_init 1 = .ok (.invokespecial 3, 3) := by decide +kernel
theorem dX3_init_4 : decode cX3_init 4 = .ok (.aload_n 0, 1) := by decide +kernel
theorem dX3_init_5 : decode cX3_init 5 = .ok (.bipush 12, 2) := by decide +kernel
theorem dX3_init_7 : decode cX3_init 7 = .ok (.anewarray 9, 3) := by decide +kernel
theorem dX3_init_10 : decode cX3_init 10 = .ok (.putfield 11, 3) := by decide +kernel
theorem dX3_init_13 : decode cX3_init 13 = .ok (.aload_n 0, 1) := by decide +kernel
theorem dX3_init_14 : decode cX3_init 14 = .ok (.iconst (-1), 1) := by decide +kernel
theorem dX3_init_15 : decode cX3_init 15 = .ok (.putfield 17, 3) := by decide +kernel
theorem dX3_init_18 : decode cX3_init 18 = .ok (.return_, 1) := by decide +kernel
theorem dX3_make_0 : decode cX3_make 0 = .ok (.iload_n 1, 1) := by decide +kernel
theorem dX3_make_1 : decode cX3_make 1 = .ok (.ifCond .lt 9, 3) := by decide +kernel
theorem dX3_make_4 : decode cX3_make 4 = .ok (.iload_n 1, 1) := by decide +kernel
theorem dX3_make_5 : decode cX3_make 5 = .ok (.bipush 12, 2) := by decide +kernel
theorem dX3_make_7 : decode cX3_make 7 = .ok (.if_icmp .le 8, 3) := by decide +kernel
theorem dX3_make_10 : decode cX3_make 10 = .ok (.iconst 2, 1) := by decide +kernel
theorem dX3_make_11 : decode cX3_make 11 = .ok (.invokestatic 21, 3) := by decide +kernel
theorem dX3_make_14 : decode cX3_make 14 = .ok (.lreturn, 1) := by decide +kernel
theorem dX3_make_15 : decode cX3_make 15 = .ok (.iconst 0, 1) := by decide +kernel
theorem dX3_make_16 : decode cX3_make 16 = .ok (.istore_n 3, 1) := by decide +kernel
theorem dX3_make_17 : decode cX3_make 17 = .ok (.iload_n 3, 1) := by decide +kernel
theorem dX3_make_18 : decode cX3_make 18 = .ok (.bipush 12, 2) := by decide +kernel
theorem dX3_make_20 : decode cX3_make 20 = .ok (.if_icmp .ge 16, 3) := by decide +kernel
theorem dX3_make_23 : decode cX3_make 23 = .ok (.aload_n 0, 1) := by decide +kernel
theorem dX3_make_24 : decode cX3_make 24 = .ok (.getfield 11, 3) := by decide +kernel
theorem dX3_make_27 : decode cX3_make 27 = .ok (.iload_n 3, 1) := by decide +kernel
theorem dX3_make_28 : decode cX3_make 28 = .ok (.aconst_null, 1) := by decide +kernel
theorem dX3_make_29 : decode cX3_make 29 = .ok (.aastore, 1) := by decide +kernel
theorem dX3_make_30 : decode cX3_make 30 = .ok (.iinc 3 1, 3) := by decide +kernel
theorem dX3_make_33 : decode cX3_make 33 = .ok (.goto (-16), 3) := by decide +kernel
theorem dX3_make_36 : decode cX3_make 36 = .ok (.aload_n 0, 1) := by decide +kernel
theorem dX3_make_37 : decode cX3_make 37 = .ok (.iload_n 1, 1) := by decide +kernel
theorem dX3_make_38 : decode cX3_make 38 = .ok (.putfield 17, 3) := by decide +kernel
theorem dX3_make_41 : decode cX3_make 41 = .ok (.aload_n 0, 1) := by decide +kernel
theorem dX3_make_42 : decode cX3_make 42 = .ok (.iload_n 2, 1) := by decide +kernel
theorem dX3_make_43 : decode cX3_make 43 = .ok (.putfield 25, 3) := by decide +kernel
theorem dX3_make_46 : decode cX3_make 46 = .ok (.iload_n 1, 1) := by decide +kernel
theorem dX3_make_47 : decode cX3_make 47 = .ok (.i2l, 1) := by decide +kernel
theorem dX3_make_48 : decode cX3_make 48 = .ok (.lreturn, 1) := by decide +kernel
theorem dX3_hang_0 : decode cX3_hang 0 = .ok (.aload_n 0, 1) := by decide +kernel
theorem dX3_hang_1 : decode cX3_hang 1 = .ok (.getfield 17, 3) := by decide +kernel
theorem dX3_hang_4 : decode cX3_hang 4 = .ok (.iconst (-1), 1) := by decide +kernel
theorem dX3_hang_5 : decode cX3_hang 5 = .ok (.if_icmp .eq 10, 3) := by decide +kernel
theorem dX3_hang_8 : decode cX3_hang 8 = .ok (.aload_n 2, 1) := by decide +kernel
theorem dX3_hang_9 : decode cX3_hang 9 = .ok (.getfield 29, 3) := by decide +kernel
theorem dX3_hang_12 : decode cX3_hang 12 = .ok (.ifCond .ne 8, 3) := by decide +kernel
theorem dX3_hang_15 : decode cX3_hang 15 = .ok (.iconst 1, 1) := by decide +kernel
theorem dX3_hang_16 : decode cX3_hang 16 = .ok (.invokestatic 21, 3) := by decide +kernel
theorem dX3_hang_19 : decode cX3_hang 19 = .ok (.lreturn, 1) := by decide +kernel
theorem dX3_hang_20 : decode cX3_hang 20 = .ok (.iload_n 1, 1) := by decide +kernel
theorem dX3_hang_21 : decode cX3_hang 21 = .ok (.aload_n 0, 1) := by decide +kernel
theorem dX3_hang_22 : decode cX3_hang 22 = .ok (.getfield 17, 3) := by decide +kernel
theorem dX3_hang_25 : decode cX3_hang 25 = .ok (.invokestatic 34, 3) := by decide +kernel
theorem dX3_hang_28 : decode cX3_hang 28 = .ok (.ifCond .ne 8, 3) := by decide +kernel
theorem dX3_hang_31 : decode cX3_hang 31 = .ok (.iconst 3, 1) := by decide +kernel
theorem dX3_hang_32 : decode cX3_hang 32 = .ok (.invokestatic 21, 3) := by decide +kernel
theorem dX3_hang_35 : decode cX3_hang 35 = .ok (.lreturn, 1) := by decide +kernel
theorem dX3_hang_36 : decode cX3_hang 36 = .ok (.aload_n 2, 1) := by decide +kernel
theorem dX3_hang_37 : decode cX3_hang 37 = .ok (.getfield 38, 3) := by decide +kernel
theorem dX3_hang_40 : decode cX3_hang 40 = .ok (.astore_n 3, 1) := by decide +kernel
theorem dX3_hang_41 : decode cX3_hang 41 = .ok (.aload_n 0, 1) := by decide +kernel
theorem dX3_hang_42 : decode cX3_hang 42 = .ok (.getfield 25, 3) := by decide +kernel
theorem dX3_hang_45 : decode cX3_hang 45 = .ok (.ifCond .eq 19, 3) := by decide +kernel
theorem dX3_hang_48 : decode cX3_hang 48 = .ok (.aload_n 3, 1) := by decide +kernel
theorem dX3_hang_49 : decode cX3_hang 49 = .ok (.ifnull 15, 3) := by decide +kernel
theorem dX3_hang_52 : decode cX3_hang 52 = .ok (.aload_n 3, 1) := by decide +kernel
theorem dX3_hang_53 : decode cX3_hang 53 = .ok (.getfield 42, 3) := by decide +kernel
theorem dX3_hang_56 : decode cX3_hang 56 = .ok (.ifCond .ne 8, 3) := by decide +kernel
theorem dX3_hang_59 : decode cX3_hang 59 = .ok (.iconst 4, 1) := by decide +kernel
theorem dX3_hang_60 : decode cX3_hang 60 = .ok (.invokestatic 21, 3) := by decide +kernel
theorem dX3_hang_63 : decode cX3_hang 63 = .ok (.lreturn, 1) := by decide +kernel
theorem dX3_hang_64 : decode cX3_hang 64 = .ok (.aload_n 0, 1) := by decide +kernel
theorem dX3_hang_65 : decode cX3_hang 65 = .ok (.getfield 11, 3) := by decide +kernel
theorem dX3_hang_68 : decode cX3_hang 68 = .ok (.iload_n 1, 1) := by decide +kernel
theorem dX3_hang_69 : decode cX3_hang 69 = .ok (.aload_n 3, 1) := by decide +kernel
theorem dX3_hang_70 : decode cX3_hang 70 = .ok (.aastore, 1) := by decide +kernel
theorem dX3_hang_71 : decode cX3_hang 71 = .ok (.lconst 1, 1) := by decide +kernel
theorem dX3_hang_72 : decode cX3_hang 72 = .ok (.lreturn, 1) := by decide +kernel
theorem dX3_balance_0 : decode cX3_balance 0 = .ok (.aload_n 0, 1) := by decide +kernel
theorem dX3_balance_1 : decode cX3_balance 1 = .ok (.getfield 17, 3) := by decide +kernel
theorem dX3_balance_4 : decode cX3_balance 4 = .ok (.iconst (-1), 1) := by decide +kernel
theorem dX3_balance_5 : decode cX3_balance 5 = .ok (.if_icmp .ne 8, 3) := by decide +kernel
theorem dX3_balance_8 : decode cX3_balance 8 = .ok (.iconst 1, 1) := by decide +kernel
theorem dX3_balance_9 : decode cX3_balance 9 = .ok (.invokestatic 21, 3) := by decide +kernel
theorem dX3_balance_12 : decode cX3_balance 12 = .ok (.lreturn, 1) := by decide +kernel
theorem dX3_balance_13 : decode cX3_balance 13 = .ok (.iload_n 1, 1) := by decide +kernel
theorem dX3_balance_14 : decode cX3_balance 14 = .ok (.aload_n 0, 1) := by decide +kernel
theorem dX3_balance_15 : decode cX3_balance 15 = .ok (.getfield 17, 3) := by decide +kernel
theorem dX3_balance_18 : decode cX3_balance 18 = .ok (.invokestatic 34, 3) := by decide +kernel
theorem dX3_balance_21 : decode cX3_balance 21 = .ok (.ifCond .ne 8, 3) := by decide +kernel
theorem dX3_balance_24 : decode cX3_balance 24 = .ok (.iconst 3, 1) := by decide +kernel
theorem dX3_balance_25 : decode cX3_balance 25 = .ok (.invokestatic 21, 3) := by decide +kernel
theorem dX3_balance_28 : decode cX3_balance 28 = .ok (.lreturn, 1) := by decide +kernel
theorem dX3_balance_29 : decode cX3_balance 29 = .ok (.aload_n 0, 1) := by decide +kernel
theorem dX3_balance_30 : decode cX3_balance 30 = .ok (.getfield 11, 3) := by decide +kernel
theorem dX3_balance_33 : decode cX3_balance 33 = .ok (.iload_n 1, 1) := by decide +kernel
theorem dX3_balance_34 : decode cX3_balance 34 = .ok (.aaload, 1) := by decide +kernel
theorem dX3_balance_35 : decode cX3_balance 35 = .ok (.astore_n 2, 1) := by decide +kernel
theorem dX3_balance_36 : decode cX3_balance 36 = .ok (.aload_n 2, 1) := by decide +kernel
theorem dX3_balance_37 : decode cX3_balance 37 = .ok (.ifnonnull 8, 3) := by decide +kernel
theorem dX3_balance_40 : decode cX3_balance 40 = .ok (.iconst 1, 1) := by decide +kernel
theorem dX3_balance_41 : decode cX3_balance 41 = .ok (.invokestatic 21, 3) := by decide +kernel
theorem dX3_balance_44 : decode cX3_balance 44 = .ok (.lreturn, 1) := by decide +kernel
theorem dX3_balance_45 : decode cX3_balance 45 = .ok (.aload_n 2, 1) := by decide +kernel
theorem dX3_balance_46 : decode cX3_balance 46 = .ok (.getfield 42, 3) := by decide +kernel
theorem dX3_balance_49 : decode cX3_balance 49 = .ok (.ifCond .ne 8, 3) := by decide +kernel
theorem dX3_balance_52 : decode cX3_balance 52 = .ok (.iconst 5, 1) := by decide +kernel
theorem dX3_balance_53 : decode cX3_balance 53 = .ok (.invokestatic 21, 3) := by decide +kernel
theorem dX3_balance_56 : decode cX3_balance 56 = .ok (.lreturn, 1) := by decide +kernel
theorem dX3_balance_57 : decode cX3_balance 57 = .ok (.aload_n 2, 1) := by decide +kernel
theorem dX3_balance_58 : decode cX3_balance 58 = .ok (.iconst 0, 1) := by decide +kernel
theorem dX3_balance_59 : decode cX3_balance 59 = .ok (.putfield 45, 3) := by decide +kernel
theorem dX3_balance_62 : decode cX3_balance 62 = .ok (.aload_n 2, 1) := by decide +kernel
theorem dX3_balance_63 : decode cX3_balance 63 = .ok (.invokevirtual 48, 3) := by decide +kernel
theorem dX3_balance_66 : decode cX3_balance 66 = .ok (.i2l, 1) := by decide +kernel
theorem dX3_balance_67 : decode cX3_balance 67 = .ok (.lreturn, 1) := by decide +kernel
theorem dX3_wheelAt_0 : decode cX3_wheelAt 0 = .ok (.iload_n 1, 1) := by decide +kernel
theorem dX3_wheelAt_1 : decode cX3_wheelAt 1 = .ok (.aload_n 0, 1) := by decide +kernel
theorem dX3_wheelAt_2 : decode cX3_wheelAt 2 = .ok (.getfield 17, 3) := by decide +kernel
theorem dX3_wheelAt_5 : decode cX3_wheelAt 5 = .ok (.invokestatic 34, 3) := by decide +kernel
theorem dX3_wheelAt_8 : decode cX3_wheelAt 8 = .ok (.ifCond .eq 12, 3) := by decide +kernel
theorem dX3_wheelAt_11 : decode cX3_wheelAt 11 = .ok (.aload_n 0, 1) := by decide +kernel
theorem dX3_wheelAt_12 : decode cX3_wheelAt 12 = .ok (.getfield 11, 3) := by decide +kernel
theorem dX3_wheelAt_15 : decode cX3_wheelAt 15 = .ok (.iload_n 1, 1) := by decide +kernel
theorem dX3_wheelAt_16 : decode cX3_wheelAt 16 = .ok (.aaload, 1) := by decide +kernel
theorem dX3_wheelAt_17 : decode cX3_wheelAt 17 = .ok (.goto 4, 3) := by decide +kernel
theorem dX3_wheelAt_20 : decode cX3_wheelAt 20 = .ok (.aconst_null, 1) := by decide +kernel
theorem dX3_wheelAt_21 : decode cX3_wheelAt 21 = .ok (.areturn, 1) := by decide +kernel
theorem dX3_holds_0 : decode cX3_holds 0 = .ok (.iconst 0, 1) := by decide +kernel
theorem dX3_holds_1 : decode cX3_holds 1 = .ok (.istore_n 2, 1) := by decide +kernel
theorem dX3_holds_2 : decode cX3_holds 2 = .ok (.iconst 0, 1) := by decide +kernel
theorem dX3_holds_3 : decode cX3_holds 3 = .ok (.istore_n 3, 1) := by decide +kernel
theorem dX3_holds_4 : decode cX3_holds 4 = .ok (.iload_n 3, 1) := by decide +kernel
theorem dX3_holds_5 : decode cX3_holds 5 = .ok (.aload_n 0, 1) := by decide +kernel
theorem dX3_holds_6 : decode cX3_holds 6 = .ok (.getfield 17, 3) := by decide +kernel
theorem dX3_holds_9 : decode cX3_holds 9 = .ok (.if_icmp .ge 31, 3) := by decide +kernel
theorem dX3_holds_12 : decode cX3_holds 12 = .ok (.iload_n 2, 1) := by decide +kernel
theorem dX3_holds_13 : decode cX3_holds 13 = .ok (.aload_n 1, 1) := by decide +kernel
theorem dX3_holds_14 : decode cX3_holds 14 = .ok (.ifnull 17, 3) := by decide +kernel
theorem dX3_holds_17 : decode cX3_holds 17 = .ok (.aload_n 0, 1) := by decide +kernel
theorem dX3_holds_18 : decode cX3_holds 18 = .ok (.getfield 11, 3) := by decide +kernel
theorem dX3_holds_21 : decode cX3_holds 21 = .ok (.iload_n 3, 1) := by decide +kernel
theorem dX3_holds_22 : decode cX3_holds 22 = .ok (.aaload, 1) := by decide +kernel
theorem dX3_holds_23 : decode cX3_holds 23 = .ok (.aload_n 1, 1) := by decide +kernel
theorem dX3_holds_24 : decode cX3_holds 24 = .ok (.if_acmp .ne 7, 3) := by decide +kernel
theorem dX3_holds_27 : decode cX3_holds 27 = .ok (.iconst 1, 1) := by decide +kernel
theorem dX3_holds_28 : decode cX3_holds 28 = .ok (.goto 4, 3) := by decide +kernel
theorem dX3_holds_31 : decode cX3_holds 31 = .ok (.iconst 0, 1) := by decide +kernel
theorem dX3_holds_32 : decode cX3_holds 32 = .ok (.ior, 1) := by decide +kernel
theorem dX3_holds_33 : decode cX3_holds 33 = .ok (.istore_n 2, 1) := by decide +kernel
theorem dX3_holds_34 : decode cX3_holds 34 = .ok (.iinc 3 1, 3) := by decide +kernel
theorem dX3_holds_37 : decode cX3_holds 37 = .ok (.goto (-33), 3) := by decide +kernel
theorem dX3_holds_40 : decode cX3_holds 40 = .ok (.iload_n 2, 1) := by decide +kernel
theorem dX3_holds_41 : decode cX3_holds 41 = .ok (.ireturn, 1) := by decide +kernel
theorem dX4_init_0 : decode cX4_init 0 = .ok (.aload_n 0, 1) := by decide +kernel
theorem dX4_init_1 : decode cX4_init 1 = .ok (.invokespecial 3, 3) := by decide +kernel
theorem dX4_init_4 : decode cX4_init 4 = .ok (.aload_n 0, 1) := by decide +kernel
theorem dX4_init_5 : decode cX4_init 5 = .ok (.iconst (-1), 1) := by decide +kernel
theorem dX4_init_6 : decode cX4_init 6 = .ok (.putfield 9, 3) := by decide +kernel
theorem dX4_init_9 : decode cX4_init 9 = .ok (.return_, 1) := by decide +kernel
theorem dX4_restart_0 : decode cX4_restart 0 = .ok (.aload_n 0, 1) := by decide +kernel
theorem dX4_restart_1 : decode cX4_restart 1 = .ok (.iconst 0, 1) := by decide +kernel
theorem dX4_restart_2 : decode cX4_restart 2 = .ok (.putfield 15, 3) := by decide +kernel
theorem dX4_restart_5 : decode cX4_restart 5 = .ok (.aload_n 0, 1) := by decide +kernel
theorem dX4_restart_6 : decode cX4_restart 6 = .ok (.iconst 0, 1) := by decide +kernel
theorem dX4_restart_7 : decode cX4_restart 7 = .ok (.putfield 18, 3) := by decide +kernel
theorem dX4_restart_10 : decode cX4_restart 10 = .ok (.aload_n 0, 1) := by decide +kernel
theorem dX4_restart_11 : decode cX4_restart 11 = .ok (.iconst 0, 1) := by decide +kernel
theorem dX4_restart_12 : decode cX4_restart 12 = .ok (.putfield 21, 3) := by decide +kernel
theorem dX4_restart_15 : decode cX4_restart 15 = .ok (.aload_n 0, 1) := by decide +kernel
theorem dX4_restart_16 : decode cX4_restart 16 = .ok (.iconst (-1), 1) := by decide +kernel
theorem dX4_restart_17 : decode cX4_restart 17 = .ok (.putfield 9, 3) := by decide +kernel
theorem dX4_restart_20 : decode cX4_restart 20 = .ok (.aload_n 0, 1) := by decide +kernel
theorem dX4_restart_21 : decode cX4_restart 21 = .ok (.iconst 0, 1) := by decide +kernel
theorem dX4_restart_22 : decode cX4_restart 22 = .ok (.putfield 24, 3) := by decide +kernel
theorem dX4_restart_25 : decode cX4_restart 25 = .ok (.aload_n 0, 1) := by decide +kernel
theorem dX4_restart_26 : decode cX4_restart 26 = .ok (.lconst 0, 1) := by decide +kernel
theorem dX4_restart_27 : decode cX4_restart 27 = .ok (.putfield 27, 3) := by decide +kernel
theorem dX4_restart_30 : decode cX4_restart 30 = .ok (.return_, 1) := by decide +kernel
theorem dX4_addAnswer_0 : decode cX4_addAnswer 0 = .ok (.aload_n 0, 1) := by decide +kernel
theorem dX4_addAnswer_1 : decode cX4_addAnswer 1 = .ok (.dup, 1) := by decide +kernel
theorem dX4_addAnswer_2 : decode cX4_addAnswer 2 = .ok (.getfield 15, 3) := by decide +kernel
theorem dX4_addAnswer_5 : decode cX4_addAnswer 5 = .ok (.iconst 1, 1) := by decide +kernel
theorem dX4_addAnswer_6 : decode cX4_addAnswer 6 = .ok (.iadd, 1) := by decide +kernel
theorem dX4_addAnswer_7 : decode cX4_addAnswer 7 = .ok (.putfield 15, 3) := by decide +kernel
theorem dX4_addAnswer_10 : decode cX4_addAnswer 10 = .ok (.aload_n 0, 1) := by decide +kernel
theorem dX4_addAnswer_11 : decode cX4_addAnswer 11 = .ok (.dup, 1) := by decide +kernel
theorem dX4_addAnswer_12 : decode cX4_addAnswer 12 = .ok (.getfield 27, 3) := by decide +kernel
theorem dX4_addAnswer_15 : decode cX4_addAnswer 15 = .ok (.lload_n 1, 1) := by decide +kernel
theorem dX4_addAnswer_16 : decode cX4_addAnswer 16 = .ok (.ladd, 1) := by decide +kernel
theorem dX4_addAnswer_17 : decode cX4_addAnswer 17 = .ok (.putfield 27, 3) := by decide +kernel
theorem dX4_addAnswer_20 : decode cX4_addAnswer 20 = .ok (.return_, 1) := by decide +kernel
theorem dX4_addFailure_0 : decode cX4_addFailure 0 = .ok (.aload_n 0, 1) := by decide +kernel
theorem dX4_addFailure_1 : decode cX4_addFailure 1 = .ok (.dup, 1) := by decide +kernel
theorem dX4_addFailure_2 : decode cX4_addFailure 2 = .ok (.getfield 18, 3) := by decide +kernel
theorem dX4_addFailure_5 : decode cX4_addFailure 5 = .ok (.iconst 1, 1) := by decide +kernel
theorem dX4_addFailure_6 : decode cX4_addFailure 6 = .ok (.iadd, 1) := by decide +kernel
theorem dX4_addFailure_7 : decode cX4_addFailure 7 = .ok (.putfield 18, 3) := by decide +kernel
theorem dX4_addFailure_10 : decode cX4_addFailure 10 = .ok (.aload_n 0, 1) := by decide +kernel
theorem dX4_addFailure_11 : decode cX4_addFailure 11 = .ok (.iload_n 1, 1) := by decide +kernel
theorem dX4_addFailure_12 : decode cX4_addFailure 12 = .ok (.putfield 21, 3) := by decide +kernel
theorem dX4_addFailure_15 : decode cX4_addFailure 15 = .ok (.aload_n 0, 1) := by decide +kernel
theorem dX4_addFailure_16 : decode cX4_addFailure 16 = .ok (.iload_n 2, 1) := by decide +kernel
theorem dX4_addFailure_17 : decode cX4_addFailure 17 = .ok (.putfield 9, 3) := by decide +kernel
theorem dX4_addFailure_20 : decode cX4_addFailure 20 = .ok (.return_, 1) := by decide +kernel
theorem dX5_init_0 : decode cX5_init 0 = .ok (.aload_n 0, 1) := by decide +kernel
theorem dX5_init_1 : decode cX5_init 1 = .ok (.invokespecial 3, 3) := by decide +kernel
theorem dX5_init_4 : decode cX5_init 4 = .ok (.return_, 1) := by decide +kernel
theorem dX5_build_0 : decode cX5_build 0 = .ok (.aload_n 0, 1) := by decide +kernel
theorem dX5_build_1 : decode cX5_build 1 = .ok (.invokevirtual 9, 3) := by decide +kernel
theorem dX5_build_4 : decode cX5_build 4 = .ok (.pop2, 1) := by decide +kernel
theorem dX5_build_5 : decode cX5_build 5 = .ok (.aload_n 0, 1) := by decide +kernel
theorem dX5_build_6 : decode cX5_build 6 = .ok (.iconst 1, 1) := by decide +kernel
theorem dX5_build_7 : decode cX5_build 7 = .ok (.putfield 15, 3) := by decide +kernel
theorem dX5_build_10 : decode cX5_build 10 = .ok (.aload_n 0, 1) := by decide +kernel
theorem dX5_build_11 : decode cX5_build 11 = .ok (.iload_n 1, 1) := by decide +kernel
theorem dX5_build_12 : decode cX5_build 12 = .ok (.putfield 19, 3) := by decide +kernel
theorem dX5_build_15 : decode cX5_build 15 = .ok (.iload_n 1, 1) := by decide +kernel
theorem dX5_build_16 : decode cX5_build 16 = .ok (.i2l, 1) := by decide +kernel
theorem dX5_build_17 : decode cX5_build 17 = .ok (.lreturn, 1) := by decide +kernel
theorem dX5_strip_0 : decode cX5_strip 0 = .ok (.aload_n 0, 1) := by decide +kernel
theorem dX5_strip_1 : decode cX5_strip 1 = .ok (.iconst 0, 1) := by decide +kernel
theorem dX5_strip_2 : decode cX5_strip 2 = .ok (.putfield 15, 3) := by decide +kernel
theorem dX5_strip_5 : decode cX5_strip 5 = .ok (.aload_n 0, 1) := by decide +kernel
theorem dX5_strip_6 : decode cX5_strip 6 = .ok (.iconst 0, 1) := by decide +kernel
theorem dX5_strip_7 : decode cX5_strip 7 = .ok (.putfield 19, 3) := by decide +kernel
theorem dX5_strip_10 : decode cX5_strip 10 = .ok (.aload_n 0, 1) := by decide +kernel
theorem dX5_strip_11 : decode cX5_strip 11 = .ok (.aconst_null, 1) := by decide +kernel
theorem dX5_strip_12 : decode cX5_strip 12 = .ok (.putfield 23, 3) := by decide +kernel
theorem dX5_strip_15 : decode cX5_strip 15 = .ok (.aload_n 0, 1) := by decide +kernel
theorem dX5_strip_16 : decode cX5_strip 16 = .ok (.aconst_null, 1) := by decide +kernel
theorem dX5_strip_17 : decode cX5_strip 17 = .ok (.putfield 27, 3) := by decide +kernel
theorem dX5_strip_20 : decode cX5_strip 20 = .ok (.aload_n 0, 1) := by decide +kernel
theorem dX5_strip_21 : decode cX5_strip 21 = .ok (.iconst 0, 1) := by decide +kernel
theorem dX5_strip_22 : decode cX5_strip 22 = .ok (.putfield 30, 3) := by decide +kernel
theorem dX5_strip_25 : decode cX5_strip 25 = .ok (.aload_n 0, 1) := by decide +kernel
theorem dX5_strip_26 : decode cX5_strip 26 = .ok (.iconst 0, 1) := by decide +kernel
theorem dX5_strip_27 : decode cX5_strip 27 = .ok (.putfield 33, 3) := by decide +kernel
theorem dX5_strip_30 : decode cX5_strip 30 = .ok (.lconst 1, 1) := by decide +kernel
theorem dX5_strip_31 : decode cX5_strip 31 = .ok (.lreturn, 1) := by decide +kernel
theorem dX5_wheel_0 : decode cX5_wheel 0 = .ok (.iload_n 1, 1) := by decide +kernel
theorem dX5_wheel_1 : decode cX5_wheel 1 = .ok (.iconst 1, 1) := by decide +kernel
theorem dX5_wheel_2 : decode cX5_wheel 2 = .ok (.iand, 1) := by decide +kernel
theorem dX5_wheel_3 : decode cX5_wheel 3 = .ok (.ifCond .ne 10, 3) := by decide +kernel
theorem dX5_wheel_6 : decode cX5_wheel 6 = .ok (.aload_n 0, 1) := by decide +kernel
theorem dX5_wheel_7 : decode cX5_wheel 7 = .ok (.getfield 23, 3) := by decide +kernel
theorem dX5_wheel_10 : decode cX5_wheel 10 = .ok (.goto 7, 3) := by decide +kernel
theorem dX5_wheel_13 : decode cX5_wheel 13 = .ok (.aload_n 0, 1) := by decide +kernel
theorem dX5_wheel_14 : decode cX5_wheel 14 = .ok (.getfield 27, 3) := by decide +kernel
theorem dX5_wheel_17 : decode cX5_wheel 17 = .ok (.areturn, 1) := by decide +kernel
theorem dX5_fit_0 : decode cX5_fit 0 = .ok (.aload_n 0, 1) := by decide +kernel
theorem dX5_fit_1 : decode cX5_fit 1 = .ok (.getfield 15, 3) := by decide +kernel
theorem dX5_fit_4 : decode cX5_fit 4 = .ok (.ifCond .ne 8, 3) := by decide +kernel
theorem dX5_fit_7 : decode cX5_fit 7 = .ok (.iconst 1, 1) := by decide +kernel
theorem dX5_fit_8 : decode cX5_fit 8 = .ok (.invokestatic 36, 3) := by decide +kernel
theorem dX5_fit_11 : decode cX5_fit 11 = .ok (.lreturn, 1) := by decide +kernel
theorem dX5_fit_12 : decode cX5_fit 12 = .ok (.iload_n 2, 1) := by decide +kernel
theorem dX5_fit_13 : decode cX5_fit 13 = .ok (.bipush 100, 2) := by decide +kernel
theorem dX5_fit_15 : decode cX5_fit 15 = .ok (.if_icmp .lt 7, 3) := by decide +kernel
theorem dX5_fit_18 : decode cX5_fit 18 = .ok (.iconst 1, 1) := by decide +kernel
theorem dX5_fit_19 : decode cX5_fit 19 = .ok (.goto 4, 3) := by decide +kernel
theorem dX5_fit_22 : decode cX5_fit 22 = .ok (.iconst 0, 1) := by decide +kernel
theorem dX5_fit_23 : decode cX5_fit 23 = .ok (.istore_n 3, 1) := by decide +kernel
theorem dX5_fit_24 : decode cX5_fit 24 = .ok (.iload_n 2, 1) := by decide +kernel
theorem dX5_fit_25 : decode cX5_fit 25 = .ok (.ifCond .ne 7, 3) := by decide +kernel
theorem dX5_fit_28 : decode cX5_fit 28 = .ok (.aconst_null, 1) := by decide +kernel
theorem dX5_fit_29 : decode cX5_fit 29 = .ok (.goto 23, 3) := by decide +kernel
theorem dX5_fit_32 : decode cX5_fit 32 = .ok (.new 40, 3) := by decide +kernel
theorem dX5_fit_35 : decode cX5_fit 35 = .ok (.dup, 1) := by decide +kernel
theorem dX5_fit_36 : decode cX5_fit 36 = .ok (.iload_n 3, 1) := by decide +kernel
theorem dX5_fit_37 : decode cX5_fit 37 = .ok (.ifCond .eq 10, 3) := by decide +kernel
theorem dX5_fit_40 : decode cX5_fit 40 = .ok (.iload_n 2, 1) := by decide +kernel
theorem dX5_fit_41 : decode cX5_fit 41 = .ok (.bipush 100, 2) := by decide +kernel
theorem dX5_fit_43 : decode cX5_fit 43 = .ok (.isub, 1) := by decide +kernel
theorem dX5_fit_44 : decode cX5_fit 44 = .ok (.goto 4, 3) := by decide +kernel
theorem dX5_fit_47 : decode cX5_fit 47 = .ok (.iload_n 2, 1) := by decide +kernel
theorem dX5_fit_48 : decode cX5_fit 48 = .ok (.iload_n 3, 1) := by decide +kernel
theorem dX5_fit_49 : decode cX5_fit 49 = .ok (.invokespecial 42, 3) := by decide +kernel
theorem dX5_fit_52 : decode cX5_fit 52 = .ok (.astore 4, 2) := by decide +kernel
theorem dX5_fit_54 : decode cX5_fit 54 = .ok (.iload_n 1, 1) := by decide +kernel
theorem dX5_fit_55 : decode cX5_fit 55 = .ok (.iconst 1, 1) := by decide +kernel
theorem dX5_fit_56 : decode cX5_fit 56 = .ok (.iand, 1) := by decide +kernel
theorem dX5_fit_57 : decode cX5_fit 57 = .ok (.ifCond .ne 12, 3) := by decide +kernel
theorem dX5_fit_60 : decode cX5_fit 60 = .ok (.aload_n 0, 1) := by decide +kernel
theorem dX5_fit_61 : decode cX5_fit 61 = .ok (.aload 4, 2) := by decide +kernel
theorem dX5_fit_63 : decode cX5_fit 63 = .ok (.putfield 23, 3) := by decide +kernel
theorem dX5_fit_66 : decode cX5_fit 66 = .ok (.goto 9, 3) := by decide +kernel
theorem dX5_fit_69 : decode cX5_fit 69 = .ok (.aload_n 0, 1) := by decide +kernel
theorem dX5_fit_70 : decode cX5_fit 70 = .ok (.aload 4, 2) := by decide +kernel
theorem dX5_fit_72 : decode cX5_fit 72 = .ok (.putfield 27, 3) := by decide +kernel
theorem dX5_fit_75 : decode cX5_fit 75 = .ok (.iload_n 2, 1) := by decide +kernel
theorem dX5_fit_76 : decode cX5_fit 76 = .ok (.i2l, 1) := by decide +kernel
theorem dX5_fit_77 : decode cX5_fit 77 = .ok (.lreturn, 1) := by decide +kernel
theorem dX5_trueWheel_0 : decode cX5_trueWheel 0 = .ok (.aload_n 0, 1) := by decide +kernel
theorem dX5_trueWheel_1 : decode cX5_trueWheel 1 = .ok (.iload_n 1, 1) := by decide +kernel
theorem dX5_trueWheel_2 : decode cX5_trueWheel 2 = .ok (.invokevirtual 45, 3) := by decide +kernel
theorem dX5_trueWheel_5 : decode cX5_trueWheel 5 = .ok (.astore_n 2, 1) := by decide +kernel
theorem dX5_trueWheel_6 : decode cX5_trueWheel 6 = .ok (.aload_n 2, 1) := by decide +kernel
theorem dX5_trueWheel_7 : decode cX5_trueWheel 7 = .ok (.ifnonnull 10, 3) := by decide +kernel
theorem dX5_trueWheel_10 : decode cX5_trueWheel 10 = .ok (.iconst 1, 1) := by decide +kernel
theorem dX5_trueWheel_11 : decode cX5_trueWheel 11 = .ok (.invokestatic 36, 3) := by decide +kernel
theorem dX5_trueWheel_14 : decode cX5_trueWheel 14 = .ok (.goto 8, 3) := by decide +kernel
theorem dX5_trueWheel_17 : decode cX5_trueWheel 17 = .ok (.aload_n 2, 1) := by decide +kernel
theorem dX5_trueWheel_18 : decode cX5_trueWheel 18 = .ok (.invokevirtual 49, 3) := by decide +kernel
theorem dX5_trueWheel_21 : decode cX5_trueWheel 21 = .ok (.i2l, 1) := by decide +kernel
theorem dX5_trueWheel_22 : decode cX5_trueWheel 22 = .ok (.lreturn, 1) := by decide +kernel
theorem dX5_countSpokes_0 : decode cX5_countSpokes 0 = .ok (.aload_n 0, 1) := by decide +kernel
theorem dX5_countSpokes_1 : decode cX5_countSpokes 1 = .ok (.iload_n 1, 1) := by decide +kernel
theorem dX5_countSpokes_2 : decode cX5_countSpokes 2 = .ok (.invokevirtual 45, 3) := by decide +kernel
theorem dX5_countSpokes_5 : decode cX5_countSpokes 5 = .ok (.astore_n 2, 1) := by decide +kernel
theorem dX5_countSpokes_6 : decode cX5_countSpokes 6 = .ok (.aload_n 2, 1) := by decide +kernel
theorem dX5_countSpokes_7 : decode cX5_countSpokes 7 = .ok (.ifnonnull 10, 3) := by decide +kernel
theorem dX5_countSpokes_10 : decode cX5_countSpokes 10 = .ok (.iconst 1, 1) := by decide +kernel
theorem dX5_countSpokes_11 : decode cX5_countSpokes 11 = .ok (.invokestatic 36, 3) := by decide +kernel
theorem dX5_countSpokes_14 : decode cX5_countSpokes 14 = .ok (.goto 8, 3) := by decide +kernel
theorem dX5_countSpokes_17 : decode cX5_countSpokes 17 = .ok (.aload_n 2, 1) := by decide +kernel
theorem dX5_countSpokes_18 : decode cX5_countSpokes 18 = .ok (.getfield 53, 3) := by decide +kernel
theorem dX5_countSpokes_21 : decode cX5_countSpokes 21 = .ok (.i2l, 1) := by decide +kernel
theorem dX5_countSpokes_22 : decode cX5_countSpokes 22 = .ok (.lreturn, 1) := by decide +kernel
theorem dX5_light_0 : decode cX5_light 0 = .ok (.aload_n 0, 1) := by decide +kernel
theorem dX5_light_1 : decode cX5_light 1 = .ok (.getfield 15, 3) := by decide +kernel
theorem dX5_light_4 : decode cX5_light 4 = .ok (.ifCond .ne 8, 3) := by decide +kernel
theorem dX5_light_7 : decode cX5_light 7 = .ok (.iconst 1, 1) := by decide +kernel
theorem dX5_light_8 : decode cX5_light 8 = .ok (.invokestatic 36, 3) := by decide +kernel
theorem dX5_light_11 : decode cX5_light 11 = .ok (.lreturn, 1) := by decide +kernel
theorem dX5_light_12 : decode cX5_light 12 = .ok (.aload_n 0, 1) := by decide +kernel
theorem dX5_light_13 : decode cX5_light 13 = .ok (.iload_n 1, 1) := by decide +kernel
theorem dX5_light_14 : decode cX5_light 14 = .ok (.ifCond .ne 7, 3) := by decide +kernel
theorem dX5_light_17 : decode cX5_light 17 = .ok (.iconst 0, 1) := by decide +kernel
theorem dX5_light_18 : decode cX5_light 18 = .ok (.goto 13, 3) := by decide +kernel
theorem dX5_light_21 : decode cX5_light 21 = .ok (.iload_n 1, 1) := by decide +kernel
theorem dX5_light_22 : decode cX5_light 22 = .ok (.iconst 1, 1) := by decide +kernel
theorem dX5_light_23 : decode cX5_light 23 = .ok (.if_icmp .ne 7, 3) := by decide +kernel
theorem dX5_light_26 : decode cX5_light 26 = .ok (.iconst 1, 1) := by decide +kernel
theorem dX5_light_27 : decode cX5_light 27 = .ok (.goto 4, 3) := by decide +kernel
theorem dX5_light_30 : decode cX5_light 30 = .ok (.iconst 2, 1) := by decide +kernel
theorem dX5_light_31 : decode cX5_light 31 = .ok (.putfield 30, 3) := by decide +kernel
theorem dX5_light_34 : decode cX5_light 34 = .ok (.aload_n 0, 1) := by decide +kernel
theorem dX5_light_35 : decode cX5_light 35 = .ok (.aload_n 0, 1) := by decide +kernel
theorem dX5_light_36 : decode cX5_light 36 = .ok (.getfield 30, 3) := by decide +kernel
theorem dX5_light_39 : decode cX5_light 39 = .ok (.iconst 2, 1) := by decide +kernel
theorem dX5_light_40 : decode cX5_light 40 = .ok (.if_icmp .ne 7, 3) := by decide +kernel
theorem dX5_light_43 : decode cX5_light 43 = .ok (.iload_n 2, 1) := by decide +kernel
theorem dX5_light_44 : decode cX5_light 44 = .ok (.goto 4, 3) := by decide +kernel
theorem dX5_light_47 : decode cX5_light 47 = .ok (.iconst 0, 1) := by decide +kernel
theorem dX5_light_48 : decode cX5_light 48 = .ok (.putfield 33, 3) := by decide +kernel
theorem dX5_light_51 : decode cX5_light 51 = .ok (.iload_n 1, 1) := by decide +kernel
theorem dX5_light_52 : decode cX5_light 52 = .ok (.i2l, 1) := by decide +kernel
theorem dX5_light_53 : decode cX5_light 53 = .ok (.lreturn, 1) := by decide +kernel
theorem dX5_shine_0 : decode cX5_shine 0 = .ok (.aload_n 0, 1) := by decide +kernel
theorem dX5_shine_1 : decode cX5_shine 1 = .ok (.getfield 30, 3) := by decide +kernel
theorem dX5_shine_4 : decode cX5_shine 4 = .ok (.ifCond .ne 8, 3) := by decide +kernel
theorem dX5_shine_7 : decode cX5_shine 7 = .ok (.iconst 1, 1) := by decide +kernel
theorem dX5_shine_8 : decode cX5_shine 8 = .ok (.invokestatic 36, 3) := by decide +kernel
theorem dX5_shine_11 : decode cX5_shine 11 = .ok (.lreturn, 1) := by decide +kernel
theorem dX5_shine_12 : decode cX5_shine 12 = .ok (.aload_n 0, 1) := by decide +kernel
theorem dX5_shine_13 : decode cX5_shine 13 = .ok (.getfield 30, 3) := by decide +kernel
theorem dX5_shine_16 : decode cX5_shine 16 = .ok (.iconst 1, 1) := by decide +kernel
theorem dX5_shine_17 : decode cX5_shine 17 = .ok (.if_icmp .ne 8, 3) := by decide +kernel
theorem dX5_shine_20 : decode cX5_shine 20 = .ok (.iconst 3, 1) := by decide +kernel
theorem dX5_shine_21 : decode cX5_shine 21 = .ok (.iload_n 1, 1) := by decide +kernel
theorem dX5_shine_22 : decode cX5_shine 22 = .ok (.imul, 1) := by decide +kernel
theorem dX5_shine_23 : decode cX5_shine 23 = .ok (.i2l, 1) := by decide +kernel
theorem dX5_shine_24 : decode cX5_shine 24 = .ok (.lreturn, 1) := by decide +kernel
theorem dX5_shine_25 : decode cX5_shine 25 = .ok (.aload_n 0, 1) := by decide +kernel
theorem dX5_shine_26 : decode cX5_shine 26 = .ok (.getfield 33, 3) := by decide +kernel
theorem dX5_shine_29 : decode cX5_shine 29 = .ok (.ifCond .gt 5, 3) := by decide +kernel
theorem dX5_shine_32 : decode cX5_shine 32 = .ok (.lconst 0, 1) := by decide +kernel
theorem dX5_shine_33 : decode cX5_shine 33 = .ok (.lreturn, 1) := by decide +kernel
theorem dX5_shine_34 : decode cX5_shine 34 = .ok (.aload_n 0, 1) := by decide +kernel
theorem dX5_shine_35 : decode cX5_shine 35 = .ok (.dup, 1) := by decide +kernel
theorem dX5_shine_36 : decode cX5_shine 36 = .ok (.getfield 33, 3) := by decide +kernel
theorem dX5_shine_39 : decode cX5_shine 39 = .ok (.iconst 1, 1) := by decide +kernel
theorem dX5_shine_40 : decode cX5_shine 40 = .ok (.isub, 1) := by decide +kernel
theorem dX5_shine_41 : decode cX5_shine 41 = .ok (.putfield 33, 3) := by decide +kernel
theorem dX5_shine_44 : decode cX5_shine 44 = .ok (.iload_n 1, 1) := by decide +kernel
theorem dX5_shine_45 : decode cX5_shine 45 = .ok (.i2l, 1) := by decide +kernel
theorem dX5_shine_46 : decode cX5_shine 46 = .ok (.lreturn, 1) := by decide +kernel
theorem dX5_tell_0 : decode cX5_tell 0 = .ok (.iload_n 1, 1) := by decide +kernel
theorem dX5_tell_1 : decode cX5_tell 1 = .ok (.tableswitch 158 0 7 #[47, 60, 65, 84, 103, 122, 158, 141], 47) := by decide +kernel
theorem dX5_tell_48 : decode cX5_tell 48 = .ok (.aload_n 0, 1) := by decide +kernel
theorem dX5_tell_49 : decode cX5_tell 49 = .ok (.getfield 15, 3) := by decide +kernel
theorem dX5_tell_52 : decode cX5_tell 52 = .ok (.ifCond .eq 7, 3) := by decide +kernel
theorem dX5_tell_55 : decode cX5_tell 55 = .ok (.iconst 1, 1) := by decide +kernel
theorem dX5_tell_56 : decode cX5_tell 56 = .ok (.goto 4, 3) := by decide +kernel
theorem dX5_tell_59 : decode cX5_tell 59 = .ok (.iconst 0, 1) := by decide +kernel
theorem dX5_tell_60 : decode cX5_tell 60 = .ok (.ireturn, 1) := by decide +kernel
theorem dX5_tell_61 : decode cX5_tell 61 = .ok (.aload_n 0, 1) := by decide +kernel
theorem dX5_tell_62 : decode cX5_tell 62 = .ok (.getfield 19, 3) := by decide +kernel
theorem dX5_tell_65 : decode cX5_tell 65 = .ok (.ireturn, 1) := by decide +kernel
theorem dX5_tell_66 : decode cX5_tell 66 = .ok (.aload_n 0, 1) := by decide +kernel
theorem dX5_tell_67 : decode cX5_tell 67 = .ok (.getfield 23, 3) := by decide +kernel
theorem dX5_tell_70 : decode cX5_tell 70 = .ok (.ifnonnull 7, 3) := by decide +kernel
theorem dX5_tell_73 : decode cX5_tell 73 = .ok (.iconst 0, 1) := by decide +kernel
theorem dX5_tell_74 : decode cX5_tell 74 = .ok (.goto 10, 3) := by decide +kernel
theorem dX5_tell_77 : decode cX5_tell 77 = .ok (.aload_n 0, 1) := by decide +kernel
theorem dX5_tell_78 : decode cX5_tell 78 = .ok (.getfield 23, 3) := by decide +kernel
theorem dX5_tell_81 : decode cX5_tell 81 = .ok (.getfield 53, 3) := by decide +kernel
theorem dX5_tell_84 : decode cX5_tell 84 = .ok (.ireturn, 1) := by decide +kernel
theorem dX5_tell_85 : decode cX5_tell 85 = .ok (.aload_n 0, 1) := by decide +kernel
theorem dX5_tell_86 : decode cX5_tell 86 = .ok (.getfield 27, 3) := by decide +kernel
theorem dX5_tell_89 : decode cX5_tell 89 = .ok (.ifnonnull 7, 3) := by decide +kernel
theorem dX5_tell_92 : decode cX5_tell 92 = .ok (.iconst 0, 1) := by decide +kernel
theorem dX5_tell_93 : decode cX5_tell 93 = .ok (.goto 10, 3) := by decide +kernel
theorem dX5_tell_96 : decode cX5_tell 96 = .ok (.aload_n 0, 1) := by decide +kernel
theorem dX5_tell_97 : decode cX5_tell 97 = .ok (.getfield 27, 3) := by decide +kernel
theorem dX5_tell_100 : decode cX5_tell 100 = .ok (.getfield 53, 3) := by decide +kernel
theorem dX5_tell_103 : decode cX5_tell 103 = .ok (.ireturn, 1) := by decide +kernel
theorem dX5_tell_104 : decode cX5_tell 104 = .ok (.aload_n 0, 1) := by decide +kernel
theorem dX5_tell_105 : decode cX5_tell 105 = .ok (.getfield 23, 3) := by decide +kernel
theorem dX5_tell_108 : decode cX5_tell 108 = .ok (.ifnonnull 7, 3) := by decide +kernel
theorem dX5_tell_111 : decode cX5_tell 111 = .ok (.iconst 0, 1) := by decide +kernel
theorem dX5_tell_112 : decode cX5_tell 112 = .ok (.goto 10, 3) := by decide +kernel
theorem dX5_tell_115 : decode cX5_tell 115 = .ok (.aload_n 0, 1) := by decide +kernel
theorem dX5_tell_116 : decode cX5_tell 116 = .ok (.getfield 23, 3) := by decide +kernel
theorem dX5_tell_119 : decode cX5_tell 119 = .ok (.getfield 56, 3) := by decide +kernel
theorem dX5_tell_122 : decode cX5_tell 122 = .ok (.ireturn, 1) := by decide +kernel
theorem dX5_tell_123 : decode cX5_tell 123 = .ok (.aload_n 0, 1) := by decide +kernel
theorem dX5_tell_124 : decode cX5_tell 124 = .ok (.getfield 27, 3) := by decide +kernel
theorem dX5_tell_127 : decode cX5_tell 127 = .ok (.ifnonnull 7, 3) := by decide +kernel
theorem dX5_tell_130 : decode cX5_tell 130 = .ok (.iconst 0, 1) := by decide +kernel
theorem dX5_tell_131 : decode cX5_tell 131 = .ok (.goto 10, 3) := by decide +kernel
theorem dX5_tell_134 : decode cX5_tell 134 = .ok (.aload_n 0, 1) := by decide +kernel
theorem dX5_tell_135 : decode cX5_tell 135 = .ok (.getfield 27, 3) := by decide +kernel
theorem dX5_tell_138 : decode cX5_tell 138 = .ok (.getfield 56, 3) := by decide +kernel
theorem dX5_tell_141 : decode cX5_tell 141 = .ok (.ireturn, 1) := by decide +kernel
theorem dX5_tell_142 : decode cX5_tell 142 = .ok (.aload_n 0, 1) := by decide +kernel
theorem dX5_tell_143 : decode cX5_tell 143 = .ok (.getfield 30, 3) := by decide +kernel
theorem dX5_tell_146 : decode cX5_tell 146 = .ok (.iconst 1, 1) := by decide +kernel
theorem dX5_tell_147 : decode cX5_tell 147 = .ok (.if_icmp .ne 7, 3) := by decide +kernel
theorem dX5_tell_150 : decode cX5_tell 150 = .ok (.iconst (-1), 1) := by decide +kernel
theorem dX5_tell_151 : decode cX5_tell 151 = .ok (.goto 7, 3) := by decide +kernel
theorem dX5_tell_154 : decode cX5_tell 154 = .ok (.aload_n 0, 1) := by decide +kernel
theorem dX5_tell_155 : decode cX5_tell 155 = .ok (.getfield 33, 3) := by decide +kernel
theorem dX5_tell_158 : decode cX5_tell 158 = .ok (.ireturn, 1) := by decide +kernel
theorem dX5_tell_159 : decode cX5_tell 159 = .ok (.ldc 59, 2) := by decide +kernel
theorem dX5_tell_161 : decode cX5_tell 161 = .ok (.ireturn, 1) := by decide +kernel
theorem dX6_init_0 : decode cX6_init 0 = .ok (.aload_n 0, 1) := by decide +kernel
theorem dX6_init_1 : decode cX6_init 1 = .ok (.invokespecial 1, 3) := by decide +kernel
theorem dX6_init_4 : decode cX6_init 4 = .ok (.aload_n 0, 1) := by decide +kernel
theorem dX6_init_5 : decode cX6_init 5 = .ok (.iload_n 1, 1) := by decide +kernel
theorem dX6_init_6 : decode cX6_init 6 = .ok (.putfield 7, 3) := by decide +kernel
theorem dX6_init_9 : decode cX6_init 9 = .ok (.aload_n 0, 1) := by decide +kernel
theorem dX6_init_10 : decode cX6_init 10 = .ok (.iload_n 2, 1) := by decide +kernel
theorem dX6_init_11 : decode cX6_init 11 = .ok (.putfield 13, 3) := by decide +kernel
theorem dX6_init_14 : decode cX6_init 14 = .ok (.aload_n 0, 1) := by decide +kernel
theorem dX6_init_15 : decode cX6_init 15 = .ok (.iload_n 3, 1) := by decide +kernel
theorem dX6_init_16 : decode cX6_init 16 = .ok (.putfield 16, 3) := by decide +kernel
theorem dX6_init_19 : decode cX6_init 19 = .ok (.aload_n 0, 1) := by decide +kernel
theorem dX6_init_20 : decode cX6_init 20 = .ok (.iload 4, 2) := by decide +kernel
theorem dX6_init_22 : decode cX6_init 22 = .ok (.putfield 19, 3) := by decide +kernel
theorem dX6_init_25 : decode cX6_init 25 = .ok (.aload_n 0, 1) := by decide +kernel
theorem dX6_init_26 : decode cX6_init 26 = .ok (.iload 5, 2) := by decide +kernel
theorem dX6_init_28 : decode cX6_init 28 = .ok (.putfield 22, 3) := by decide +kernel
theorem dX6_init_31 : decode cX6_init 31 = .ok (.return_, 1) := by decide +kernel
theorem dX7_init_0 : decode cX7_init 0 = .ok (.aload_n 0, 1) := by decide +kernel
theorem dX7_init_1 : decode cX7_init 1 = .ok (.invokespecial 1, 3) := by decide +kernel
theorem dX7_init_4 : decode cX7_init 4 = .ok (.aload_n 0, 1) := by decide +kernel
theorem dX7_init_5 : decode cX7_init 5 = .ok (.iload_n 1, 1) := by decide +kernel
theorem dX7_init_6 : decode cX7_init 6 = .ok (.putfield 7, 3) := by decide +kernel
theorem dX7_init_9 : decode cX7_init 9 = .ok (.aload_n 0, 1) := by decide +kernel
theorem dX7_init_10 : decode cX7_init 10 = .ok (.iload_n 2, 1) := by decide +kernel

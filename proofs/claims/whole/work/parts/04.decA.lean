theorem dX0_init_0 : decode cX0_init 0 = .ok (.aload_n 0, 1) := by decide +kernel
theorem dX0_init_1 : decode cX0_init 1 = .ok (.aload_n 1, 1) := by decide +kernel
theorem dX0_init_2 : decode cX0_init 2 = .ok (.iload_n 2, 1) := by decide +kernel
theorem dX0_init_3 : decode cX0_init 3 = .ok (.iload_n 3, 1) := by decide +kernel
theorem dX0_init_4 : decode cX0_init 4 = .ok (.iload 4, 2) := by decide +kernel
theorem dX0_init_6 : decode cX0_init 6 = .ok (.iload 5, 2) := by decide +kernel
theorem dX0_init_8 : decode cX0_init 8 = .ok (.invokespecial 3, 3) := by decide +kernel
theorem dX0_init_11 : decode cX0_init 11 = .ok (.return_, 1) := by decide +kernel
theorem dX0_doWeigh_0 : decode cX0_doWeigh 0 = .ok (.aload_n 0, 1) := by decide +kernel
theorem dX0_doWeigh_1 : decode cX0_doWeigh 1 = .ok (.getfield 9, 3) := by decide +kernel
theorem dX0_doWeigh_4 : decode cX0_doWeigh 4 = .ok (.iconst 0, 1) := by decide +kernel
theorem dX0_doWeigh_5 : decode cX0_doWeigh 5 = .ok (.iconst 5, 1) := by decide +kernel
theorem dX0_doWeigh_6 : decode cX0_doWeigh 6 = .ok (.invokevirtual 15, 3) := by decide +kernel
theorem dX0_doWeigh_9 : decode cX0_doWeigh 9 = .ok (.aload_n 0, 1) := by decide +kernel
theorem dX0_doWeigh_10 : decode cX0_doWeigh 10 = .ok (.iload_n 1, 1) := by decide +kernel
theorem dX0_doWeigh_11 : decode cX0_doWeigh 11 = .ok (.invokespecial 21, 3) := by decide +kernel
theorem dX0_doWeigh_14 : decode cX0_doWeigh 14 = .ok (.istore_n 2, 1) := by decide +kernel
theorem dX0_doWeigh_15 : decode cX0_doWeigh 15 = .ok (.iload_n 2, 1) := by decide +kernel
theorem dX0_doWeigh_16 : decode cX0_doWeigh 16 = .ok (.ifCond .ne 26, 3) := by decide +kernel
theorem dX0_doWeigh_19 : decode cX0_doWeigh 19 = .ok (.aload_n 0, 1) := by decide +kernel
theorem dX0_doWeigh_20 : decode cX0_doWeigh 20 = .ok (.getfield 9, 3) := by decide +kernel
theorem dX0_doWeigh_23 : decode cX0_doWeigh 23 = .ok (.dup, 1) := by decide +kernel
theorem dX0_doWeigh_24 : decode cX0_doWeigh 24 = .ok (.getfield 25, 3) := by decide +kernel
theorem dX0_doWeigh_27 : decode cX0_doWeigh 27 = .ok (.iconst 1, 1) := by decide +kernel
theorem dX0_doWeigh_28 : decode cX0_doWeigh 28 = .ok (.iadd, 1) := by decide +kernel
theorem dX0_doWeigh_29 : decode cX0_doWeigh 29 = .ok (.putfield 25, 3) := by decide +kernel
theorem dX0_doWeigh_32 : decode cX0_doWeigh 32 = .ok (.new 29, 3) := by decide +kernel
theorem dX0_doWeigh_35 : decode cX0_doWeigh 35 = .ok (.dup, 1) := by decide +kernel
theorem dX0_doWeigh_36 : decode cX0_doWeigh 36 = .ok (.ldc 31, 2) := by decide +kernel
theorem dX0_doWeigh_38 : decode cX0_doWeigh 38 = .ok (.invokespecial 33, 3) := by decide +kernel
theorem dX0_doWeigh_41 : decode cX0_doWeigh 41 = .ok (.athrow, 1) := by decide +kernel
theorem dX0_doWeigh_42 : decode cX0_doWeigh 42 = .ok (.sipush 1000, 3) := by decide +kernel
theorem dX0_doWeigh_45 : decode cX0_doWeigh 45 = .ok (.iload_n 2, 1) := by decide +kernel
theorem dX0_doWeigh_46 : decode cX0_doWeigh 46 = .ok (.idiv, 1) := by decide +kernel
theorem dX0_doWeigh_47 : decode cX0_doWeigh 47 = .ok (.ireturn, 1) := by decide +kernel
theorem dX0_doClear_0 : decode cX0_doClear 0 = .ok (.aload_n 0, 1) := by decide +kernel
theorem dX0_doClear_1 : decode cX0_doClear 1 = .ok (.getfield 9, 3) := by decide +kernel
theorem dX0_doClear_4 : decode cX0_doClear 4 = .ok (.iconst 3, 1) := by decide +kernel
theorem dX0_doClear_5 : decode cX0_doClear 5 = .ok (.iconst 5, 1) := by decide +kernel
theorem dX0_doClear_6 : decode cX0_doClear 6 = .ok (.invokevirtual 15, 3) := by decide +kernel
theorem dX0_doClear_9 : decode cX0_doClear 9 = .ok (.aload_n 0, 1) := by decide +kernel
theorem dX0_doClear_10 : decode cX0_doClear 10 = .ok (.invokespecial 36, 3) := by decide +kernel
theorem dX0_doClear_13 : decode cX0_doClear 13 = .ok (.aload_n 0, 1) := by decide +kernel
theorem dX0_doClear_14 : decode cX0_doClear 14 = .ok (.dup, 1) := by decide +kernel
theorem dX0_doClear_15 : decode cX0_doClear 15 = .ok (.getfield 40, 3) := by decide +kernel
theorem dX0_doClear_18 : decode cX0_doClear 18 = .ok (.iconst 1, 1) := by decide +kernel
theorem dX0_doClear_19 : decode cX0_doClear 19 = .ok (.iadd, 1) := by decide +kernel
theorem dX0_doClear_20 : decode cX0_doClear 20 = .ok (.putfield 40, 3) := by decide +kernel
theorem dX0_doClear_23 : decode cX0_doClear 23 = .ok (.return_, 1) := by decide +kernel
theorem dX1_init_0 : decode cX1_init 0 = .ok (.aload_n 0, 1) := by decide +kernel
theorem dX1_init_1 : decode cX1_init 1 = .ok (.aload_n 1, 1) := by decide +kernel
theorem dX1_init_2 : decode cX1_init 2 = .ok (.iload_n 2, 1) := by decide +kernel
theorem dX1_init_3 : decode cX1_init 3 = .ok (.iload_n 3, 1) := by decide +kernel
theorem dX1_init_4 : decode cX1_init 4 = .ok (.iload 4, 2) := by decide +kernel
theorem dX1_init_6 : decode cX1_init 6 = .ok (.iload 5, 2) := by decide +kernel
theorem dX1_init_8 : decode cX1_init 8 = .ok (.invokespecial 3, 3) := by decide +kernel
theorem dX1_init_11 : decode cX1_init 11 = .ok (.return_, 1) := by decide +kernel
theorem dX1_doOver_0 : decode cX1_doOver 0 = .ok (.aload_n 0, 1) := by decide +kernel
theorem dX1_doOver_1 : decode cX1_doOver 1 = .ok (.getfield 9, 3) := by decide +kernel
theorem dX1_doOver_4 : decode cX1_doOver 4 = .ok (.iconst 2, 1) := by decide +kernel
theorem dX1_doOver_5 : decode cX1_doOver 5 = .ok (.bipush 6, 2) := by decide +kernel
theorem dX1_doOver_7 : decode cX1_doOver 7 = .ok (.invokevirtual 15, 3) := by decide +kernel
theorem dX1_doOver_10 : decode cX1_doOver 10 = .ok (.aload_n 0, 1) := by decide +kernel
theorem dX1_doOver_11 : decode cX1_doOver 11 = .ok (.getfield 21, 3) := by decide +kernel
theorem dX1_doOver_14 : decode cX1_doOver 14 = .ok (.ifCond .ne 11, 3) := by decide +kernel
theorem dX1_doOver_17 : decode cX1_doOver 17 = .ok (.aload_n 0, 1) := by decide +kernel
theorem dX1_doOver_18 : decode cX1_doOver 18 = .ok (.aload_n 0, 1) := by decide +kernel
theorem dX1_doOver_19 : decode cX1_doOver 19 = .ok (.invokespecial 25, 3) := by decide +kernel
theorem dX1_doOver_22 : decode cX1_doOver 22 = .ok (.putfield 21, 3) := by decide +kernel
theorem dX1_doOver_25 : decode cX1_doOver 25 = .ok (.aload_n 0, 1) := by decide +kernel
theorem dX1_doOver_26 : decode cX1_doOver 26 = .ok (.getfield 21, 3) := by decide +kernel
theorem dX1_doOver_29 : decode cX1_doOver 29 = .ok (.ireturn, 1) := by decide +kernel
theorem dX1_doClear_0 : decode cX1_doClear 0 = .ok (.aload_n 0, 1) := by decide +kernel
theorem dX1_doClear_1 : decode cX1_doClear 1 = .ok (.getfield 9, 3) := by decide +kernel
theorem dX1_doClear_4 : decode cX1_doClear 4 = .ok (.iconst 3, 1) := by decide +kernel
theorem dX1_doClear_5 : decode cX1_doClear 5 = .ok (.bipush 6, 2) := by decide +kernel
theorem dX1_doClear_7 : decode cX1_doClear 7 = .ok (.invokevirtual 15, 3) := by decide +kernel
theorem dX1_doClear_10 : decode cX1_doClear 10 = .ok (.aload_n 0, 1) := by decide +kernel
theorem dX1_doClear_11 : decode cX1_doClear 11 = .ok (.invokespecial 29, 3) := by decide +kernel
theorem dX1_doClear_14 : decode cX1_doClear 14 = .ok (.aload_n 0, 1) := by decide +kernel
theorem dX1_doClear_15 : decode cX1_doClear 15 = .ok (.iconst 0, 1) := by decide +kernel
theorem dX1_doClear_16 : decode cX1_doClear 16 = .ok (.putfield 21, 3) := by decide +kernel
theorem dX1_doClear_19 : decode cX1_doClear 19 = .ok (.return_, 1) := by decide +kernel
theorem dX1_doCost_0 : decode cX1_doCost 0 = .ok (.aload_n 0, 1) := by decide +kernel
theorem dX1_doCost_1 : decode cX1_doCost 1 = .ok (.getfield 9, 3) := by decide +kernel
theorem dX1_doCost_4 : decode cX1_doCost 4 = .ok (.iconst 4, 1) := by decide +kernel
theorem dX1_doCost_5 : decode cX1_doCost 5 = .ok (.bipush 6, 2) := by decide +kernel
theorem dX1_doCost_7 : decode cX1_doCost 7 = .ok (.invokevirtual 15, 3) := by decide +kernel
theorem dX1_doCost_10 : decode cX1_doCost 10 = .ok (.iconst 5, 1) := by decide +kernel
theorem dX1_doCost_11 : decode cX1_doCost 11 = .ok (.aload_n 0, 1) := by decide +kernel
theorem dX1_doCost_12 : decode cX1_doCost 12 = .ok (.invokespecial 33, 3) := by decide +kernel
theorem dX1_doCost_15 : decode cX1_doCost 15 = .ok (.iadd, 1) := by decide +kernel
theorem dX1_doCost_16 : decode cX1_doCost 16 = .ok (.ireturn, 1) := by decide +kernel
theorem dX2_init_0 : decode cX2_init 0 = .ok (.aload_n 0, 1) := by decide +kernel
theorem dX2_init_1 : decode cX2_init 1 = .ok (.aload_n 1, 1) := by decide +kernel
theorem dX2_init_2 : decode cX2_init 2 = .ok (.iload_n 2, 1) := by decide +kernel
theorem dX2_init_3 : decode cX2_init 3 = .ok (.iload_n 3, 1) := by decide +kernel
theorem dX2_init_4 : decode cX2_init 4 = .ok (.iload 4, 2) := by decide +kernel
theorem dX2_init_6 : decode cX2_init 6 = .ok (.iload 5, 2) := by decide +kernel
theorem dX2_init_8 : decode cX2_init 8 = .ok (.invokespecial 3, 3) := by decide +kernel
theorem dX2_init_11 : decode cX2_init 11 = .ok (.return_, 1) := by decide +kernel
theorem dX2_doRead_0 : decode cX2_doRead 0 = .ok (.aload_n 0, 1) := by decide +kernel
theorem dX2_doRead_1 : decode cX2_doRead 1 = .ok (.getfield 9, 3) := by decide +kernel
theorem dX2_doRead_4 : decode cX2_doRead 4 = .ok (.iconst 1, 1) := by decide +kernel
theorem dX2_doRead_5 : decode cX2_doRead 5 = .ok (.iconst 4, 1) := by decide +kernel
theorem dX2_doRead_6 : decode cX2_doRead 6 = .ok (.invokevirtual 15, 3) := by decide +kernel
theorem dX2_doRead_9 : decode cX2_doRead 9 = .ok (.aload_n 0, 1) := by decide +kernel
theorem dX2_doRead_10 : decode cX2_doRead 10 = .ok (.iload_n 1, 1) := by decide +kernel
theorem dX2_doRead_11 : decode cX2_doRead 11 = .ok (.invokespecial 21, 3) := by decide +kernel
theorem dX2_doRead_14 : decode cX2_doRead 14 = .ok (.iload_n 1, 1) := by decide +kernel
theorem dX2_doRead_15 : decode cX2_doRead 15 = .ok (.aload_n 0, 1) := by decide +kernel
theorem dX2_doRead_16 : decode cX2_doRead 16 = .ok (.getfield 25, 3) := by decide +kernel
theorem dX2_doRead_19 : decode cX2_doRead 19 = .ok (.if_icmp .le 8, 3) := by decide +kernel
theorem dX2_doRead_22 : decode cX2_doRead 22 = .ok (.aload_n 0, 1) := by decide +kernel
theorem dX2_doRead_23 : decode cX2_doRead 23 = .ok (.iload_n 1, 1) := by decide +kernel
theorem dX2_doRead_24 : decode cX2_doRead 24 = .ok (.invokespecial 21, 3) := by decide +kernel
theorem dX2_doRead_27 : decode cX2_doRead 27 = .ok (.return_, 1) := by decide +kernel
theorem dX2_doOver_0 : decode cX2_doOver 0 = .ok (.aload_n 0, 1) := by decide +kernel
theorem dX2_doOver_1 : decode cX2_doOver 1 = .ok (.getfield 9, 3) := by decide +kernel
theorem dX2_doOver_4 : decode cX2_doOver 4 = .ok (.iconst 2, 1) := by decide +kernel
theorem dX2_doOver_5 : decode cX2_doOver 5 = .ok (.iconst 4, 1) := by decide +kernel
theorem dX2_doOver_6 : decode cX2_doOver 6 = .ok (.invokevirtual 15, 3) := by decide +kernel
theorem dX2_doOver_9 : decode cX2_doOver 9 = .ok (.aload_n 0, 1) := by decide +kernel
theorem dX2_doOver_10 : decode cX2_doOver 10 = .ok (.invokespecial 29, 3) := by decide +kernel
theorem dX2_doOver_13 : decode cX2_doOver 13 = .ok (.ifCond .eq 15, 3) := by decide +kernel
theorem dX2_doOver_16 : decode cX2_doOver 16 = .ok (.aload_n 0, 1) := by decide +kernel
theorem dX2_doOver_17 : decode cX2_doOver 17 = .ok (.getfield 33, 3) := by decide +kernel
theorem dX2_doOver_20 : decode cX2_doOver 20 = .ok (.iconst 3, 1) := by decide +kernel
theorem dX2_doOver_21 : decode cX2_doOver 21 = .ok (.if_icmp .lt 7, 3) := by decide +kernel
theorem dX2_doOver_24 : decode cX2_doOver 24 = .ok (.iconst 1, 1) := by decide +kernel
theorem dX2_doOver_25 : decode cX2_doOver 25 = .ok (.goto 4, 3) := by decide +kernel
theorem dX2_doOver_28 : decode cX2_doOver 28 = .ok (.iconst 0, 1) := by decide +kernel
theorem dX2_doOver_29 : decode cX2_doOver 29 = .ok (.ireturn, 1) := by decide +kernel
theorem dX3_init_0 : decode cX3_init 0 = .ok (.aload_n 0, 1) := by decide +kernel
theorem dX3_init_1 : decode cX3_init 1 = .ok (.invokespecial 3, 3) := by decide +kernel
theorem dX3_init_4 : decode cX3_init 4 = .ok (.aload_n 0, 1) := by decide +kernel
theorem dX3_init_5 : decode cX3_init 5 = .ok (.aload_n 1, 1) := by decide +kernel
theorem dX3_init_6 : decode cX3_init 6 = .ok (.putfield 9, 3) := by decide +kernel
theorem dX3_init_9 : decode cX3_init 9 = .ok (.aload_n 0, 1) := by decide +kernel
theorem dX3_init_10 : decode cX3_init 10 = .ok (.iload_n 2, 1) := by decide +kernel
theorem dX3_init_11 : decode cX3_init 11 = .ok (.putfield 15, 3) := by decide +kernel
theorem dX3_init_14 : decode cX3_init 14 = .ok (.aload_n 0, 1) := by decide +kernel
theorem dX3_init_15 : decode cX3_init 15 = .ok (.iload_n 3, 1) := by decide +kernel
theorem dX3_init_16 : decode cX3_init 16 = .ok (.putfield 19, 3) := by decide +kernel
theorem dX3_init_19 : decode cX3_init 19 = .ok (.aload_n 0, 1) := by decide +kernel
theorem dX3_init_20 : decode cX3_init 20 = .ok (.iload 4, 2) := by decide +kernel
theorem dX3_init_22 : decode cX3_init 22 = .ok (.putfield 22, 3) := by decide +kernel
theorem dX3_init_25 : decode cX3_init 25 = .ok (.aload_n 0, 1) := by decide +kernel
theorem dX3_init_26 : decode cX3_init 26 = .ok (.iload 5, 2) := by decide +kernel
theorem dX3_init_28 : decode cX3_init 28 = .ok (.putfield 25, 3) := by decide +kernel
theorem dX3_init_31 : decode cX3_init 31 = .ok (.return_, 1) := by decide +kernel
theorem dX3_doWeigh_0 : decode cX3_doWeigh 0 = .ok (.aload_n 0, 1) := by decide +kernel
theorem dX3_doWeigh_1 : decode cX3_doWeigh 1 = .ok (.getfield 9, 3) := by decide +kernel
theorem dX3_doWeigh_4 : decode cX3_doWeigh 4 = .ok (.iconst 0, 1) := by decide +kernel
theorem dX3_doWeigh_5 : decode cX3_doWeigh 5 = .ok (.iconst 0, 1) := by decide +kernel
theorem dX3_doWeigh_6 : decode cX3_doWeigh 6 = .ok (.invokevirtual 28, 3) := by decide +kernel
theorem dX3_doWeigh_9 : decode cX3_doWeigh 9 = .ok (.iload_n 1, 1) := by decide +kernel
theorem dX3_doWeigh_10 : decode cX3_doWeigh 10 = .ok (.ireturn, 1) := by decide +kernel
theorem dX3_doRead_0 : decode cX3_doRead 0 = .ok (.aload_n 0, 1) := by decide +kernel
theorem dX3_doRead_1 : decode cX3_doRead 1 = .ok (.getfield 9, 3) := by decide +kernel
theorem dX3_doRead_4 : decode cX3_doRead 4 = .ok (.iconst 1, 1) := by decide +kernel
theorem dX3_doRead_5 : decode cX3_doRead 5 = .ok (.iconst 0, 1) := by decide +kernel
theorem dX3_doRead_6 : decode cX3_doRead 6 = .ok (.invokevirtual 28, 3) := by decide +kernel
theorem dX3_doRead_9 : decode cX3_doRead 9 = .ok (.aload_n 0, 1) := by decide +kernel
theorem dX3_doRead_10 : decode cX3_doRead 10 = .ok (.iload_n 1, 1) := by decide +kernel
theorem dX3_doRead_11 : decode cX3_doRead 11 = .ok (.invokevirtual 34, 3) := by decide +kernel
theorem dX3_doRead_14 : decode cX3_doRead 14 = .ok (.istore_n 2, 1) := by decide +kernel
theorem dX3_doRead_15 : decode cX3_doRead 15 = .ok (.aload_n 0, 1) := by decide +kernel
theorem dX3_doRead_16 : decode cX3_doRead 16 = .ok (.iconst 3, 1) := by decide +kernel
theorem dX3_doRead_17 : decode cX3_doRead 17 = .ok (.aload_n 0, 1) := by decide +kernel
theorem dX3_doRead_18 : decode cX3_doRead 18 = .ok (.getfield 38, 3) := by decide +kernel
theorem dX3_doRead_21 : decode cX3_doRead 21 = .ok (.imul, 1) := by decide +kernel
theorem dX3_doRead_22 : decode cX3_doRead 22 = .ok (.iload_n 2, 1) := by decide +kernel
theorem dX3_doRead_23 : decode cX3_doRead 23 = .ok (.iadd, 1) := by decide +kernel
theorem dX3_doRead_24 : decode cX3_doRead 24 = .ok (.iconst 4, 1) := by decide +kernel
theorem dX3_doRead_25 : decode cX3_doRead 25 = .ok (.idiv, 1) := by decide +kernel
theorem dX3_doRead_26 : decode cX3_doRead 26 = .ok (.putfield 38, 3) := by decide +kernel
theorem dX3_doRead_29 : decode cX3_doRead 29 = .ok (.aload_n 0, 1) := by decide +kernel
theorem dX3_doRead_30 : decode cX3_doRead 30 = .ok (.dup, 1) := by decide +kernel
theorem dX3_doRead_31 : decode cX3_doRead 31 = .ok (.getfield 41, 3) := by decide +kernel
theorem dX3_doRead_34 : decode cX3_doRead 34 = .ok (.iconst 1, 1) := by decide +kernel
theorem dX3_doRead_35 : decode cX3_doRead 35 = .ok (.iadd, 1) := by decide +kernel
theorem dX3_doRead_36 : decode cX3_doRead 36 = .ok (.putfield 41, 3) := by decide +kernel
theorem dX3_doRead_39 : decode cX3_doRead 39 = .ok (.return_, 1) := by decide +kernel
theorem dX3_doOver_0 : decode cX3_doOver 0 = .ok (.aload_n 0, 1) := by decide +kernel
theorem dX3_doOver_1 : decode cX3_doOver 1 = .ok (.getfield 9, 3) := by decide +kernel
theorem dX3_doOver_4 : decode cX3_doOver 4 = .ok (.iconst 2, 1) := by decide +kernel
theorem dX3_doOver_5 : decode cX3_doOver 5 = .ok (.iconst 0, 1) := by decide +kernel
theorem dX3_doOver_6 : decode cX3_doOver 6 = .ok (.invokevirtual 28, 3) := by decide +kernel
theorem dX3_doOver_9 : decode cX3_doOver 9 = .ok (.aload_n 0, 1) := by decide +kernel
theorem dX3_doOver_10 : decode cX3_doOver 10 = .ok (.getfield 38, 3) := by decide +kernel
theorem dX3_doOver_13 : decode cX3_doOver 13 = .ok (.aload_n 0, 1) := by decide +kernel
theorem dX3_doOver_14 : decode cX3_doOver 14 = .ok (.getfield 22, 3) := by decide +kernel
theorem dX3_doOver_17 : decode cX3_doOver 17 = .ok (.if_icmp .lt 7, 3) := by decide +kernel
theorem dX3_doOver_20 : decode cX3_doOver 20 = .ok (.iconst 1, 1) := by decide +kernel
theorem dX3_doOver_21 : decode cX3_doOver 21 = .ok (.goto 4, 3) := by decide +kernel
theorem dX3_doOver_24 : decode cX3_doOver 24 = .ok (.iconst 0, 1) := by decide +kernel
theorem dX3_doOver_25 : decode cX3_doOver 25 = .ok (.ireturn, 1) := by decide +kernel
theorem dX3_doClear_0 : decode cX3_doClear 0 = .ok (.aload_n 0, 1) := by decide +kernel
theorem dX3_doClear_1 : decode cX3_doClear 1 = .ok (.getfield 9, 3) := by decide +kernel
theorem dX3_doClear_4 : decode cX3_doClear 4 = .ok (.iconst 3, 1) := by decide +kernel
theorem dX3_doClear_5 : decode cX3_doClear 5 = .ok (.iconst 0, 1) := by decide +kernel
theorem dX3_doClear_6 : decode cX3_doClear 6 = .ok (.invokevirtual 28, 3) := by decide +kernel
theorem dX3_doClear_9 : decode cX3_doClear 9 = .ok (.aload_n 0, 1) := by decide +kernel
theorem dX3_doClear_10 : decode cX3_doClear 10 = .ok (.iconst 0, 1) := by decide +kernel
theorem dX3_doClear_11 : decode cX3_doClear 11 = .ok (.putfield 38, 3) := by decide +kernel
theorem dX3_doClear_14 : decode cX3_doClear 14 = .ok (.aload_n 0, 1) := by decide +kernel
theorem dX3_doClear_15 : decode cX3_doClear 15 = .ok (.iconst 0, 1) := by decide +kernel
theorem dX3_doClear_16 : decode cX3_doClear 16 = .ok (.putfield 41, 3) := by decide +kernel
theorem dX3_doClear_19 : decode cX3_doClear 19 = .ok (.return_, 1) := by decide +kernel
theorem dX3_doCost_0 : decode cX3_doCost 0 = .ok (.aload_n 0, 1) := by decide +kernel
theorem dX3_doCost_1 : decode cX3_doCost 1 = .ok (.getfield 9, 3) := by decide +kernel
theorem dX3_doCost_4 : decode cX3_doCost 4 = .ok (.iconst 4, 1) := by decide +kernel
theorem dX3_doCost_5 : decode cX3_doCost 5 = .ok (.iconst 0, 1) := by decide +kernel
theorem dX3_doCost_6 : decode cX3_doCost 6 = .ok (.invokevirtual 28, 3) := by decide +kernel
theorem dX3_doCost_9 : decode cX3_doCost 9 = .ok (.bipush 10, 2) := by decide +kernel
theorem dX3_doCost_11 : decode cX3_doCost 11 = .ok (.aload_n 0, 1) := by decide +kernel
theorem dX3_doCost_12 : decode cX3_doCost 12 = .ok (.getfield 41, 3) := by decide +kernel
theorem dX3_doCost_15 : decode cX3_doCost 15 = .ok (.iadd, 1) := by decide +kernel
theorem dX3_doCost_16 : decode cX3_doCost 16 = .ok (.ireturn, 1) := by decide +kernel
theorem dX3_doVotes_0 : decode cX3_doVotes 0 = .ok (.aload_n 0, 1) := by decide +kernel
theorem dX3_doVotes_1 : decode cX3_doVotes 1 = .ok (.invokevirtual 44, 3) := by decide +kernel
theorem dX3_doVotes_4 : decode cX3_doVotes 4 = .ok (.ifCond .eq 7, 3) := by decide +kernel
theorem dX3_doVotes_7 : decode cX3_doVotes 7 = .ok (.iconst 3, 1) := by decide +kernel
theorem dX3_doVotes_8 : decode cX3_doVotes 8 = .ok (.goto 4, 3) := by decide +kernel
theorem dX3_doVotes_11 : decode cX3_doVotes 11 = .ok (.iconst 0, 1) := by decide +kernel
theorem dX3_doVotes_12 : decode cX3_doVotes 12 = .ok (.ireturn, 1) := by decide +kernel
theorem dX4_init_0 : decode cX4_init 0 = .ok (.aload_n 0, 1) := by decide +kernel
theorem dX4_init_1 : decode cX4_init 1 = .ok (.aload_n 1, 1) := by decide +kernel
theorem dX4_init_2 : decode cX4_init 2 = .ok (.iload_n 2, 1) := by decide +kernel
theorem dX4_init_3 : decode cX4_init 3 = .ok (.iload_n 3, 1) := by decide +kernel
theorem dX4_init_4 : decode cX4_init 4 = .ok (.iload 4, 2) := by decide +kernel
theorem dX4_init_6 : decode cX4_init 6 = .ok (.iload 5, 2) := by decide +kernel
theorem dX4_init_8 : decode cX4_init 8 = .ok (.invokespecial 3, 3) := by decide +kernel
theorem dX4_init_11 : decode cX4_init 11 = .ok (.return_, 1) := by decide +kernel
theorem dX4_doWeigh_0 : decode cX4_doWeigh 0 = .ok (.aload_n 0, 1) := by decide +kernel
theorem dX4_doWeigh_1 : decode cX4_doWeigh 1 = .ok (.getfield 9, 3) := by decide +kernel
theorem dX4_doWeigh_4 : decode cX4_doWeigh 4 = .ok (.iconst 0, 1) := by decide +kernel
theorem dX4_doWeigh_5 : decode cX4_doWeigh 5 = .ok (.iconst 2, 1) := by decide +kernel
theorem dX4_doWeigh_6 : decode cX4_doWeigh 6 = .ok (.invokevirtual 15, 3) := by decide +kernel
theorem dX4_doWeigh_9 : decode cX4_doWeigh 9 = .ok (.aload_n 0, 1) := by decide +kernel
theorem dX4_doWeigh_10 : decode cX4_doWeigh 10 = .ok (.getfield 21, 3) := by decide +kernel
theorem dX4_doWeigh_13 : decode cX4_doWeigh 13 = .ok (.ifCond .ne 26, 3) := by decide +kernel
theorem dX4_doWeigh_16 : decode cX4_doWeigh 16 = .ok (.aload_n 0, 1) := by decide +kernel
theorem dX4_doWeigh_17 : decode cX4_doWeigh 17 = .ok (.getfield 9, 3) := by decide +kernel
theorem dX4_doWeigh_20 : decode cX4_doWeigh 20 = .ok (.dup, 1) := by decide +kernel
theorem dX4_doWeigh_21 : decode cX4_doWeigh 21 = .ok (.getfield 25, 3) := by decide +kernel
theorem dX4_doWeigh_24 : decode cX4_doWeigh 24 = .ok (.iconst 1, 1) := by decide +kernel
theorem dX4_doWeigh_25 : decode cX4_doWeigh 25 = .ok (.iadd, 1) := by decide +kernel
theorem dX4_doWeigh_26 : decode cX4_doWeigh 26 = .ok (.putfield 25, 3) := by decide +kernel
theorem dX4_doWeigh_29 : decode cX4_doWeigh 29 = .ok (.new 28, 3) := by decide +kernel
theorem dX4_doWeigh_32 : decode cX4_doWeigh 32 = .ok (.dup, 1) := by decide +kernel
theorem dX4_doWeigh_33 : decode cX4_doWeigh 33 = .ok (.ldc 30, 2) := by decide +kernel
theorem dX4_doWeigh_35 : decode cX4_doWeigh 35 = .ok (.invokespecial 32, 3) := by decide +kernel
theorem dX4_doWeigh_38 : decode cX4_doWeigh 38 = .ok (.athrow, 1) := by decide +kernel
theorem dX4_doWeigh_39 : decode cX4_doWeigh 39 = .ok (.aload_n 0, 1) := by decide +kernel
theorem dX4_doWeigh_40 : decode cX4_doWeigh 40 = .ok (.dup, 1) := by decide +kernel
theorem dX4_doWeigh_41 : decode cX4_doWeigh 41 = .ok (.getfield 21, 3) := by decide +kernel
theorem dX4_doWeigh_44 : decode cX4_doWeigh 44 = .ok (.iconst 1, 1) := by decide +kernel
theorem dX4_doWeigh_45 : decode cX4_doWeigh 45 = .ok (.isub, 1) := by decide +kernel
theorem dX4_doWeigh_46 : decode cX4_doWeigh 46 = .ok (.putfield 21, 3) := by decide +kernel
theorem dX4_doWeigh_49 : decode cX4_doWeigh 49 = .ok (.aload_n 0, 1) := by decide +kernel
theorem dX4_doWeigh_50 : decode cX4_doWeigh 50 = .ok (.iload_n 1, 1) := by decide +kernel
theorem dX4_doWeigh_51 : decode cX4_doWeigh 51 = .ok (.invokespecial 35, 3) := by decide +kernel
theorem dX4_doWeigh_54 : decode cX4_doWeigh 54 = .ok (.ireturn, 1) := by decide +kernel
theorem dX4_doCost_0 : decode cX4_doCost 0 = .ok (.aload_n 0, 1) := by decide +kernel
theorem dX4_doCost_1 : decode cX4_doCost 1 = .ok (.getfield 9, 3) := by decide +kernel
theorem dX4_doCost_4 : decode cX4_doCost 4 = .ok (.iconst 4, 1) := by decide +kernel
theorem dX4_doCost_5 : decode cX4_doCost 5 = .ok (.iconst 2, 1) := by decide +kernel
theorem dX4_doCost_6 : decode cX4_doCost 6 = .ok (.invokevirtual 15, 3) := by decide +kernel
theorem dX4_doCost_9 : decode cX4_doCost 9 = .ok (.iconst 2, 1) := by decide +kernel
theorem dX4_doCost_10 : decode cX4_doCost 10 = .ok (.aload_n 0, 1) := by decide +kernel
theorem dX4_doCost_11 : decode cX4_doCost 11 = .ok (.invokespecial 39, 3) := by decide +kernel
theorem dX4_doCost_14 : decode cX4_doCost 14 = .ok (.imul, 1) := by decide +kernel
theorem dX4_doCost_15 : decode cX4_doCost 15 = .ok (.ireturn, 1) := by decide +kernel
theorem dX5_init_0 : decode cX5_init 0 = .ok (.aload_n 0, 1) := by decide +kernel
theorem dX5_init_1 : decode cX5_init 1 = .ok (.aload_n 1, 1) := by decide +kernel
theorem dX5_init_2 : decode cX5_init 2 = .ok (.iload_n 2, 1) := by decide +kernel
theorem dX5_init_3 : decode cX5_init 3 = .ok (.iload_n 3, 1) := by decide +kernel
theorem dX5_init_4 : decode cX5_init 4 = .ok (.iload 4, 2) := by decide +kernel
theorem dX5_init_6 : decode cX5_init 6 = .ok (.iload 5, 2) := by decide +kernel
theorem dX5_init_8 : decode cX5_init 8 = .ok (.invokespecial 3, 3) := by decide +kernel
theorem dX5_init_11 : decode cX5_init 11 = .ok (.return_, 1) := by decide +kernel
theorem dX5_doWeigh_0 : decode cX5_doWeigh 0 = .ok (.aload_n 0, 1) := by decide +kernel
theorem dX5_doWeigh_1 : decode cX5_doWeigh 1 = .ok (.getfield 9, 3) := by decide +kernel
theorem dX5_doWeigh_4 : decode cX5_doWeigh 4 = .ok (.iconst 0, 1) := by decide +kernel
theorem dX5_doWeigh_5 : decode cX5_doWeigh 5 = .ok (.iconst 3, 1) := by decide +kernel
theorem dX5_doWeigh_6 : decode cX5_doWeigh 6 = .ok (.invokevirtual 15, 3) := by decide +kernel
theorem dX5_doWeigh_9 : decode cX5_doWeigh 9 = .ok (.aload_n 0, 1) := by decide +kernel
theorem dX5_doWeigh_10 : decode cX5_doWeigh 10 = .ok (.iload_n 1, 1) := by decide +kernel
theorem dX5_doWeigh_11 : decode cX5_doWeigh 11 = .ok (.invokespecial 21, 3) := by decide +kernel
theorem dX5_doWeigh_14 : decode cX5_doWeigh 14 = .ok (.aload_n 0, 1) := by decide +kernel
theorem dX5_doWeigh_15 : decode cX5_doWeigh 15 = .ok (.getfield 25, 3) := by decide +kernel
theorem dX5_doWeigh_18 : decode cX5_doWeigh 18 = .ok (.isub, 1) := by decide +kernel
theorem dX5_doWeigh_19 : decode cX5_doWeigh 19 = .ok (.ireturn, 1) := by decide +kernel
theorem dX5_doRead_0 : decode cX5_doRead 0 = .ok (.aload_n 0, 1) := by decide +kernel
theorem dX5_doRead_1 : decode cX5_doRead 1 = .ok (.getfield 9, 3) := by decide +kernel
theorem dX5_doRead_4 : decode cX5_doRead 4 = .ok (.iconst 1, 1) := by decide +kernel
theorem dX5_doRead_5 : decode cX5_doRead 5 = .ok (.iconst 3, 1) := by decide +kernel
theorem dX5_doRead_6 : decode cX5_doRead 6 = .ok (.invokevirtual 15, 3) := by decide +kernel
theorem dX5_doRead_9 : decode cX5_doRead 9 = .ok (.aload_n 0, 1) := by decide +kernel
theorem dX5_doRead_10 : decode cX5_doRead 10 = .ok (.iload_n 1, 1) := by decide +kernel
theorem dX5_doRead_11 : decode cX5_doRead 11 = .ok (.invokespecial 29, 3) := by decide +kernel
theorem dX5_doRead_14 : decode cX5_doRead 14 = .ok (.aload_n 0, 1) := by decide +kernel
theorem dX5_doRead_15 : decode cX5_doRead 15 = .ok (.getfield 33, 3) := by decide +kernel
theorem dX5_doRead_18 : decode cX5_doRead 18 = .ok (.aload_n 0, 1) := by decide +kernel
theorem dX5_doRead_19 : decode cX5_doRead 19 = .ok (.getfield 25, 3) := by decide +kernel
theorem dX5_doRead_22 : decode cX5_doRead 22 = .ok (.if_icmp .le 16, 3) := by decide +kernel
theorem dX5_doRead_25 : decode cX5_doRead 25 = .ok (.aload_n 0, 1) := by decide +kernel
theorem dX5_doRead_26 : decode cX5_doRead 26 = .ok (.dup, 1) := by decide +kernel
theorem dX5_doRead_27 : decode cX5_doRead 27 = .ok (.getfield 25, 3) := by decide +kernel
theorem dX5_doRead_30 : decode cX5_doRead 30 = .ok (.iconst 1, 1) := by decide +kernel
theorem dX5_doRead_31 : decode cX5_doRead 31 = .ok (.iadd, 1) := by decide +kernel
theorem dX5_doRead_32 : decode cX5_doRead 32 = .ok (.putfield 25, 3) := by decide +kernel
theorem dX5_doRead_35 : decode cX5_doRead 35 = .ok (.goto 24, 3) := by decide +kernel
theorem dX5_doRead_38 : decode cX5_doRead 38 = .ok (.aload_n 0, 1) := by decide +kernel
theorem dX5_doRead_39 : decode cX5_doRead 39 = .ok (.getfield 33, 3) := by decide +kernel
theorem dX5_doRead_42 : decode cX5_doRead 42 = .ok (.aload_n 0, 1) := by decide +kernel
theorem dX5_doRead_43 : decode cX5_doRead 43 = .ok (.getfield 25, 3) := by decide +kernel
theorem dX5_doRead_46 : decode cX5_doRead 46 = .ok (.if_icmp .ge 13, 3) := by decide +kernel
theorem dX5_doRead_49 : decode cX5_doRead 49 = .ok (.aload_n 0, 1) := by decide +kernel
theorem dX5_doRead_50 : decode cX5_doRead 50 = .ok (.dup, 1) := by decide +kernel
theorem dX5_doRead_51 : decode cX5_doRead 51 = .ok (.getfield 25, 3) := by decide +kernel
theorem dX5_doRead_54 : decode cX5_doRead 54 = .ok (.iconst 1, 1) := by decide +kernel
theorem dX5_doRead_55 : decode cX5_doRead 55 = .ok (.isub, 1) := by decide +kernel
theorem dX5_doRead_56 : decode cX5_doRead 56 = .ok (.putfield 25, 3) := by decide +kernel
theorem dX5_doRead_59 : decode cX5_doRead 59 = .ok (.return_, 1) := by decide +kernel
theorem dX6_init_0 : decode cX6_init 0 = .ok (.aload_n 0, 1) := by decide +kernel
theorem dX6_init_1 : decode cX6_init 1 = .ok (.invokespecial 3, 3) := by decide +kernel
theorem dX6_init_4 : decode cX6_init 4 = .ok (.aload_n 0, 1) := by decide +kernel
theorem dX6_init_5 : decode cX6_init 5 = .ok (.sipush 200, 3) := by decide +kernel
theorem dX6_init_8 : decode cX6_init 8 = .ok (.newarray .int, 2) := by decide +kernel
theorem dX6_init_10 : decode cX6_init 10 = .ok (.putfield 9, 3) := by decide +kernel
theorem dX6_init_13 : decode cX6_init 13 = .ok (.return_, 1) := by decide +kernel
theorem dX6_begin_0 : decode cX6_begin 0 = .ok (.aload_n 0, 1) := by decide +kernel
theorem dX6_begin_1 : decode cX6_begin 1 = .ok (.getfield 15, 3) := by decide +kernel
theorem dX6_begin_4 : decode cX6_begin 4 = .ok (.aload_n 0, 1) := by decide +kernel
theorem dX6_begin_5 : decode cX6_begin 5 = .ok (.getfield 9, 3) := by decide +kernel
theorem dX6_begin_8 : decode cX6_begin 8 = .ok (.arraylength, 1) := by decide +kernel
theorem dX6_begin_9 : decode cX6_begin 9 = .ok (.if_icmp .lt 8, 3) := by decide +kernel
theorem dX6_begin_12 : decode cX6_begin 12 = .ok (.aload_n 0, 1) := by decide +kernel
theorem dX6_begin_13 : decode cX6_begin 13 = .ok (.iconst 0, 1) := by decide +kernel
theorem dX6_begin_14 : decode cX6_begin 14 = .ok (.putfield 15, 3) := by decide +kernel
theorem dX6_begin_17 : decode cX6_begin 17 = .ok (.aload_n 0, 1) := by decide +kernel
theorem dX6_begin_18 : decode cX6_begin 18 = .ok (.getfield 9, 3) := by decide +kernel
theorem dX6_begin_21 : decode cX6_begin 21 = .ok (.aload_n 0, 1) := by decide +kernel
theorem dX6_begin_22 : decode cX6_begin 22 = .ok (.getfield 15, 3) := by decide +kernel
theorem dX6_begin_25 : decode cX6_begin 25 = .ok (.bipush 10, 2) := by decide +kernel
theorem dX6_begin_27 : decode cX6_begin 27 = .ok (.iload_n 1, 1) := by decide +kernel
theorem dX6_begin_28 : decode cX6_begin 28 = .ok (.imul, 1) := by decide +kernel
theorem dX6_begin_29 : decode cX6_begin 29 = .ok (.iload_n 2, 1) := by decide +kernel
theorem dX6_begin_30 : decode cX6_begin 30 = .ok (.iadd, 1) := by decide +kernel
theorem dX6_begin_31 : decode cX6_begin 31 = .ok (.iastore, 1) := by decide +kernel
theorem dX6_begin_32 : decode cX6_begin 32 = .ok (.aload_n 0, 1) := by decide +kernel
theorem dX6_begin_33 : decode cX6_begin 33 = .ok (.dup, 1) := by decide +kernel
theorem dX6_begin_34 : decode cX6_begin 34 = .ok (.getfield 15, 3) := by decide +kernel
theorem dX6_begin_37 : decode cX6_begin 37 = .ok (.iconst 1, 1) := by decide +kernel
theorem dX6_begin_38 : decode cX6_begin 38 = .ok (.iadd, 1) := by decide +kernel
theorem dX6_begin_39 : decode cX6_begin 39 = .ok (.putfield 15, 3) := by decide +kernel
theorem dX6_begin_42 : decode cX6_begin 42 = .ok (.aload_n 0, 1) := by decide +kernel
theorem dX6_begin_43 : decode cX6_begin 43 = .ok (.getfield 19, 3) := by decide +kernel
theorem dX6_begin_46 : decode cX6_begin 46 = .ok (.aload_n 0, 1) := by decide +kernel
theorem dX6_begin_47 : decode cX6_begin 47 = .ok (.getfield 9, 3) := by decide +kernel
theorem dX6_begin_50 : decode cX6_begin 50 = .ok (.arraylength, 1) := by decide +kernel
theorem dX6_begin_51 : decode cX6_begin 51 = .ok (.if_icmp .ge 13, 3) := by decide +kernel
theorem dX6_begin_54 : decode cX6_begin 54 = .ok (.aload_n 0, 1) := by decide +kernel
theorem dX6_begin_55 : decode cX6_begin 55 = .ok (.dup, 1) := by decide +kernel
theorem dX6_begin_56 : decode cX6_begin 56 = .ok (.getfield 19, 3) := by decide +kernel
theorem dX6_begin_59 : decode cX6_begin 59 = .ok (.iconst 1, 1) := by decide +kernel
theorem dX6_begin_60 : decode cX6_begin 60 = .ok (.iadd, 1) := by decide +kernel
theorem dX6_begin_61 : decode cX6_begin 61 = .ok (.putfield 19, 3) := by decide +kernel
theorem dX6_begin_64 : decode cX6_begin 64 = .ok (.aload_n 0, 1) := by decide +kernel
theorem dX6_begin_65 : decode cX6_begin 65 = .ok (.dup, 1) := by decide +kernel
theorem dX6_begin_66 : decode cX6_begin 66 = .ok (.getfield 22, 3) := by decide +kernel
theorem dX6_begin_69 : decode cX6_begin 69 = .ok (.iconst 1, 1) := by decide +kernel
theorem dX6_begin_70 : decode cX6_begin 70 = .ok (.iadd, 1) := by decide +kernel
theorem dX6_begin_71 : decode cX6_begin 71 = .ok (.putfield 22, 3) := by decide +kernel
theorem dX6_begin_74 : decode cX6_begin 74 = .ok (.return_, 1) := by decide +kernel
theorem dX6_at_0 : decode cX6_at 0 = .ok (.iload_n 1, 1) := by decide +kernel
theorem dX6_at_1 : decode cX6_at 1 = .ok (.ifCond .lt 11, 3) := by decide +kernel
theorem dX6_at_4 : decode cX6_at 4 = .ok (.iload_n 1, 1) := by decide +kernel
theorem dX6_at_5 : decode cX6_at 5 = .ok (.aload_n 0, 1) := by decide +kernel
theorem dX6_at_6 : decode cX6_at 6 = .ok (.getfield 19, 3) := by decide +kernel
theorem dX6_at_9 : decode cX6_at 9 = .ok (.if_icmp .lt 6, 3) := by decide +kernel
theorem dX6_at_12 : decode cX6_at 12 = .ok (.bipush (-101), 2) := by decide +kernel
theorem dX6_at_14 : decode cX6_at 14 = .ok (.ireturn, 1) := by decide +kernel
theorem dX6_at_15 : decode cX6_at 15 = .ok (.aload_n 0, 1) := by decide +kernel
theorem dX6_at_16 : decode cX6_at 16 = .ok (.getfield 15, 3) := by decide +kernel
theorem dX6_at_19 : decode cX6_at 19 = .ok (.iconst 1, 1) := by decide +kernel
theorem dX6_at_20 : decode cX6_at 20 = .ok (.isub, 1) := by decide +kernel
theorem dX6_at_21 : decode cX6_at 21 = .ok (.iload_n 1, 1) := by decide +kernel
theorem dX6_at_22 : decode cX6_at 22 = .ok (.isub, 1) := by decide +kernel
theorem dX6_at_23 : decode cX6_at 23 = .ok (.istore_n 2, 1) := by decide +kernel
theorem dX6_at_24 : decode cX6_at 24 = .ok (.aload_n 0, 1) := by decide +kernel
theorem dX6_at_25 : decode cX6_at 25 = .ok (.getfield 9, 3) := by decide +kernel
theorem dX6_at_28 : decode cX6_at 28 = .ok (.iload_n 2, 1) := by decide +kernel
theorem dX6_at_29 : decode cX6_at 29 = .ok (.ifCond .ge 13, 3) := by decide +kernel
theorem dX6_at_32 : decode cX6_at 32 = .ok (.iload_n 2, 1) := by decide +kernel
theorem dX6_at_33 : decode cX6_at 33 = .ok (.aload_n 0, 1) := by decide +kernel
theorem dX6_at_34 : decode cX6_at 34 = .ok (.getfield 9, 3) := by decide +kernel
theorem dX6_at_37 : decode cX6_at 37 = .ok (.arraylength, 1) := by decide +kernel
theorem dX6_at_38 : decode cX6_at 38 = .ok (.iadd, 1) := by decide +kernel
theorem dX6_at_39 : decode cX6_at 39 = .ok (.goto 4, 3) := by decide +kernel
theorem dX6_at_42 : decode cX6_at 42 = .ok (.iload_n 2, 1) := by decide +kernel
theorem dX6_at_43 : decode cX6_at 43 = .ok (.iaload, 1) := by decide +kernel
theorem dX6_at_44 : decode cX6_at 44 = .ok (.ireturn, 1) := by decide +kernel
theorem dX7_init_0 : decode cX7_init 0 = .ok (.aload_n 0, 1) := by decide +kernel
theorem dX7_init_1 : decode cX7_init 1 = .ok (.aload_n 1, 1) := by decide +kernel
theorem dX7_init_2 : decode cX7_init 2 = .ok (.iload_n 2, 1) := by decide +kernel
theorem dX7_init_3 : decode cX7_init 3 = .ok (.iload_n 3, 1) := by decide +kernel
theorem dX7_init_4 : decode cX7_init 4 = .ok (.iload 4, 2) := by decide +kernel
theorem dX7_init_6 : decode cX7_init 6 = .ok (.iload 5, 2) := by decide +kernel
theorem dX7_init_8 : decode cX7_init 8 = .ok (.invokespecial 3, 3) := by decide +kernel
theorem dX7_init_11 : decode cX7_init 11 = .ok (.return_, 1) := by decide +kernel
theorem dX7_doRead_0 : decode cX7_doRead 0 = .ok (.aload_n 0, 1) := by decide +kernel
theorem dX7_doRead_1 : decode cX7_doRead 1 = .ok (.getfield 9, 3) := by decide +kernel
theorem dX7_doRead_4 : decode cX7_doRead 4 = .ok (.iconst 1, 1) := by decide +kernel
theorem dX7_doRead_5 : decode cX7_doRead 5 = .ok (.bipush 7, 2) := by decide +kernel
theorem dX7_doRead_7 : decode cX7_doRead 7 = .ok (.invokevirtual 15, 3) := by decide +kernel
theorem dX7_doRead_10 : decode cX7_doRead 10 = .ok (.aload_n 0, 1) := by decide +kernel
theorem dX7_doRead_11 : decode cX7_doRead 11 = .ok (.iload_n 1, 1) := by decide +kernel
theorem dX7_doRead_12 : decode cX7_doRead 12 = .ok (.invokespecial 21, 3) := by decide +kernel
theorem dX7_doRead_15 : decode cX7_doRead 15 = .ok (.aload_n 0, 1) := by decide +kernel
theorem dX7_doRead_16 : decode cX7_doRead 16 = .ok (.iload_n 1, 1) := by decide +kernel
theorem dX7_doRead_17 : decode cX7_doRead 17 = .ok (.ineg, 1) := by decide +kernel
theorem dX7_doRead_18 : decode cX7_doRead 18 = .ok (.invokespecial 21, 3) := by decide +kernel
theorem dX7_doRead_21 : decode cX7_doRead 21 = .ok (.return_, 1) := by decide +kernel
theorem dX7_doClear_0 : decode cX7_doClear 0 = .ok (.aload_n 0, 1) := by decide +kernel
theorem dX7_doClear_1 : decode cX7_doClear 1 = .ok (.getfield 9, 3) := by decide +kernel
theorem dX7_doClear_4 : decode cX7_doClear 4 = .ok (.iconst 3, 1) := by decide +kernel
theorem dX7_doClear_5 : decode cX7_doClear 5 = .ok (.bipush 7, 2) := by decide +kernel
theorem dX7_doClear_7 : decode cX7_doClear 7 = .ok (.invokevirtual 15, 3) := by decide +kernel
theorem dX7_doClear_10 : decode cX7_doClear 10 = .ok (.aload_n 0, 1) := by decide +kernel
theorem dX7_doClear_11 : decode cX7_doClear 11 = .ok (.invokespecial 25, 3) := by decide +kernel
theorem dX7_doClear_14 : decode cX7_doClear 14 = .ok (.aload_n 0, 1) := by decide +kernel
theorem dX7_doClear_15 : decode cX7_doClear 15 = .ok (.iconst 0, 1) := by decide +kernel
theorem dX7_doClear_16 : decode cX7_doClear 16 = .ok (.putfield 29, 3) := by decide +kernel
theorem dX7_doClear_19 : decode cX7_doClear 19 = .ok (.return_, 1) := by decide +kernel
theorem dX7_doCost_0 : decode cX7_doCost 0 = .ok (.aload_n 0, 1) := by decide +kernel
theorem dX7_doCost_1 : decode cX7_doCost 1 = .ok (.getfield 9, 3) := by decide +kernel
theorem dX7_doCost_4 : decode cX7_doCost 4 = .ok (.iconst 4, 1) := by decide +kernel
theorem dX7_doCost_5 : decode cX7_doCost 5 = .ok (.bipush 7, 2) := by decide +kernel
theorem dX7_doCost_7 : decode cX7_doCost 7 = .ok (.invokevirtual 15, 3) := by decide +kernel
theorem dX7_doCost_10 : decode cX7_doCost 10 = .ok (.aload_n 0, 1) := by decide +kernel
theorem dX7_doCost_11 : decode cX7_doCost 11 = .ok (.invokespecial 33, 3) := by decide +kernel
theorem dX7_doCost_14 : decode cX7_doCost 14 = .ok (.iconst 1, 1) := by decide +kernel
theorem dX7_doCost_15 : decode cX7_doCost 15 = .ok (.aload_n 0, 1) := by decide +kernel
theorem dX7_doCost_16 : decode cX7_doCost 16 = .ok (.getfield 29, 3) := by decide +kernel
theorem dX7_doCost_19 : decode cX7_doCost 19 = .ok (.invokestatic 37, 3) := by decide +kernel
theorem dX7_doCost_22 : decode cX7_doCost 22 = .ok (.iadd, 1) := by decide +kernel
theorem dX7_doCost_23 : decode cX7_doCost 23 = .ok (.imul, 1) := by decide +kernel
theorem dX7_doCost_24 : decode cX7_doCost 24 = .ok (.ireturn, 1) := by decide +kernel
theorem dX7_doVotes_0 : decode cX7_doVotes 0 = .ok (.aload_n 0, 1) := by decide +kernel
theorem dX7_doVotes_1 : decode cX7_doVotes 1 = .ok (.invokevirtual 43, 3) := by decide +kernel
theorem dX7_doVotes_4 : decode cX7_doVotes 4 = .ok (.ifCond .eq 7, 3) := by decide +kernel
theorem dX7_doVotes_7 : decode cX7_doVotes 7 = .ok (.iconst 2, 1) := by decide +kernel
theorem dX7_doVotes_8 : decode cX7_doVotes 8 = .ok (.goto 4, 3) := by decide +kernel
theorem dX7_doVotes_11 : decode cX7_doVotes 11 = .ok (.iconst 0, 1) := by decide +kernel
theorem dX7_doVotes_12 : decode cX7_doVotes 12 = .ok (.ireturn, 1) := by decide +kernel
theorem dX8_init_0 : decode cX8_init 0 = .ok (.aload_n 0, 1) := by decide +kernel
theorem dX8_init_1 : decode cX8_init 1 = .ok (.aload_n 1, 1) := by decide +kernel
theorem dX8_init_2 : decode cX8_init 2 = .ok (.iload_n 2, 1) := by decide +kernel
theorem dX8_init_3 : decode cX8_init 3 = .ok (.iload_n 3, 1) := by decide +kernel
theorem dX8_init_4 : decode cX8_init 4 = .ok (.iload 4, 2) := by decide +kernel
theorem dX8_init_6 : decode cX8_init 6 = .ok (.iload 5, 2) := by decide +kernel
theorem dX8_init_8 : decode cX8_init 8 = .ok (.invokespecial 1, 3) := by decide +kernel
theorem dX8_init_11 : decode cX8_init 11 = .ok (.return_, 1) := by decide +kernel
theorem dX8_doVotes_0 : decode cX8_doVotes 0 = .ok (.aload_n 0, 1) := by decide +kernel
theorem dX8_doVotes_1 : decode cX8_doVotes 1 = .ok (.invokevirtual 7, 3) := by decide +kernel
theorem dX8_doVotes_4 : decode cX8_doVotes 4 = .ok (.ifCond .eq 7, 3) := by decide +kernel
theorem dX8_doVotes_7 : decode cX8_doVotes 7 = .ok (.iconst 1, 1) := by decide +kernel
theorem dX8_doVotes_8 : decode cX8_doVotes 8 = .ok (.goto 4, 3) := by decide +kernel
theorem dX8_doVotes_11 : decode cX8_doVotes 11 = .ok (.iconst 0, 1) := by decide +kernel
theorem dX8_doVotes_12 : decode cX8_doVotes 12 = .ok (.ireturn, 1) := by decide +kernel
theorem dX9_init_0 : decode cX9_init 0 = .ok (.aload_n 0, 1) := by decide +kernel
theorem dX9_init_1 : decode cX9_init 1 = .ok (.invokespecial 1, 3) := by decide +kernel
theorem dX9_init_4 : decode cX9_init 4 = .ok (.aload_n 0, 1) := by decide +kernel
theorem dX9_init_5 : decode cX9_init 5 = .ok (.bipush 20, 2) := by decide +kernel
theorem dX9_init_7 : decode cX9_init 7 = .ok (.anewarray 9, 3) := by decide +kernel
theorem dX9_init_10 : decode cX9_init 10 = .ok (.putfield 11, 3) := by decide +kernel
theorem dX9_init_13 : decode cX9_init 13 = .ok (.aload_n 0, 1) := by decide +kernel
theorem dX9_init_14 : decode cX9_init 14 = .ok (.new 15, 3) := by decide +kernel
theorem dX9_init_17 : decode cX9_init 17 = .ok (.dup, 1) := by decide +kernel
theorem dX9_init_18 : decode cX9_init 18 = .ok (.invokespecial 17, 3) := by decide +kernel
theorem dX9_init_21 : decode cX9_init 21 = .ok (.putfield 18, 3) := by decide +kernel
theorem dX9_init_24 : decode cX9_init 24 = .ok (.aload_n 0, 1) := by decide +kernel
theorem dX9_init_25 : decode cX9_init 25 = .ok (.iconst 0, 1) := by decide +kernel
theorem dX9_init_26 : decode cX9_init 26 = .ok (.putfield 22, 3) := by decide +kernel
theorem dX9_init_29 : decode cX9_init 29 = .ok (.return_, 1) := by decide +kernel
theorem dX9_add_0 : decode cX9_add 0 = .ok (.iload_n 1, 1) := by decide +kernel
theorem dX9_add_1 : decode cX9_add 1 = .ok (.invokestatic 26, 3) := by decide +kernel
theorem dX9_add_4 : decode cX9_add 4 = .ok (.ifCond .eq 25, 3) := by decide +kernel
theorem dX9_add_7 : decode cX9_add 7 = .ok (.iload_n 2, 1) := by decide +kernel
theorem dX9_add_8 : decode cX9_add 8 = .ok (.invokestatic 30, 3) := by decide +kernel
theorem dX9_add_11 : decode cX9_add 11 = .ok (.ifCond .eq 18, 3) := by decide +kernel
theorem dX9_add_14 : decode cX9_add 14 = .ok (.iload_n 3, 1) := by decide +kernel
theorem dX9_add_15 : decode cX9_add 15 = .ok (.invokestatic 33, 3) := by decide +kernel
theorem dX9_add_18 : decode cX9_add 18 = .ok (.ifCond .eq 11, 3) := by decide +kernel
theorem dX9_add_21 : decode cX9_add 21 = .ok (.iload 4, 2) := by decide +kernel
theorem dX9_add_23 : decode cX9_add 23 = .ok (.invokestatic 36, 3) := by decide +kernel
theorem dX9_add_26 : decode cX9_add 26 = .ok (.ifCond .ne 6, 3) := by decide +kernel
theorem dX9_add_29 : decode cX9_add 29 = .ok (.bipush (-102), 2) := by decide +kernel
theorem dX9_add_31 : decode cX9_add 31 = .ok (.ireturn, 1) := by decide +kernel
theorem dX9_add_32 : decode cX9_add 32 = .ok (.aload_n 0, 1) := by decide +kernel
theorem dX9_add_33 : decode cX9_add 33 = .ok (.getfield 22, 3) := by decide +kernel
theorem dX9_add_36 : decode cX9_add 36 = .ok (.aload_n 0, 1) := by decide +kernel
theorem dX9_add_37 : decode cX9_add 37 = .ok (.getfield 11, 3) := by decide +kernel
theorem dX9_add_40 : decode cX9_add 40 = .ok (.arraylength, 1) := by decide +kernel
theorem dX9_add_41 : decode cX9_add 41 = .ok (.if_icmp .lt 6, 3) := by decide +kernel
theorem dX9_add_44 : decode cX9_add 44 = .ok (.bipush (-104), 2) := by decide +kernel
theorem dX9_add_46 : decode cX9_add 46 = .ok (.ireturn, 1) := by decide +kernel
theorem dX9_add_47 : decode cX9_add 47 = .ok (.aload_n 0, 1) := by decide +kernel
theorem dX9_add_48 : decode cX9_add 48 = .ok (.getfield 11, 3) := by decide +kernel
theorem dX9_add_51 : decode cX9_add 51 = .ok (.aload_n 0, 1) := by decide +kernel
theorem dX9_add_52 : decode cX9_add 52 = .ok (.getfield 22, 3) := by decide +kernel
theorem dX9_add_55 : decode cX9_add 55 = .ok (.aload_n 0, 1) := by decide +kernel
theorem dX9_add_56 : decode cX9_add 56 = .ok (.iload_n 1, 1) := by decide +kernel
theorem dX9_add_57 : decode cX9_add 57 = .ok (.iload_n 2, 1) := by decide +kernel
theorem dX9_add_58 : decode cX9_add 58 = .ok (.iload_n 3, 1) := by decide +kernel
theorem dX9_add_59 : decode cX9_add 59 = .ok (.iload 4, 2) := by decide +kernel
theorem dX9_add_61 : decode cX9_add 61 = .ok (.invokevirtual 39, 3) := by decide +kernel
theorem dX9_add_64 : decode cX9_add 64 = .ok (.aastore, 1) := by decide +kernel
theorem dX9_add_65 : decode cX9_add 65 = .ok (.aload_n 0, 1) := by decide +kernel
theorem dX9_add_66 : decode cX9_add 66 = .ok (.dup, 1) := by decide +kernel
theorem dX9_add_67 : decode cX9_add 67 = .ok (.getfield 22, 3) := by decide +kernel
theorem dX9_add_70 : decode cX9_add 70 = .ok (.iconst 1, 1) := by decide +kernel
theorem dX9_add_71 : decode cX9_add 71 = .ok (.iadd, 1) := by decide +kernel
theorem dX9_add_72 : decode cX9_add 72 = .ok (.putfield 22, 3) := by decide +kernel
theorem dX9_add_75 : decode cX9_add 75 = .ok (.aload_n 0, 1) := by decide +kernel
theorem dX9_add_76 : decode cX9_add 76 = .ok (.getfield 22, 3) := by decide +kernel
theorem dX9_add_79 : decode cX9_add 79 = .ok (.iconst 1, 1) := by decide +kernel
theorem dX9_add_80 : decode cX9_add 80 = .ok (.isub, 1) := by decide +kernel
theorem dX9_add_81 : decode cX9_add 81 = .ok (.ireturn, 1) := by decide +kernel
theorem dX9_read_0 : decode cX9_read 0 = .ok (.aload_n 0, 1) := by decide +kernel
theorem dX9_read_1 : decode cX9_read 1 = .ok (.iload_n 1, 1) := by decide +kernel
theorem dX9_read_2 : decode cX9_read 2 = .ok (.invokevirtual 43, 3) := by decide +kernel
theorem dX9_read_5 : decode cX9_read 5 = .ok (.astore_n 3, 1) := by decide +kernel
theorem dX9_read_6 : decode cX9_read 6 = .ok (.aload_n 3, 1) := by decide +kernel
theorem dX9_read_7 : decode cX9_read 7 = .ok (.ifnonnull 6, 3) := by decide +kernel
theorem dX9_read_10 : decode cX9_read 10 = .ok (.bipush (-101), 2) := by decide +kernel
theorem dX9_read_12 : decode cX9_read 12 = .ok (.ireturn, 1) := by decide +kernel
theorem dX9_read_13 : decode cX9_read 13 = .ok (.iload_n 2, 1) := by decide +kernel
theorem dX9_read_14 : decode cX9_read 14 = .ok (.invokestatic 33, 3) := by decide +kernel
theorem dX9_read_17 : decode cX9_read 17 = .ok (.ifCond .ne 6, 3) := by decide +kernel
theorem dX9_read_20 : decode cX9_read 20 = .ok (.bipush (-102), 2) := by decide +kernel
theorem dX9_read_22 : decode cX9_read 22 = .ok (.ireturn, 1) := by decide +kernel
theorem dX9_read_23 : decode cX9_read 23 = .ok (.aload_n 3, 1) := by decide +kernel
theorem dX9_read_24 : decode cX9_read 24 = .ok (.iload_n 2, 1) := by decide +kernel
theorem dX9_read_25 : decode cX9_read 25 = .ok (.invokevirtual 47, 3) := by decide +kernel
theorem dX9_read_28 : decode cX9_read 28 = .ok (.aload_n 3, 1) := by decide +kernel
theorem dX9_read_29 : decode cX9_read 29 = .ok (.getfield 51, 3) := by decide +kernel
theorem dX9_read_32 : decode cX9_read 32 = .ok (.ireturn, 1) := by decide +kernel
theorem dX9_weigh_0 : decode cX9_weigh 0 = .ok (.aload_n 0, 1) := by decide +kernel
theorem dX9_weigh_1 : decode cX9_weigh 1 = .ok (.iload_n 1, 1) := by decide +kernel
theorem dX9_weigh_2 : decode cX9_weigh 2 = .ok (.invokevirtual 43, 3) := by decide +kernel
theorem dX9_weigh_5 : decode cX9_weigh 5 = .ok (.astore_n 3, 1) := by decide +kernel
theorem dX9_weigh_6 : decode cX9_weigh 6 = .ok (.aload_n 3, 1) := by decide +kernel
theorem dX9_weigh_7 : decode cX9_weigh 7 = .ok (.ifnonnull 6, 3) := by decide +kernel
theorem dX9_weigh_10 : decode cX9_weigh 10 = .ok (.bipush (-101), 2) := by decide +kernel
theorem dX9_weigh_12 : decode cX9_weigh 12 = .ok (.ireturn, 1) := by decide +kernel
theorem dX9_weigh_13 : decode cX9_weigh 13 = .ok (.iload_n 2, 1) := by decide +kernel
theorem dX9_weigh_14 : decode cX9_weigh 14 = .ok (.invokestatic 33, 3) := by decide +kernel
theorem dX9_weigh_17 : decode cX9_weigh 17 = .ok (.ifCond .ne 6, 3) := by decide +kernel
theorem dX9_weigh_20 : decode cX9_weigh 20 = .ok (.bipush (-102), 2) := by decide +kernel
theorem dX9_weigh_22 : decode cX9_weigh 22 = .ok (.ireturn, 1) := by decide +kernel
theorem dX9_weigh_23 : decode cX9_weigh 23 = .ok (.aload_n 3, 1) := by decide +kernel
theorem dX9_weigh_24 : decode cX9_weigh 24 = .ok (.iload_n 2, 1) := by decide +kernel
theorem dX9_weigh_25 : decode cX9_weigh 25 = .ok (.invokevirtual 54, 3) := by decide +kernel
theorem dX9_weigh_28 : decode cX9_weigh 28 = .ok (.ireturn, 1) := by decide +kernel
theorem dX9_over_0 : decode cX9_over 0 = .ok (.aload_n 0, 1) := by decide +kernel
theorem dX9_over_1 : decode cX9_over 1 = .ok (.iload_n 1, 1) := by decide +kernel
theorem dX9_over_2 : decode cX9_over 2 = .ok (.invokevirtual 43, 3) := by decide +kernel
theorem dX9_over_5 : decode cX9_over 5 = .ok (.astore_n 2, 1) := by decide +kernel
theorem dX9_over_6 : decode cX9_over 6 = .ok (.aload_n 2, 1) := by decide +kernel
theorem dX9_over_7 : decode cX9_over 7 = .ok (.ifnonnull 6, 3) := by decide +kernel
theorem dX9_over_10 : decode cX9_over 10 = .ok (.bipush (-101), 2) := by decide +kernel
theorem dX9_over_12 : decode cX9_over 12 = .ok (.ireturn, 1) := by decide +kernel
theorem dX9_over_13 : decode cX9_over 13 = .ok (.aload_n 2, 1) := by decide +kernel
theorem dX9_over_14 : decode cX9_over 14 = .ok (.invokevirtual 58, 3) := by decide +kernel
theorem dX9_over_17 : decode cX9_over 17 = .ok (.ifCond .eq 7, 3) := by decide +kernel
theorem dX9_over_20 : decode cX9_over 20 = .ok (.iconst 1, 1) := by decide +kernel
theorem dX9_over_21 : decode cX9_over 21 = .ok (.goto 4, 3) := by decide +kernel
theorem dX9_over_24 : decode cX9_over 24 = .ok (.iconst 0, 1) := by decide +kernel
theorem dX9_over_25 : decode cX9_over 25 = .ok (.ireturn, 1) := by decide +kernel
theorem dX9_clear_0 : decode cX9_clear 0 = .ok (.aload_n 0, 1) := by decide +kernel
theorem dX9_clear_1 : decode cX9_clear 1 = .ok (.iload_n 1, 1) := by decide +kernel
theorem dX9_clear_2 : decode cX9_clear 2 = .ok (.invokevirtual 43, 3) := by decide +kernel
theorem dX9_clear_5 : decode cX9_clear 5 = .ok (.astore_n 2, 1) := by decide +kernel
theorem dX9_clear_6 : decode cX9_clear 6 = .ok (.aload_n 2, 1) := by decide +kernel
theorem dX9_clear_7 : decode cX9_clear 7 = .ok (.ifnonnull 6, 3) := by decide +kernel
theorem dX9_clear_10 : decode cX9_clear 10 = .ok (.bipush (-101), 2) := by decide +kernel
theorem dX9_clear_12 : decode cX9_clear 12 = .ok (.ireturn, 1) := by decide +kernel
theorem dX9_clear_13 : decode cX9_clear 13 = .ok (.aload_n 2, 1) := by decide +kernel
theorem dX9_clear_14 : decode cX9_clear 14 = .ok (.invokevirtual 62, 3) := by decide +kernel
theorem dX9_clear_17 : decode cX9_clear 17 = .ok (.iconst 1, 1) := by decide +kernel
theorem dX9_clear_18 : decode cX9_clear 18 = .ok (.ireturn, 1) := by decide +kernel
theorem dX9_cost_0 : decode cX9_cost 0 = .ok (.aload_n 0, 1) := by decide +kernel
theorem dX9_cost_1 : decode cX9_cost 1 = .ok (.iload_n 1, 1) := by decide +kernel
theorem dX9_cost_2 : decode cX9_cost 2 = .ok (.invokevirtual 43, 3) := by decide +kernel
theorem dX9_cost_5 : decode cX9_cost 5 = .ok (.astore_n 2, 1) := by decide +kernel
theorem dX9_cost_6 : decode cX9_cost 6 = .ok (.aload_n 2, 1) := by decide +kernel
theorem dX9_cost_7 : decode cX9_cost 7 = .ok (.ifnonnull 6, 3) := by decide +kernel
theorem dX9_cost_10 : decode cX9_cost 10 = .ok (.bipush (-101), 2) := by decide +kernel
theorem dX9_cost_12 : decode cX9_cost 12 = .ok (.ireturn, 1) := by decide +kernel
theorem dX9_cost_13 : decode cX9_cost 13 = .ok (.aload_n 2, 1) := by decide +kernel
theorem dX9_cost_14 : decode cX9_cost 14 = .ok (.invokevirtual 65, 3) := by decide +kernel
theorem dX9_cost_17 : decode cX9_cost 17 = .ok (.ireturn, 1) := by decide +kernel
theorem dX9_tell_0 : decode cX9_tell 0 = .ok (.aload_n 0, 1) := by decide +kernel
theorem dX9_tell_1 : decode cX9_tell 1 = .ok (.iload_n 1, 1) := by decide +kernel
theorem dX9_tell_2 : decode cX9_tell 2 = .ok (.invokevirtual 43, 3) := by decide +kernel
theorem dX9_tell_5 : decode cX9_tell 5 = .ok (.astore_n 3, 1) := by decide +kernel
theorem dX9_tell_6 : decode cX9_tell 6 = .ok (.aload_n 3, 1) := by decide +kernel
theorem dX9_tell_7 : decode cX9_tell 7 = .ok (.ifnonnull 6, 3) := by decide +kernel
theorem dX9_tell_10 : decode cX9_tell 10 = .ok (.bipush (-101), 2) := by decide +kernel
theorem dX9_tell_12 : decode cX9_tell 12 = .ok (.ireturn, 1) := by decide +kernel
theorem dX9_tell_13 : decode cX9_tell 13 = .ok (.iload_n 2, 1) := by decide +kernel
theorem dX9_tell_14 : decode cX9_tell 14 = .ok (.tableswitch 94 0 7 #[46, 51, 56, 61, 66, 71, 76, 81], 46) := by decide +kernel
theorem dX9_tell_60 : decode cX9_tell 60 = .ok (.aload_n 3, 1) := by decide +kernel
theorem dX9_tell_61 : decode cX9_tell 61 = .ok (.getfield 69, 3) := by decide +kernel
theorem dX9_tell_64 : decode cX9_tell 64 = .ok (.ireturn, 1) := by decide +kernel
theorem dX9_tell_65 : decode cX9_tell 65 = .ok (.aload_n 3, 1) := by decide +kernel
theorem dX9_tell_66 : decode cX9_tell 66 = .ok (.getfield 72, 3) := by decide +kernel
theorem dX9_tell_69 : decode cX9_tell 69 = .ok (.ireturn, 1) := by decide +kernel
theorem dX9_tell_70 : decode cX9_tell 70 = .ok (.aload_n 3, 1) := by decide +kernel
theorem dX9_tell_71 : decode cX9_tell 71 = .ok (.getfield 75, 3) := by decide +kernel
theorem dX9_tell_74 : decode cX9_tell 74 = .ok (.ireturn, 1) := by decide +kernel
theorem dX9_tell_75 : decode cX9_tell 75 = .ok (.aload_n 3, 1) := by decide +kernel
theorem dX9_tell_76 : decode cX9_tell 76 = .ok (.getfield 78, 3) := by decide +kernel
theorem dX9_tell_79 : decode cX9_tell 79 = .ok (.ireturn, 1) := by decide +kernel
theorem dX9_tell_80 : decode cX9_tell 80 = .ok (.aload_n 3, 1) := by decide +kernel
theorem dX9_tell_81 : decode cX9_tell 81 = .ok (.getfield 51, 3) := by decide +kernel
theorem dX9_tell_84 : decode cX9_tell 84 = .ok (.ireturn, 1) := by decide +kernel
theorem dX9_tell_85 : decode cX9_tell 85 = .ok (.aload_n 3, 1) := by decide +kernel
theorem dX9_tell_86 : decode cX9_tell 86 = .ok (.getfield 81, 3) := by decide +kernel
theorem dX9_tell_89 : decode cX9_tell 89 = .ok (.ireturn, 1) := by decide +kernel
theorem dX9_tell_90 : decode cX9_tell 90 = .ok (.aload_n 3, 1) := by decide +kernel
theorem dX9_tell_91 : decode cX9_tell 91 = .ok (.getfield 84, 3) := by decide +kernel
theorem dX9_tell_94 : decode cX9_tell 94 = .ok (.ireturn, 1) := by decide +kernel
theorem dX9_tell_95 : decode cX9_tell 95 = .ok (.aload_n 3, 1) := by decide +kernel
theorem dX9_tell_96 : decode cX9_tell 96 = .ok (.getfield 87, 3) := by decide +kernel
theorem dX9_tell_99 : decode cX9_tell 99 = .ok (.ifCond .eq 7, 3) := by decide +kernel
theorem dX9_tell_102 : decode cX9_tell 102 = .ok (.iconst 1, 1) := by decide +kernel
theorem dX9_tell_103 : decode cX9_tell 103 = .ok (.goto 4, 3) := by decide +kernel
theorem dX9_tell_106 : decode cX9_tell 106 = .ok (.iconst 0, 1) := by decide +kernel
theorem dX9_tell_107 : decode cX9_tell 107 = .ok (.ireturn, 1) := by decide +kernel
theorem dX9_tell_108 : decode cX9_tell 108 = .ok (.bipush (-102), 2) := by decide +kernel
theorem dX9_tell_110 : decode cX9_tell 110 = .ok (.ireturn, 1) := by decide +kernel
theorem dX9_sweep_0 : decode cX9_sweep 0 = .ok (.iload_n 1, 1) := by decide +kernel
theorem dX9_sweep_1 : decode cX9_sweep 1 = .ok (.invokestatic 30, 3) := by decide +kernel
theorem dX9_sweep_4 : decode cX9_sweep 4 = .ok (.ifCond .eq 10, 3) := by decide +kernel
theorem dX9_sweep_7 : decode cX9_sweep 7 = .ok (.iload_n 2, 1) := by decide +kernel
theorem dX9_sweep_8 : decode cX9_sweep 8 = .ok (.invokestatic 33, 3) := by decide +kernel
theorem dX9_sweep_11 : decode cX9_sweep 11 = .ok (.ifCond .ne 6, 3) := by decide +kernel
theorem dX9_sweep_14 : decode cX9_sweep 14 = .ok (.bipush (-102), 2) := by decide +kernel
theorem dX9_sweep_16 : decode cX9_sweep 16 = .ok (.ireturn, 1) := by decide +kernel
theorem dX9_sweep_17 : decode cX9_sweep 17 = .ok (.iconst 0, 1) := by decide +kernel
theorem dX9_sweep_18 : decode cX9_sweep 18 = .ok (.istore_n 3, 1) := by decide +kernel
theorem dX9_sweep_19 : decode cX9_sweep 19 = .ok (.iconst 0, 1) := by decide +kernel
theorem dX9_sweep_20 : decode cX9_sweep 20 = .ok (.istore 4, 2) := by decide +kernel
theorem dX9_sweep_22 : decode cX9_sweep 22 = .ok (.iload 4, 2) := by decide +kernel
theorem dX9_sweep_24 : decode cX9_sweep 24 = .ok (.aload_n 0, 1) := by decide +kernel
theorem dX9_sweep_25 : decode cX9_sweep 25 = .ok (.getfield 22, 3) := by decide +kernel
theorem dX9_sweep_28 : decode cX9_sweep 28 = .ok (.if_icmp .ge 45, 3) := by decide +kernel
theorem dX9_sweep_31 : decode cX9_sweep 31 = .ok (.aload_n 0, 1) := by decide +kernel
theorem dX9_sweep_32 : decode cX9_sweep 32 = .ok (.iload_n 1, 1) := by decide +kernel
theorem dX9_sweep_33 : decode cX9_sweep 33 = .ok (.iload 4, 2) := by decide +kernel
theorem dX9_sweep_35 : decode cX9_sweep 35 = .ok (.invokevirtual 91, 3) := by decide +kernel
theorem dX9_sweep_38 : decode cX9_sweep 38 = .ok (.astore 5, 2) := by decide +kernel
theorem dX9_sweep_40 : decode cX9_sweep 40 = .ok (.aload 5, 2) := by decide +kernel
theorem dX9_sweep_42 : decode cX9_sweep 42 = .ok (.ifnull 25, 3) := by decide +kernel
theorem dX9_sweep_45 : decode cX9_sweep 45 = .ok (.aload 5, 2) := by decide +kernel
theorem dX9_sweep_47 : decode cX9_sweep 47 = .ok (.iload_n 2, 1) := by decide +kernel
theorem dX9_sweep_48 : decode cX9_sweep 48 = .ok (.invokevirtual 47, 3) := by decide +kernel
theorem dX9_sweep_51 : decode cX9_sweep 51 = .ok (.goto 16, 3) := by decide +kernel
theorem dX9_sweep_54 : decode cX9_sweep 54 = .ok (.astore 6, 2) := by decide +kernel
theorem dX9_sweep_56 : decode cX9_sweep 56 = .ok (.iinc 3 1, 3) := by decide +kernel
theorem dX9_sweep_59 : decode cX9_sweep 59 = .ok (.goto 8, 3) := by decide +kernel
theorem dX9_sweep_62 : decode cX9_sweep 62 = .ok (.astore 6, 2) := by decide +kernel
theorem dX9_sweep_64 : decode cX9_sweep 64 = .ok (.iinc 3 1, 3) := by decide +kernel
theorem dX9_sweep_67 : decode cX9_sweep 67 = .ok (.iinc 4 1, 3) := by decide +kernel
theorem dX9_sweep_70 : decode cX9_sweep 70 = .ok (.goto (-48), 3) := by decide +kernel
theorem dX9_sweep_73 : decode cX9_sweep 73 = .ok (.iload_n 3, 1) := by decide +kernel
theorem dX9_sweep_74 : decode cX9_sweep 74 = .ok (.ireturn, 1) := by decide +kernel
theorem dX9_alarm_0 : decode cX9_alarm 0 = .ok (.iload_n 1, 1) := by decide +kernel
theorem dX9_alarm_1 : decode cX9_alarm 1 = .ok (.invokestatic 30, 3) := by decide +kernel
theorem dX9_alarm_4 : decode cX9_alarm 4 = .ok (.ifCond .eq 14, 3) := by decide +kernel
theorem dX9_alarm_7 : decode cX9_alarm 7 = .ok (.iload_n 2, 1) := by decide +kernel
theorem dX9_alarm_8 : decode cX9_alarm 8 = .ok (.iconst 1, 1) := by decide +kernel
theorem dX9_alarm_9 : decode cX9_alarm 9 = .ok (.if_icmp .lt 9, 3) := by decide +kernel
theorem dX9_alarm_12 : decode cX9_alarm 12 = .ok (.iload_n 2, 1) := by decide +kernel
theorem dX9_alarm_13 : decode cX9_alarm 13 = .ok (.bipush 60, 2) := by decide +kernel
theorem dX9_alarm_15 : decode cX9_alarm 15 = .ok (.if_icmp .le 6, 3) := by decide +kernel
theorem dX9_alarm_18 : decode cX9_alarm 18 = .ok (.bipush (-102), 2) := by decide +kernel
theorem dX9_alarm_20 : decode cX9_alarm 20 = .ok (.ireturn, 1) := by decide +kernel
theorem dX9_alarm_21 : decode cX9_alarm 21 = .ok (.iconst 0, 1) := by decide +kernel
theorem dX9_alarm_22 : decode cX9_alarm 22 = .ok (.istore_n 3, 1) := by decide +kernel
theorem dX9_alarm_23 : decode cX9_alarm 23 = .ok (.iconst 0, 1) := by decide +kernel
theorem dX9_alarm_24 : decode cX9_alarm 24 = .ok (.istore 4, 2) := by decide +kernel
theorem dX9_alarm_26 : decode cX9_alarm 26 = .ok (.iload 4, 2) := by decide +kernel
theorem dX9_alarm_28 : decode cX9_alarm 28 = .ok (.aload_n 0, 1) := by decide +kernel
theorem dX9_alarm_29 : decode cX9_alarm 29 = .ok (.getfield 22, 3) := by decide +kernel
theorem dX9_alarm_32 : decode cX9_alarm 32 = .ok (.if_icmp .ge 31, 3) := by decide +kernel
theorem dX9_alarm_35 : decode cX9_alarm 35 = .ok (.aload_n 0, 1) := by decide +kernel
theorem dX9_alarm_36 : decode cX9_alarm 36 = .ok (.iload_n 1, 1) := by decide +kernel
theorem dX9_alarm_37 : decode cX9_alarm 37 = .ok (.iload 4, 2) := by decide +kernel
theorem dX9_alarm_39 : decode cX9_alarm 39 = .ok (.invokevirtual 91, 3) := by decide +kernel
theorem dX9_alarm_42 : decode cX9_alarm 42 = .ok (.astore 5, 2) := by decide +kernel
theorem dX9_alarm_44 : decode cX9_alarm 44 = .ok (.aload 5, 2) := by decide +kernel
theorem dX9_alarm_46 : decode cX9_alarm 46 = .ok (.ifnull 11, 3) := by decide +kernel
theorem dX9_alarm_49 : decode cX9_alarm 49 = .ok (.iload_n 3, 1) := by decide +kernel
theorem dX9_alarm_50 : decode cX9_alarm 50 = .ok (.aload 5, 2) := by decide +kernel
theorem dX9_alarm_52 : decode cX9_alarm 52 = .ok (.invokevirtual 99, 3) := by decide +kernel
theorem dX9_alarm_55 : decode cX9_alarm 55 = .ok (.iadd, 1) := by decide +kernel
theorem dX9_alarm_56 : decode cX9_alarm 56 = .ok (.istore_n 3, 1) := by decide +kernel
theorem dX9_alarm_57 : decode cX9_alarm 57 = .ok (.iinc 4 1, 3) := by decide +kernel
theorem dX9_alarm_60 : decode cX9_alarm 60 = .ok (.goto (-34), 3) := by decide +kernel
theorem dX9_alarm_63 : decode cX9_alarm 63 = .ok (.iload_n 3, 1) := by decide +kernel
theorem dX9_alarm_64 : decode cX9_alarm 64 = .ok (.iload_n 2, 1) := by decide +kernel
theorem dX9_alarm_65 : decode cX9_alarm 65 = .ok (.if_icmp .lt 7, 3) := by decide +kernel
theorem dX9_alarm_68 : decode cX9_alarm 68 = .ok (.iconst 1, 1) := by decide +kernel
theorem dX9_alarm_69 : decode cX9_alarm 69 = .ok (.goto 4, 3) := by decide +kernel
theorem dX9_alarm_72 : decode cX9_alarm 72 = .ok (.iconst 0, 1) := by decide +kernel
theorem dX9_alarm_73 : decode cX9_alarm 73 = .ok (.ireturn, 1) := by decide +kernel
theorem dX9_costs_0 : decode cX9_costs 0 = .ok (.iconst 0, 1) := by decide +kernel
theorem dX9_costs_1 : decode cX9_costs 1 = .ok (.istore_n 1, 1) := by decide +kernel
theorem dX9_costs_2 : decode cX9_costs 2 = .ok (.iconst 0, 1) := by decide +kernel
theorem dX9_costs_3 : decode cX9_costs 3 = .ok (.istore_n 2, 1) := by decide +kernel
theorem dX9_costs_4 : decode cX9_costs 4 = .ok (.iload_n 2, 1) := by decide +kernel
theorem dX9_costs_5 : decode cX9_costs 5 = .ok (.aload_n 0, 1) := by decide +kernel
theorem dX9_costs_6 : decode cX9_costs 6 = .ok (.getfield 22, 3) := by decide +kernel
theorem dX9_costs_9 : decode cX9_costs 9 = .ok (.if_icmp .ge 26, 3) := by decide +kernel
theorem dX9_costs_12 : decode cX9_costs 12 = .ok (.aload_n 0, 1) := by decide +kernel
theorem dX9_costs_13 : decode cX9_costs 13 = .ok (.iload_n 2, 1) := by decide +kernel
theorem dX9_costs_14 : decode cX9_costs 14 = .ok (.invokevirtual 43, 3) := by decide +kernel
theorem dX9_costs_17 : decode cX9_costs 17 = .ok (.astore_n 3, 1) := by decide +kernel
theorem dX9_costs_18 : decode cX9_costs 18 = .ok (.aload_n 3, 1) := by decide +kernel
theorem dX9_costs_19 : decode cX9_costs 19 = .ok (.ifnull 10, 3) := by decide +kernel
theorem dX9_costs_22 : decode cX9_costs 22 = .ok (.iload_n 1, 1) := by decide +kernel
theorem dX9_costs_23 : decode cX9_costs 23 = .ok (.aload_n 3, 1) := by decide +kernel
theorem dX9_costs_24 : decode cX9_costs 24 = .ok (.invokevirtual 65, 3) := by decide +kernel
theorem dX9_costs_27 : decode cX9_costs 27 = .ok (.iadd, 1) := by decide +kernel
theorem dX9_costs_28 : decode cX9_costs 28 = .ok (.istore_n 1, 1) := by decide +kernel
theorem dX9_costs_29 : decode cX9_costs 29 = .ok (.iinc 2 1, 3) := by decide +kernel
theorem dX9_costs_32 : decode cX9_costs 32 = .ok (.goto (-28), 3) := by decide +kernel
theorem dX9_costs_35 : decode cX9_costs 35 = .ok (.iload_n 1, 1) := by decide +kernel
theorem dX9_costs_36 : decode cX9_costs 36 = .ok (.ireturn, 1) := by decide +kernel
theorem dX9_trace_0 : decode cX9_trace 0 = .ok (.aload_n 0, 1) := by decide +kernel
theorem dX9_trace_1 : decode cX9_trace 1 = .ok (.getfield 18, 3) := by decide +kernel
theorem dX9_trace_4 : decode cX9_trace 4 = .ok (.iload_n 1, 1) := by decide +kernel
theorem dX9_trace_5 : decode cX9_trace 5 = .ok (.invokevirtual 102, 3) := by decide +kernel
theorem dX9_trace_8 : decode cX9_trace 8 = .ok (.ireturn, 1) := by decide +kernel
theorem dX9_count_0 : decode cX9_count 0 = .ok (.iload_n 1, 1) := by decide +kernel
theorem dX9_count_1 : decode cX9_count 1 = .ok (.tableswitch 60 0 3 #[31, 36, 44, 52], 31) := by decide +kernel
theorem dX9_count_32 : decode cX9_count 32 = .ok (.aload_n 0, 1) := by decide +kernel
theorem dX9_count_33 : decode cX9_count 33 = .ok (.getfield 22, 3) := by decide +kernel
theorem dX9_count_36 : decode cX9_count 36 = .ok (.ireturn, 1) := by decide +kernel
theorem dX9_count_37 : decode cX9_count 37 = .ok (.aload_n 0, 1) := by decide +kernel
theorem dX9_count_38 : decode cX9_count 38 = .ok (.getfield 18, 3) := by decide +kernel
theorem dX9_count_41 : decode cX9_count 41 = .ok (.getfield 105, 3) := by decide +kernel
theorem dX9_count_44 : decode cX9_count 44 = .ok (.ireturn, 1) := by decide +kernel
theorem dX9_count_45 : decode cX9_count 45 = .ok (.aload_n 0, 1) := by decide +kernel
theorem dX9_count_46 : decode cX9_count 46 = .ok (.getfield 18, 3) := by decide +kernel
theorem dX9_count_49 : decode cX9_count 49 = .ok (.getfield 108, 3) := by decide +kernel
theorem dX9_count_52 : decode cX9_count 52 = .ok (.ireturn, 1) := by decide +kernel
theorem dX9_count_53 : decode cX9_count 53 = .ok (.aload_n 0, 1) := by decide +kernel
theorem dX9_count_54 : decode cX9_count 54 = .ok (.getfield 18, 3) := by decide +kernel
theorem dX9_count_57 : decode cX9_count 57 = .ok (.getfield 111, 3) := by decide +kernel
theorem dX9_count_60 : decode cX9_count 60 = .ok (.ireturn, 1) := by decide +kernel
theorem dX9_count_61 : decode cX9_count 61 = .ok (.bipush (-102), 2) := by decide +kernel
theorem dX9_count_63 : decode cX9_count 63 = .ok (.ireturn, 1) := by decide +kernel
theorem dX9_find_0 : decode cX9_find 0 = .ok (.iload_n 1, 1) := by decide +kernel
theorem dX9_find_1 : decode cX9_find 1 = .ok (.ifCond .lt 20, 3) := by decide +kernel
theorem dX9_find_4 : decode cX9_find 4 = .ok (.iload_n 1, 1) := by decide +kernel
theorem dX9_find_5 : decode cX9_find 5 = .ok (.aload_n 0, 1) := by decide +kernel
theorem dX9_find_6 : decode cX9_find 6 = .ok (.getfield 22, 3) := by decide +kernel
theorem dX9_find_9 : decode cX9_find 9 = .ok (.if_icmp .ge 12, 3) := by decide +kernel
theorem dX9_find_12 : decode cX9_find 12 = .ok (.iload_n 1, 1) := by decide +kernel
theorem dX9_find_13 : decode cX9_find 13 = .ok (.aload_n 0, 1) := by decide +kernel
theorem dX9_find_14 : decode cX9_find 14 = .ok (.getfield 11, 3) := by decide +kernel
theorem dX9_find_17 : decode cX9_find 17 = .ok (.arraylength, 1) := by decide +kernel
theorem dX9_find_18 : decode cX9_find 18 = .ok (.if_icmp .lt 5, 3) := by decide +kernel
theorem dX9_find_21 : decode cX9_find 21 = .ok (.aconst_null, 1) := by decide +kernel
theorem dX9_find_22 : decode cX9_find 22 = .ok (.areturn, 1) := by decide +kernel
theorem dX9_find_23 : decode cX9_find 23 = .ok (.aload_n 0, 1) := by decide +kernel
theorem dX9_find_24 : decode cX9_find 24 = .ok (.getfield 11, 3) := by decide +kernel
theorem dX9_find_27 : decode cX9_find 27 = .ok (.iload_n 1, 1) := by decide +kernel
theorem dX9_find_28 : decode cX9_find 28 = .ok (.aaload, 1) := by decide +kernel
theorem dX9_find_29 : decode cX9_find 29 = .ok (.areturn, 1) := by decide +kernel
theorem dX9_findIn_0 : decode cX9_findIn 0 = .ok (.aload_n 0, 1) := by decide +kernel
theorem dX9_findIn_1 : decode cX9_findIn 1 = .ok (.iload_n 2, 1) := by decide +kernel
theorem dX9_findIn_2 : decode cX9_findIn 2 = .ok (.invokevirtual 43, 3) := by decide +kernel
theorem dX9_findIn_5 : decode cX9_findIn 5 = .ok (.astore_n 3, 1) := by decide +kernel
theorem dX9_findIn_6 : decode cX9_findIn 6 = .ok (.aload_n 3, 1) := by decide +kernel
theorem dX9_findIn_7 : decode cX9_findIn 7 = .ok (.ifnull 15, 3) := by decide +kernel
theorem dX9_findIn_10 : decode cX9_findIn 10 = .ok (.aload_n 3, 1) := by decide +kernel
theorem dX9_findIn_11 : decode cX9_findIn 11 = .ok (.getfield 72, 3) := by decide +kernel
theorem dX9_findIn_14 : decode cX9_findIn 14 = .ok (.iload_n 1, 1) := by decide +kernel
theorem dX9_findIn_15 : decode cX9_findIn 15 = .ok (.if_icmp .ne 7, 3) := by decide +kernel
theorem dX9_findIn_18 : decode cX9_findIn 18 = .ok (.aload_n 3, 1) := by decide +kernel
theorem dX9_findIn_19 : decode cX9_findIn 19 = .ok (.goto 4, 3) := by decide +kernel
theorem dX9_findIn_22 : decode cX9_findIn 22 = .ok (.aconst_null, 1) := by decide +kernel
theorem dX9_findIn_23 : decode cX9_findIn 23 = .ok (.areturn, 1) := by decide +kernel
theorem dX9_make_0 : decode cX9_make 0 = .ok (.iload_n 1, 1) := by decide +kernel
theorem dX9_make_1 : decode cX9_make 1 = .ok (.tableswitch 162 1 7 #[43, 60, 77, 94, 111, 128, 145], 43) := by decide +kernel
theorem dX9_make_44 : decode cX9_make 44 = .ok (.new 114, 3) := by decide +kernel
theorem dX9_make_47 : decode cX9_make 47 = .ok (.dup, 1) := by decide +kernel
theorem dX9_make_48 : decode cX9_make 48 = .ok (.aload_n 0, 1) := by decide +kernel
theorem dX9_make_49 : decode cX9_make 49 = .ok (.getfield 18, 3) := by decide +kernel
theorem dX9_make_52 : decode cX9_make 52 = .ok (.iload_n 1, 1) := by decide +kernel
theorem dX9_make_53 : decode cX9_make 53 = .ok (.iload_n 2, 1) := by decide +kernel
theorem dX9_make_54 : decode cX9_make 54 = .ok (.iload_n 3, 1) := by decide +kernel
theorem dX9_make_55 : decode cX9_make 55 = .ok (.iload 4, 2) := by decide +kernel
theorem dX9_make_57 : decode cX9_make 57 = .ok (.invokespecial 116, 3) := by decide +kernel
theorem dX9_make_60 : decode cX9_make 60 = .ok (.areturn, 1) := by decide +kernel
theorem dX9_make_61 : decode cX9_make 61 = .ok (.new 119, 3) := by decide +kernel
theorem dX9_make_64 : decode cX9_make 64 = .ok (.dup, 1) := by decide +kernel
theorem dX9_make_65 : decode cX9_make 65 = .ok (.aload_n 0, 1) := by decide +kernel
theorem dX9_make_66 : decode cX9_make 66 = .ok (.getfield 18, 3) := by decide +kernel
theorem dX9_make_69 : decode cX9_make 69 = .ok (.iload_n 1, 1) := by decide +kernel
theorem dX9_make_70 : decode cX9_make 70 = .ok (.iload_n 2, 1) := by decide +kernel
theorem dX9_make_71 : decode cX9_make 71 = .ok (.iload_n 3, 1) := by decide +kernel
theorem dX9_make_72 : decode cX9_make 72 = .ok (.iload 4, 2) := by decide +kernel
theorem dX9_make_74 : decode cX9_make 74 = .ok (.invokespecial 121, 3) := by decide +kernel
theorem dX9_make_77 : decode cX9_make 77 = .ok (.areturn, 1) := by decide +kernel
theorem dX9_make_78 : decode cX9_make 78 = .ok (.new 122, 3) := by decide +kernel
theorem dX9_make_81 : decode cX9_make 81 = .ok (.dup, 1) := by decide +kernel
theorem dX9_make_82 : decode cX9_make 82 = .ok (.aload_n 0, 1) := by decide +kernel
theorem dX9_make_83 : decode cX9_make 83 = .ok (.getfield 18, 3) := by decide +kernel
theorem dX9_make_86 : decode cX9_make 86 = .ok (.iload_n 1, 1) := by decide +kernel
theorem dX9_make_87 : decode cX9_make 87 = .ok (.iload_n 2, 1) := by decide +kernel
theorem dX9_make_88 : decode cX9_make 88 = .ok (.iload_n 3, 1) := by decide +kernel
theorem dX9_make_89 : decode cX9_make 89 = .ok (.iload 4, 2) := by decide +kernel
theorem dX9_make_91 : decode cX9_make 91 = .ok (.invokespecial 124, 3) := by decide +kernel
theorem dX9_make_94 : decode cX9_make 94 = .ok (.areturn, 1) := by decide +kernel
theorem dX9_make_95 : decode cX9_make 95 = .ok (.new 125, 3) := by decide +kernel
theorem dX9_make_98 : decode cX9_make 98 = .ok (.dup, 1) := by decide +kernel
theorem dX9_make_99 : decode cX9_make 99 = .ok (.aload_n 0, 1) := by decide +kernel
theorem dX9_make_100 : decode cX9_make 100 = .ok (.getfield 18, 3) := by decide +kernel
theorem dX9_make_103 : decode cX9_make 103 = .ok (.iload_n 1, 1) := by decide +kernel
theorem dX9_make_104 : decode cX9_make 104 = .ok (.iload_n 2, 1) := by decide +kernel
theorem dX9_make_105 : decode cX9_make 105 = .ok (.iload_n 3, 1) := by decide +kernel
theorem dX9_make_106 : decode cX9_make 106 = .ok (.iload 4, 2) := by decide +kernel
theorem dX9_make_108 : decode cX9_make 108 = .ok (.invokespecial 127, 3) := by decide +kernel
theorem dX9_make_111 : decode cX9_make 111 = .ok (.areturn, 1) := by decide +kernel
theorem dX9_make_112 : decode cX9_make 112 = .ok (.new 128, 3) := by decide +kernel
theorem dX9_make_115 : decode cX9_make 115 = .ok (.dup, 1) := by decide +kernel
theorem dX9_make_116 : decode cX9_make 116 = .ok (.aload_n 0, 1) := by decide +kernel
theorem dX9_make_117 : decode cX9_make 117 = .ok (.getfield 18, 3) := by decide +kernel
theorem dX9_make_120 : decode cX9_make 120 = .ok (.iload_n 1, 1) := by decide +kernel
theorem dX9_make_121 : decode cX9_make 121 = .ok (.iload_n 2, 1) := by decide +kernel
theorem dX9_make_122 : decode cX9_make 122 = .ok (.iload_n 3, 1) := by decide +kernel
theorem dX9_make_123 : decode cX9_make 123 = .ok (.iload 4, 2) := by decide +kernel
theorem dX9_make_125 : decode cX9_make 125 = .ok (.invokespecial 130, 3) := by decide +kernel
theorem dX9_make_128 : decode cX9_make 128 = .ok (.areturn, 1) := by decide +kernel
theorem dX9_make_129 : decode cX9_make 129 = .ok (.new 131, 3) := by decide +kernel
theorem dX9_make_132 : decode cX9_make 132 = .ok (.dup, 1) := by decide +kernel
theorem dX9_make_133 : decode cX9_make 133 = .ok (.aload_n 0, 1) := by decide +kernel
theorem dX9_make_134 : decode cX9_make 134 = .ok (.getfield 18, 3) := by decide +kernel
theorem dX9_make_137 : decode cX9_make 137 = .ok (.iload_n 1, 1) := by decide +kernel
theorem dX9_make_138 : decode cX9_make 138 = .ok (.iload_n 2, 1) := by decide +kernel
theorem dX9_make_139 : decode cX9_make 139 = .ok (.iload_n 3, 1) := by decide +kernel
theorem dX9_make_140 : decode cX9_make 140 = .ok (.iload 4, 2) := by decide +kernel
theorem dX9_make_142 : decode cX9_make 142 = .ok (.invokespecial 133, 3) := by decide +kernel
theorem dX9_make_145 : decode cX9_make 145 = .ok (.areturn, 1) := by decide +kernel
theorem dX9_make_146 : decode cX9_make 146 = .ok (.new 134, 3) := by decide +kernel
theorem dX9_make_149 : decode cX9_make 149 = .ok (.dup, 1) := by decide +kernel
theorem dX9_make_150 : decode cX9_make 150 = .ok (.aload_n 0, 1) := by decide +kernel
theorem dX9_make_151 : decode cX9_make 151 = .ok (.getfield 18, 3) := by decide +kernel
theorem dX9_make_154 : decode cX9_make 154 = .ok (.iload_n 1, 1) := by decide +kernel
theorem dX9_make_155 : decode cX9_make 155 = .ok (.iload_n 2, 1) := by decide +kernel
theorem dX9_make_156 : decode cX9_make 156 = .ok (.iload_n 3, 1) := by decide +kernel
theorem dX9_make_157 : decode cX9_make 157 = .ok (.iload 4, 2) := by decide +kernel
theorem dX9_make_159 : decode cX9_make 159 = .ok (.invokespecial 136, 3) := by decide +kernel
theorem dX9_make_162 : decode cX9_make 162 = .ok (.areturn, 1) := by decide +kernel
theorem dX9_make_163 : decode cX9_make 163 = .ok (.new 9, 3) := by decide +kernel
theorem dX9_make_166 : decode cX9_make 166 = .ok (.dup, 1) := by decide +kernel
theorem dX9_make_167 : decode cX9_make 167 = .ok (.aload_n 0, 1) := by decide +kernel
theorem dX9_make_168 : decode cX9_make 168 = .ok (.getfield 18, 3) := by decide +kernel
theorem dX9_make_171 : decode cX9_make 171 = .ok (.iload_n 1, 1) := by decide +kernel
theorem dX9_make_172 : decode cX9_make 172 = .ok (.iload_n 2, 1) := by decide +kernel
theorem dX9_make_173 : decode cX9_make 173 = .ok (.iload_n 3, 1) := by decide +kernel
theorem dX9_make_174 : decode cX9_make 174 = .ok (.iload 4, 2) := by decide +kernel
theorem dX9_make_176 : decode cX9_make 176 = .ok (.invokespecial 137, 3) := by decide +kernel
theorem dX9_make_179 : decode cX9_make 179 = .ok (.areturn, 1) := by decide +kernel
theorem dX9_isKind_0 : decode cX9_isKind 0 = .ok (.iload_n 0, 1) := by decide +kernel
theorem dX9_isKind_1 : decode cX9_isKind 1 = .ok (.ifCond .lt 13, 3) := by decide +kernel
theorem dX9_isKind_4 : decode cX9_isKind 4 = .ok (.iload_n 0, 1) := by decide +kernel
theorem dX9_isKind_5 : decode cX9_isKind 5 = .ok (.bipush 7, 2) := by decide +kernel
theorem dX9_isKind_7 : decode cX9_isKind 7 = .ok (.if_icmp .gt 7, 3) := by decide +kernel
theorem dX9_isKind_10 : decode cX9_isKind 10 = .ok (.iconst 1, 1) := by decide +kernel
theorem dX9_isKind_11 : decode cX9_isKind 11 = .ok (.goto 4, 3) := by decide +kernel
theorem dX9_isKind_14 : decode cX9_isKind 14 = .ok (.iconst 0, 1) := by decide +kernel
theorem dX9_isKind_15 : decode cX9_isKind 15 = .ok (.ireturn, 1) := by decide +kernel
theorem dX9_isZone_0 : decode cX9_isZone 0 = .ok (.iload_n 0, 1) := by decide +kernel
theorem dX9_isZone_1 : decode cX9_isZone 1 = .ok (.ifCond .lt 12, 3) := by decide +kernel
theorem dX9_isZone_4 : decode cX9_isZone 4 = .ok (.iload_n 0, 1) := by decide +kernel
theorem dX9_isZone_5 : decode cX9_isZone 5 = .ok (.iconst 5, 1) := by decide +kernel
theorem dX9_isZone_6 : decode cX9_isZone 6 = .ok (.if_icmp .gt 7, 3) := by decide +kernel
theorem dX9_isZone_9 : decode cX9_isZone 9 = .ok (.iconst 1, 1) := by decide +kernel
theorem dX9_isZone_10 : decode cX9_isZone 10 = .ok (.goto 4, 3) := by decide +kernel
theorem dX9_isZone_13 : decode cX9_isZone 13 = .ok (.iconst 0, 1) := by decide +kernel
theorem dX9_isZone_14 : decode cX9_isZone 14 = .ok (.ireturn, 1) := by decide +kernel
theorem dX9_isNear_0 : decode cX9_isNear 0 = .ok (.iload_n 0, 1) := by decide +kernel
theorem dX9_isNear_1 : decode cX9_isNear 1 = .ok (.sipush (-10000), 3) := by decide +kernel
theorem dX9_isNear_4 : decode cX9_isNear 4 = .ok (.if_icmp .lt 14, 3) := by decide +kernel
theorem dX9_isNear_7 : decode cX9_isNear 7 = .ok (.iload_n 0, 1) := by decide +kernel
theorem dX9_isNear_8 : decode cX9_isNear 8 = .ok (.sipush 10000, 3) := by decide +kernel
theorem dX9_isNear_11 : decode cX9_isNear 11 = .ok (.if_icmp .gt 7, 3) := by decide +kernel
theorem dX9_isNear_14 : decode cX9_isNear 14 = .ok (.iconst 1, 1) := by decide +kernel
theorem dX9_isNear_15 : decode cX9_isNear 15 = .ok (.goto 4, 3) := by decide +kernel
theorem dX9_isNear_18 : decode cX9_isNear 18 = .ok (.iconst 0, 1) := by decide +kernel
theorem dX9_isNear_19 : decode cX9_isNear 19 = .ok (.ireturn, 1) := by decide +kernel
theorem dX9_isCharge_0 : decode cX9_isCharge 0 = .ok (.iload_n 0, 1) := by decide +kernel
theorem dX9_isCharge_1 : decode cX9_isCharge 1 = .ok (.ifCond .lt 13, 3) := by decide +kernel
theorem dX9_isCharge_4 : decode cX9_isCharge 4 = .ok (.iload_n 0, 1) := by decide +kernel
theorem dX9_isCharge_5 : decode cX9_isCharge 5 = .ok (.bipush 100, 2) := by decide +kernel
theorem dX9_isCharge_7 : decode cX9_isCharge 7 = .ok (.if_icmp .gt 7, 3) := by decide +kernel
theorem dX9_isCharge_10 : decode cX9_isCharge 10 = .ok (.iconst 1, 1) := by decide +kernel
theorem dX9_isCharge_11 : decode cX9_isCharge 11 = .ok (.goto 4, 3) := by decide +kernel
theorem dX9_isCharge_14 : decode cX9_isCharge 14 = .ok (.iconst 0, 1) := by decide +kernel
theorem dX9_isCharge_15 : decode cX9_isCharge 15 = .ok (.ireturn, 1) := by decide +kernel
theorem dJ9_abs_0f7a4_0 : decode cJ9_abs_0f7a4 0 = .ok (.iload_n 0, 1) := by decide +kernel
theorem dJ9_abs_0f7a4_1 : decode cJ9_abs_0f7a4 1 = .ok (.ifCond .ge 8, 3) := by decide +kernel
theorem dJ9_abs_0f7a4_4 : decode cJ9_abs_0f7a4 4 = .ok (.iload_n 0, 1) := by decide +kernel
theorem dJ9_abs_0f7a4_5 : decode cJ9_abs_0f7a4 5 = .ok (.ineg, 1) := by decide +kernel
theorem dJ9_abs_0f7a4_6 : decode cJ9_abs_0f7a4 6 = .ok (.goto 4, 3) := by decide +kernel
theorem dJ9_abs_0f7a4_9 : decode cJ9_abs_0f7a4 9 = .ok (.iload_n 0, 1) := by decide +kernel
theorem dJ9_abs_0f7a4_10 : decode cJ9_abs_0f7a4 10 = .ok (.ireturn, 1) := by decide +kernel

/-! ROWS OF THE CODE, places of the cells: printed by wip/whole/yl.py; the kernel looks each up -/
theorem c0_0 : gP 0 0 = some (.getstatic 0, 3, 38, 0) := by decide +kernel
theorem c0_3 : gP 0 3 = some (.ifCond .eq 13, 3, 0, 0) := by decide +kernel
theorem c0_6 : gP 0 6 = some (.aload 0, 1, 0, 0) := by decide +kernel
theorem c0_7 : gP 0 7 = some (.sastore, 3, 15, 0) := by decide +kernel
theorem c0_10 : gP 0 10 = some (.goto 14, 3, 0, 0) := by decide +kernel
theorem c0_13 : gP 0 13 = some (.iconst 1, 1, 0, 0) := by decide +kernel
theorem c0_14 : gP 0 14 = some (.ireturn, 1, 2, 0) := by decide +kernel
theorem c1_0 : gP 1 0 = some (.aload 0, 1, 0, 0) := by decide +kernel
theorem c1_1 : gP 1 1 = some (.saload, 3, 9, 0) := by decide +kernel
theorem c1_4 : gP 1 4 = some (.arraylength, 1, 0, 0) := by decide +kernel
theorem c1_5 : gP 1 5 = some (.aload 0, 1, 0, 0) := by decide +kernel
theorem c1_6 : gP 1 6 = some (.invokeinterface 0 335, 3, 1, 1) := by decide +kernel
theorem c1_9 : gP 1 9 = some (.ishr, 1, 0, 0) := by decide +kernel
theorem c1_10 : gP 1 10 = some (.ireturn, 1, 0, 0) := by decide +kernel
theorem c2_0 : gP 2 0 = some (.getstatic 0, 3, 38, 0) := by decide +kernel
theorem c2_3 : gP 2 3 = some (.ifCond .eq 17, 3, 0, 0) := by decide +kernel
theorem c2_6 : gP 2 6 = some (.aload 0, 1, 0, 0) := by decide +kernel
theorem c2_7 : gP 2 7 = some (.sastore, 3, 15, 0) := by decide +kernel
theorem c2_10 : gP 2 10 = some (.ifCond .ne 17, 3, 0, 0) := by decide +kernel
theorem c2_13 : gP 2 13 = some (.iconst 1, 1, 0, 0) := by decide +kernel
theorem c2_14 : gP 2 14 = some (.goto 18, 3, 0, 0) := by decide +kernel
theorem c2_17 : gP 2 17 = some (.iconst 0, 1, 0, 0) := by decide +kernel
theorem c2_18 : gP 2 18 = some (.ireturn, 1, 1, 0) := by decide +kernel
theorem c3_0 : gP 3 0 = some (.iload 0, 1, 0, 0) := by decide +kernel
theorem c3_1 : gP 3 1 = some (.ifCond .lt 9, 3, 0, 0) := by decide +kernel
theorem c3_4 : gP 3 4 = some (.iload 0, 1, 0, 0) := by decide +kernel
theorem c3_5 : gP 3 5 = some (.iload 1, 1, 0, 0) := by decide +kernel
theorem c3_6 : gP 3 6 = some (.if_icmp .lt 16, 3, 0, 0) := by decide +kernel
theorem c3_9 : gP 3 9 = some (.aload 2, 1, 0, 0) := by decide +kernel
theorem c3_10 : gP 3 10 = some (.iload 0, 1, 0, 0) := by decide +kernel
theorem c3_11 : gP 3 11 = some (.iload 1, 1, 0, 0) := by decide +kernel
theorem c3_16 : gP 3 16 = some (.iload 0, 1, 0, 0) := by decide +kernel
theorem c3_17 : gP 3 17 = some (.ireturn, 1, 0, 0) := by decide +kernel
theorem c4_0 : gP 4 0 = some (.iload 0, 1, 0, 0) := by decide +kernel
theorem c4_1 : gP 4 1 = some (.iload 1, 1, 0, 0) := by decide +kernel
theorem c4_2 : gP 4 2 = some (.getstatic 1, 3, 1053, 0) := by decide +kernel
theorem c4_5 : gP 4 5 = some (.invokeinterface 3 1059, 3, 3, 0) := by decide +kernel
theorem c4_8 : gP 4 8 = some (.pop, 1, 0, 0) := by decide +kernel
theorem c4_9 : gP 4 9 = some (.return_, 1, 0, 0) := by decide +kernel
theorem c5_0 : gP 5 0 = some (.iload 1, 1, 0, 0) := by decide +kernel
theorem c5_1 : gP 5 1 = some (.aload 0, 1, 0, 0) := by decide +kernel
theorem c5_2 : gP 5 2 = some (.arraylength, 1, 0, 0) := by decide +kernel
theorem c5_3 : gP 5 3 = some (.invokeinterface 4 9, 3, 2, 0) := by decide +kernel
theorem c5_6 : gP 5 6 = some (.aload 0, 1, 0, 0) := by decide +kernel
theorem c5_7 : gP 5 7 = some (.iload 1, 1, 0, 0) := by decide +kernel
theorem c5_8 : gP 5 8 = some (.baload, 1, 0, 0) := by decide +kernel
theorem c5_9 : gP 5 9 = some (.iconst 255, 3, 0, 0) := by decide +kernel
theorem c5_12 : gP 5 12 = some (.iand, 1, 0, 0) := by decide +kernel
theorem c5_13 : gP 5 13 = some (.i2c, 1, 0, 0) := by decide +kernel
theorem c5_14 : gP 5 14 = some (.ireturn, 1, 3, 0) := by decide +kernel
theorem c6_0 : gP 6 0 = some (.aload 0, 1, 0, 0) := by decide +kernel
theorem c6_1 : gP 6 1 = some (.invokeinterface 2 492, 3, 1, 1) := by decide +kernel
theorem c6_4 : gP 6 4 = some (.ifCond .eq 16, 3, 0, 0) := by decide +kernel
theorem c6_7 : gP 6 7 = some (.aload 0, 1, 0, 0) := by decide +kernel
theorem c6_8 : gP 6 8 = some (.saload, 3, 9, 0) := by decide +kernel
theorem c6_11 : gP 6 11 = some (.iload 1, 1, 0, 0) := by decide +kernel
theorem c6_12 : gP 6 12 = some (.invokeinterface 5 495, 3, 2, 0) := by decide +kernel
theorem c6_15 : gP 6 15 = some (.ireturn, 1, 3, 0) := by decide +kernel
theorem c6_16 : gP 6 16 = some (.aload 0, 1, 0, 0) := by decide +kernel
theorem c6_17 : gP 6 17 = some (.saload, 3, 9, 0) := by decide +kernel
theorem c6_20 : gP 6 20 = some (.iload 1, 1, 0, 0) := by decide +kernel
theorem c6_24 : gP 6 24 = some (.ireturn, 1, 3, 0) := by decide +kernel
theorem c7_0 : gP 7 0 = some (.iload 0, 1, 0, 0) := by decide +kernel
theorem c7_1 : gP 7 1 = some (.iconst 32, 2, 0, 0) := by decide +kernel
theorem c7_3 : gP 7 3 = some (.imul, 1, 0, 0) := by decide +kernel
theorem c7_4 : gP 7 4 = some (.iload 1, 1, 0, 0) := by decide +kernel
theorem c7_5 : gP 7 5 = some (.iconst 97, 2, 0, 0) := by decide +kernel
theorem c7_7 : gP 7 7 = some (.isub, 1, 0, 0) := by decide +kernel
theorem c7_8 : gP 7 8 = some (.iconst 1, 1, 0, 0) := by decide +kernel
theorem c7_9 : gP 7 9 = some (.iadd, 1, 0, 0) := by decide +kernel
theorem c7_10 : gP 7 10 = some (.iadd, 1, 0, 0) := by decide +kernel
theorem c7_11 : gP 7 11 = some (.ireturn, 1, 0, 0) := by decide +kernel
theorem c8_0 : gP 8 0 = some (.iconst 0, 1, 0, 0) := by decide +kernel
theorem c8_1 : gP 8 1 = some (.istore 1, 1, 0, 0) := by decide +kernel
theorem c8_2 : gP 8 2 = some (.iconst 0, 1, 0, 0) := by decide +kernel
theorem c8_3 : gP 8 3 = some (.istore 2, 1, 0, 0) := by decide +kernel
theorem c8_4 : gP 8 4 = some (.iload 2, 1, 0, 0) := by decide +kernel
theorem c8_5 : gP 8 5 = some (.aload 0, 1, 0, 0) := by decide +kernel
theorem c8_6 : gP 8 6 = some (.invokeinterface 1 48, 3, 1, 1) := by decide +kernel
theorem c8_9 : gP 8 9 = some (.if_icmp .ge 28, 3, 0, 0) := by decide +kernel
theorem c8_12 : gP 8 12 = some (.iload 1, 1, 0, 0) := by decide +kernel
theorem c8_13 : gP 8 13 = some (.aload 0, 1, 0, 0) := by decide +kernel
theorem c8_14 : gP 8 14 = some (.iload 2, 1, 0, 0) := by decide +kernel
theorem c8_15 : gP 8 15 = some (.invokeinterface 6 54, 3, 2, 1) := by decide +kernel
theorem c8_18 : gP 8 18 = some (.invokeinterface 7 58, 3, 2, 0) := by decide +kernel
theorem c8_21 : gP 8 21 = some (.istore 1, 1, 0, 0) := by decide +kernel
theorem c8_22 : gP 8 22 = some (.iinc 2 1, 3, 0, 0) := by decide +kernel
theorem c8_25 : gP 8 25 = some (.goto 4, 3, 0, 0) := by decide +kernel
theorem c8_28 : gP 8 28 = some (.iload 1, 1, 0, 0) := by decide +kernel
theorem c8_29 : gP 8 29 = some (.ireturn, 1, 0, 0) := by decide +kernel
theorem c26_0 : gP 26 0 = some (.aload 0, 1, 0, 0) := by decide +kernel
theorem c26_1 : gP 26 1 = some (.getfield 57, 3, 8, 123) := by decide +kernel
theorem c26_4 : gP 26 4 = some (.ireturn, 1, 0, 0) := by decide +kernel
theorem c27_0 : gP 27 0 = some (.iload 1, 1, 0, 0) := by decide +kernel
theorem c27_1 : gP 27 1 = some (.ifCond .lt 12, 3, 0, 0) := by decide +kernel
theorem c27_4 : gP 27 4 = some (.iload 1, 1, 0, 0) := by decide +kernel
theorem c27_5 : gP 27 5 = some (.aload 0, 1, 0, 0) := by decide +kernel
theorem c27_6 : gP 27 6 = some (.getfield 6, 3, 7, 55) := by decide +kernel
theorem c27_9 : gP 27 9 = some (.if_icmp .le 20, 3, 0, 0) := by decide +kernel
theorem c27_12 : gP 27 12 = some (.athrow, 54, 9, 52) := by decide +kernel
theorem c27_20 : gP 27 20 = some (.aload 0, 1, 0, 0) := by decide +kernel
theorem c27_21 : gP 27 21 = some (.dup, 1, 0, 0) := by decide +kernel
theorem c27_22 : gP 27 22 = some (.getfield 6, 3, 7, 55) := by decide +kernel
theorem c27_25 : gP 27 25 = some (.iload 1, 1, 0, 0) := by decide +kernel
theorem c27_26 : gP 27 26 = some (.isub, 1, 0, 0) := by decide +kernel
theorem c27_27 : gP 27 27 = some (.putfield 6, 3, 7, 0) := by decide +kernel
theorem c27_30 : gP 27 30 = some (.aload 0, 1, 0, 0) := by decide +kernel
theorem c27_31 : gP 27 31 = some (.getfield 6, 3, 7, 55) := by decide +kernel
theorem c27_34 : gP 27 34 = some (.ireturn, 1, 0, 0) := by decide +kernel
theorem c28_0 : gP 28 0 = some (.aload 2, 1, 0, 0) := by decide +kernel
theorem c28_1 : gP 28 1 = some (.iconst 0, 1, 0, 0) := by decide +kernel
theorem c28_2 : gP 28 2 = some (.aload 0, 1, 0, 0) := by decide +kernel
theorem c28_3 : gP 28 3 = some (.iload 1, 1, 0, 0) := by decide +kernel
theorem c28_4 : gP 28 4 = some (.invokeinterface 27 17, 3, 2, 1) := by decide +kernel
theorem c28_7 : gP 28 7 = some (.i2l, 1, 0, 0) := by decide +kernel
theorem c28_8 : gP 28 8 = some (.lastore, 1, 0, 0) := by decide +kernel
theorem c28_9 : gP 28 9 = some (.goto 15, 3, 0, 0) := by decide +kernel
theorem c28_12 : gP 28 12 = some (.astore 3, 1, 0, 0) := by decide +kernel
theorem c28_13 : gP 28 13 = some (.iconst 1, 1, 0, 0) := by decide +kernel
theorem c28_14 : gP 28 14 = some (.ireturn, 1, 0, 0) := by decide +kernel
theorem c28_15 : gP 28 15 = some (.iconst 0, 1, 0, 0) := by decide +kernel
theorem c28_16 : gP 28 16 = some (.ireturn, 1, 0, 0) := by decide +kernel
theorem c29_0 : gP 29 0 = some (.aload 0, 1, 0, 0) := by decide +kernel
theorem c29_1 : gP 29 1 = some (.iload 1, 1, 0, 0) := by decide +kernel
theorem c29_2 : gP 29 2 = some (.iconst 0, 1, 0, 0) := by decide +kernel
theorem c29_3 : gP 29 3 = some (.aload 0, 1, 0, 0) := by decide +kernel
theorem c29_4 : gP 29 4 = some (.getfield 1, 3, 8, 138) := by decide +kernel
theorem c29_7 : gP 29 7 = some (.invokeinterface 22 126, 3, 3, 0) := by decide +kernel
theorem c29_10 : gP 29 10 = some (.iconst 1, 1, 0, 0) := by decide +kernel
theorem c29_11 : gP 29 11 = some (.invokeinterface 23 130, 3, 3, 1) := by decide +kernel
theorem c29_14 : gP 29 14 = some (.ifCond .ne 19, 3, 0, 0) := by decide +kernel
theorem c29_17 : gP 29 17 = some (.iconst 0, 1, 0, 0) := by decide +kernel
theorem c29_18 : gP 29 18 = some (.ireturn, 1, 0, 0) := by decide +kernel
theorem c29_19 : gP 29 19 = some (.aload 0, 1, 0, 0) := by decide +kernel
theorem c29_20 : gP 29 20 = some (.dup, 1, 0, 0) := by decide +kernel
theorem c29_21 : gP 29 21 = some (.getfield 1, 3, 8, 138) := by decide +kernel
theorem c29_24 : gP 29 24 = some (.iload 1, 1, 0, 0) := by decide +kernel
theorem c29_25 : gP 29 25 = some (.isub, 1, 0, 0) := by decide +kernel
theorem c29_26 : gP 29 26 = some (.putfield 1, 3, 8, 0) := by decide +kernel
theorem c29_29 : gP 29 29 = some (.aload 0, 1, 0, 0) := by decide +kernel
theorem c29_30 : gP 29 30 = some (.getfield 1, 3, 8, 138) := by decide +kernel
theorem c29_33 : gP 29 33 = some (.ireturn, 1, 0, 0) := by decide +kernel
theorem c30_0 : gP 30 0 = some (.aload 0, 1, 0, 0) := by decide +kernel
theorem c30_1 : gP 30 1 = some (.iconst 0, 1, 0, 0) := by decide +kernel
theorem c30_2 : gP 30 2 = some (.putfield 9, 3, 6, 0) := by decide +kernel
theorem c30_5 : gP 30 5 = some (.aload 0, 1, 0, 0) := by decide +kernel
theorem c30_6 : gP 30 6 = some (.iconst 0, 1, 0, 0) := by decide +kernel
theorem c30_7 : gP 30 7 = some (.putfield 10, 3, 6, 0) := by decide +kernel
theorem c30_10 : gP 30 10 = some (.aload 0, 1, 0, 0) := by decide +kernel
theorem c30_11 : gP 30 11 = some (.iconst 0, 1, 0, 0) := by decide +kernel
theorem c30_12 : gP 30 12 = some (.putfield 11, 3, 6, 0) := by decide +kernel
theorem c30_15 : gP 30 15 = some (.aload 0, 1, 0, 0) := by decide +kernel
theorem c30_16 : gP 30 16 = some (.iconst 0, 1, 0, 0) := by decide +kernel
theorem c30_17 : gP 30 17 = some (.putfield 12, 3, 6, 0) := by decide +kernel
theorem c30_20 : gP 30 20 = some (.aload 0, 1, 0, 0) := by decide +kernel
theorem c30_21 : gP 30 21 = some (.iconst 0, 1, 0, 0) := by decide +kernel
theorem c30_22 : gP 30 22 = some (.putfield 13, 3, 6, 0) := by decide +kernel
theorem c30_25 : gP 30 25 = some (.aload 0, 1, 0, 0) := by decide +kernel
theorem c30_26 : gP 30 26 = some (.iconst 1, 1, 0, 0) := by decide +kernel
theorem c30_27 : gP 30 27 = some (.putfield 14, 3, 6, 0) := by decide +kernel
theorem c30_30 : gP 30 30 = some (.aload 0, 1, 0, 0) := by decide +kernel
theorem c30_31 : gP 30 31 = some (.iconst 0, 1, 0, 0) := by decide +kernel
theorem c30_32 : gP 30 32 = some (.putfield 15, 3, 6, 0) := by decide +kernel
theorem c30_35 : gP 30 35 = some (.aload 0, 1, 0, 0) := by decide +kernel
theorem c30_36 : gP 30 36 = some (.iconst 0, 1, 0, 0) := by decide +kernel
theorem c30_37 : gP 30 37 = some (.putfield 16, 3, 6, 0) := by decide +kernel
theorem c30_40 : gP 30 40 = some (.return_, 1, 0, 0) := by decide +kernel
theorem c31_0 : gP 31 0 = some (.iload 0, 1, 0, 0) := by decide +kernel
theorem c31_1 : gP 31 1 = some (.iconst 97, 2, 0, 0) := by decide +kernel
theorem c31_3 : gP 31 3 = some (.if_icmp .lt 16, 3, 0, 0) := by decide +kernel
theorem c31_6 : gP 31 6 = some (.iload 0, 1, 0, 0) := by decide +kernel
theorem c31_7 : gP 31 7 = some (.iconst 122, 2, 0, 0) := by decide +kernel
theorem c31_9 : gP 31 9 = some (.if_icmp .gt 16, 3, 0, 0) := by decide +kernel
theorem c31_12 : gP 31 12 = some (.iconst 1, 1, 0, 0) := by decide +kernel
theorem c31_13 : gP 31 13 = some (.goto 17, 3, 0, 0) := by decide +kernel
theorem c31_16 : gP 31 16 = some (.iconst 0, 1, 0, 0) := by decide +kernel
theorem c31_17 : gP 31 17 = some (.ireturn, 1, 1, 0) := by decide +kernel
theorem c32_0 : gP 32 0 = some (.aload 0, 1, 0, 0) := by decide +kernel
theorem c32_1 : gP 32 1 = some (.getfield 1, 3, 0, 39) := by decide +kernel
theorem c32_4 : gP 32 4 = some (.aload 0, 1, 0, 0) := by decide +kernel
theorem c32_5 : gP 32 5 = some (.getfield 4, 3, 0, 62) := by decide +kernel
theorem c32_8 : gP 32 8 = some (.iload 1, 1, 0, 0) := by decide +kernel
theorem c32_9 : gP 32 9 = some (.iastore, 1, 0, 0) := by decide +kernel
theorem c32_10 : gP 32 10 = some (.aload 0, 1, 0, 0) := by decide +kernel
theorem c32_11 : gP 32 11 = some (.getfield 2, 3, 0, 42) := by decide +kernel
theorem c32_14 : gP 32 14 = some (.aload 0, 1, 0, 0) := by decide +kernel
theorem c32_15 : gP 32 15 = some (.getfield 4, 3, 0, 62) := by decide +kernel
theorem c32_18 : gP 32 18 = some (.iload 2, 1, 0, 0) := by decide +kernel
theorem c32_19 : gP 32 19 = some (.iastore, 1, 0, 0) := by decide +kernel
theorem c32_20 : gP 32 20 = some (.aload 0, 1, 0, 0) := by decide +kernel
theorem c32_21 : gP 32 21 = some (.getfield 3, 3, 0, 45) := by decide +kernel
theorem c32_24 : gP 32 24 = some (.aload 0, 1, 0, 0) := by decide +kernel
theorem c32_25 : gP 32 25 = some (.getfield 4, 3, 0, 62) := by decide +kernel
theorem c32_28 : gP 32 28 = some (.iconst 0, 1, 0, 0) := by decide +kernel
theorem c32_29 : gP 32 29 = some (.iastore, 1, 0, 0) := by decide +kernel
theorem c32_30 : gP 32 30 = some (.aload 0, 1, 0, 0) := by decide +kernel
theorem c32_31 : gP 32 31 = some (.dup, 1, 0, 0) := by decide +kernel
theorem c32_32 : gP 32 32 = some (.getfield 4, 3, 0, 62) := by decide +kernel
theorem c32_35 : gP 32 35 = some (.iconst 1, 1, 0, 0) := by decide +kernel
theorem c32_36 : gP 32 36 = some (.iadd, 1, 0, 0) := by decide +kernel
theorem c32_37 : gP 32 37 = some (.putfield 4, 3, 0, 0) := by decide +kernel
theorem c32_40 : gP 32 40 = some (.return_, 1, 0, 0) := by decide +kernel
theorem c33_0 : gP 33 0 = some (.iload 3, 1, 0, 0) := by decide +kernel
theorem c33_1 : gP 33 1 = some (.iconst 1, 1, 0, 0) := by decide +kernel
theorem c33_2 : gP 33 2 = some (.if_icmp .ne 12, 3, 0, 0) := by decide +kernel
theorem c33_5 : gP 33 5 = some (.aload 0, 1, 0, 0) := by decide +kernel
theorem c33_6 : gP 33 6 = some (.iconst 11, 2, 0, 0) := by decide +kernel
theorem c33_8 : gP 33 8 = some (.iload 2, 1, 0, 0) := by decide +kernel
theorem c33_9 : gP 33 9 = some (.invokeinterface 32 77, 3, 3, 1) := by decide +kernel
theorem c33_12 : gP 33 12 = some (.aload 0, 1, 0, 0) := by decide +kernel
theorem c33_13 : gP 33 13 = some (.getfield 4, 3, 0, 62) := by decide +kernel
theorem c33_16 : gP 33 16 = some (.iconst 1, 1, 0, 0) := by decide +kernel
theorem c33_17 : gP 33 17 = some (.isub, 1, 0, 0) := by decide +kernel
theorem c33_18 : gP 33 18 = some (.istore 4, 2, 0, 0) := by decide +kernel
theorem c33_20 : gP 33 20 = some (.aload 0, 1, 0, 0) := by decide +kernel
theorem c33_21 : gP 33 21 = some (.getfield 3, 3, 0, 45) := by decide +kernel
theorem c33_24 : gP 33 24 = some (.iload 4, 2, 0, 0) := by decide +kernel
theorem c33_26 : gP 33 26 = some (.aload 0, 1, 0, 0) := by decide +kernel
theorem c33_27 : gP 33 27 = some (.getfield 3, 3, 0, 45) := by decide +kernel
theorem c33_30 : gP 33 30 = some (.iload 4, 2, 0, 0) := by decide +kernel
theorem c33_32 : gP 33 32 = some (.iaload, 1, 0, 0) := by decide +kernel
theorem c33_33 : gP 33 33 = some (.iload 1, 1, 0, 0) := by decide +kernel
theorem c33_34 : gP 33 34 = some (.invokeinterface 7 58, 3, 2, 0) := by decide +kernel
theorem c33_37 : gP 33 37 = some (.iastore, 1, 0, 0) := by decide +kernel
theorem c33_38 : gP 33 38 = some (.iload 3, 1, 0, 0) := by decide +kernel
theorem c33_39 : gP 33 39 = some (.iconst 6, 2, 0, 0) := by decide +kernel
theorem c33_41 : gP 33 41 = some (.if_icmp .le 53, 3, 0, 0) := by decide +kernel
theorem c33_44 : gP 33 44 = some (.aload 0, 1, 0, 0) := by decide +kernel
theorem c33_45 : gP 33 45 = some (.getfield 1, 3, 0, 39) := by decide +kernel
theorem c33_48 : gP 33 48 = some (.iload 4, 2, 0, 0) := by decide +kernel
theorem c33_50 : gP 33 50 = some (.iconst 12, 2, 0, 0) := by decide +kernel
theorem c33_52 : gP 33 52 = some (.iastore, 1, 0, 0) := by decide +kernel
theorem c33_53 : gP 33 53 = some (.return_, 1, 0, 0) := by decide +kernel
theorem c34_0 : gP 34 0 = some (.iload 0, 1, 0, 0) := by decide +kernel
theorem c34_1 : gP 34 1 = some (.iconst 123, 2, 0, 0) := by decide +kernel
theorem c34_3 : gP 34 3 = some (.if_icmp .eq 54, 3, 0, 0) := by decide +kernel
theorem c34_6 : gP 34 6 = some (.iload 0, 1, 0, 0) := by decide +kernel
theorem c34_7 : gP 34 7 = some (.iconst 125, 2, 0, 0) := by decide +kernel
theorem c34_9 : gP 34 9 = some (.if_icmp .eq 54, 3, 0, 0) := by decide +kernel
theorem c34_12 : gP 34 12 = some (.iload 0, 1, 0, 0) := by decide +kernel
theorem c34_13 : gP 34 13 = some (.iconst 40, 2, 0, 0) := by decide +kernel
theorem c34_15 : gP 34 15 = some (.if_icmp .eq 54, 3, 0, 0) := by decide +kernel
theorem c34_18 : gP 34 18 = some (.iload 0, 1, 0, 0) := by decide +kernel
theorem c34_19 : gP 34 19 = some (.iconst 41, 2, 0, 0) := by decide +kernel
theorem c34_21 : gP 34 21 = some (.if_icmp .eq 54, 3, 0, 0) := by decide +kernel
theorem c34_24 : gP 34 24 = some (.iload 0, 1, 0, 0) := by decide +kernel
theorem c34_25 : gP 34 25 = some (.iconst 61, 2, 0, 0) := by decide +kernel
theorem c34_27 : gP 34 27 = some (.if_icmp .eq 54, 3, 0, 0) := by decide +kernel
theorem c34_30 : gP 34 30 = some (.iload 0, 1, 0, 0) := by decide +kernel
theorem c34_31 : gP 34 31 = some (.iconst 46, 2, 0, 0) := by decide +kernel
theorem c34_33 : gP 34 33 = some (.if_icmp .eq 54, 3, 0, 0) := by decide +kernel
theorem c34_36 : gP 34 36 = some (.iload 0, 1, 0, 0) := by decide +kernel
theorem c34_37 : gP 34 37 = some (.iconst 44, 2, 0, 0) := by decide +kernel
theorem c34_39 : gP 34 39 = some (.if_icmp .eq 54, 3, 0, 0) := by decide +kernel
theorem c34_42 : gP 34 42 = some (.iload 0, 1, 0, 0) := by decide +kernel
theorem c34_43 : gP 34 43 = some (.iconst 59, 2, 0, 0) := by decide +kernel
theorem c34_45 : gP 34 45 = some (.if_icmp .eq 54, 3, 0, 0) := by decide +kernel
theorem c34_48 : gP 34 48 = some (.iload 0, 1, 0, 0) := by decide +kernel
theorem c34_49 : gP 34 49 = some (.iconst 58, 2, 0, 0) := by decide +kernel
theorem c34_51 : gP 34 51 = some (.if_icmp .ne 58, 3, 0, 0) := by decide +kernel
theorem c34_54 : gP 34 54 = some (.iconst 1, 1, 0, 0) := by decide +kernel
theorem c34_55 : gP 34 55 = some (.goto 59, 3, 0, 0) := by decide +kernel
theorem c34_58 : gP 34 58 = some (.iconst 0, 1, 0, 0) := by decide +kernel
theorem c34_59 : gP 34 59 = some (.ireturn, 1, 1, 0) := by decide +kernel
theorem c35_0 : gP 35 0 = some (.iconst 0, 1, 0, 0) := by decide +kernel
theorem c35_1 : gP 35 1 = some (.istore 1, 1, 0, 0) := by decide +kernel
theorem c35_2 : gP 35 2 = some (.iload 1, 1, 0, 0) := by decide +kernel
theorem c35_3 : gP 35 3 = some (.aload 0, 1, 0, 0) := by decide +kernel
theorem c35_4 : gP 35 4 = some (.getfield 4, 3, 0, 62) := by decide +kernel
theorem c35_7 : gP 35 7 = some (.if_icmp .ge 66, 3, 0, 0) := by decide +kernel
theorem c35_10 : gP 35 10 = some (.iconst 1, 1, 0, 0) := by decide +kernel
theorem c35_11 : gP 35 11 = some (.istore 2, 1, 0, 0) := by decide +kernel
theorem c35_12 : gP 35 12 = some (.iload 2, 1, 0, 0) := by decide +kernel
theorem c35_13 : gP 35 13 = some (.aload 0, 1, 0, 0) := by decide +kernel
theorem c35_14 : gP 35 14 = some (.getfield 0, 3, 0, 35) := by decide +kernel
theorem c35_17 : gP 35 17 = some (.arraylength, 1, 0, 0) := by decide +kernel
theorem c35_18 : gP 35 18 = some (.if_icmp .ge 60, 3, 0, 0) := by decide +kernel
theorem c35_21 : gP 35 21 = some (.aload 0, 1, 0, 0) := by decide +kernel
theorem c35_22 : gP 35 22 = some (.getfield 1, 3, 0, 39) := by decide +kernel
theorem c35_25 : gP 35 25 = some (.iload 1, 1, 0, 0) := by decide +kernel
theorem c35_26 : gP 35 26 = some (.iaload, 1, 0, 0) := by decide +kernel
theorem c35_27 : gP 35 27 = some (.iconst 11, 2, 0, 0) := by decide +kernel
theorem c35_29 : gP 35 29 = some (.if_icmp .ne 60, 3, 0, 0) := by decide +kernel
theorem c35_32 : gP 35 32 = some (.aload 0, 1, 0, 0) := by decide +kernel
theorem c35_33 : gP 35 33 = some (.getfield 0, 3, 0, 35) := by decide +kernel
theorem c35_36 : gP 35 36 = some (.iload 2, 1, 0, 0) := by decide +kernel
theorem c35_37 : gP 35 37 = some (.iaload, 1, 0, 0) := by decide +kernel
theorem c35_38 : gP 35 38 = some (.aload 0, 1, 0, 0) := by decide +kernel
theorem c35_39 : gP 35 39 = some (.getfield 3, 3, 0, 45) := by decide +kernel
theorem c35_42 : gP 35 42 = some (.iload 1, 1, 0, 0) := by decide +kernel
theorem c35_43 : gP 35 43 = some (.iaload, 1, 0, 0) := by decide +kernel
theorem c35_44 : gP 35 44 = some (.if_icmp .ne 54, 3, 0, 0) := by decide +kernel
theorem c35_47 : gP 35 47 = some (.aload 0, 1, 0, 0) := by decide +kernel
theorem c35_48 : gP 35 48 = some (.getfield 1, 3, 0, 39) := by decide +kernel
theorem c35_51 : gP 35 51 = some (.iload 1, 1, 0, 0) := by decide +kernel
theorem c35_52 : gP 35 52 = some (.iload 2, 1, 0, 0) := by decide +kernel
theorem c35_53 : gP 35 53 = some (.iastore, 1, 0, 0) := by decide +kernel
theorem c35_54 : gP 35 54 = some (.iinc 2 1, 3, 0, 0) := by decide +kernel
theorem c35_57 : gP 35 57 = some (.goto 12, 3, 0, 0) := by decide +kernel
theorem c35_60 : gP 35 60 = some (.iinc 1 1, 3, 0, 0) := by decide +kernel
theorem c35_63 : gP 35 63 = some (.goto 2, 3, 0, 0) := by decide +kernel
theorem c35_66 : gP 35 66 = some (.return_, 1, 0, 0) := by decide +kernel
theorem c36_0 : gP 36 0 = some (.aload 0, 1, 0, 0) := by decide +kernel
theorem c36_1 : gP 36 1 = some (.iconst 0, 1, 0, 0) := by decide +kernel
theorem c36_2 : gP 36 2 = some (.putfield 4, 3, 0, 0) := by decide +kernel
theorem c36_5 : gP 36 5 = some (.iconst 0, 1, 0, 0) := by decide +kernel
theorem c36_6 : gP 36 6 = some (.istore 3, 1, 0, 0) := by decide +kernel
theorem c36_7 : gP 36 7 = some (.iconst 0, 1, 0, 0) := by decide +kernel
theorem c36_8 : gP 36 8 = some (.istore 4, 2, 0, 0) := by decide +kernel
theorem c36_10 : gP 36 10 = some (.iconst 0, 1, 0, 0) := by decide +kernel
theorem c36_11 : gP 36 11 = some (.istore 5, 2, 0, 0) := by decide +kernel
theorem c36_13 : gP 36 13 = some (.iload 5, 2, 0, 0) := by decide +kernel
theorem c36_15 : gP 36 15 = some (.iload 2, 1, 0, 0) := by decide +kernel
theorem c36_16 : gP 36 16 = some (.if_icmp .ge 102, 3, 0, 0) := by decide +kernel
theorem c36_19 : gP 36 19 = some (.aload 1, 1, 0, 0) := by decide +kernel
theorem c36_20 : gP 36 20 = some (.iload 5, 2, 0, 0) := by decide +kernel
theorem c36_22 : gP 36 22 = some (.iaload, 1, 3, 0) := by decide +kernel
theorem c36_23 : gP 36 23 = some (.istore 6, 2, 0, 0) := by decide +kernel
theorem c36_25 : gP 36 25 = some (.iload 6, 2, 0, 0) := by decide +kernel
theorem c36_27 : gP 36 27 = some (.invokeinterface 31 66, 3, 1, 0) := by decide +kernel
theorem c36_30 : gP 36 30 = some (.ifCond .eq 49, 3, 0, 0) := by decide +kernel
theorem c36_33 : gP 36 33 = some (.iinc 4 1, 3, 0, 0) := by decide +kernel
theorem c36_36 : gP 36 36 = some (.aload 0, 1, 0, 0) := by decide +kernel
theorem c36_37 : gP 36 37 = some (.iload 6, 2, 0, 0) := by decide +kernel
theorem c36_39 : gP 36 39 = some (.iload 5, 2, 0, 0) := by decide +kernel
theorem c36_41 : gP 36 41 = some (.iload 4, 2, 0, 0) := by decide +kernel
theorem c36_43 : gP 36 43 = some (.invokeinterface 33 70, 3, 4, 1) := by decide +kernel
theorem c36_46 : gP 36 46 = some (.goto 80, 3, 0, 0) := by decide +kernel
theorem c36_49 : gP 36 49 = some (.iconst 0, 1, 0, 0) := by decide +kernel
theorem c36_50 : gP 36 50 = some (.istore 4, 2, 0, 0) := by decide +kernel
theorem c36_52 : gP 36 52 = some (.iload 6, 2, 0, 0) := by decide +kernel
theorem c36_54 : gP 36 54 = some (.iconst 32, 2, 0, 0) := by decide +kernel
theorem c36_56 : gP 36 56 = some (.if_icmp .eq 80, 3, 0, 0) := by decide +kernel
theorem c36_59 : gP 36 59 = some (.aload 0, 1, 0, 0) := by decide +kernel
theorem c36_60 : gP 36 60 = some (.iload 6, 2, 0, 0) := by decide +kernel
theorem c36_62 : gP 36 62 = some (.invokeinterface 34 74, 3, 1, 0) := by decide +kernel
theorem c36_65 : gP 36 65 = some (.ifCond .eq 73, 3, 0, 0) := by decide +kernel
theorem c36_68 : gP 36 68 = some (.iload 6, 2, 0, 0) := by decide +kernel
theorem c36_70 : gP 36 70 = some (.goto 75, 3, 0, 0) := by decide +kernel
theorem c36_73 : gP 36 73 = some (.iconst 12, 2, 0, 0) := by decide +kernel
theorem c36_75 : gP 36 75 = some (.iload 5, 2, 0, 0) := by decide +kernel
theorem c36_77 : gP 36 77 = some (.invokeinterface 32 77, 3, 3, 1) := by decide +kernel
theorem c36_80 : gP 36 80 = some (.iload 6, 2, 0, 0) := by decide +kernel
theorem c36_82 : gP 36 82 = some (.iconst 32, 2, 0, 0) := by decide +kernel
theorem c36_84 : gP 36 84 = some (.if_icmp .ne 91, 3, 0, 0) := by decide +kernel
theorem c36_87 : gP 36 87 = some (.iload 3, 1, 0, 0) := by decide +kernel
theorem c36_88 : gP 36 88 = some (.goto 95, 3, 0, 0) := by decide +kernel
theorem c36_91 : gP 36 91 = some (.iload 5, 2, 0, 0) := by decide +kernel
theorem c36_93 : gP 36 93 = some (.iconst 1, 1, 0, 0) := by decide +kernel
theorem c36_94 : gP 36 94 = some (.iadd, 1, 0, 0) := by decide +kernel
theorem c36_95 : gP 36 95 = some (.istore 3, 1, 0, 0) := by decide +kernel
theorem c36_96 : gP 36 96 = some (.iinc 5 1, 3, 0, 0) := by decide +kernel
theorem c36_99 : gP 36 99 = some (.goto 13, 3, 0, 0) := by decide +kernel
theorem c36_102 : gP 36 102 = some (.aload 0, 1, 0, 0) := by decide +kernel
theorem c36_103 : gP 36 103 = some (.iconst 0, 1, 0, 0) := by decide +kernel
theorem c36_104 : gP 36 104 = some (.iload 3, 1, 0, 0) := by decide +kernel
theorem c36_105 : gP 36 105 = some (.invokeinterface 32 77, 3, 3, 1) := by decide +kernel
theorem c36_108 : gP 36 108 = some (.aload 0, 1, 0, 0) := by decide +kernel
theorem c36_109 : gP 36 109 = some (.invokeinterface 35 81, 3, 1, 1) := by decide +kernel
theorem c36_112 : gP 36 112 = some (.return_, 1, 0, 0) := by decide +kernel
theorem c37_0 : gP 37 0 = some (.aload 0, 1, 0, 0) := by decide +kernel
theorem c37_1 : gP 37 1 = some (.getfield 0, 3, 1, 12) := by decide +kernel
theorem c37_4 : gP 37 4 = some (.getfield 1, 3, 0, 65) := by decide +kernel
theorem c37_7 : gP 37 7 = some (.aload 0, 1, 0, 0) := by decide +kernel
theorem c37_8 : gP 37 8 = some (.getfield 2, 3, 1, 31) := by decide +kernel
theorem c37_11 : gP 37 11 = some (.iaload, 1, 0, 0) := by decide +kernel
theorem c37_12 : gP 37 12 = some (.iload 1, 1, 0, 0) := by decide +kernel
theorem c37_13 : gP 37 13 = some (.if_icmp .eq 34, 3, 0, 0) := by decide +kernel
theorem c37_16 : gP 37 16 = some (.aload 0, 1, 0, 0) := by decide +kernel
theorem c37_17 : gP 37 17 = some (.aload 0, 1, 0, 0) := by decide +kernel
theorem c37_18 : gP 37 18 = some (.getfield 0, 3, 1, 12) := by decide +kernel
theorem c37_21 : gP 37 21 = some (.getfield 2, 3, 0, 71) := by decide +kernel
theorem c37_24 : gP 37 24 = some (.aload 0, 1, 0, 0) := by decide +kernel
theorem c37_25 : gP 37 25 = some (.getfield 2, 3, 1, 31) := by decide +kernel
theorem c37_28 : gP 37 28 = some (.iaload, 1, 0, 0) := by decide +kernel
theorem c37_29 : gP 37 29 = some (.putfield 4, 3, 1, 0) := by decide +kernel
theorem c37_32 : gP 37 32 = some (.iconst 0, 1, 0, 0) := by decide +kernel
theorem c37_33 : gP 37 33 = some (.ireturn, 1, 1, 0) := by decide +kernel
theorem c37_34 : gP 37 34 = some (.aload 0, 1, 0, 0) := by decide +kernel
theorem c37_35 : gP 37 35 = some (.dup, 1, 0, 0) := by decide +kernel
theorem c37_36 : gP 37 36 = some (.getfield 2, 3, 1, 31) := by decide +kernel
theorem c37_39 : gP 37 39 = some (.iconst 1, 1, 0, 0) := by decide +kernel
theorem c37_40 : gP 37 40 = some (.iadd, 1, 0, 0) := by decide +kernel
theorem c37_41 : gP 37 41 = some (.putfield 2, 3, 1, 0) := by decide +kernel
theorem c37_44 : gP 37 44 = some (.iconst 1, 1, 0, 0) := by decide +kernel
theorem c37_45 : gP 37 45 = some (.ireturn, 1, 1, 0) := by decide +kernel
theorem c38_0 : gP 38 0 = some (.aload 0, 1, 0, 0) := by decide +kernel
theorem c38_1 : gP 38 1 = some (.getfield 0, 3, 1, 12) := by decide +kernel
theorem c38_4 : gP 38 4 = some (.getfield 1, 3, 0, 65) := by decide +kernel
theorem c38_7 : gP 38 7 = some (.aload 0, 1, 0, 0) := by decide +kernel
theorem c38_8 : gP 38 8 = some (.getfield 2, 3, 1, 31) := by decide +kernel
theorem c38_11 : gP 38 11 = some (.iaload, 1, 0, 0) := by decide +kernel
theorem c38_12 : gP 38 12 = some (.ireturn, 1, 0, 0) := by decide +kernel
theorem c39_0 : gP 39 0 = some (.aload 0, 1, 0, 0) := by decide +kernel
theorem c39_1 : gP 39 1 = some (.getfield 0, 3, 1, 12) := by decide +kernel
theorem c39_4 : gP 39 4 = some (.getfield 3, 3, 0, 68) := by decide +kernel
theorem c39_7 : gP 39 7 = some (.aload 0, 1, 0, 0) := by decide +kernel
theorem c39_8 : gP 39 8 = some (.getfield 2, 3, 1, 31) := by decide +kernel
theorem c39_11 : gP 39 11 = some (.iaload, 1, 0, 0) := by decide +kernel
theorem c39_12 : gP 39 12 = some (.ireturn, 1, 0, 0) := by decide +kernel
theorem c40_0 : gP 40 0 = some (.iconst 0, 1, 0, 0) := by decide +kernel
theorem c40_1 : gP 40 1 = some (.istore 3, 1, 0, 0) := by decide +kernel
theorem c40_2 : gP 40 2 = some (.iload 3, 1, 0, 0) := by decide +kernel
theorem c40_3 : gP 40 3 = some (.iload 1, 1, 0, 0) := by decide +kernel
theorem c40_4 : gP 40 4 = some (.if_icmp .ge 22, 3, 0, 0) := by decide +kernel
theorem c40_7 : gP 40 7 = some (.aload 0, 1, 0, 0) := by decide +kernel
theorem c40_8 : gP 40 8 = some (.iload 3, 1, 0, 0) := by decide +kernel
theorem c40_9 : gP 40 9 = some (.iaload, 1, 0, 0) := by decide +kernel
theorem c40_10 : gP 40 10 = some (.iload 2, 1, 0, 0) := by decide +kernel
theorem c40_11 : gP 40 11 = some (.if_icmp .ne 16, 3, 0, 0) := by decide +kernel
theorem c40_14 : gP 40 14 = some (.iload 3, 1, 0, 0) := by decide +kernel
theorem c40_15 : gP 40 15 = some (.ireturn, 1, 0, 0) := by decide +kernel
theorem c40_16 : gP 40 16 = some (.iinc 3 1, 3, 0, 0) := by decide +kernel
theorem c40_19 : gP 40 19 = some (.goto 2, 3, 0, 0) := by decide +kernel
theorem c40_22 : gP 40 22 = some (.iconst (-1), 1, 0, 0) := by decide +kernel
theorem c40_23 : gP 40 23 = some (.ireturn, 1, 0, 0) := by decide +kernel
theorem c41_0 : gP 41 0 = some (.aload 0, 1, 0, 0) := by decide +kernel
theorem c41_1 : gP 41 1 = some (.getfield 0, 3, 6, 9) := by decide +kernel
theorem c41_4 : gP 41 4 = some (.aload 0, 1, 0, 0) := by decide +kernel
theorem c41_5 : gP 41 5 = some (.getfield 9, 3, 6, 51) := by decide +kernel
theorem c41_8 : gP 41 8 = some (.iload 1, 1, 0, 0) := by decide +kernel
theorem c41_9 : gP 41 9 = some (.invokeinterface 40 75, 3, 3, 0) := by decide +kernel
theorem c41_12 : gP 41 12 = some (.ireturn, 1, 0, 0) := by decide +kernel
theorem c42_0 : gP 42 0 = some (.aload 0, 1, 0, 0) := by decide +kernel
theorem c42_1 : gP 42 1 = some (.getfield 9, 3, 6, 51) := by decide +kernel
theorem c42_4 : gP 42 4 = some (.iconst 6, 2, 0, 0) := by decide +kernel
theorem c42_6 : gP 42 6 = some (.if_icmp .eq 18, 3, 0, 0) := by decide +kernel
theorem c42_9 : gP 42 9 = some (.aload 0, 1, 0, 0) := by decide +kernel
theorem c42_10 : gP 42 10 = some (.iload 1, 1, 0, 0) := by decide +kernel
theorem c42_11 : gP 42 11 = some (.invokeinterface 41 92, 3, 2, 1) := by decide +kernel
theorem c42_14 : gP 42 14 = some (.iconst (-1), 1, 0, 0) := by decide +kernel
theorem c42_15 : gP 42 15 = some (.if_icmp .eq 20, 3, 0, 0) := by decide +kernel
theorem c42_18 : gP 42 18 = some (.iconst 0, 1, 0, 0) := by decide +kernel
theorem c42_19 : gP 42 19 = some (.ireturn, 1, 1, 0) := by decide +kernel
theorem c42_20 : gP 42 20 = some (.aload 0, 1, 0, 0) := by decide +kernel
theorem c42_21 : gP 42 21 = some (.getfield 0, 3, 6, 9) := by decide +kernel
theorem c42_24 : gP 42 24 = some (.aload 0, 1, 0, 0) := by decide +kernel
theorem c42_25 : gP 42 25 = some (.getfield 9, 3, 6, 51) := by decide +kernel
theorem c42_28 : gP 42 28 = some (.iload 1, 1, 0, 0) := by decide +kernel
theorem c42_29 : gP 42 29 = some (.iastore, 1, 0, 0) := by decide +kernel
theorem c42_30 : gP 42 30 = some (.aload 0, 1, 0, 0) := by decide +kernel
theorem c42_31 : gP 42 31 = some (.getfield 1, 3, 6, 15) := by decide +kernel
theorem c42_34 : gP 42 34 = some (.aload 0, 1, 0, 0) := by decide +kernel
theorem c42_35 : gP 42 35 = some (.getfield 9, 3, 6, 51) := by decide +kernel
theorem c42_38 : gP 42 38 = some (.iconst (-1), 1, 0, 0) := by decide +kernel
theorem c42_39 : gP 42 39 = some (.iastore, 1, 0, 0) := by decide +kernel
theorem c42_40 : gP 42 40 = some (.aload 0, 1, 0, 0) := by decide +kernel
theorem c42_41 : gP 42 41 = some (.getfield 2, 3, 6, 18) := by decide +kernel
theorem c42_44 : gP 42 44 = some (.aload 0, 1, 0, 0) := by decide +kernel
theorem c42_45 : gP 42 45 = some (.getfield 9, 3, 6, 51) := by decide +kernel
theorem c42_48 : gP 42 48 = some (.iconst 0, 1, 0, 0) := by decide +kernel
theorem c42_49 : gP 42 49 = some (.iastore, 1, 0, 0) := by decide +kernel
theorem c42_50 : gP 42 50 = some (.aload 0, 1, 0, 0) := by decide +kernel
theorem c42_51 : gP 42 51 = some (.dup, 1, 0, 0) := by decide +kernel
theorem c42_52 : gP 42 52 = some (.getfield 9, 3, 6, 51) := by decide +kernel
theorem c42_55 : gP 42 55 = some (.iconst 1, 1, 0, 0) := by decide +kernel
theorem c42_56 : gP 42 56 = some (.iadd, 1, 0, 0) := by decide +kernel
theorem c42_57 : gP 42 57 = some (.putfield 9, 3, 6, 0) := by decide +kernel
theorem c42_60 : gP 42 60 = some (.iconst 1, 1, 0, 0) := by decide +kernel
theorem c42_61 : gP 42 61 = some (.ireturn, 1, 1, 0) := by decide +kernel
theorem c43_0 : gP 43 0 = some (.aload 0, 1, 0, 0) := by decide +kernel
theorem c43_1 : gP 43 1 = some (.aload 0, 1, 0, 0) := by decide +kernel
theorem c43_2 : gP 43 2 = some (.getfield 0, 3, 1, 12) := by decide +kernel
theorem c43_5 : gP 43 5 = some (.getfield 2, 3, 0, 71) := by decide +kernel
theorem c43_8 : gP 43 8 = some (.aload 0, 1, 0, 0) := by decide +kernel
theorem c43_9 : gP 43 9 = some (.getfield 2, 3, 1, 31) := by decide +kernel
theorem c43_12 : gP 43 12 = some (.iaload, 1, 0, 0) := by decide +kernel
theorem c43_13 : gP 43 13 = some (.putfield 4, 3, 1, 0) := by decide +kernel
theorem c43_16 : gP 43 16 = some (.iconst 0, 1, 0, 0) := by decide +kernel
theorem c43_17 : gP 43 17 = some (.ireturn, 1, 1, 0) := by decide +kernel
theorem c44_0 : gP 44 0 = some (.aload 0, 1, 0, 0) := by decide +kernel
theorem c44_1 : gP 44 1 = some (.getfield 9, 3, 6, 51) := by decide +kernel
theorem c44_4 : gP 44 4 = some (.iconst 1, 1, 0, 0) := by decide +kernel
theorem c44_5 : gP 44 5 = some (.isub, 1, 0, 0) := by decide +kernel
theorem c44_6 : gP 44 6 = some (.istore 2, 1, 0, 0) := by decide +kernel
theorem c44_7 : gP 44 7 = some (.aload 0, 1, 0, 0) := by decide +kernel
theorem c44_8 : gP 44 8 = some (.iload 1, 1, 0, 0) := by decide +kernel
theorem c44_9 : gP 44 9 = some (.invokeinterface 41 92, 3, 2, 1) := by decide +kernel
theorem c44_12 : gP 44 12 = some (.istore 3, 1, 0, 0) := by decide +kernel
theorem c44_13 : gP 44 13 = some (.iload 3, 1, 0, 0) := by decide +kernel
theorem c44_14 : gP 44 14 = some (.iconst (-1), 1, 0, 0) := by decide +kernel
theorem c44_15 : gP 44 15 = some (.if_icmp .eq 23, 3, 0, 0) := by decide +kernel
theorem c44_18 : gP 44 18 = some (.iload 3, 1, 0, 0) := by decide +kernel
theorem c44_19 : gP 44 19 = some (.iload 2, 1, 0, 0) := by decide +kernel
theorem c44_20 : gP 44 20 = some (.if_icmp .ne 25, 3, 0, 0) := by decide +kernel
theorem c44_23 : gP 44 23 = some (.iconst 0, 1, 0, 0) := by decide +kernel
theorem c44_24 : gP 44 24 = some (.ireturn, 1, 1, 0) := by decide +kernel
theorem c44_25 : gP 44 25 = some (.aload 0, 1, 0, 0) := by decide +kernel
theorem c44_26 : gP 44 26 = some (.getfield 1, 3, 6, 15) := by decide +kernel
theorem c44_29 : gP 44 29 = some (.iload 2, 1, 0, 0) := by decide +kernel
theorem c44_30 : gP 44 30 = some (.iload 3, 1, 0, 0) := by decide +kernel
theorem c44_31 : gP 44 31 = some (.iastore, 1, 0, 0) := by decide +kernel
theorem c44_32 : gP 44 32 = some (.aload 0, 1, 0, 0) := by decide +kernel
theorem c44_33 : gP 44 33 = some (.getfield 2, 3, 6, 18) := by decide +kernel
theorem c44_36 : gP 44 36 = some (.iload 2, 1, 0, 0) := by decide +kernel
theorem c44_37 : gP 44 37 = some (.aload 0, 1, 0, 0) := by decide +kernel
theorem c44_38 : gP 44 38 = some (.getfield 2, 3, 6, 18) := by decide +kernel
theorem c44_41 : gP 44 41 = some (.iload 3, 1, 0, 0) := by decide +kernel
theorem c44_42 : gP 44 42 = some (.iaload, 1, 0, 0) := by decide +kernel
theorem c44_43 : gP 44 43 = some (.iastore, 1, 0, 0) := by decide +kernel
theorem c44_44 : gP 44 44 = some (.iconst 1, 1, 0, 0) := by decide +kernel
theorem c44_45 : gP 44 45 = some (.ireturn, 1, 1, 0) := by decide +kernel
theorem c45_0 : gP 45 0 = some (.aload 0, 1, 0, 0) := by decide +kernel
theorem c45_1 : gP 45 1 = some (.iconst 1, 1, 0, 0) := by decide +kernel
theorem c45_2 : gP 45 2 = some (.invokeinterface 37 74, 3, 2, 1) := by decide +kernel
theorem c45_5 : gP 45 5 = some (.ifCond .ne 10, 3, 0, 0) := by decide +kernel
theorem c45_8 : gP 45 8 = some (.iconst 0, 1, 0, 0) := by decide +kernel
theorem c45_9 : gP 45 9 = some (.ireturn, 1, 1, 0) := by decide +kernel
theorem c45_10 : gP 45 10 = some (.aload 0, 1, 0, 0) := by decide +kernel
theorem c45_11 : gP 45 11 = some (.invokeinterface 38 43, 3, 1, 1) := by decide +kernel
theorem c45_14 : gP 45 14 = some (.iconst 11, 2, 0, 0) := by decide +kernel
theorem c45_16 : gP 45 16 = some (.if_icmp .ne 33, 3, 0, 0) := by decide +kernel
theorem c45_19 : gP 45 19 = some (.aload 0, 1, 0, 0) := by decide +kernel
theorem c45_20 : gP 45 20 = some (.getfield 1, 3, 1, 18) := by decide +kernel
theorem c45_23 : gP 45 23 = some (.aload 0, 1, 0, 0) := by decide +kernel
theorem c45_24 : gP 45 24 = some (.invokeinterface 39 78, 3, 1, 1) := by decide +kernel
theorem c45_27 : gP 45 27 = some (.invokeinterface 42 80, 3, 2, 1) := by decide +kernel
theorem c45_30 : gP 45 30 = some (.ifCond .ne 38, 3, 0, 0) := by decide +kernel
theorem c45_33 : gP 45 33 = some (.aload 0, 1, 0, 0) := by decide +kernel
theorem c45_34 : gP 45 34 = some (.invokeinterface 43 56, 3, 1, 1) := by decide +kernel
theorem c45_37 : gP 45 37 = some (.ireturn, 1, 1, 0) := by decide +kernel
theorem c45_38 : gP 45 38 = some (.aload 0, 1, 0, 0) := by decide +kernel
theorem c45_39 : gP 45 39 = some (.dup, 1, 0, 0) := by decide +kernel
theorem c45_40 : gP 45 40 = some (.getfield 2, 3, 1, 31) := by decide +kernel
theorem c45_43 : gP 45 43 = some (.iconst 1, 1, 0, 0) := by decide +kernel
theorem c45_44 : gP 45 44 = some (.iadd, 1, 0, 0) := by decide +kernel
theorem c45_45 : gP 45 45 = some (.putfield 2, 3, 1, 0) := by decide +kernel
theorem c45_48 : gP 45 48 = some (.aload 0, 1, 0, 0) := by decide +kernel
theorem c45_49 : gP 45 49 = some (.invokeinterface 38 43, 3, 1, 1) := by decide +kernel
theorem c45_52 : gP 45 52 = some (.iconst 58, 2, 0, 0) := by decide +kernel
theorem c45_54 : gP 45 54 = some (.if_icmp .ne 105, 3, 0, 0) := by decide +kernel
theorem c45_57 : gP 45 57 = some (.aload 0, 1, 0, 0) := by decide +kernel
theorem c45_58 : gP 45 58 = some (.dup, 1, 0, 0) := by decide +kernel
theorem c45_59 : gP 45 59 = some (.getfield 2, 3, 1, 31) := by decide +kernel
theorem c45_62 : gP 45 62 = some (.iconst 1, 1, 0, 0) := by decide +kernel
theorem c45_63 : gP 45 63 = some (.iadd, 1, 0, 0) := by decide +kernel
theorem c45_64 : gP 45 64 = some (.putfield 2, 3, 1, 0) := by decide +kernel
theorem c45_67 : gP 45 67 = some (.aload 0, 1, 0, 0) := by decide +kernel
theorem c45_68 : gP 45 68 = some (.invokeinterface 38 43, 3, 1, 1) := by decide +kernel
theorem c45_71 : gP 45 71 = some (.iconst 11, 2, 0, 0) := by decide +kernel
theorem c45_73 : gP 45 73 = some (.if_icmp .ne 90, 3, 0, 0) := by decide +kernel
theorem c45_76 : gP 45 76 = some (.aload 0, 1, 0, 0) := by decide +kernel
theorem c45_77 : gP 45 77 = some (.getfield 1, 3, 1, 18) := by decide +kernel
theorem c45_80 : gP 45 80 = some (.aload 0, 1, 0, 0) := by decide +kernel
theorem c45_81 : gP 45 81 = some (.invokeinterface 39 78, 3, 1, 1) := by decide +kernel
theorem c45_84 : gP 45 84 = some (.invokeinterface 44 83, 3, 2, 1) := by decide +kernel
theorem c45_87 : gP 45 87 = some (.ifCond .ne 95, 3, 0, 0) := by decide +kernel
theorem c45_90 : gP 45 90 = some (.aload 0, 1, 0, 0) := by decide +kernel
theorem c45_91 : gP 45 91 = some (.invokeinterface 43 56, 3, 1, 1) := by decide +kernel
theorem c45_94 : gP 45 94 = some (.ireturn, 1, 1, 0) := by decide +kernel
theorem c45_95 : gP 45 95 = some (.aload 0, 1, 0, 0) := by decide +kernel
theorem c45_96 : gP 45 96 = some (.dup, 1, 0, 0) := by decide +kernel
theorem c45_97 : gP 45 97 = some (.getfield 2, 3, 1, 31) := by decide +kernel
theorem c45_100 : gP 45 100 = some (.iconst 1, 1, 0, 0) := by decide +kernel
theorem c45_101 : gP 45 101 = some (.iadd, 1, 0, 0) := by decide +kernel
theorem c45_102 : gP 45 102 = some (.putfield 2, 3, 1, 0) := by decide +kernel
theorem c45_105 : gP 45 105 = some (.aload 0, 1, 0, 0) := by decide +kernel
theorem c45_106 : gP 45 106 = some (.iconst 123, 2, 0, 0) := by decide +kernel
theorem c45_108 : gP 45 108 = some (.invokeinterface 37 74, 3, 2, 1) := by decide +kernel
theorem c45_111 : gP 45 111 = some (.ireturn, 1, 1, 0) := by decide +kernel
theorem c46_0 : gP 46 0 = some (.aload 0, 1, 0, 0) := by decide +kernel
theorem c46_1 : gP 46 1 = some (.getfield 3, 3, 6, 21) := by decide +kernel
theorem c46_4 : gP 46 4 = some (.aload 0, 1, 0, 0) := by decide +kernel
theorem c46_5 : gP 46 5 = some (.getfield 11, 3, 6, 57) := by decide +kernel
theorem c46_8 : gP 46 8 = some (.iload 1, 1, 0, 0) := by decide +kernel
theorem c46_9 : gP 46 9 = some (.invokeinterface 40 75, 3, 3, 0) := by decide +kernel
theorem c46_12 : gP 46 12 = some (.ireturn, 1, 0, 0) := by decide +kernel
theorem c47_0 : gP 47 0 = some (.iload 2, 1, 0, 0) := by decide +kernel
theorem c47_1 : gP 47 1 = some (.iconst (-1), 1, 0, 0) := by decide +kernel
theorem c47_2 : gP 47 2 = some (.if_icmp .eq 23, 3, 0, 0) := by decide +kernel
theorem c47_5 : gP 47 5 = some (.aload 0, 1, 0, 0) := by decide +kernel
theorem c47_6 : gP 47 6 = some (.getfield 2, 3, 6, 18) := by decide +kernel
theorem c47_9 : gP 47 9 = some (.iload 1, 1, 0, 0) := by decide +kernel
theorem c47_10 : gP 47 10 = some (.iaload, 1, 0, 0) := by decide +kernel
theorem c47_11 : gP 47 11 = some (.iload 2, 1, 0, 0) := by decide +kernel
theorem c47_12 : gP 47 12 = some (.ishr, 1, 0, 0) := by decide +kernel
theorem c47_13 : gP 47 13 = some (.iconst 1, 1, 0, 0) := by decide +kernel
theorem c47_14 : gP 47 14 = some (.iand, 1, 0, 0) := by decide +kernel
theorem c47_15 : gP 47 15 = some (.iconst 1, 1, 0, 0) := by decide +kernel
theorem c47_16 : gP 47 16 = some (.if_icmp .ne 23, 3, 0, 0) := by decide +kernel
theorem c47_19 : gP 47 19 = some (.iconst 1, 1, 0, 0) := by decide +kernel
theorem c47_20 : gP 47 20 = some (.goto 24, 3, 0, 0) := by decide +kernel
theorem c47_23 : gP 47 23 = some (.iconst 0, 1, 0, 0) := by decide +kernel
theorem c47_24 : gP 47 24 = some (.ireturn, 1, 1, 0) := by decide +kernel
theorem c48_0 : gP 48 0 = some (.aload 0, 1, 0, 0) := by decide +kernel
theorem c48_1 : gP 48 1 = some (.getfield 9, 3, 6, 51) := by decide +kernel
theorem c48_4 : gP 48 4 = some (.iconst 1, 1, 0, 0) := by decide +kernel
theorem c48_5 : gP 48 5 = some (.isub, 1, 0, 0) := by decide +kernel
theorem c48_6 : gP 48 6 = some (.istore 2, 1, 0, 0) := by decide +kernel
theorem c48_7 : gP 48 7 = some (.aload 0, 1, 0, 0) := by decide +kernel
theorem c48_8 : gP 48 8 = some (.iload 1, 1, 0, 0) := by decide +kernel
theorem c48_9 : gP 48 9 = some (.invokeinterface 46 96, 3, 2, 1) := by decide +kernel
theorem c48_12 : gP 48 12 = some (.istore 3, 1, 0, 0) := by decide +kernel
theorem c48_13 : gP 48 13 = some (.iload 3, 1, 0, 0) := by decide +kernel
theorem c48_14 : gP 48 14 = some (.iconst (-1), 1, 0, 0) := by decide +kernel
theorem c48_15 : gP 48 15 = some (.if_icmp .ne 54, 3, 0, 0) := by decide +kernel
theorem c48_18 : gP 48 18 = some (.aload 0, 1, 0, 0) := by decide +kernel
theorem c48_19 : gP 48 19 = some (.getfield 11, 3, 6, 57) := by decide +kernel
theorem c48_22 : gP 48 22 = some (.iconst 8, 2, 0, 0) := by decide +kernel
theorem c48_24 : gP 48 24 = some (.if_icmp .ne 29, 3, 0, 0) := by decide +kernel
theorem c48_27 : gP 48 27 = some (.iconst 0, 1, 0, 0) := by decide +kernel
theorem c48_28 : gP 48 28 = some (.ireturn, 1, 1, 0) := by decide +kernel
theorem c48_29 : gP 48 29 = some (.aload 0, 1, 0, 0) := by decide +kernel
theorem c48_30 : gP 48 30 = some (.getfield 11, 3, 6, 57) := by decide +kernel
theorem c48_33 : gP 48 33 = some (.istore 3, 1, 0, 0) := by decide +kernel
theorem c48_34 : gP 48 34 = some (.aload 0, 1, 0, 0) := by decide +kernel
theorem c48_35 : gP 48 35 = some (.getfield 3, 3, 6, 21) := by decide +kernel
theorem c48_38 : gP 48 38 = some (.aload 0, 1, 0, 0) := by decide +kernel
theorem c48_39 : gP 48 39 = some (.getfield 11, 3, 6, 57) := by decide +kernel
theorem c48_42 : gP 48 42 = some (.iload 1, 1, 0, 0) := by decide +kernel
theorem c48_43 : gP 48 43 = some (.iastore, 1, 0, 0) := by decide +kernel
theorem c48_44 : gP 48 44 = some (.aload 0, 1, 0, 0) := by decide +kernel
theorem c48_45 : gP 48 45 = some (.dup, 1, 0, 0) := by decide +kernel
theorem c48_46 : gP 48 46 = some (.getfield 11, 3, 6, 57) := by decide +kernel
theorem c48_49 : gP 48 49 = some (.iconst 1, 1, 0, 0) := by decide +kernel
theorem c48_50 : gP 48 50 = some (.iadd, 1, 0, 0) := by decide +kernel
theorem c48_51 : gP 48 51 = some (.putfield 11, 3, 6, 0) := by decide +kernel
theorem c48_54 : gP 48 54 = some (.aload 0, 1, 0, 0) := by decide +kernel
theorem c48_55 : gP 48 55 = some (.iload 2, 1, 0, 0) := by decide +kernel
theorem c48_56 : gP 48 56 = some (.iload 3, 1, 0, 0) := by decide +kernel
theorem c48_57 : gP 48 57 = some (.invokeinterface 47 99, 3, 3, 1) := by decide +kernel
theorem c48_60 : gP 48 60 = some (.ifCond .eq 65, 3, 0, 0) := by decide +kernel
theorem c48_63 : gP 48 63 = some (.iconst 0, 1, 0, 0) := by decide +kernel
theorem c48_64 : gP 48 64 = some (.ireturn, 1, 1, 0) := by decide +kernel
theorem c48_65 : gP 48 65 = some (.aload 0, 1, 0, 0) := by decide +kernel
theorem c48_66 : gP 48 66 = some (.getfield 2, 3, 6, 18) := by decide +kernel
theorem c48_69 : gP 48 69 = some (.iload 2, 1, 0, 0) := by decide +kernel
theorem c48_70 : gP 48 70 = some (.dup2, 1, 0, 0) := by decide +kernel
theorem c48_71 : gP 48 71 = some (.iaload, 1, 0, 0) := by decide +kernel
theorem c48_72 : gP 48 72 = some (.iconst 1, 1, 0, 0) := by decide +kernel
theorem c48_73 : gP 48 73 = some (.iload 3, 1, 0, 0) := by decide +kernel
theorem c48_74 : gP 48 74 = some (.ishl, 1, 0, 0) := by decide +kernel
theorem c48_75 : gP 48 75 = some (.ior, 1, 0, 0) := by decide +kernel
theorem c48_76 : gP 48 76 = some (.iastore, 1, 0, 0) := by decide +kernel
theorem c48_77 : gP 48 77 = some (.iconst 1, 1, 0, 0) := by decide +kernel
theorem c48_78 : gP 48 78 = some (.ireturn, 1, 1, 0) := by decide +kernel
theorem c49_0 : gP 49 0 = some (.aload 0, 1, 0, 0) := by decide +kernel
theorem c49_1 : gP 49 1 = some (.dup, 1, 0, 0) := by decide +kernel
theorem c49_2 : gP 49 2 = some (.getfield 2, 3, 1, 31) := by decide +kernel
theorem c49_5 : gP 49 5 = some (.iconst 1, 1, 0, 0) := by decide +kernel
theorem c49_6 : gP 49 6 = some (.iadd, 1, 0, 0) := by decide +kernel
theorem c49_7 : gP 49 7 = some (.putfield 2, 3, 1, 0) := by decide +kernel
theorem c49_10 : gP 49 10 = some (.aload 0, 1, 0, 0) := by decide +kernel
theorem c49_11 : gP 49 11 = some (.invokeinterface 38 43, 3, 1, 1) := by decide +kernel
theorem c49_14 : gP 49 14 = some (.iconst 11, 2, 0, 0) := by decide +kernel
theorem c49_16 : gP 49 16 = some (.if_icmp .ne 33, 3, 0, 0) := by decide +kernel
theorem c49_19 : gP 49 19 = some (.aload 0, 1, 0, 0) := by decide +kernel
theorem c49_20 : gP 49 20 = some (.getfield 1, 3, 1, 18) := by decide +kernel
theorem c49_23 : gP 49 23 = some (.aload 0, 1, 0, 0) := by decide +kernel
theorem c49_24 : gP 49 24 = some (.invokeinterface 39 78, 3, 1, 1) := by decide +kernel
theorem c49_27 : gP 49 27 = some (.invokeinterface 48 86, 3, 2, 1) := by decide +kernel
theorem c49_30 : gP 49 30 = some (.ifCond .ne 38, 3, 0, 0) := by decide +kernel
theorem c49_33 : gP 49 33 = some (.aload 0, 1, 0, 0) := by decide +kernel
theorem c49_34 : gP 49 34 = some (.invokeinterface 43 56, 3, 1, 1) := by decide +kernel
theorem c49_37 : gP 49 37 = some (.ireturn, 1, 1, 0) := by decide +kernel
theorem c49_38 : gP 49 38 = some (.aload 0, 1, 0, 0) := by decide +kernel
theorem c49_39 : gP 49 39 = some (.dup, 1, 0, 0) := by decide +kernel
theorem c49_40 : gP 49 40 = some (.getfield 2, 3, 1, 31) := by decide +kernel
theorem c49_43 : gP 49 43 = some (.iconst 1, 1, 0, 0) := by decide +kernel
theorem c49_44 : gP 49 44 = some (.iadd, 1, 0, 0) := by decide +kernel
theorem c49_45 : gP 49 45 = some (.putfield 2, 3, 1, 0) := by decide +kernel
theorem c49_48 : gP 49 48 = some (.aload 0, 1, 0, 0) := by decide +kernel
theorem c49_49 : gP 49 49 = some (.iconst 59, 2, 0, 0) := by decide +kernel
theorem c49_51 : gP 49 51 = some (.invokeinterface 37 74, 3, 2, 1) := by decide +kernel
theorem c49_54 : gP 49 54 = some (.ireturn, 1, 1, 0) := by decide +kernel
theorem c50_0 : gP 50 0 = some (.iconst 0, 1, 0, 0) := by decide +kernel
theorem c50_1 : gP 50 1 = some (.istore 3, 1, 0, 0) := by decide +kernel
theorem c50_2 : gP 50 2 = some (.iload 3, 1, 0, 0) := by decide +kernel
theorem c50_3 : gP 50 3 = some (.aload 0, 1, 0, 0) := by decide +kernel
theorem c50_4 : gP 50 4 = some (.getfield 10, 3, 6, 54) := by decide +kernel
theorem c50_7 : gP 50 7 = some (.if_icmp .ge 44, 3, 0, 0) := by decide +kernel
theorem c50_10 : gP 50 10 = some (.aload 0, 1, 0, 0) := by decide +kernel
theorem c50_11 : gP 50 11 = some (.getfield 5, 3, 6, 29) := by decide +kernel
theorem c50_14 : gP 50 14 = some (.iload 3, 1, 0, 0) := by decide +kernel
theorem c50_15 : gP 50 15 = some (.aaload, 1, 0, 0) := by decide +kernel
theorem c50_16 : gP 50 16 = some (.getfield 1, 3, 4, 79) := by decide +kernel
theorem c50_19 : gP 50 19 = some (.iload 1, 1, 0, 0) := by decide +kernel
theorem c50_20 : gP 50 20 = some (.if_icmp .ne 38, 3, 0, 0) := by decide +kernel
theorem c50_23 : gP 50 23 = some (.aload 0, 1, 0, 0) := by decide +kernel
theorem c50_24 : gP 50 24 = some (.getfield 5, 3, 6, 29) := by decide +kernel
theorem c50_27 : gP 50 27 = some (.iload 3, 1, 0, 0) := by decide +kernel
theorem c50_28 : gP 50 28 = some (.aaload, 1, 0, 0) := by decide +kernel
theorem c50_29 : gP 50 29 = some (.getfield 0, 3, 4, 82) := by decide +kernel
theorem c50_32 : gP 50 32 = some (.iload 2, 1, 0, 0) := by decide +kernel
theorem c50_33 : gP 50 33 = some (.if_icmp .ne 38, 3, 0, 0) := by decide +kernel
theorem c50_36 : gP 50 36 = some (.iload 3, 1, 0, 0) := by decide +kernel
theorem c50_37 : gP 50 37 = some (.ireturn, 1, 0, 0) := by decide +kernel
theorem c50_38 : gP 50 38 = some (.iinc 3 1, 3, 0, 0) := by decide +kernel
theorem c50_41 : gP 50 41 = some (.goto 2, 3, 0, 0) := by decide +kernel
theorem c50_44 : gP 50 44 = some (.iconst (-1), 1, 0, 0) := by decide +kernel
theorem c50_45 : gP 50 45 = some (.ireturn, 1, 0, 0) := by decide +kernel
theorem c51_0 : gP 51 0 = some (.aload 0, 1, 0, 0) := by decide +kernel
theorem c51_1 : gP 51 1 = some (.getfield 9, 3, 6, 51) := by decide +kernel
theorem c51_4 : gP 51 4 = some (.iconst 1, 1, 0, 0) := by decide +kernel
theorem c51_5 : gP 51 5 = some (.isub, 1, 0, 0) := by decide +kernel
theorem c51_6 : gP 51 6 = some (.istore 2, 1, 0, 0) := by decide +kernel
theorem c51_7 : gP 51 7 = some (.aload 0, 1, 0, 0) := by decide +kernel
theorem c51_8 : gP 51 8 = some (.getfield 10, 3, 6, 54) := by decide +kernel
theorem c51_11 : gP 51 11 = some (.iconst 10, 2, 0, 0) := by decide +kernel
theorem c51_13 : gP 51 13 = some (.if_icmp .eq 37, 3, 0, 0) := by decide +kernel
theorem c51_16 : gP 51 16 = some (.aload 0, 1, 0, 0) := by decide +kernel
theorem c51_17 : gP 51 17 = some (.getfield 15, 3, 6, 69) := by decide +kernel
theorem c51_20 : gP 51 20 = some (.iconst 2, 1, 0, 0) := by decide +kernel
theorem c51_21 : gP 51 21 = some (.iadd, 1, 0, 0) := by decide +kernel
theorem c51_22 : gP 51 22 = some (.iconst 48, 2, 0, 0) := by decide +kernel
theorem c51_24 : gP 51 24 = some (.if_icmp .gt 37, 3, 0, 0) := by decide +kernel
theorem c51_27 : gP 51 27 = some (.aload 0, 1, 0, 0) := by decide +kernel
theorem c51_28 : gP 51 28 = some (.iload 2, 1, 0, 0) := by decide +kernel
theorem c51_29 : gP 51 29 = some (.iload 1, 1, 0, 0) := by decide +kernel
theorem c51_30 : gP 51 30 = some (.invokeinterface 50 85, 3, 3, 1) := by decide +kernel
theorem c51_33 : gP 51 33 = some (.iconst (-1), 1, 0, 0) := by decide +kernel
theorem c51_34 : gP 51 34 = some (.if_icmp .eq 39, 3, 0, 0) := by decide +kernel
theorem c51_37 : gP 51 37 = some (.iconst 0, 1, 0, 0) := by decide +kernel
theorem c51_38 : gP 51 38 = some (.ireturn, 1, 1, 0) := by decide +kernel
theorem c51_39 : gP 51 39 = some (.aload 0, 1, 0, 0) := by decide +kernel
theorem c51_40 : gP 51 40 = some (.getfield 5, 3, 6, 29) := by decide +kernel
theorem c51_43 : gP 51 43 = some (.aload 0, 1, 0, 0) := by decide +kernel
theorem c51_44 : gP 51 44 = some (.getfield 10, 3, 6, 54) := by decide +kernel
theorem c51_47 : gP 51 47 = some (.aaload, 1, 0, 0) := by decide +kernel
theorem c51_48 : gP 51 48 = some (.astore 3, 1, 0, 0) := by decide +kernel
theorem c51_49 : gP 51 49 = some (.aload 3, 1, 0, 0) := by decide +kernel
theorem c51_50 : gP 51 50 = some (.iload 1, 1, 0, 0) := by decide +kernel
theorem c51_51 : gP 51 51 = some (.putfield 0, 3, 4, 0) := by decide +kernel
theorem c51_54 : gP 51 54 = some (.aload 3, 1, 0, 0) := by decide +kernel
theorem c51_55 : gP 51 55 = some (.iload 2, 1, 0, 0) := by decide +kernel
theorem c51_56 : gP 51 56 = some (.putfield 1, 3, 4, 0) := by decide +kernel
theorem c51_59 : gP 51 59 = some (.aload 3, 1, 0, 0) := by decide +kernel
theorem c51_60 : gP 51 60 = some (.aload 0, 1, 0, 0) := by decide +kernel
theorem c51_61 : gP 51 61 = some (.getfield 15, 3, 6, 69) := by decide +kernel
theorem c51_64 : gP 51 64 = some (.putfield 2, 3, 4, 0) := by decide +kernel
theorem c51_67 : gP 51 67 = some (.aload 3, 1, 0, 0) := by decide +kernel
theorem c51_68 : gP 51 68 = some (.iconst 0, 1, 0, 0) := by decide +kernel
theorem c51_69 : gP 51 69 = some (.putfield 3, 3, 4, 0) := by decide +kernel
theorem c51_72 : gP 51 72 = some (.aload 0, 1, 0, 0) := by decide +kernel
theorem c51_73 : gP 51 73 = some (.dup, 1, 0, 0) := by decide +kernel
theorem c51_74 : gP 51 74 = some (.getfield 10, 3, 6, 54) := by decide +kernel
theorem c51_77 : gP 51 77 = some (.iconst 1, 1, 0, 0) := by decide +kernel
theorem c51_78 : gP 51 78 = some (.iadd, 1, 0, 0) := by decide +kernel
theorem c51_79 : gP 51 79 = some (.putfield 10, 3, 6, 0) := by decide +kernel
theorem c51_82 : gP 51 82 = some (.aload 0, 1, 0, 0) := by decide +kernel
theorem c51_83 : gP 51 83 = some (.getfield 4, 3, 6, 24) := by decide +kernel
theorem c51_86 : gP 51 86 = some (.aload 0, 1, 0, 0) := by decide +kernel
theorem c51_87 : gP 51 87 = some (.getfield 15, 3, 6, 69) := by decide +kernel
theorem c51_90 : gP 51 90 = some (.iconst 0, 1, 0, 0) := by decide +kernel
theorem c51_91 : gP 51 91 = some (.iastore, 1, 0, 0) := by decide +kernel
theorem c51_92 : gP 51 92 = some (.aload 0, 1, 0, 0) := by decide +kernel
theorem c51_93 : gP 51 93 = some (.getfield 4, 3, 6, 24) := by decide +kernel
theorem c51_96 : gP 51 96 = some (.aload 0, 1, 0, 0) := by decide +kernel
theorem c51_97 : gP 51 97 = some (.getfield 15, 3, 6, 69) := by decide +kernel
theorem c51_100 : gP 51 100 = some (.iconst 1, 1, 0, 0) := by decide +kernel
theorem c51_101 : gP 51 101 = some (.iadd, 1, 0, 0) := by decide +kernel
theorem c51_102 : gP 51 102 = some (.iconst 0, 1, 0, 0) := by decide +kernel
theorem c51_103 : gP 51 103 = some (.iastore, 1, 0, 0) := by decide +kernel
theorem c51_104 : gP 51 104 = some (.aload 0, 1, 0, 0) := by decide +kernel
theorem c51_105 : gP 51 105 = some (.dup, 1, 0, 0) := by decide +kernel
theorem c51_106 : gP 51 106 = some (.getfield 15, 3, 6, 69) := by decide +kernel
theorem c51_109 : gP 51 109 = some (.iconst 2, 1, 0, 0) := by decide +kernel
theorem c51_110 : gP 51 110 = some (.iadd, 1, 0, 0) := by decide +kernel
theorem c51_111 : gP 51 111 = some (.putfield 15, 3, 6, 0) := by decide +kernel
theorem c51_114 : gP 51 114 = some (.iconst 1, 1, 0, 0) := by decide +kernel
theorem c51_115 : gP 51 115 = some (.ireturn, 1, 1, 0) := by decide +kernel
theorem c52_0 : gP 52 0 = some (.aload 0, 1, 0, 0) := by decide +kernel
theorem c52_1 : gP 52 1 = some (.getfield 5, 3, 6, 29) := by decide +kernel
theorem c52_4 : gP 52 4 = some (.aload 0, 1, 0, 0) := by decide +kernel
theorem c52_5 : gP 52 5 = some (.getfield 10, 3, 6, 54) := by decide +kernel
theorem c52_8 : gP 52 8 = some (.iconst 1, 1, 0, 0) := by decide +kernel
theorem c52_9 : gP 52 9 = some (.isub, 1, 0, 0) := by decide +kernel
theorem c52_10 : gP 52 10 = some (.aaload, 1, 0, 0) := by decide +kernel
theorem c52_11 : gP 52 11 = some (.getfield 2, 3, 4, 103) := by decide +kernel
theorem c52_14 : gP 52 14 = some (.istore 2, 1, 0, 0) := by decide +kernel
theorem c52_15 : gP 52 15 = some (.iload 2, 1, 0, 0) := by decide +kernel
theorem c52_16 : gP 52 16 = some (.aload 0, 1, 0, 0) := by decide +kernel
theorem c52_17 : gP 52 17 = some (.getfield 15, 3, 6, 69) := by decide +kernel
theorem c52_20 : gP 52 20 = some (.if_icmp .ge 41, 3, 0, 0) := by decide +kernel
theorem c52_23 : gP 52 23 = some (.aload 0, 1, 0, 0) := by decide +kernel
theorem c52_24 : gP 52 24 = some (.getfield 4, 3, 6, 24) := by decide +kernel
theorem c52_27 : gP 52 27 = some (.iload 2, 1, 0, 0) := by decide +kernel
theorem c52_28 : gP 52 28 = some (.iaload, 1, 0, 0) := by decide +kernel
theorem c52_29 : gP 52 29 = some (.iload 1, 1, 0, 0) := by decide +kernel
theorem c52_30 : gP 52 30 = some (.if_icmp .ne 35, 3, 0, 0) := by decide +kernel
theorem c52_33 : gP 52 33 = some (.iload 2, 1, 0, 0) := by decide +kernel
theorem c52_34 : gP 52 34 = some (.ireturn, 1, 0, 0) := by decide +kernel
theorem c52_35 : gP 52 35 = some (.iinc 2 1, 3, 0, 0) := by decide +kernel
theorem c52_38 : gP 52 38 = some (.goto 15, 3, 0, 0) := by decide +kernel
theorem c52_41 : gP 52 41 = some (.aload 0, 1, 0, 0) := by decide +kernel
theorem c52_42 : gP 52 42 = some (.getfield 15, 3, 6, 69) := by decide +kernel
theorem c52_45 : gP 52 45 = some (.iconst 48, 2, 0, 0) := by decide +kernel
theorem c52_47 : gP 52 47 = some (.if_icmp .ne 52, 3, 0, 0) := by decide +kernel
theorem c52_50 : gP 52 50 = some (.iconst (-1), 1, 0, 0) := by decide +kernel
theorem c52_51 : gP 52 51 = some (.ireturn, 1, 0, 0) := by decide +kernel
theorem c52_52 : gP 52 52 = some (.aload 0, 1, 0, 0) := by decide +kernel
theorem c52_53 : gP 52 53 = some (.getfield 4, 3, 6, 24) := by decide +kernel
theorem c52_56 : gP 52 56 = some (.aload 0, 1, 0, 0) := by decide +kernel
theorem c52_57 : gP 52 57 = some (.getfield 15, 3, 6, 69) := by decide +kernel
theorem c52_60 : gP 52 60 = some (.iload 1, 1, 0, 0) := by decide +kernel
theorem c52_61 : gP 52 61 = some (.iastore, 1, 0, 0) := by decide +kernel
theorem c52_62 : gP 52 62 = some (.aload 0, 1, 0, 0) := by decide +kernel
theorem c52_63 : gP 52 63 = some (.dup, 1, 0, 0) := by decide +kernel
theorem c52_64 : gP 52 64 = some (.getfield 15, 3, 6, 69) := by decide +kernel
theorem c52_67 : gP 52 67 = some (.iconst 1, 1, 0, 0) := by decide +kernel
theorem c52_68 : gP 52 68 = some (.iadd, 1, 0, 0) := by decide +kernel
theorem c52_69 : gP 52 69 = some (.putfield 15, 3, 6, 0) := by decide +kernel
theorem c52_72 : gP 52 72 = some (.aload 0, 1, 0, 0) := by decide +kernel
theorem c52_73 : gP 52 73 = some (.getfield 15, 3, 6, 69) := by decide +kernel
theorem c52_76 : gP 52 76 = some (.iconst 1, 1, 0, 0) := by decide +kernel
theorem c52_77 : gP 52 77 = some (.isub, 1, 0, 0) := by decide +kernel
theorem c52_78 : gP 52 78 = some (.ireturn, 1, 0, 0) := by decide +kernel
theorem c53_0 : gP 53 0 = some (.aload 0, 1, 0, 0) := by decide +kernel
theorem c53_1 : gP 53 1 = some (.getfield 15, 3, 6, 69) := by decide +kernel
theorem c53_4 : gP 53 4 = some (.istore 2, 1, 0, 0) := by decide +kernel
theorem c53_5 : gP 53 5 = some (.aload 0, 1, 0, 0) := by decide +kernel
theorem c53_6 : gP 53 6 = some (.iload 1, 1, 0, 0) := by decide +kernel
theorem c53_7 : gP 53 7 = some (.invokeinterface 52 106, 3, 2, 1) := by decide +kernel
theorem c53_10 : gP 53 10 = some (.pop, 1, 0, 0) := by decide +kernel
theorem c53_11 : gP 53 11 = some (.aload 0, 1, 0, 0) := by decide +kernel
theorem c53_12 : gP 53 12 = some (.getfield 15, 3, 6, 69) := by decide +kernel
theorem c53_15 : gP 53 15 = some (.iload 2, 1, 0, 0) := by decide +kernel
theorem c53_16 : gP 53 16 = some (.if_icmp .ne 21, 3, 0, 0) := by decide +kernel
theorem c53_19 : gP 53 19 = some (.iconst 0, 1, 0, 0) := by decide +kernel
theorem c53_20 : gP 53 20 = some (.ireturn, 1, 1, 0) := by decide +kernel
theorem c53_21 : gP 53 21 = some (.aload 0, 1, 0, 0) := by decide +kernel
theorem c53_22 : gP 53 22 = some (.getfield 5, 3, 6, 29) := by decide +kernel
theorem c53_25 : gP 53 25 = some (.aload 0, 1, 0, 0) := by decide +kernel
theorem c53_26 : gP 53 26 = some (.getfield 10, 3, 6, 54) := by decide +kernel
theorem c53_29 : gP 53 29 = some (.iconst 1, 1, 0, 0) := by decide +kernel
theorem c53_30 : gP 53 30 = some (.isub, 1, 0, 0) := by decide +kernel
theorem c53_31 : gP 53 31 = some (.aaload, 1, 0, 0) := by decide +kernel
theorem c53_32 : gP 53 32 = some (.dup, 1, 0, 0) := by decide +kernel
theorem c53_33 : gP 53 33 = some (.getfield 3, 3, 4, 89) := by decide +kernel
theorem c53_36 : gP 53 36 = some (.iconst 1, 1, 0, 0) := by decide +kernel
theorem c53_37 : gP 53 37 = some (.iadd, 1, 0, 0) := by decide +kernel
theorem c53_38 : gP 53 38 = some (.putfield 3, 3, 4, 0) := by decide +kernel
theorem c53_41 : gP 53 41 = some (.iconst 1, 1, 0, 0) := by decide +kernel
theorem c53_42 : gP 53 42 = some (.ireturn, 1, 1, 0) := by decide +kernel
theorem c54_0 : gP 54 0 = some (.aload 0, 1, 0, 0) := by decide +kernel
theorem c54_1 : gP 54 1 = some (.invokeinterface 38 43, 3, 1, 1) := by decide +kernel
theorem c54_4 : gP 54 4 = some (.iconst 11, 2, 0, 0) := by decide +kernel
theorem c54_6 : gP 54 6 = some (.if_icmp .ne 23, 3, 0, 0) := by decide +kernel
theorem c54_9 : gP 54 9 = some (.aload 0, 1, 0, 0) := by decide +kernel
theorem c54_10 : gP 54 10 = some (.getfield 1, 3, 1, 18) := by decide +kernel
theorem c54_13 : gP 54 13 = some (.aload 0, 1, 0, 0) := by decide +kernel
theorem c54_14 : gP 54 14 = some (.invokeinterface 39 78, 3, 1, 1) := by decide +kernel
theorem c54_17 : gP 54 17 = some (.invokeinterface 53 119, 3, 2, 1) := by decide +kernel
theorem c54_20 : gP 54 20 = some (.ifCond .ne 28, 3, 0, 0) := by decide +kernel
theorem c54_23 : gP 54 23 = some (.aload 0, 1, 0, 0) := by decide +kernel
theorem c54_24 : gP 54 24 = some (.invokeinterface 43 56, 3, 1, 1) := by decide +kernel
theorem c54_27 : gP 54 27 = some (.ireturn, 1, 1, 0) := by decide +kernel
theorem c54_28 : gP 54 28 = some (.aload 0, 1, 0, 0) := by decide +kernel
theorem c54_29 : gP 54 29 = some (.dup, 1, 0, 0) := by decide +kernel
theorem c54_30 : gP 54 30 = some (.getfield 2, 3, 1, 31) := by decide +kernel
theorem c54_33 : gP 54 33 = some (.iconst 1, 1, 0, 0) := by decide +kernel
theorem c54_34 : gP 54 34 = some (.iadd, 1, 0, 0) := by decide +kernel
theorem c54_35 : gP 54 35 = some (.putfield 2, 3, 1, 0) := by decide +kernel
theorem c54_38 : gP 54 38 = some (.iconst 1, 1, 0, 0) := by decide +kernel
theorem c54_39 : gP 54 39 = some (.ireturn, 1, 1, 0) := by decide +kernel
theorem c55_0 : gP 55 0 = some (.aload 0, 1, 0, 0) := by decide +kernel
theorem c55_1 : gP 55 1 = some (.invokeinterface 38 43, 3, 1, 1) := by decide +kernel
theorem c55_4 : gP 55 4 = some (.iconst 41, 2, 0, 0) := by decide +kernel
theorem c55_6 : gP 55 6 = some (.if_icmp .ne 11, 3, 0, 0) := by decide +kernel
theorem c55_9 : gP 55 9 = some (.iconst 1, 1, 0, 0) := by decide +kernel
theorem c55_10 : gP 55 10 = some (.ireturn, 1, 1, 0) := by decide +kernel
theorem c55_11 : gP 55 11 = some (.aload 0, 1, 0, 0) := by decide +kernel
theorem c55_12 : gP 55 12 = some (.invokeinterface 54 116, 3, 1, 1) := by decide +kernel
theorem c55_15 : gP 55 15 = some (.ifCond .ne 20, 3, 0, 0) := by decide +kernel
theorem c55_18 : gP 55 18 = some (.iconst 0, 1, 0, 0) := by decide +kernel
theorem c55_19 : gP 55 19 = some (.ireturn, 1, 1, 0) := by decide +kernel
theorem c55_20 : gP 55 20 = some (.aload 0, 1, 0, 0) := by decide +kernel
theorem c55_21 : gP 55 21 = some (.invokeinterface 38 43, 3, 1, 1) := by decide +kernel
theorem c55_24 : gP 55 24 = some (.iconst 44, 2, 0, 0) := by decide +kernel
theorem c55_26 : gP 55 26 = some (.if_icmp .eq 31, 3, 0, 0) := by decide +kernel
theorem c55_29 : gP 55 29 = some (.iconst 1, 1, 0, 0) := by decide +kernel
theorem c55_30 : gP 55 30 = some (.ireturn, 1, 1, 0) := by decide +kernel
theorem c55_31 : gP 55 31 = some (.aload 0, 1, 0, 0) := by decide +kernel
theorem c55_32 : gP 55 32 = some (.dup, 1, 0, 0) := by decide +kernel
theorem c55_33 : gP 55 33 = some (.getfield 2, 3, 1, 31) := by decide +kernel
theorem c55_36 : gP 55 36 = some (.iconst 1, 1, 0, 0) := by decide +kernel
theorem c55_37 : gP 55 37 = some (.iadd, 1, 0, 0) := by decide +kernel
theorem c55_38 : gP 55 38 = some (.putfield 2, 3, 1, 0) := by decide +kernel
theorem c55_41 : gP 55 41 = some (.aload 0, 1, 0, 0) := by decide +kernel
theorem c55_42 : gP 55 42 = some (.invokeinterface 54 116, 3, 1, 1) := by decide +kernel
theorem c55_45 : gP 55 45 = some (.ireturn, 1, 1, 0) := by decide +kernel
theorem c56_0 : gP 56 0 = some (.aload 0, 1, 0, 0) := by decide +kernel
theorem c56_1 : gP 56 1 = some (.getfield 6, 3, 6, 35) := by decide +kernel
theorem c56_4 : gP 56 4 = some (.aload 0, 1, 0, 0) := by decide +kernel
theorem c56_5 : gP 56 5 = some (.getfield 16, 3, 6, 72) := by decide +kernel
theorem c56_8 : gP 56 8 = some (.aaload, 1, 0, 0) := by decide +kernel
theorem c56_9 : gP 56 9 = some (.astore 1, 1, 0, 0) := by decide +kernel
theorem c56_10 : gP 56 10 = some (.aload 1, 1, 0, 0) := by decide +kernel
theorem c56_11 : gP 56 11 = some (.aload 0, 1, 0, 0) := by decide +kernel
theorem c56_12 : gP 56 12 = some (.getfield 10, 3, 6, 54) := by decide +kernel
theorem c56_15 : gP 56 15 = some (.iconst 1, 1, 0, 0) := by decide +kernel
theorem c56_16 : gP 56 16 = some (.isub, 1, 0, 0) := by decide +kernel
theorem c56_17 : gP 56 17 = some (.putfield 1, 3, 5, 0) := by decide +kernel
theorem c56_20 : gP 56 20 = some (.aload 1, 1, 0, 0) := by decide +kernel
theorem c56_21 : gP 56 21 = some (.iconst (-1), 1, 0, 0) := by decide +kernel
theorem c56_22 : gP 56 22 = some (.putfield 2, 3, 5, 0) := by decide +kernel
theorem c56_25 : gP 56 25 = some (.aload 1, 1, 0, 0) := by decide +kernel
theorem c56_26 : gP 56 26 = some (.iconst 0, 1, 0, 0) := by decide +kernel
theorem c56_27 : gP 56 27 = some (.putfield 8, 3, 5, 0) := by decide +kernel
theorem c56_30 : gP 56 30 = some (.aload 0, 1, 0, 0) := by decide +kernel
theorem c56_31 : gP 56 31 = some (.dup, 1, 0, 0) := by decide +kernel
theorem c56_32 : gP 56 32 = some (.getfield 16, 3, 6, 72) := by decide +kernel
theorem c56_35 : gP 56 35 = some (.iconst 1, 1, 0, 0) := by decide +kernel
theorem c56_36 : gP 56 36 = some (.iadd, 1, 0, 0) := by decide +kernel
theorem c56_37 : gP 56 37 = some (.putfield 16, 3, 6, 0) := by decide +kernel
theorem c56_40 : gP 56 40 = some (.aload 1, 1, 0, 0) := by decide +kernel
theorem c56_41 : gP 56 41 = some (.areturn, 1, 0, 0) := by decide +kernel
theorem c57_0 : gP 57 0 = some (.aload 0, 1, 0, 0) := by decide +kernel
theorem c57_1 : gP 57 1 = some (.getfield 2, 3, 4, 9) := by decide +kernel
theorem c57_4 : gP 57 4 = some (.iconst 1, 1, 0, 0) := by decide +kernel
theorem c57_5 : gP 57 5 = some (.iadd, 1, 0, 0) := by decide +kernel
theorem c57_6 : gP 57 6 = some (.ireturn, 1, 0, 0) := by decide +kernel
theorem c58_0 : gP 58 0 = some (.iconst (-1), 1, 0, 0) := by decide +kernel
theorem c58_1 : gP 58 1 = some (.istore 1, 1, 0, 0) := by decide +kernel
theorem c58_2 : gP 58 2 = some (.aload 0, 1, 0, 0) := by decide +kernel
theorem c58_3 : gP 58 3 = some (.invokeinterface 38 43, 3, 1, 1) := by decide +kernel
theorem c58_6 : gP 58 6 = some (.iconst 10, 2, 0, 0) := by decide +kernel
theorem c58_8 : gP 58 8 = some (.if_icmp .ne 35, 3, 0, 0) := by decide +kernel
theorem c58_11 : gP 58 11 = some (.aload 0, 1, 0, 0) := by decide +kernel
theorem c58_12 : gP 58 12 = some (.getfield 1, 3, 1, 18) := by decide +kernel
theorem c58_15 : gP 58 15 = some (.getfield 5, 3, 6, 92) := by decide +kernel
theorem c58_18 : gP 58 18 = some (.aload 0, 1, 0, 0) := by decide +kernel
theorem c58_19 : gP 58 19 = some (.getfield 1, 3, 1, 18) := by decide +kernel
theorem c58_22 : gP 58 22 = some (.getfield 10, 3, 6, 96) := by decide +kernel
theorem c58_25 : gP 58 25 = some (.iconst 1, 1, 0, 0) := by decide +kernel
theorem c58_26 : gP 58 26 = some (.isub, 1, 0, 0) := by decide +kernel
theorem c58_27 : gP 58 27 = some (.aaload, 1, 0, 0) := by decide +kernel
theorem c58_28 : gP 58 28 = some (.invokeinterface 57 162, 3, 1, 1) := by decide +kernel
theorem c58_31 : gP 58 31 = some (.istore 1, 1, 0, 0) := by decide +kernel
theorem c58_32 : gP 58 32 = some (.goto 56, 3, 0, 0) := by decide +kernel
theorem c58_35 : gP 58 35 = some (.aload 0, 1, 0, 0) := by decide +kernel
theorem c58_36 : gP 58 36 = some (.invokeinterface 38 43, 3, 1, 1) := by decide +kernel
theorem c58_39 : gP 58 39 = some (.iconst 11, 2, 0, 0) := by decide +kernel
theorem c58_41 : gP 58 41 = some (.if_icmp .ne 56, 3, 0, 0) := by decide +kernel
theorem c58_44 : gP 58 44 = some (.aload 0, 1, 0, 0) := by decide +kernel
theorem c58_45 : gP 58 45 = some (.getfield 1, 3, 1, 18) := by decide +kernel
theorem c58_48 : gP 58 48 = some (.aload 0, 1, 0, 0) := by decide +kernel
theorem c58_49 : gP 58 49 = some (.invokeinterface 39 78, 3, 1, 1) := by decide +kernel
theorem c58_52 : gP 58 52 = some (.invokeinterface 52 165, 3, 2, 1) := by decide +kernel
theorem c58_55 : gP 58 55 = some (.istore 1, 1, 0, 0) := by decide +kernel
theorem c58_56 : gP 58 56 = some (.iload 1, 1, 0, 0) := by decide +kernel
theorem c58_57 : gP 58 57 = some (.iconst (-1), 1, 0, 0) := by decide +kernel
theorem c58_58 : gP 58 58 = some (.if_icmp .ne 69, 3, 0, 0) := by decide +kernel
theorem c58_61 : gP 58 61 = some (.aload 0, 1, 0, 0) := by decide +kernel
theorem c58_62 : gP 58 62 = some (.invokeinterface 43 56, 3, 1, 1) := by decide +kernel
theorem c58_65 : gP 58 65 = some (.pop, 1, 0, 0) := by decide +kernel
theorem c58_66 : gP 58 66 = some (.goto 79, 3, 0, 0) := by decide +kernel
theorem c58_69 : gP 58 69 = some (.aload 0, 1, 0, 0) := by decide +kernel
theorem c58_70 : gP 58 70 = some (.dup, 1, 0, 0) := by decide +kernel
theorem c58_71 : gP 58 71 = some (.getfield 2, 3, 1, 31) := by decide +kernel
theorem c58_74 : gP 58 74 = some (.iconst 1, 1, 0, 0) := by decide +kernel
theorem c58_75 : gP 58 75 = some (.iadd, 1, 0, 0) := by decide +kernel
theorem c58_76 : gP 58 76 = some (.putfield 2, 3, 1, 0) := by decide +kernel
theorem c58_79 : gP 58 79 = some (.iload 1, 1, 0, 0) := by decide +kernel
theorem c58_80 : gP 58 80 = some (.ireturn, 1, 0, 0) := by decide +kernel
theorem c59_0 : gP 59 0 = some (.aload 1, 1, 0, 0) := by decide +kernel
theorem c59_1 : gP 59 1 = some (.aload 0, 1, 0, 0) := by decide +kernel
theorem c59_2 : gP 59 2 = some (.invokeinterface 38 43, 3, 1, 1) := by decide +kernel
theorem c59_5 : gP 59 5 = some (.iconst 6, 2, 0, 0) := by decide +kernel
theorem c59_7 : gP 59 7 = some (.if_icmp .ne 14, 3, 0, 0) := by decide +kernel
theorem c59_10 : gP 59 10 = some (.iconst 0, 1, 0, 0) := by decide +kernel
theorem c59_11 : gP 59 11 = some (.goto 15, 3, 0, 0) := by decide +kernel
theorem c59_14 : gP 59 14 = some (.iconst 1, 1, 0, 0) := by decide +kernel
theorem c59_15 : gP 59 15 = some (.putfield 0, 3, 5, 0) := by decide +kernel
theorem c59_18 : gP 59 18 = some (.aload 0, 1, 0, 0) := by decide +kernel
theorem c59_19 : gP 59 19 = some (.dup, 1, 0, 0) := by decide +kernel
theorem c59_20 : gP 59 20 = some (.getfield 2, 3, 1, 31) := by decide +kernel
theorem c59_23 : gP 59 23 = some (.iconst 1, 1, 0, 0) := by decide +kernel
theorem c59_24 : gP 59 24 = some (.iadd, 1, 0, 0) := by decide +kernel
theorem c59_25 : gP 59 25 = some (.putfield 2, 3, 1, 0) := by decide +kernel
theorem c59_28 : gP 59 28 = some (.aload 1, 1, 0, 0) := by decide +kernel
theorem c59_29 : gP 59 29 = some (.aload 0, 1, 0, 0) := by decide +kernel
theorem c59_30 : gP 59 30 = some (.invokeinterface 58 144, 3, 1, 1) := by decide +kernel
theorem c59_33 : gP 59 33 = some (.putfield 3, 3, 5, 0) := by decide +kernel
theorem c59_36 : gP 59 36 = some (.aload 1, 1, 0, 0) := by decide +kernel
theorem c59_37 : gP 59 37 = some (.getfield 3, 3, 5, 147) := by decide +kernel
theorem c59_40 : gP 59 40 = some (.iconst (-1), 1, 0, 0) := by decide +kernel
theorem c59_41 : gP 59 41 = some (.if_icmp .eq 54, 3, 0, 0) := by decide +kernel
theorem c59_44 : gP 59 44 = some (.aload 0, 1, 0, 0) := by decide +kernel
theorem c59_45 : gP 59 45 = some (.iload 2, 1, 0, 0) := by decide +kernel
theorem c59_46 : gP 59 46 = some (.iconst 1, 1, 0, 0) := by decide +kernel
theorem c59_47 : gP 59 47 = some (.iadd, 1, 0, 0) := by decide +kernel
theorem c59_48 : gP 59 48 = some (.invokeinterface 69 110, 3, 2, 1) := by decide +kernel
theorem c59_51 : gP 59 51 = some (.ifCond .ne 56, 3, 0, 0) := by decide +kernel
theorem c59_54 : gP 59 54 = some (.iconst 0, 1, 0, 0) := by decide +kernel
theorem c59_55 : gP 59 55 = some (.ireturn, 1, 1, 0) := by decide +kernel
theorem c59_56 : gP 59 56 = some (.aload 1, 1, 0, 0) := by decide +kernel
theorem c59_57 : gP 59 57 = some (.aload 0, 1, 0, 0) := by decide +kernel
theorem c59_58 : gP 59 58 = some (.getfield 1, 3, 1, 18) := by decide +kernel
theorem c59_61 : gP 59 61 = some (.getfield 16, 3, 6, 99) := by decide +kernel
theorem c59_64 : gP 59 64 = some (.putfield 11, 3, 5, 0) := by decide +kernel
theorem c59_67 : gP 59 67 = some (.aload 1, 1, 0, 0) := by decide +kernel
theorem c59_68 : gP 59 68 = some (.getfield 0, 3, 5, 142) := by decide +kernel
theorem c59_71 : gP 59 71 = some (.iconst 1, 1, 0, 0) := by decide +kernel
theorem c59_72 : gP 59 72 = some (.if_icmp .eq 84, 3, 0, 0) := by decide +kernel
theorem c59_75 : gP 59 75 = some (.aload 0, 1, 0, 0) := by decide +kernel
theorem c59_76 : gP 59 76 = some (.invokeinterface 38 43, 3, 1, 1) := by decide +kernel
theorem c59_79 : gP 59 79 = some (.iconst 7, 2, 0, 0) := by decide +kernel
theorem c59_81 : gP 59 81 = some (.if_icmp .eq 86, 3, 0, 0) := by decide +kernel
theorem c59_84 : gP 59 84 = some (.iconst 1, 1, 0, 0) := by decide +kernel
theorem c59_85 : gP 59 85 = some (.ireturn, 1, 1, 0) := by decide +kernel
theorem c59_86 : gP 59 86 = some (.aload 0, 1, 0, 0) := by decide +kernel
theorem c59_87 : gP 59 87 = some (.dup, 1, 0, 0) := by decide +kernel
theorem c59_88 : gP 59 88 = some (.getfield 2, 3, 1, 31) := by decide +kernel
theorem c59_91 : gP 59 91 = some (.iconst 1, 1, 0, 0) := by decide +kernel
theorem c59_92 : gP 59 92 = some (.iadd, 1, 0, 0) := by decide +kernel
theorem c59_93 : gP 59 93 = some (.putfield 2, 3, 1, 0) := by decide +kernel
theorem c59_96 : gP 59 96 = some (.aload 0, 1, 0, 0) := by decide +kernel
theorem c59_97 : gP 59 97 = some (.iload 2, 1, 0, 0) := by decide +kernel
theorem c59_98 : gP 59 98 = some (.iconst 1, 1, 0, 0) := by decide +kernel
theorem c59_99 : gP 59 99 = some (.iadd, 1, 0, 0) := by decide +kernel
theorem c59_100 : gP 59 100 = some (.invokeinterface 69 110, 3, 2, 1) := by decide +kernel
theorem c59_103 : gP 59 103 = some (.ireturn, 1, 1, 0) := by decide +kernel
theorem c60_0 : gP 60 0 = some (.aload 1, 1, 0, 0) := by decide +kernel
theorem c60_1 : gP 60 1 = some (.iconst 2, 1, 0, 0) := by decide +kernel
theorem c60_2 : gP 60 2 = some (.putfield 0, 3, 5, 0) := by decide +kernel
theorem c60_5 : gP 60 5 = some (.aload 1, 1, 0, 0) := by decide +kernel
theorem c60_6 : gP 60 6 = some (.aload 0, 1, 0, 0) := by decide +kernel
theorem c60_7 : gP 60 7 = some (.getfield 1, 3, 1, 18) := by decide +kernel
theorem c60_10 : gP 60 10 = some (.getfield 5, 3, 6, 92) := by decide +kernel
theorem c60_13 : gP 60 13 = some (.aload 1, 1, 0, 0) := by decide +kernel
theorem c60_14 : gP 60 14 = some (.getfield 1, 3, 5, 153) := by decide +kernel
theorem c60_17 : gP 60 17 = some (.aaload, 1, 0, 0) := by decide +kernel
theorem c60_18 : gP 60 18 = some (.getfield 2, 3, 4, 156) := by decide +kernel
theorem c60_21 : gP 60 21 = some (.putfield 2, 3, 5, 0) := by decide +kernel
theorem c60_24 : gP 60 24 = some (.aload 0, 1, 0, 0) := by decide +kernel
theorem c60_25 : gP 60 25 = some (.dup, 1, 0, 0) := by decide +kernel
theorem c60_26 : gP 60 26 = some (.getfield 2, 3, 1, 31) := by decide +kernel
theorem c60_29 : gP 60 29 = some (.iconst 1, 1, 0, 0) := by decide +kernel
theorem c60_30 : gP 60 30 = some (.iadd, 1, 0, 0) := by decide +kernel
theorem c60_31 : gP 60 31 = some (.putfield 2, 3, 1, 0) := by decide +kernel
theorem c60_34 : gP 60 34 = some (.aload 1, 1, 0, 0) := by decide +kernel
theorem c60_35 : gP 60 35 = some (.aload 0, 1, 0, 0) := by decide +kernel
theorem c60_36 : gP 60 36 = some (.invokeinterface 58 144, 3, 1, 1) := by decide +kernel
theorem c60_39 : gP 60 39 = some (.putfield 3, 3, 5, 0) := by decide +kernel
theorem c60_42 : gP 60 42 = some (.aload 1, 1, 0, 0) := by decide +kernel
theorem c60_43 : gP 60 43 = some (.getfield 3, 3, 5, 147) := by decide +kernel
theorem c60_46 : gP 60 46 = some (.iconst (-1), 1, 0, 0) := by decide +kernel
theorem c60_47 : gP 60 47 = some (.if_icmp .eq 54, 3, 0, 0) := by decide +kernel
theorem c60_50 : gP 60 50 = some (.iconst 1, 1, 0, 0) := by decide +kernel
theorem c60_51 : gP 60 51 = some (.goto 55, 3, 0, 0) := by decide +kernel
theorem c60_54 : gP 60 54 = some (.iconst 0, 1, 0, 0) := by decide +kernel
theorem c60_55 : gP 60 55 = some (.ireturn, 1, 1, 0) := by decide +kernel
theorem c61_0 : gP 61 0 = some (.aload 0, 1, 0, 0) := by decide +kernel
theorem c61_1 : gP 61 1 = some (.getfield 14, 3, 6, 66) := by decide +kernel
theorem c61_4 : gP 61 4 = some (.iconst 12, 2, 0, 0) := by decide +kernel
theorem c61_6 : gP 61 6 = some (.if_icmp .ne 11, 3, 0, 0) := by decide +kernel
theorem c61_9 : gP 61 9 = some (.iconst 0, 1, 0, 0) := by decide +kernel
theorem c61_10 : gP 61 10 = some (.ireturn, 1, 1, 0) := by decide +kernel
theorem c61_11 : gP 61 11 = some (.aload 1, 1, 0, 0) := by decide +kernel
theorem c61_12 : gP 61 12 = some (.iconst 5, 1, 0, 0) := by decide +kernel
theorem c61_13 : gP 61 13 = some (.putfield 0, 3, 5, 0) := by decide +kernel
theorem c61_16 : gP 61 16 = some (.aload 1, 1, 0, 0) := by decide +kernel
theorem c61_17 : gP 61 17 = some (.aload 0, 1, 0, 0) := by decide +kernel
theorem c61_18 : gP 61 18 = some (.getfield 14, 3, 6, 66) := by decide +kernel
theorem c61_21 : gP 61 21 = some (.putfield 6, 3, 5, 0) := by decide +kernel
theorem c61_24 : gP 61 24 = some (.aload 0, 1, 0, 0) := by decide +kernel
theorem c61_25 : gP 61 25 = some (.dup, 1, 0, 0) := by decide +kernel
theorem c61_26 : gP 61 26 = some (.getfield 14, 3, 6, 66) := by decide +kernel
theorem c61_29 : gP 61 29 = some (.iconst 1, 1, 0, 0) := by decide +kernel
theorem c61_30 : gP 61 30 = some (.iadd, 1, 0, 0) := by decide +kernel
theorem c61_31 : gP 61 31 = some (.putfield 14, 3, 6, 0) := by decide +kernel
theorem c61_34 : gP 61 34 = some (.iconst 1, 1, 0, 0) := by decide +kernel
theorem c61_35 : gP 61 35 = some (.ireturn, 1, 1, 0) := by decide +kernel
theorem c62_0 : gP 62 0 = some (.aload 0, 1, 0, 0) := by decide +kernel
theorem c62_1 : gP 62 1 = some (.iload 1, 1, 0, 0) := by decide +kernel
theorem c62_2 : gP 62 2 = some (.invokeinterface 37 74, 3, 2, 1) := by decide +kernel
theorem c62_5 : gP 62 5 = some (.ifCond .ne 10, 3, 0, 0) := by decide +kernel
theorem c62_8 : gP 62 8 = some (.iconst 0, 1, 0, 0) := by decide +kernel
theorem c62_9 : gP 62 9 = some (.ireturn, 1, 1, 0) := by decide +kernel
theorem c62_10 : gP 62 10 = some (.aload 2, 1, 0, 0) := by decide +kernel
theorem c62_11 : gP 62 11 = some (.aload 0, 1, 0, 0) := by decide +kernel
theorem c62_12 : gP 62 12 = some (.getfield 0, 3, 1, 12) := by decide +kernel
theorem c62_15 : gP 62 15 = some (.getfield 3, 3, 0, 68) := by decide +kernel
theorem c62_18 : gP 62 18 = some (.aload 0, 1, 0, 0) := by decide +kernel
theorem c62_19 : gP 62 19 = some (.getfield 2, 3, 1, 31) := by decide +kernel
theorem c62_22 : gP 62 22 = some (.iaload, 1, 0, 0) := by decide +kernel
theorem c62_23 : gP 62 23 = some (.putfield 4, 3, 5, 0) := by decide +kernel
theorem c62_26 : gP 62 26 = some (.aload 2, 1, 0, 0) := by decide +kernel
theorem c62_27 : gP 62 27 = some (.aload 0, 1, 0, 0) := by decide +kernel
theorem c62_28 : gP 62 28 = some (.getfield 0, 3, 1, 12) := by decide +kernel
theorem c62_31 : gP 62 31 = some (.getfield 2, 3, 0, 71) := by decide +kernel
theorem c62_34 : gP 62 34 = some (.aload 0, 1, 0, 0) := by decide +kernel
theorem c62_35 : gP 62 35 = some (.getfield 2, 3, 1, 31) := by decide +kernel
theorem c62_38 : gP 62 38 = some (.iaload, 1, 0, 0) := by decide +kernel
theorem c62_39 : gP 62 39 = some (.putfield 5, 3, 5, 0) := by decide +kernel
theorem c62_42 : gP 62 42 = some (.aload 0, 1, 0, 0) := by decide +kernel
theorem c62_43 : gP 62 43 = some (.iconst 11, 2, 0, 0) := by decide +kernel
theorem c62_45 : gP 62 45 = some (.invokeinterface 37 74, 3, 2, 1) := by decide +kernel
theorem c62_48 : gP 62 48 = some (.ireturn, 1, 1, 0) := by decide +kernel
theorem c63_0 : gP 63 0 = some (.aload 0, 1, 0, 0) := by decide +kernel
theorem c63_1 : gP 63 1 = some (.getfield 13, 3, 6, 63) := by decide +kernel
theorem c63_4 : gP 63 4 = some (.iconst 8, 2, 0, 0) := by decide +kernel
theorem c63_6 : gP 63 6 = some (.if_icmp .ne 11, 3, 0, 0) := by decide +kernel
theorem c63_9 : gP 63 9 = some (.iconst 0, 1, 0, 0) := by decide +kernel
theorem c63_10 : gP 63 10 = some (.ireturn, 1, 1, 0) := by decide +kernel
theorem c63_11 : gP 63 11 = some (.aload 1, 1, 0, 0) := by decide +kernel
theorem c63_12 : gP 63 12 = some (.iconst 7, 2, 0, 0) := by decide +kernel
theorem c63_14 : gP 63 14 = some (.putfield 0, 3, 5, 0) := by decide +kernel
theorem c63_17 : gP 63 17 = some (.aload 0, 1, 0, 0) := by decide +kernel
theorem c63_18 : gP 63 18 = some (.getfield 8, 3, 6, 42) := by decide +kernel
theorem c63_21 : gP 63 21 = some (.aload 0, 1, 0, 0) := by decide +kernel
theorem c63_22 : gP 63 22 = some (.getfield 13, 3, 6, 63) := by decide +kernel
theorem c63_25 : gP 63 25 = some (.aload 0, 1, 0, 0) := by decide +kernel
theorem c63_26 : gP 63 26 = some (.getfield 16, 3, 6, 72) := by decide +kernel
theorem c63_29 : gP 63 29 = some (.iconst 1, 1, 0, 0) := by decide +kernel
theorem c63_30 : gP 63 30 = some (.isub, 1, 0, 0) := by decide +kernel
theorem c63_31 : gP 63 31 = some (.iastore, 1, 0, 0) := by decide +kernel
theorem c63_32 : gP 63 32 = some (.aload 0, 1, 0, 0) := by decide +kernel
theorem c63_33 : gP 63 33 = some (.dup, 1, 0, 0) := by decide +kernel
theorem c63_34 : gP 63 34 = some (.getfield 13, 3, 6, 63) := by decide +kernel
theorem c63_37 : gP 63 37 = some (.iconst 1, 1, 0, 0) := by decide +kernel
theorem c63_38 : gP 63 38 = some (.iadd, 1, 0, 0) := by decide +kernel
theorem c63_39 : gP 63 39 = some (.putfield 13, 3, 6, 0) := by decide +kernel
theorem c63_42 : gP 63 42 = some (.iconst 1, 1, 0, 0) := by decide +kernel
theorem c63_43 : gP 63 43 = some (.ireturn, 1, 1, 0) := by decide +kernel
theorem c64_0 : gP 64 0 = some (.aload 0, 1, 0, 0) := by decide +kernel
theorem c64_1 : gP 64 1 = some (.invokeinterface 38 43, 3, 1, 1) := by decide +kernel
theorem c64_4 : gP 64 4 = some (.lookupswitch 132 #[(4, 36), (5, 61), (40, 73)], 36, 0, 0) := by decide +kernel
theorem c64_40 : gP 64 40 = some (.aload 0, 1, 0, 0) := by decide +kernel
theorem c64_41 : gP 64 41 = some (.getfield 1, 3, 1, 18) := by decide +kernel
theorem c64_44 : gP 64 44 = some (.aload 1, 1, 0, 0) := by decide +kernel
theorem c64_45 : gP 64 45 = some (.invokeinterface 61 198, 3, 2, 1) := by decide +kernel
theorem c64_48 : gP 64 48 = some (.ifCond .eq 60, 3, 0, 0) := by decide +kernel
theorem c64_51 : gP 64 51 = some (.aload 0, 1, 0, 0) := by decide +kernel
theorem c64_52 : gP 64 52 = some (.iconst 4, 1, 0, 0) := by decide +kernel
theorem c64_53 : gP 64 53 = some (.aload 1, 1, 0, 0) := by decide +kernel
theorem c64_54 : gP 64 54 = some (.invokeinterface 62 172, 3, 3, 1) := by decide +kernel
theorem c64_57 : gP 64 57 = some (.goto 64, 3, 0, 0) := by decide +kernel
theorem c64_60 : gP 64 60 = some (.aload 0, 1, 0, 0) := by decide +kernel
theorem c64_61 : gP 64 61 = some (.invokeinterface 43 56, 3, 1, 1) := by decide +kernel
theorem c64_64 : gP 64 64 = some (.ireturn, 1, 1, 0) := by decide +kernel
theorem c64_65 : gP 64 65 = some (.aload 1, 1, 0, 0) := by decide +kernel
theorem c64_66 : gP 64 66 = some (.iconst 6, 2, 0, 0) := by decide +kernel
theorem c64_68 : gP 64 68 = some (.putfield 0, 3, 5, 0) := by decide +kernel
theorem c64_71 : gP 64 71 = some (.aload 0, 1, 0, 0) := by decide +kernel
theorem c64_72 : gP 64 72 = some (.iconst 5, 1, 0, 0) := by decide +kernel
theorem c64_73 : gP 64 73 = some (.invokeinterface 37 74, 3, 2, 1) := by decide +kernel
theorem c64_76 : gP 64 76 = some (.ireturn, 1, 1, 0) := by decide +kernel
theorem c64_77 : gP 64 77 = some (.aload 0, 1, 0, 0) := by decide +kernel
theorem c64_78 : gP 64 78 = some (.getfield 1, 3, 1, 18) := by decide +kernel
theorem c64_81 : gP 64 81 = some (.aload 1, 1, 0, 0) := by decide +kernel
theorem c64_82 : gP 64 82 = some (.invokeinterface 63 201, 3, 2, 1) := by decide +kernel
theorem c64_85 : gP 64 85 = some (.ifCond .ne 93, 3, 0, 0) := by decide +kernel
theorem c64_88 : gP 64 88 = some (.aload 0, 1, 0, 0) := by decide +kernel
theorem c64_89 : gP 64 89 = some (.invokeinterface 43 56, 3, 1, 1) := by decide +kernel
theorem c64_92 : gP 64 92 = some (.ireturn, 1, 1, 0) := by decide +kernel
theorem c64_93 : gP 64 93 = some (.aload 0, 1, 0, 0) := by decide +kernel
theorem c64_94 : gP 64 94 = some (.iconst 40, 2, 0, 0) := by decide +kernel
theorem c64_96 : gP 64 96 = some (.aload 1, 1, 0, 0) := by decide +kernel
theorem c64_97 : gP 64 97 = some (.invokeinterface 62 172, 3, 3, 1) := by decide +kernel
theorem c64_100 : gP 64 100 = some (.ifCond .eq 112, 3, 0, 0) := by decide +kernel
theorem c64_103 : gP 64 103 = some (.aload 0, 1, 0, 0) := by decide +kernel
theorem c64_104 : gP 64 104 = some (.iconst 41, 2, 0, 0) := by decide +kernel
theorem c64_106 : gP 64 106 = some (.invokeinterface 37 74, 3, 2, 1) := by decide +kernel
theorem c64_109 : gP 64 109 = some (.ifCond .ne 114, 3, 0, 0) := by decide +kernel
theorem c64_112 : gP 64 112 = some (.iconst 0, 1, 0, 0) := by decide +kernel
theorem c64_113 : gP 64 113 = some (.ireturn, 1, 1, 0) := by decide +kernel
theorem c64_114 : gP 64 114 = some (.aload 1, 1, 0, 0) := by decide +kernel
theorem c64_115 : gP 64 115 = some (.aload 0, 1, 0, 0) := by decide +kernel
theorem c64_116 : gP 64 116 = some (.invokeinterface 58 144, 3, 1, 1) := by decide +kernel
theorem c64_119 : gP 64 119 = some (.putfield 3, 3, 5, 0) := by decide +kernel
theorem c64_122 : gP 64 122 = some (.aload 1, 1, 0, 0) := by decide +kernel
theorem c64_123 : gP 64 123 = some (.getfield 3, 3, 5, 147) := by decide +kernel
theorem c64_126 : gP 64 126 = some (.iconst (-1), 1, 0, 0) := by decide +kernel
theorem c64_127 : gP 64 127 = some (.if_icmp .eq 134, 3, 0, 0) := by decide +kernel
theorem c64_130 : gP 64 130 = some (.iconst 1, 1, 0, 0) := by decide +kernel
theorem c64_131 : gP 64 131 = some (.goto 135, 3, 0, 0) := by decide +kernel
theorem c64_134 : gP 64 134 = some (.iconst 0, 1, 0, 0) := by decide +kernel
theorem c64_135 : gP 64 135 = some (.ireturn, 1, 1, 0) := by decide +kernel
theorem c64_136 : gP 64 136 = some (.aload 1, 1, 0, 0) := by decide +kernel
theorem c64_137 : gP 64 137 = some (.aload 0, 1, 0, 0) := by decide +kernel
theorem c64_138 : gP 64 138 = some (.invokeinterface 58 144, 3, 1, 1) := by decide +kernel
theorem c64_141 : gP 64 141 = some (.putfield 3, 3, 5, 0) := by decide +kernel
theorem c64_144 : gP 64 144 = some (.aload 1, 1, 0, 0) := by decide +kernel
theorem c64_145 : gP 64 145 = some (.aload 0, 1, 0, 0) := by decide +kernel
theorem c64_146 : gP 64 146 = some (.invokeinterface 38 43, 3, 1, 1) := by decide +kernel
theorem c64_149 : gP 64 149 = some (.iconst 46, 2, 0, 0) := by decide +kernel
theorem c64_151 : gP 64 151 = some (.if_icmp .ne 159, 3, 0, 0) := by decide +kernel
theorem c64_154 : gP 64 154 = some (.iconst 9, 2, 0, 0) := by decide +kernel
theorem c64_156 : gP 64 156 = some (.goto 161, 3, 0, 0) := by decide +kernel
theorem c64_159 : gP 64 159 = some (.iconst 8, 2, 0, 0) := by decide +kernel
theorem c64_161 : gP 64 161 = some (.putfield 0, 3, 5, 0) := by decide +kernel
theorem c64_164 : gP 64 164 = some (.aload 1, 1, 0, 0) := by decide +kernel
theorem c64_165 : gP 64 165 = some (.getfield 3, 3, 5, 147) := by decide +kernel
theorem c64_168 : gP 64 168 = some (.iconst (-1), 1, 0, 0) := by decide +kernel
theorem c64_169 : gP 64 169 = some (.if_icmp .eq 195, 3, 0, 0) := by decide +kernel
theorem c64_172 : gP 64 172 = some (.aload 1, 1, 0, 0) := by decide +kernel
theorem c64_173 : gP 64 173 = some (.getfield 0, 3, 5, 142) := by decide +kernel
theorem c64_176 : gP 64 176 = some (.iconst 8, 2, 0, 0) := by decide +kernel
theorem c64_178 : gP 64 178 = some (.if_icmp .eq 191, 3, 0, 0) := by decide +kernel
theorem c64_181 : gP 64 181 = some (.aload 0, 1, 0, 0) := by decide +kernel
theorem c64_182 : gP 64 182 = some (.iconst 46, 2, 0, 0) := by decide +kernel
theorem c64_184 : gP 64 184 = some (.aload 1, 1, 0, 0) := by decide +kernel
theorem c64_185 : gP 64 185 = some (.invokeinterface 62 172, 3, 3, 1) := by decide +kernel
theorem c64_188 : gP 64 188 = some (.ifCond .eq 195, 3, 0, 0) := by decide +kernel
theorem c64_191 : gP 64 191 = some (.iconst 1, 1, 0, 0) := by decide +kernel
theorem c64_192 : gP 64 192 = some (.goto 196, 3, 0, 0) := by decide +kernel
theorem c64_195 : gP 64 195 = some (.iconst 0, 1, 0, 0) := by decide +kernel
theorem c64_196 : gP 64 196 = some (.ireturn, 1, 1, 0) := by decide +kernel
theorem c65_0 : gP 65 0 = some (.aload 0, 1, 0, 0) := by decide +kernel
theorem c65_1 : gP 65 1 = some (.getfield 12, 3, 6, 60) := by decide +kernel
theorem c65_4 : gP 65 4 = some (.iconst 12, 2, 0, 0) := by decide +kernel
theorem c65_6 : gP 65 6 = some (.if_icmp .ne 11, 3, 0, 0) := by decide +kernel
theorem c65_9 : gP 65 9 = some (.iconst 0, 1, 0, 0) := by decide +kernel
theorem c65_10 : gP 65 10 = some (.ireturn, 1, 1, 0) := by decide +kernel
theorem c65_11 : gP 65 11 = some (.aload 1, 1, 0, 0) := by decide +kernel
theorem c65_12 : gP 65 12 = some (.iconst 4, 1, 0, 0) := by decide +kernel
theorem c65_13 : gP 65 13 = some (.putfield 0, 3, 5, 0) := by decide +kernel
theorem c65_16 : gP 65 16 = some (.aload 1, 1, 0, 0) := by decide +kernel
theorem c65_17 : gP 65 17 = some (.aload 0, 1, 0, 0) := by decide +kernel
theorem c65_18 : gP 65 18 = some (.getfield 12, 3, 6, 60) := by decide +kernel
theorem c65_21 : gP 65 21 = some (.putfield 6, 3, 5, 0) := by decide +kernel
theorem c65_24 : gP 65 24 = some (.aload 0, 1, 0, 0) := by decide +kernel
theorem c65_25 : gP 65 25 = some (.dup, 1, 0, 0) := by decide +kernel
theorem c65_26 : gP 65 26 = some (.getfield 12, 3, 6, 60) := by decide +kernel
theorem c65_29 : gP 65 29 = some (.iconst 1, 1, 0, 0) := by decide +kernel
theorem c65_30 : gP 65 30 = some (.iadd, 1, 0, 0) := by decide +kernel
theorem c65_31 : gP 65 31 = some (.putfield 12, 3, 6, 0) := by decide +kernel
theorem c65_34 : gP 65 34 = some (.iconst 1, 1, 0, 0) := by decide +kernel
theorem c65_35 : gP 65 35 = some (.ireturn, 1, 1, 0) := by decide +kernel
theorem c66_0 : gP 66 0 = some (.aload 0, 1, 0, 0) := by decide +kernel
theorem c66_1 : gP 66 1 = some (.getfield 1, 3, 1, 18) := by decide +kernel
theorem c66_4 : gP 66 4 = some (.aload 1, 1, 0, 0) := by decide +kernel
theorem c66_5 : gP 66 5 = some (.invokeinterface 65 186, 3, 2, 1) := by decide +kernel
theorem c66_8 : gP 66 8 = some (.ifCond .ne 21, 3, 0, 0) := by decide +kernel
theorem c66_11 : gP 66 11 = some (.aload 0, 1, 0, 0) := by decide +kernel
theorem c66_12 : gP 66 12 = some (.aload 1, 1, 0, 0) := by decide +kernel
theorem c66_13 : gP 66 13 = some (.getfield 5, 3, 5, 184) := by decide +kernel
theorem c66_16 : gP 66 16 = some (.putfield 4, 3, 1, 0) := by decide +kernel
theorem c66_19 : gP 66 19 = some (.iconst 0, 1, 0, 0) := by decide +kernel
theorem c66_20 : gP 66 20 = some (.ireturn, 1, 1, 0) := by decide +kernel
theorem c66_21 : gP 66 21 = some (.aload 0, 1, 0, 0) := by decide +kernel
theorem c66_22 : gP 66 22 = some (.dup, 1, 0, 0) := by decide +kernel
theorem c66_23 : gP 66 23 = some (.getfield 2, 3, 1, 31) := by decide +kernel
theorem c66_26 : gP 66 26 = some (.iconst 1, 1, 0, 0) := by decide +kernel
theorem c66_27 : gP 66 27 = some (.iadd, 1, 0, 0) := by decide +kernel
theorem c66_28 : gP 66 28 = some (.putfield 2, 3, 1, 0) := by decide +kernel
theorem c66_31 : gP 66 31 = some (.aload 0, 1, 0, 0) := by decide +kernel
theorem c66_32 : gP 66 32 = some (.invokeinterface 38 43, 3, 1, 1) := by decide +kernel
theorem c66_35 : gP 66 35 = some (.iconst 41, 2, 0, 0) := by decide +kernel
theorem c66_37 : gP 66 37 = some (.if_icmp .eq 63, 3, 0, 0) := by decide +kernel
theorem c66_40 : gP 66 40 = some (.aload 1, 1, 0, 0) := by decide +kernel
theorem c66_41 : gP 66 41 = some (.aload 0, 1, 0, 0) := by decide +kernel
theorem c66_42 : gP 66 42 = some (.invokeinterface 58 144, 3, 1, 1) := by decide +kernel
theorem c66_45 : gP 66 45 = some (.putfield 9, 3, 5, 0) := by decide +kernel
theorem c66_48 : gP 66 48 = some (.aload 1, 1, 0, 0) := by decide +kernel
theorem c66_49 : gP 66 49 = some (.iconst 1, 1, 0, 0) := by decide +kernel
theorem c66_50 : gP 66 50 = some (.putfield 8, 3, 5, 0) := by decide +kernel
theorem c66_53 : gP 66 53 = some (.aload 1, 1, 0, 0) := by decide +kernel
theorem c66_54 : gP 66 54 = some (.getfield 9, 3, 5, 189) := by decide +kernel
theorem c66_57 : gP 66 57 = some (.iconst (-1), 1, 0, 0) := by decide +kernel
theorem c66_58 : gP 66 58 = some (.if_icmp .ne 63, 3, 0, 0) := by decide +kernel
theorem c66_61 : gP 66 61 = some (.iconst 0, 1, 0, 0) := by decide +kernel
theorem c66_62 : gP 66 62 = some (.ireturn, 1, 1, 0) := by decide +kernel
theorem c66_63 : gP 66 63 = some (.aload 1, 1, 0, 0) := by decide +kernel
theorem c66_64 : gP 66 64 = some (.getfield 8, 3, 5, 192) := by decide +kernel
theorem c66_67 : gP 66 67 = some (.iconst 1, 1, 0, 0) := by decide +kernel
theorem c66_68 : gP 66 68 = some (.if_icmp .ne 113, 3, 0, 0) := by decide +kernel
theorem c66_71 : gP 66 71 = some (.aload 0, 1, 0, 0) := by decide +kernel
theorem c66_72 : gP 66 72 = some (.invokeinterface 38 43, 3, 1, 1) := by decide +kernel
theorem c66_75 : gP 66 75 = some (.iconst 44, 2, 0, 0) := by decide +kernel
theorem c66_77 : gP 66 77 = some (.if_icmp .ne 113, 3, 0, 0) := by decide +kernel
theorem c66_80 : gP 66 80 = some (.aload 0, 1, 0, 0) := by decide +kernel
theorem c66_81 : gP 66 81 = some (.dup, 1, 0, 0) := by decide +kernel
theorem c66_82 : gP 66 82 = some (.getfield 2, 3, 1, 31) := by decide +kernel
theorem c66_85 : gP 66 85 = some (.iconst 1, 1, 0, 0) := by decide +kernel
theorem c66_86 : gP 66 86 = some (.iadd, 1, 0, 0) := by decide +kernel
theorem c66_87 : gP 66 87 = some (.putfield 2, 3, 1, 0) := by decide +kernel
theorem c66_90 : gP 66 90 = some (.aload 1, 1, 0, 0) := by decide +kernel
theorem c66_91 : gP 66 91 = some (.aload 0, 1, 0, 0) := by decide +kernel
theorem c66_92 : gP 66 92 = some (.invokeinterface 58 144, 3, 1, 1) := by decide +kernel
theorem c66_95 : gP 66 95 = some (.putfield 10, 3, 5, 0) := by decide +kernel
theorem c66_98 : gP 66 98 = some (.aload 1, 1, 0, 0) := by decide +kernel
theorem c66_99 : gP 66 99 = some (.iconst 2, 1, 0, 0) := by decide +kernel
theorem c66_100 : gP 66 100 = some (.putfield 8, 3, 5, 0) := by decide +kernel
theorem c66_103 : gP 66 103 = some (.aload 1, 1, 0, 0) := by decide +kernel
theorem c66_104 : gP 66 104 = some (.getfield 10, 3, 5, 195) := by decide +kernel
theorem c66_107 : gP 66 107 = some (.iconst (-1), 1, 0, 0) := by decide +kernel
theorem c66_108 : gP 66 108 = some (.if_icmp .ne 113, 3, 0, 0) := by decide +kernel
theorem c66_111 : gP 66 111 = some (.iconst 0, 1, 0, 0) := by decide +kernel
theorem c66_112 : gP 66 112 = some (.ireturn, 1, 1, 0) := by decide +kernel
theorem c66_113 : gP 66 113 = some (.aload 0, 1, 0, 0) := by decide +kernel
theorem c66_114 : gP 66 114 = some (.iconst 41, 2, 0, 0) := by decide +kernel
theorem c66_116 : gP 66 116 = some (.invokeinterface 37 74, 3, 2, 1) := by decide +kernel
theorem c66_119 : gP 66 119 = some (.ireturn, 1, 1, 0) := by decide +kernel
theorem c67_0 : gP 67 0 = some (.aload 1, 1, 0, 0) := by decide +kernel
theorem c67_1 : gP 67 1 = some (.iconst 3, 1, 0, 0) := by decide +kernel
theorem c67_2 : gP 67 2 = some (.putfield 0, 3, 5, 0) := by decide +kernel
theorem c67_5 : gP 67 5 = some (.aload 1, 1, 0, 0) := by decide +kernel
theorem c67_6 : gP 67 6 = some (.aload 1, 1, 0, 0) := by decide +kernel
theorem c67_7 : gP 67 7 = some (.getfield 3, 3, 5, 147) := by decide +kernel
theorem c67_10 : gP 67 10 = some (.putfield 2, 3, 5, 0) := by decide +kernel
theorem c67_13 : gP 67 13 = some (.aload 0, 1, 0, 0) := by decide +kernel
theorem c67_14 : gP 67 14 = some (.iconst 61, 2, 0, 0) := by decide +kernel
theorem c67_16 : gP 67 16 = some (.invokeinterface 37 74, 3, 2, 1) := by decide +kernel
theorem c67_19 : gP 67 19 = some (.ifCond .ne 24, 3, 0, 0) := by decide +kernel
theorem c67_22 : gP 67 22 = some (.iconst 0, 1, 0, 0) := by decide +kernel
theorem c67_23 : gP 67 23 = some (.ireturn, 1, 1, 0) := by decide +kernel
theorem c67_24 : gP 67 24 = some (.aload 1, 1, 0, 0) := by decide +kernel
theorem c67_25 : gP 67 25 = some (.aload 0, 1, 0, 0) := by decide +kernel
theorem c67_26 : gP 67 26 = some (.invokeinterface 58 144, 3, 1, 1) := by decide +kernel
theorem c67_29 : gP 67 29 = some (.putfield 3, 3, 5, 0) := by decide +kernel
theorem c67_32 : gP 67 32 = some (.aload 1, 1, 0, 0) := by decide +kernel
theorem c67_33 : gP 67 33 = some (.getfield 3, 3, 5, 147) := by decide +kernel
theorem c67_36 : gP 67 36 = some (.iconst (-1), 1, 0, 0) := by decide +kernel
theorem c67_37 : gP 67 37 = some (.if_icmp .eq 44, 3, 0, 0) := by decide +kernel
theorem c67_40 : gP 67 40 = some (.iconst 1, 1, 0, 0) := by decide +kernel
theorem c67_41 : gP 67 41 = some (.goto 45, 3, 0, 0) := by decide +kernel
theorem c67_44 : gP 67 44 = some (.iconst 0, 1, 0, 0) := by decide +kernel
theorem c67_45 : gP 67 45 = some (.ireturn, 1, 1, 0) := by decide +kernel
theorem c68_0 : gP 68 0 = some (.aload 0, 1, 0, 0) := by decide +kernel
theorem c68_1 : gP 68 1 = some (.invokeinterface 38 43, 3, 1, 1) := by decide +kernel
theorem c68_4 : gP 68 4 = some (.iconst 11, 2, 0, 0) := by decide +kernel
theorem c68_6 : gP 68 6 = some (.if_icmp .ne 13, 3, 0, 0) := by decide +kernel
theorem c68_9 : gP 68 9 = some (.iconst 1, 1, 0, 0) := by decide +kernel
theorem c68_10 : gP 68 10 = some (.goto 14, 3, 0, 0) := by decide +kernel
theorem c68_13 : gP 68 13 = some (.iconst 0, 1, 0, 0) := by decide +kernel
theorem c68_14 : gP 68 14 = some (.istore 2, 1, 0, 0) := by decide +kernel
theorem c68_15 : gP 68 15 = some (.aload 0, 1, 0, 0) := by decide +kernel
theorem c68_16 : gP 68 16 = some (.invokeinterface 58 144, 3, 1, 1) := by decide +kernel
theorem c68_19 : gP 68 19 = some (.istore 3, 1, 0, 0) := by decide +kernel
theorem c68_20 : gP 68 20 = some (.iload 3, 1, 0, 0) := by decide +kernel
theorem c68_21 : gP 68 21 = some (.iconst (-1), 1, 0, 0) := by decide +kernel
theorem c68_22 : gP 68 22 = some (.if_icmp .ne 27, 3, 0, 0) := by decide +kernel
theorem c68_25 : gP 68 25 = some (.iconst 0, 1, 0, 0) := by decide +kernel
theorem c68_26 : gP 68 26 = some (.ireturn, 1, 1, 0) := by decide +kernel
theorem c68_27 : gP 68 27 = some (.iload 2, 1, 0, 0) := by decide +kernel
theorem c68_28 : gP 68 28 = some (.ifCond .eq 44, 3, 0, 0) := by decide +kernel
theorem c68_31 : gP 68 31 = some (.aload 0, 1, 0, 0) := by decide +kernel
theorem c68_32 : gP 68 32 = some (.invokeinterface 38 43, 3, 1, 1) := by decide +kernel
theorem c68_35 : gP 68 35 = some (.iconst 61, 2, 0, 0) := by decide +kernel
theorem c68_37 : gP 68 37 = some (.if_icmp .ne 44, 3, 0, 0) := by decide +kernel
theorem c68_40 : gP 68 40 = some (.iconst 1, 1, 0, 0) := by decide +kernel
theorem c68_41 : gP 68 41 = some (.goto 45, 3, 0, 0) := by decide +kernel
theorem c68_44 : gP 68 44 = some (.iconst 0, 1, 0, 0) := by decide +kernel
theorem c68_45 : gP 68 45 = some (.istore 4, 2, 0, 0) := by decide +kernel
theorem c68_47 : gP 68 47 = some (.iload 4, 2, 0, 0) := by decide +kernel
theorem c68_49 : gP 68 49 = some (.ifCond .eq 77, 3, 0, 0) := by decide +kernel
theorem c68_52 : gP 68 52 = some (.aload 1, 1, 0, 0) := by decide +kernel
theorem c68_53 : gP 68 53 = some (.iload 3, 1, 0, 0) := by decide +kernel
theorem c68_54 : gP 68 54 = some (.putfield 2, 3, 5, 0) := by decide +kernel
theorem c68_57 : gP 68 57 = some (.aload 0, 1, 0, 0) := by decide +kernel
theorem c68_58 : gP 68 58 = some (.dup, 1, 0, 0) := by decide +kernel
theorem c68_59 : gP 68 59 = some (.getfield 2, 3, 1, 31) := by decide +kernel
theorem c68_62 : gP 68 62 = some (.iconst 1, 1, 0, 0) := by decide +kernel
theorem c68_63 : gP 68 63 = some (.iadd, 1, 0, 0) := by decide +kernel
theorem c68_64 : gP 68 64 = some (.putfield 2, 3, 1, 0) := by decide +kernel
theorem c68_67 : gP 68 67 = some (.aload 0, 1, 0, 0) := by decide +kernel
theorem c68_68 : gP 68 68 = some (.aload 1, 1, 0, 0) := by decide +kernel
theorem c68_69 : gP 68 69 = some (.invokeinterface 64 169, 3, 2, 1) := by decide +kernel
theorem c68_72 : gP 68 72 = some (.ifCond .ne 100, 3, 0, 0) := by decide +kernel
theorem c68_75 : gP 68 75 = some (.iconst 0, 1, 0, 0) := by decide +kernel
theorem c68_76 : gP 68 76 = some (.ireturn, 1, 1, 0) := by decide +kernel
theorem c68_77 : gP 68 77 = some (.aload 1, 1, 0, 0) := by decide +kernel
theorem c68_78 : gP 68 78 = some (.iload 3, 1, 0, 0) := by decide +kernel
theorem c68_79 : gP 68 79 = some (.putfield 3, 3, 5, 0) := by decide +kernel
theorem c68_82 : gP 68 82 = some (.aload 1, 1, 0, 0) := by decide +kernel
theorem c68_83 : gP 68 83 = some (.iconst 9, 2, 0, 0) := by decide +kernel
theorem c68_85 : gP 68 85 = some (.putfield 0, 3, 5, 0) := by decide +kernel
theorem c68_88 : gP 68 88 = some (.aload 0, 1, 0, 0) := by decide +kernel
theorem c68_89 : gP 68 89 = some (.iconst 46, 2, 0, 0) := by decide +kernel
theorem c68_91 : gP 68 91 = some (.aload 1, 1, 0, 0) := by decide +kernel
theorem c68_92 : gP 68 92 = some (.invokeinterface 62 172, 3, 3, 1) := by decide +kernel
theorem c68_95 : gP 68 95 = some (.ifCond .ne 100, 3, 0, 0) := by decide +kernel
theorem c68_98 : gP 68 98 = some (.iconst 0, 1, 0, 0) := by decide +kernel
theorem c68_99 : gP 68 99 = some (.ireturn, 1, 1, 0) := by decide +kernel
theorem c68_100 : gP 68 100 = some (.aload 1, 1, 0, 0) := by decide +kernel
theorem c68_101 : gP 68 101 = some (.getfield 0, 3, 5, 142) := by decide +kernel
theorem c68_104 : gP 68 104 = some (.iconst 9, 2, 0, 0) := by decide +kernel
theorem c68_106 : gP 68 106 = some (.if_icmp .ne 124, 3, 0, 0) := by decide +kernel
theorem c68_109 : gP 68 109 = some (.aload 0, 1, 0, 0) := by decide +kernel
theorem c68_110 : gP 68 110 = some (.invokeinterface 38 43, 3, 1, 1) := by decide +kernel
theorem c68_113 : gP 68 113 = some (.iconst 40, 2, 0, 0) := by decide +kernel
theorem c68_115 : gP 68 115 = some (.if_icmp .ne 124, 3, 0, 0) := by decide +kernel
theorem c68_118 : gP 68 118 = some (.aload 0, 1, 0, 0) := by decide +kernel
theorem c68_119 : gP 68 119 = some (.aload 1, 1, 0, 0) := by decide +kernel
theorem c68_120 : gP 68 120 = some (.invokeinterface 66 176, 3, 2, 1) := by decide +kernel
theorem c68_123 : gP 68 123 = some (.ireturn, 1, 1, 0) := by decide +kernel
theorem c68_124 : gP 68 124 = some (.iload 4, 2, 0, 0) := by decide +kernel
theorem c68_126 : gP 68 126 = some (.ifCond .ne 137, 3, 0, 0) := by decide +kernel
theorem c68_129 : gP 68 129 = some (.aload 0, 1, 0, 0) := by decide +kernel
theorem c68_130 : gP 68 130 = some (.aload 1, 1, 0, 0) := by decide +kernel
theorem c68_131 : gP 68 131 = some (.invokeinterface 67 179, 3, 2, 1) := by decide +kernel
theorem c68_134 : gP 68 134 = some (.ifCond .eq 141, 3, 0, 0) := by decide +kernel
theorem c68_137 : gP 68 137 = some (.iconst 1, 1, 0, 0) := by decide +kernel
theorem c68_138 : gP 68 138 = some (.goto 142, 3, 0, 0) := by decide +kernel
theorem c68_141 : gP 68 141 = some (.iconst 0, 1, 0, 0) := by decide +kernel
theorem c68_142 : gP 68 142 = some (.ireturn, 1, 1, 0) := by decide +kernel
theorem c69_0 : gP 69 0 = some (.iload 1, 1, 0, 0) := by decide +kernel
theorem c69_1 : gP 69 1 = some (.iconst 3, 1, 0, 0) := by decide +kernel
theorem c69_2 : gP 69 2 = some (.if_icmp .le 10, 3, 0, 0) := by decide +kernel
theorem c69_5 : gP 69 5 = some (.aload 0, 1, 0, 0) := by decide +kernel
theorem c69_6 : gP 69 6 = some (.invokeinterface 43 56, 3, 1, 1) := by decide +kernel
theorem c69_9 : gP 69 9 = some (.ireturn, 1, 1, 0) := by decide +kernel
theorem c69_10 : gP 69 10 = some (.aload 0, 1, 0, 0) := by decide +kernel
theorem c69_11 : gP 69 11 = some (.iconst 123, 2, 0, 0) := by decide +kernel
theorem c69_13 : gP 69 13 = some (.invokeinterface 37 74, 3, 2, 1) := by decide +kernel
theorem c69_16 : gP 69 16 = some (.istore 2, 1, 0, 0) := by decide +kernel
theorem c69_17 : gP 69 17 = some (.iconst 0, 1, 0, 0) := by decide +kernel
theorem c69_18 : gP 69 18 = some (.istore 3, 1, 0, 0) := by decide +kernel
theorem c69_19 : gP 69 19 = some (.iload 3, 1, 0, 0) := by decide +kernel
theorem c69_20 : gP 69 20 = some (.iconst 40, 2, 0, 0) := by decide +kernel
theorem c69_22 : gP 69 22 = some (.if_icmp .gt 180, 3, 0, 0) := by decide +kernel
theorem c69_25 : gP 69 25 = some (.iload 2, 1, 0, 0) := by decide +kernel
theorem c69_26 : gP 69 26 = some (.ifCond .eq 180, 3, 0, 0) := by decide +kernel
theorem c69_29 : gP 69 29 = some (.aload 0, 1, 0, 0) := by decide +kernel
theorem c69_30 : gP 69 30 = some (.invokeinterface 38 43, 3, 1, 1) := by decide +kernel
theorem c69_33 : gP 69 33 = some (.iconst 125, 2, 0, 0) := by decide +kernel
theorem c69_35 : gP 69 35 = some (.if_icmp .eq 180, 3, 0, 0) := by decide +kernel
theorem c69_38 : gP 69 38 = some (.aload 0, 1, 0, 0) := by decide +kernel
theorem c69_39 : gP 69 39 = some (.getfield 1, 3, 1, 18) := by decide +kernel
theorem c69_42 : gP 69 42 = some (.getfield 16, 3, 6, 99) := by decide +kernel
theorem c69_45 : gP 69 45 = some (.iconst 40, 2, 0, 0) := by decide +kernel
theorem c69_47 : gP 69 47 = some (.if_icmp .ne 55, 3, 0, 0) := by decide +kernel
theorem c69_50 : gP 69 50 = some (.aload 0, 1, 0, 0) := by decide +kernel
theorem c69_51 : gP 69 51 = some (.invokeinterface 43 56, 3, 1, 1) := by decide +kernel
theorem c69_54 : gP 69 54 = some (.ireturn, 1, 1, 0) := by decide +kernel
theorem c69_55 : gP 69 55 = some (.aload 0, 1, 0, 0) := by decide +kernel
theorem c69_56 : gP 69 56 = some (.getfield 1, 3, 1, 18) := by decide +kernel
theorem c69_59 : gP 69 59 = some (.invokeinterface 56 122, 3, 1, 1) := by decide +kernel
theorem c69_62 : gP 69 62 = some (.astore 4, 2, 0, 0) := by decide +kernel
theorem c69_64 : gP 69 64 = some (.aload 0, 1, 0, 0) := by decide +kernel
theorem c69_65 : gP 69 65 = some (.invokeinterface 38 43, 3, 1, 1) := by decide +kernel
theorem c69_68 : gP 69 68 = some (.tableswitch 70 6 9 #[32, 70, 32, 43], 32, 0, 0) := by decide +kernel
theorem c69_100 : gP 69 100 = some (.aload 0, 1, 0, 0) := by decide +kernel
theorem c69_101 : gP 69 101 = some (.aload 4, 2, 0, 0) := by decide +kernel
theorem c69_103 : gP 69 103 = some (.iload 1, 1, 0, 0) := by decide +kernel
theorem c69_104 : gP 69 104 = some (.invokeinterface 59 126, 3, 3, 1) := by decide +kernel
theorem c69_107 : gP 69 107 = some (.istore 2, 1, 0, 0) := by decide +kernel
theorem c69_108 : gP 69 108 = some (.goto 162, 3, 0, 0) := by decide +kernel
theorem c69_111 : gP 69 111 = some (.aload 0, 1, 0, 0) := by decide +kernel
theorem c69_112 : gP 69 112 = some (.aload 4, 2, 0, 0) := by decide +kernel
theorem c69_114 : gP 69 114 = some (.invokeinterface 60 130, 3, 2, 1) := by decide +kernel
theorem c69_117 : gP 69 117 = some (.ifCond .eq 133, 3, 0, 0) := by decide +kernel
theorem c69_120 : gP 69 120 = some (.aload 0, 1, 0, 0) := by decide +kernel
theorem c69_121 : gP 69 121 = some (.iconst 59, 2, 0, 0) := by decide +kernel
theorem c69_123 : gP 69 123 = some (.invokeinterface 37 74, 3, 2, 1) := by decide +kernel
theorem c69_126 : gP 69 126 = some (.ifCond .eq 133, 3, 0, 0) := by decide +kernel
theorem c69_129 : gP 69 129 = some (.iconst 1, 1, 0, 0) := by decide +kernel
theorem c69_130 : gP 69 130 = some (.goto 134, 3, 0, 0) := by decide +kernel
theorem c69_133 : gP 69 133 = some (.iconst 0, 1, 0, 0) := by decide +kernel
theorem c69_134 : gP 69 134 = some (.istore 2, 1, 0, 0) := by decide +kernel
theorem c69_135 : gP 69 135 = some (.goto 162, 3, 0, 0) := by decide +kernel
theorem c69_138 : gP 69 138 = some (.aload 0, 1, 0, 0) := by decide +kernel
theorem c69_139 : gP 69 139 = some (.aload 4, 2, 0, 0) := by decide +kernel
theorem c69_141 : gP 69 141 = some (.invokeinterface 68 134, 3, 2, 1) := by decide +kernel
theorem c69_144 : gP 69 144 = some (.ifCond .eq 160, 3, 0, 0) := by decide +kernel
theorem c69_147 : gP 69 147 = some (.aload 0, 1, 0, 0) := by decide +kernel
theorem c69_148 : gP 69 148 = some (.iconst 59, 2, 0, 0) := by decide +kernel
theorem c69_150 : gP 69 150 = some (.invokeinterface 37 74, 3, 2, 1) := by decide +kernel
theorem c69_153 : gP 69 153 = some (.ifCond .eq 160, 3, 0, 0) := by decide +kernel
theorem c69_156 : gP 69 156 = some (.iconst 1, 1, 0, 0) := by decide +kernel
theorem c69_157 : gP 69 157 = some (.goto 161, 3, 0, 0) := by decide +kernel
theorem c69_160 : gP 69 160 = some (.iconst 0, 1, 0, 0) := by decide +kernel
theorem c69_161 : gP 69 161 = some (.istore 2, 1, 0, 0) := by decide +kernel
theorem c69_162 : gP 69 162 = some (.aload 4, 2, 0, 0) := by decide +kernel
theorem c69_164 : gP 69 164 = some (.aload 0, 1, 0, 0) := by decide +kernel
theorem c69_165 : gP 69 165 = some (.getfield 1, 3, 1, 18) := by decide +kernel
theorem c69_168 : gP 69 168 = some (.getfield 16, 3, 6, 99) := by decide +kernel
theorem c69_171 : gP 69 171 = some (.putfield 12, 3, 5, 0) := by decide +kernel
theorem c69_174 : gP 69 174 = some (.iinc 3 1, 3, 0, 0) := by decide +kernel
theorem c69_177 : gP 69 177 = some (.goto 19, 3, 0, 0) := by decide +kernel
theorem c69_180 : gP 69 180 = some (.iload 2, 1, 0, 0) := by decide +kernel
theorem c69_181 : gP 69 181 = some (.ifCond .eq 197, 3, 0, 0) := by decide +kernel
theorem c69_184 : gP 69 184 = some (.aload 0, 1, 0, 0) := by decide +kernel
theorem c69_185 : gP 69 185 = some (.iconst 125, 2, 0, 0) := by decide +kernel
theorem c69_187 : gP 69 187 = some (.invokeinterface 37 74, 3, 2, 1) := by decide +kernel
theorem c69_190 : gP 69 190 = some (.ifCond .eq 197, 3, 0, 0) := by decide +kernel
theorem c69_193 : gP 69 193 = some (.iconst 1, 1, 0, 0) := by decide +kernel
theorem c69_194 : gP 69 194 = some (.goto 198, 3, 0, 0) := by decide +kernel
theorem c69_197 : gP 69 197 = some (.iconst 0, 1, 0, 0) := by decide +kernel
theorem c69_198 : gP 69 198 = some (.ireturn, 1, 1, 0) := by decide +kernel
theorem c70_0 : gP 70 0 = some (.aload 0, 1, 0, 0) := by decide +kernel
theorem c70_1 : gP 70 1 = some (.dup, 1, 0, 0) := by decide +kernel
theorem c70_2 : gP 70 2 = some (.getfield 2, 3, 1, 31) := by decide +kernel
theorem c70_5 : gP 70 5 = some (.iconst 1, 1, 0, 0) := by decide +kernel
theorem c70_6 : gP 70 6 = some (.iadd, 1, 0, 0) := by decide +kernel
theorem c70_7 : gP 70 7 = some (.putfield 2, 3, 1, 0) := by decide +kernel
theorem c70_10 : gP 70 10 = some (.aload 0, 1, 0, 0) := by decide +kernel
theorem c70_11 : gP 70 11 = some (.invokeinterface 38 43, 3, 1, 1) := by decide +kernel
theorem c70_14 : gP 70 14 = some (.iconst 11, 2, 0, 0) := by decide +kernel
theorem c70_16 : gP 70 16 = some (.if_icmp .ne 33, 3, 0, 0) := by decide +kernel
theorem c70_19 : gP 70 19 = some (.aload 0, 1, 0, 0) := by decide +kernel
theorem c70_20 : gP 70 20 = some (.getfield 1, 3, 1, 18) := by decide +kernel
theorem c70_23 : gP 70 23 = some (.aload 0, 1, 0, 0) := by decide +kernel
theorem c70_24 : gP 70 24 = some (.invokeinterface 39 78, 3, 1, 1) := by decide +kernel
theorem c70_27 : gP 70 27 = some (.invokeinterface 51 89, 3, 2, 1) := by decide +kernel
theorem c70_30 : gP 70 30 = some (.ifCond .ne 38, 3, 0, 0) := by decide +kernel
theorem c70_33 : gP 70 33 = some (.aload 0, 1, 0, 0) := by decide +kernel
theorem c70_34 : gP 70 34 = some (.invokeinterface 43 56, 3, 1, 1) := by decide +kernel
theorem c70_37 : gP 70 37 = some (.ireturn, 1, 1, 0) := by decide +kernel
theorem c70_38 : gP 70 38 = some (.aload 0, 1, 0, 0) := by decide +kernel
theorem c70_39 : gP 70 39 = some (.dup, 1, 0, 0) := by decide +kernel
theorem c70_40 : gP 70 40 = some (.getfield 2, 3, 1, 31) := by decide +kernel
theorem c70_43 : gP 70 43 = some (.iconst 1, 1, 0, 0) := by decide +kernel
theorem c70_44 : gP 70 44 = some (.iadd, 1, 0, 0) := by decide +kernel
theorem c70_45 : gP 70 45 = some (.putfield 2, 3, 1, 0) := by decide +kernel
theorem c70_48 : gP 70 48 = some (.aload 0, 1, 0, 0) := by decide +kernel
theorem c70_49 : gP 70 49 = some (.getfield 1, 3, 1, 18) := by decide +kernel
theorem c70_52 : gP 70 52 = some (.getfield 5, 3, 6, 92) := by decide +kernel
theorem c70_55 : gP 70 55 = some (.aload 0, 1, 0, 0) := by decide +kernel
theorem c70_56 : gP 70 56 = some (.getfield 1, 3, 1, 18) := by decide +kernel
theorem c70_59 : gP 70 59 = some (.getfield 10, 3, 6, 96) := by decide +kernel
theorem c70_62 : gP 70 62 = some (.iconst 1, 1, 0, 0) := by decide +kernel
theorem c70_63 : gP 70 63 = some (.isub, 1, 0, 0) := by decide +kernel
theorem c70_64 : gP 70 64 = some (.aaload, 1, 0, 0) := by decide +kernel
theorem c70_65 : gP 70 65 = some (.astore 1, 1, 0, 0) := by decide +kernel
theorem c70_66 : gP 70 66 = some (.aload 1, 1, 0, 0) := by decide +kernel
theorem c70_67 : gP 70 67 = some (.aload 0, 1, 0, 0) := by decide +kernel
theorem c70_68 : gP 70 68 = some (.getfield 1, 3, 1, 18) := by decide +kernel
theorem c70_71 : gP 70 71 = some (.getfield 16, 3, 6, 99) := by decide +kernel
theorem c70_74 : gP 70 74 = some (.putfield 4, 3, 4, 0) := by decide +kernel
theorem c70_77 : gP 70 77 = some (.aload 0, 1, 0, 0) := by decide +kernel
theorem c70_78 : gP 70 78 = some (.iconst 40, 2, 0, 0) := by decide +kernel
theorem c70_80 : gP 70 80 = some (.invokeinterface 37 74, 3, 2, 1) := by decide +kernel
theorem c70_83 : gP 70 83 = some (.ifCond .eq 114, 3, 0, 0) := by decide +kernel
theorem c70_86 : gP 70 86 = some (.aload 0, 1, 0, 0) := by decide +kernel
theorem c70_87 : gP 70 87 = some (.invokeinterface 55 107, 3, 1, 1) := by decide +kernel
theorem c70_90 : gP 70 90 = some (.ifCond .eq 114, 3, 0, 0) := by decide +kernel
theorem c70_93 : gP 70 93 = some (.aload 0, 1, 0, 0) := by decide +kernel
theorem c70_94 : gP 70 94 = some (.iconst 41, 2, 0, 0) := by decide +kernel
theorem c70_96 : gP 70 96 = some (.invokeinterface 37 74, 3, 2, 1) := by decide +kernel
theorem c70_99 : gP 70 99 = some (.ifCond .eq 114, 3, 0, 0) := by decide +kernel
theorem c70_102 : gP 70 102 = some (.aload 0, 1, 0, 0) := by decide +kernel
theorem c70_103 : gP 70 103 = some (.iconst 0, 1, 0, 0) := by decide +kernel
theorem c70_104 : gP 70 104 = some (.invokeinterface 69 110, 3, 2, 1) := by decide +kernel
theorem c70_107 : gP 70 107 = some (.ifCond .eq 114, 3, 0, 0) := by decide +kernel
theorem c70_110 : gP 70 110 = some (.iconst 1, 1, 0, 0) := by decide +kernel
theorem c70_111 : gP 70 111 = some (.goto 115, 3, 0, 0) := by decide +kernel
theorem c70_114 : gP 70 114 = some (.iconst 0, 1, 0, 0) := by decide +kernel
theorem c70_115 : gP 70 115 = some (.istore 2, 1, 0, 0) := by decide +kernel
theorem c70_116 : gP 70 116 = some (.aload 1, 1, 0, 0) := by decide +kernel
theorem c70_117 : gP 70 117 = some (.aload 0, 1, 0, 0) := by decide +kernel
theorem c70_118 : gP 70 118 = some (.getfield 1, 3, 1, 18) := by decide +kernel
theorem c70_121 : gP 70 121 = some (.getfield 16, 3, 6, 99) := by decide +kernel
theorem c70_124 : gP 70 124 = some (.putfield 5, 3, 4, 0) := by decide +kernel
theorem c70_127 : gP 70 127 = some (.iload 2, 1, 0, 0) := by decide +kernel
theorem c70_128 : gP 70 128 = some (.ireturn, 1, 1, 0) := by decide +kernel
theorem c71_0 : gP 71 0 = some (.aload 0, 1, 0, 0) := by decide +kernel
theorem c71_1 : gP 71 1 = some (.dup, 1, 0, 0) := by decide +kernel
theorem c71_2 : gP 71 2 = some (.getfield 2, 3, 1, 31) := by decide +kernel
theorem c71_5 : gP 71 5 = some (.iconst 1, 1, 0, 0) := by decide +kernel
theorem c71_6 : gP 71 6 = some (.iadd, 1, 0, 0) := by decide +kernel
theorem c71_7 : gP 71 7 = some (.putfield 2, 3, 1, 0) := by decide +kernel
theorem c71_10 : gP 71 10 = some (.aload 0, 1, 0, 0) := by decide +kernel
theorem c71_11 : gP 71 11 = some (.aload 0, 1, 0, 0) := by decide +kernel
theorem c71_12 : gP 71 12 = some (.invokeinterface 38 43, 3, 1, 1) := by decide +kernel
theorem c71_15 : gP 71 15 = some (.ifCond .ne 22, 3, 0, 0) := by decide +kernel
theorem c71_18 : gP 71 18 = some (.iconst 1, 1, 0, 0) := by decide +kernel
theorem c71_19 : gP 71 19 = some (.goto 23, 3, 0, 0) := by decide +kernel
theorem c71_22 : gP 71 22 = some (.iconst 0, 1, 0, 0) := by decide +kernel
theorem c71_23 : gP 71 23 = some (.putfield 3, 3, 1, 1) := by decide +kernel
theorem c71_26 : gP 71 26 = some (.aload 0, 1, 0, 0) := by decide +kernel
theorem c71_27 : gP 71 27 = some (.getfield 3, 3, 1, 35) := by decide +kernel
theorem c71_30 : gP 71 30 = some (.ifCond .ne 40, 3, 0, 0) := by decide +kernel
theorem c71_33 : gP 71 33 = some (.aload 0, 1, 0, 0) := by decide +kernel
theorem c71_34 : gP 71 34 = some (.invokeinterface 45 39, 3, 1, 1) := by decide +kernel
theorem c71_37 : gP 71 37 = some (.ifCond .eq 44, 3, 0, 0) := by decide +kernel
theorem c71_40 : gP 71 40 = some (.iconst 1, 1, 0, 0) := by decide +kernel
theorem c71_41 : gP 71 41 = some (.goto 45, 3, 0, 0) := by decide +kernel
theorem c71_44 : gP 71 44 = some (.iconst 0, 1, 0, 0) := by decide +kernel
theorem c71_45 : gP 71 45 = some (.ireturn, 1, 1, 0) := by decide +kernel
theorem c72_0 : gP 72 0 = some (.iload 1, 1, 0, 0) := by decide +kernel
theorem c72_1 : gP 72 1 = some (.istore 4, 2, 0, 0) := by decide +kernel
theorem c72_3 : gP 72 3 = some (.iconst 0, 1, 0, 0) := by decide +kernel
theorem c72_4 : gP 72 4 = some (.istore 5, 2, 0, 0) := by decide +kernel
theorem c72_6 : gP 72 6 = some (.iload 5, 2, 0, 0) := by decide +kernel
theorem c72_8 : gP 72 8 = some (.iconst 6, 2, 0, 0) := by decide +kernel
theorem c72_10 : gP 72 10 = some (.if_icmp .ge 70, 3, 0, 0) := by decide +kernel
theorem c72_13 : gP 72 13 = some (.iload 4, 2, 0, 0) := by decide +kernel
theorem c72_15 : gP 72 15 = some (.iconst (-1), 1, 0, 0) := by decide +kernel
theorem c72_16 : gP 72 16 = some (.if_icmp .eq 70, 3, 0, 0) := by decide +kernel
theorem c72_19 : gP 72 19 = some (.aload 0, 1, 0, 0) := by decide +kernel
theorem c72_20 : gP 72 20 = some (.iload 4, 2, 0, 0) := by decide +kernel
theorem c72_22 : gP 72 22 = some (.iload 2, 1, 0, 0) := by decide +kernel
theorem c72_23 : gP 72 23 = some (.invokeinterface 50 85, 3, 3, 1) := by decide +kernel
theorem c72_26 : gP 72 26 = some (.istore 6, 2, 0, 0) := by decide +kernel
theorem c72_28 : gP 72 28 = some (.iload 6, 2, 0, 0) := by decide +kernel
theorem c72_30 : gP 72 30 = some (.iconst (-1), 1, 0, 0) := by decide +kernel
theorem c72_31 : gP 72 31 = some (.if_icmp .eq 55, 3, 0, 0) := by decide +kernel
theorem c72_34 : gP 72 34 = some (.aload 0, 1, 0, 0) := by decide +kernel
theorem c72_35 : gP 72 35 = some (.getfield 5, 3, 6, 29) := by decide +kernel
theorem c72_38 : gP 72 38 = some (.iload 6, 2, 0, 0) := by decide +kernel
theorem c72_40 : gP 72 40 = some (.aaload, 1, 0, 0) := by decide +kernel
theorem c72_41 : gP 72 41 = some (.getfield 3, 3, 4, 89) := by decide +kernel
theorem c72_44 : gP 72 44 = some (.iload 3, 1, 0, 0) := by decide +kernel
theorem c72_45 : gP 72 45 = some (.if_icmp .ne 53, 3, 0, 0) := by decide +kernel
theorem c72_48 : gP 72 48 = some (.iload 6, 2, 0, 0) := by decide +kernel
theorem c72_50 : gP 72 50 = some (.goto 54, 3, 0, 0) := by decide +kernel
theorem c72_53 : gP 72 53 = some (.iconst (-1), 1, 0, 0) := by decide +kernel
theorem c72_54 : gP 72 54 = some (.ireturn, 1, 0, 0) := by decide +kernel
theorem c72_55 : gP 72 55 = some (.aload 0, 1, 0, 0) := by decide +kernel
theorem c72_56 : gP 72 56 = some (.getfield 1, 3, 6, 15) := by decide +kernel
theorem c72_59 : gP 72 59 = some (.iload 4, 2, 0, 0) := by decide +kernel
theorem c72_61 : gP 72 61 = some (.iaload, 1, 0, 0) := by decide +kernel
theorem c72_62 : gP 72 62 = some (.istore 4, 2, 0, 0) := by decide +kernel
theorem c72_64 : gP 72 64 = some (.iinc 5 1, 3, 0, 0) := by decide +kernel
theorem c72_67 : gP 72 67 = some (.goto 6, 3, 0, 0) := by decide +kernel
theorem c72_70 : gP 72 70 = some (.iconst (-1), 1, 0, 0) := by decide +kernel
theorem c72_71 : gP 72 71 = some (.ireturn, 1, 0, 0) := by decide +kernel
theorem c73_0 : gP 73 0 = some (.iconst 0, 1, 0, 0) := by decide +kernel
theorem c73_1 : gP 73 1 = some (.istore 1, 1, 0, 0) := by decide +kernel
theorem c73_2 : gP 73 2 = some (.iload 1, 1, 0, 0) := by decide +kernel
theorem c73_3 : gP 73 3 = some (.aload 0, 1, 0, 0) := by decide +kernel
theorem c73_4 : gP 73 4 = some (.getfield 16, 3, 6, 72) := by decide +kernel
theorem c73_7 : gP 73 7 = some (.if_icmp .ge 118, 3, 0, 0) := by decide +kernel
theorem c73_10 : gP 73 10 = some (.aload 0, 1, 0, 0) := by decide +kernel
theorem c73_11 : gP 73 11 = some (.getfield 6, 3, 6, 35) := by decide +kernel
theorem c73_14 : gP 73 14 = some (.iload 1, 1, 0, 0) := by decide +kernel
theorem c73_15 : gP 73 15 = some (.aaload, 1, 0, 0) := by decide +kernel
theorem c73_16 : gP 73 16 = some (.astore 2, 1, 0, 0) := by decide +kernel
theorem c73_17 : gP 73 17 = some (.aload 2, 1, 0, 0) := by decide +kernel
theorem c73_18 : gP 73 18 = some (.getfield 0, 3, 5, 118) := by decide +kernel
theorem c73_21 : gP 73 21 = some (.iconst 9, 2, 0, 0) := by decide +kernel
theorem c73_23 : gP 73 23 = some (.if_icmp .eq 34, 3, 0, 0) := by decide +kernel
theorem c73_26 : gP 73 26 = some (.aload 2, 1, 0, 0) := by decide +kernel
theorem c73_27 : gP 73 27 = some (.getfield 0, 3, 5, 118) := by decide +kernel
theorem c73_30 : gP 73 30 = some (.iconst 3, 1, 0, 0) := by decide +kernel
theorem c73_31 : gP 73 31 = some (.if_icmp .ne 49, 3, 0, 0) := by decide +kernel
theorem c73_34 : gP 73 34 = some (.aload 2, 1, 0, 0) := by decide +kernel
theorem c73_35 : gP 73 35 = some (.aload 0, 1, 0, 0) := by decide +kernel
theorem c73_36 : gP 73 36 = some (.aload 2, 1, 0, 0) := by decide +kernel
theorem c73_37 : gP 73 37 = some (.getfield 4, 3, 5, 124) := by decide +kernel
theorem c73_40 : gP 73 40 = some (.invokeinterface 46 96, 3, 2, 1) := by decide +kernel
theorem c73_43 : gP 73 43 = some (.putfield 6, 3, 5, 0) := by decide +kernel
theorem c73_46 : gP 73 46 = some (.goto 112, 3, 0, 0) := by decide +kernel
theorem c73_49 : gP 73 49 = some (.aload 2, 1, 0, 0) := by decide +kernel
theorem c73_50 : gP 73 50 = some (.getfield 0, 3, 5, 118) := by decide +kernel
theorem c73_53 : gP 73 53 = some (.iconst 5, 1, 0, 0) := by decide +kernel
theorem c73_54 : gP 73 54 = some (.if_icmp .eq 66, 3, 0, 0) := by decide +kernel
theorem c73_57 : gP 73 57 = some (.aload 2, 1, 0, 0) := by decide +kernel
theorem c73_58 : gP 73 58 = some (.getfield 0, 3, 5, 118) := by decide +kernel
theorem c73_61 : gP 73 61 = some (.iconst 7, 2, 0, 0) := by decide +kernel
theorem c73_63 : gP 73 63 = some (.if_icmp .ne 112, 3, 0, 0) := by decide +kernel
theorem c73_66 : gP 73 66 = some (.aload 2, 1, 0, 0) := by decide +kernel
theorem c73_67 : gP 73 67 = some (.aload 0, 1, 0, 0) := by decide +kernel
theorem c73_68 : gP 73 68 = some (.aload 2, 1, 0, 0) := by decide +kernel
theorem c73_69 : gP 73 69 = some (.getfield 4, 3, 5, 124) := by decide +kernel
theorem c73_72 : gP 73 72 = some (.invokeinterface 41 92, 3, 2, 1) := by decide +kernel
theorem c73_75 : gP 73 75 = some (.putfield 7, 3, 5, 0) := by decide +kernel
theorem c73_78 : gP 73 78 = some (.aload 2, 1, 0, 0) := by decide +kernel
theorem c73_79 : gP 73 79 = some (.getfield 7, 3, 5, 125) := by decide +kernel
theorem c73_82 : gP 73 82 = some (.iconst (-1), 1, 0, 0) := by decide +kernel
theorem c73_83 : gP 73 83 = some (.if_icmp .ne 91, 3, 0, 0) := by decide +kernel
theorem c73_86 : gP 73 86 = some (.aload 2, 1, 0, 0) := by decide +kernel
theorem c73_87 : gP 73 87 = some (.getfield 5, 3, 5, 128) := by decide +kernel
theorem c73_90 : gP 73 90 = some (.ireturn, 1, 0, 0) := by decide +kernel
theorem c73_91 : gP 73 91 = some (.aload 2, 1, 0, 0) := by decide +kernel
theorem c73_92 : gP 73 92 = some (.getfield 0, 3, 5, 118) := by decide +kernel
theorem c73_95 : gP 73 95 = some (.iconst 5, 1, 0, 0) := by decide +kernel
theorem c73_96 : gP 73 96 = some (.if_icmp .ne 112, 3, 0, 0) := by decide +kernel
theorem c73_99 : gP 73 99 = some (.aload 0, 1, 0, 0) := by decide +kernel
theorem c73_100 : gP 73 100 = some (.getfield 7, 3, 6, 39) := by decide +kernel
theorem c73_103 : gP 73 103 = some (.aload 2, 1, 0, 0) := by decide +kernel
theorem c73_104 : gP 73 104 = some (.getfield 6, 3, 5, 121) := by decide +kernel
theorem c73_107 : gP 73 107 = some (.aload 2, 1, 0, 0) := by decide +kernel
theorem c73_108 : gP 73 108 = some (.getfield 7, 3, 5, 125) := by decide +kernel
theorem c73_111 : gP 73 111 = some (.iastore, 1, 0, 0) := by decide +kernel
theorem c73_112 : gP 73 112 = some (.iinc 1 1, 3, 0, 0) := by decide +kernel
theorem c73_115 : gP 73 115 = some (.goto 2, 3, 0, 0) := by decide +kernel
theorem c73_118 : gP 73 118 = some (.aload 0, 1, 0, 0) := by decide +kernel
theorem c73_119 : gP 73 119 = some (.aload 0, 1, 0, 0) := by decide +kernel
theorem c73_120 : gP 73 120 = some (.iconst 0, 1, 0, 0) := by decide +kernel
theorem c73_121 : gP 73 121 = some (.ldc 10, 2, 131, 0) := by decide +kernel
theorem c73_123 : gP 73 123 = some (.invokeinterface 8 133, 3, 1, 0) := by decide +kernel
theorem c73_126 : gP 73 126 = some (.iconst 0, 1, 0, 0) := by decide +kernel
theorem c73_127 : gP 73 127 = some (.invokeinterface 72 139, 3, 4, 1) := by decide +kernel
theorem c73_130 : gP 73 130 = some (.putfield 17, 3, 6, 0) := by decide +kernel
theorem c73_133 : gP 73 133 = some (.iconst (-1), 1, 0, 0) := by decide +kernel
theorem c73_134 : gP 73 134 = some (.ireturn, 1, 0, 0) := by decide +kernel
theorem c74_0 : gP 74 0 = some (.aload 0, 1, 0, 0) := by decide +kernel
theorem c74_1 : gP 74 1 = some (.aload 3, 1, 0, 0) := by decide +kernel
theorem c74_2 : gP 74 2 = some (.putfield 1, 3, 1, 6) := by decide +kernel
theorem c74_5 : gP 74 5 = some (.aload 0, 1, 0, 0) := by decide +kernel
theorem c74_6 : gP 74 6 = some (.getfield 1, 3, 1, 18) := by decide +kernel
theorem c74_9 : gP 74 9 = some (.invokeinterface 30 22, 3, 1, 1) := by decide +kernel
theorem c74_12 : gP 74 12 = some (.aload 0, 1, 0, 0) := by decide +kernel
theorem c74_13 : gP 74 13 = some (.getfield 0, 3, 1, 12) := by decide +kernel
theorem c74_16 : gP 74 16 = some (.aload 1, 1, 0, 0) := by decide +kernel
theorem c74_17 : gP 74 17 = some (.iload 2, 1, 0, 0) := by decide +kernel
theorem c74_18 : gP 74 18 = some (.invokeinterface 36 27, 3, 3, 1) := by decide +kernel
theorem c74_21 : gP 74 21 = some (.aload 0, 1, 0, 0) := by decide +kernel
theorem c74_22 : gP 74 22 = some (.iconst 0, 1, 0, 0) := by decide +kernel
theorem c74_23 : gP 74 23 = some (.putfield 2, 3, 1, 0) := by decide +kernel
theorem c74_26 : gP 74 26 = some (.aload 0, 1, 0, 0) := by decide +kernel
theorem c74_27 : gP 74 27 = some (.iconst 0, 1, 0, 0) := by decide +kernel
theorem c74_28 : gP 74 28 = some (.putfield 3, 3, 1, 1) := by decide +kernel
theorem c74_31 : gP 74 31 = some (.aload 0, 1, 0, 0) := by decide +kernel
theorem c74_32 : gP 74 32 = some (.invokeinterface 45 39, 3, 1, 1) := by decide +kernel
theorem c74_35 : gP 74 35 = some (.istore 4, 2, 0, 0) := by decide +kernel
theorem c74_37 : gP 74 37 = some (.iconst 0, 1, 0, 0) := by decide +kernel
theorem c74_38 : gP 74 38 = some (.istore 5, 2, 0, 0) := by decide +kernel
theorem c74_40 : gP 74 40 = some (.iload 5, 2, 0, 0) := by decide +kernel
theorem c74_42 : gP 74 42 = some (.iconst 320, 3, 0, 0) := by decide +kernel
theorem c74_45 : gP 74 45 = some (.if_icmp .ge 139, 3, 0, 0) := by decide +kernel
theorem c74_48 : gP 74 48 = some (.iload 4, 2, 0, 0) := by decide +kernel
theorem c74_50 : gP 74 50 = some (.ifCond .eq 139, 3, 0, 0) := by decide +kernel
theorem c74_53 : gP 74 53 = some (.aload 0, 1, 0, 0) := by decide +kernel
theorem c74_54 : gP 74 54 = some (.getfield 3, 3, 1, 35) := by decide +kernel
theorem c74_57 : gP 74 57 = some (.ifCond .ne 139, 3, 0, 0) := by decide +kernel
theorem c74_60 : gP 74 60 = some (.aload 0, 1, 0, 0) := by decide +kernel
theorem c74_61 : gP 74 61 = some (.invokeinterface 38 43, 3, 1, 1) := by decide +kernel
theorem c74_64 : gP 74 64 = some (.lookupswitch 63 #[(2, 36), (3, 45), (125, 54)], 36, 0, 0) := by decide +kernel
theorem c74_100 : gP 74 100 = some (.aload 0, 1, 0, 0) := by decide +kernel
theorem c74_101 : gP 74 101 = some (.invokeinterface 49 47, 3, 1, 1) := by decide +kernel
theorem c74_104 : gP 74 104 = some (.istore 4, 2, 0, 0) := by decide +kernel
theorem c74_106 : gP 74 106 = some (.goto 133, 3, 0, 0) := by decide +kernel
theorem c74_109 : gP 74 109 = some (.aload 0, 1, 0, 0) := by decide +kernel
theorem c74_110 : gP 74 110 = some (.invokeinterface 70 50, 3, 1, 1) := by decide +kernel
theorem c74_113 : gP 74 113 = some (.istore 4, 2, 0, 0) := by decide +kernel
theorem c74_115 : gP 74 115 = some (.goto 133, 3, 0, 0) := by decide +kernel
theorem c74_118 : gP 74 118 = some (.aload 0, 1, 0, 0) := by decide +kernel
theorem c74_119 : gP 74 119 = some (.invokeinterface 71 53, 3, 1, 1) := by decide +kernel
theorem c74_122 : gP 74 122 = some (.istore 4, 2, 0, 0) := by decide +kernel
theorem c74_124 : gP 74 124 = some (.goto 133, 3, 0, 0) := by decide +kernel
theorem c74_127 : gP 74 127 = some (.aload 0, 1, 0, 0) := by decide +kernel
theorem c74_128 : gP 74 128 = some (.invokeinterface 43 56, 3, 1, 1) := by decide +kernel
theorem c74_131 : gP 74 131 = some (.istore 4, 2, 0, 0) := by decide +kernel
theorem c74_133 : gP 74 133 = some (.iinc 5 1, 3, 0, 0) := by decide +kernel
theorem c74_136 : gP 74 136 = some (.goto 40, 3, 0, 0) := by decide +kernel
theorem c74_139 : gP 74 139 = some (.iload 4, 2, 0, 0) := by decide +kernel
theorem c74_141 : gP 74 141 = some (.ifCond .eq 154, 3, 0, 0) := by decide +kernel
theorem c74_144 : gP 74 144 = some (.aload 0, 1, 0, 0) := by decide +kernel
theorem c74_145 : gP 74 145 = some (.getfield 1, 3, 1, 18) := by decide +kernel
theorem c74_148 : gP 74 148 = some (.invokeinterface 73 59, 3, 1, 1) := by decide +kernel
theorem c74_151 : gP 74 151 = some (.goto 158, 3, 0, 0) := by decide +kernel
theorem c74_154 : gP 74 154 = some (.aload 0, 1, 0, 0) := by decide +kernel
theorem c74_155 : gP 74 155 = some (.getfield 4, 3, 1, 62) := by decide +kernel
theorem c74_158 : gP 74 158 = some (.ireturn, 1, 0, 0) := by decide +kernel
theorem c75_0 : gP 75 0 = some (.iconst 0, 1, 0, 0) := by decide +kernel
theorem c75_1 : gP 75 1 = some (.istore 2, 1, 0, 0) := by decide +kernel
theorem c75_2 : gP 75 2 = some (.aload 0, 1, 0, 0) := by decide +kernel
theorem c75_3 : gP 75 3 = some (.arraylength, 1, 0, 0) := by decide +kernel
theorem c75_4 : gP 75 4 = some (.istore 3, 1, 0, 0) := by decide +kernel
theorem c75_5 : gP 75 5 = some (.iload 2, 1, 0, 0) := by decide +kernel
theorem c75_6 : gP 75 6 = some (.iload 3, 1, 0, 0) := by decide +kernel
theorem c75_7 : gP 75 7 = some (.if_icmp .ge 20, 3, 0, 0) := by decide +kernel
theorem c75_10 : gP 75 10 = some (.aload 0, 1, 0, 0) := by decide +kernel
theorem c75_11 : gP 75 11 = some (.iload 2, 1, 0, 0) := by decide +kernel
theorem c75_12 : gP 75 12 = some (.iload 1, 1, 0, 0) := by decide +kernel
theorem c75_13 : gP 75 13 = some (.iastore, 1, 0, 0) := by decide +kernel
theorem c75_14 : gP 75 14 = some (.iinc 2 1, 3, 0, 0) := by decide +kernel
theorem c75_17 : gP 75 17 = some (.goto 5, 3, 0, 0) := by decide +kernel
theorem c75_20 : gP 75 20 = some (.return_, 1, 0, 0) := by decide +kernel
theorem c76_0 : gP 76 0 = some (.iconst 0, 1, 0, 0) := by decide +kernel
theorem c76_1 : gP 76 1 = some (.istore 1, 1, 0, 0) := by decide +kernel
theorem c76_2 : gP 76 2 = some (.iload 1, 1, 0, 0) := by decide +kernel
theorem c76_3 : gP 76 3 = some (.aload 0, 1, 0, 0) := by decide +kernel
theorem c76_4 : gP 76 4 = some (.arraylength, 1, 0, 0) := by decide +kernel
theorem c76_5 : gP 76 5 = some (.if_icmp .ge 21, 3, 0, 0) := by decide +kernel
theorem c76_8 : gP 76 8 = some (.aload 0, 1, 0, 0) := by decide +kernel
theorem c76_9 : gP 76 9 = some (.iload 1, 1, 0, 0) := by decide +kernel
theorem c76_10 : gP 76 10 = some (.aaload, 1, 0, 0) := by decide +kernel
theorem c76_11 : gP 76 11 = some (.iconst (-1), 1, 0, 0) := by decide +kernel
theorem c76_12 : gP 76 12 = some (.invokeinterface 75 79, 3, 2, 0) := by decide +kernel
theorem c76_15 : gP 76 15 = some (.iinc 1 1, 3, 0, 0) := by decide +kernel
theorem c76_18 : gP 76 18 = some (.goto 2, 3, 0, 0) := by decide +kernel
theorem c76_21 : gP 76 21 = some (.return_, 1, 0, 0) := by decide +kernel
theorem c77_0 : gP 77 0 = some (.aload 0, 1, 0, 0) := by decide +kernel
theorem c77_1 : gP 77 1 = some (.getfield 0, 3, 2, 11) := by decide +kernel
theorem c77_4 : gP 77 4 = some (.invokeinterface 76 75, 3, 1, 0) := by decide +kernel
theorem c77_7 : gP 77 7 = some (.aload 0, 1, 0, 0) := by decide +kernel
theorem c77_8 : gP 77 8 = some (.getfield 1, 3, 2, 16) := by decide +kernel
theorem c77_11 : gP 77 11 = some (.invokeinterface 76 75, 3, 1, 0) := by decide +kernel
theorem c77_14 : gP 77 14 = some (.aload 0, 1, 0, 0) := by decide +kernel
theorem c77_15 : gP 77 15 = some (.getfield 3, 3, 2, 23) := by decide +kernel
theorem c77_18 : gP 77 18 = some (.invokeinterface 76 75, 3, 1, 0) := by decide +kernel
theorem c77_21 : gP 77 21 = some (.aload 0, 1, 0, 0) := by decide +kernel
theorem c77_22 : gP 77 22 = some (.getfield 2, 3, 2, 19) := by decide +kernel
theorem c77_25 : gP 77 25 = some (.iconst (-1), 1, 0, 0) := by decide +kernel
theorem c77_26 : gP 77 26 = some (.invokeinterface 75 79, 3, 2, 0) := by decide +kernel
theorem c77_29 : gP 77 29 = some (.aload 0, 1, 0, 0) := by decide +kernel
theorem c77_30 : gP 77 30 = some (.iconst 0, 1, 0, 0) := by decide +kernel
theorem c77_31 : gP 77 31 = some (.putfield 6, 3, 2, 0) := by decide +kernel
theorem c77_34 : gP 77 34 = some (.return_, 1, 0, 0) := by decide +kernel
theorem c78_0 : gP 78 0 = some (.iload 1, 1, 0, 0) := by decide +kernel
theorem c78_1 : gP 78 1 = some (.iconst (-1), 1, 0, 0) := by decide +kernel
theorem c78_2 : gP 78 2 = some (.if_icmp .eq 17, 3, 0, 0) := by decide +kernel
theorem c78_5 : gP 78 5 = some (.iload 1, 1, 0, 0) := by decide +kernel
theorem c78_6 : gP 78 6 = some (.aload 0, 1, 0, 0) := by decide +kernel
theorem c78_7 : gP 78 7 = some (.getfield 5, 3, 2, 49) := by decide +kernel
theorem c78_10 : gP 78 10 = some (.if_icmp .gt 17, 3, 0, 0) := by decide +kernel
theorem c78_13 : gP 78 13 = some (.iconst 1, 1, 0, 0) := by decide +kernel
theorem c78_14 : gP 78 14 = some (.goto 18, 3, 0, 0) := by decide +kernel
theorem c78_17 : gP 78 17 = some (.iconst 0, 1, 0, 0) := by decide +kernel
theorem c78_18 : gP 78 18 = some (.ireturn, 1, 1, 0) := by decide +kernel
theorem c79_0 : gP 79 0 = some (.aload 1, 1, 0, 0) := by decide +kernel
theorem c79_1 : gP 79 1 = some (.iload 2, 1, 0, 0) := by decide +kernel
theorem c79_2 : gP 79 2 = some (.iaload, 1, 0, 0) := by decide +kernel
theorem c79_3 : gP 79 3 = some (.iconst (-1), 1, 0, 0) := by decide +kernel
theorem c79_4 : gP 79 4 = some (.if_icmp .ne 26, 3, 0, 0) := by decide +kernel
theorem c79_7 : gP 79 7 = some (.aload 1, 1, 0, 0) := by decide +kernel
theorem c79_8 : gP 79 8 = some (.iload 2, 1, 0, 0) := by decide +kernel
theorem c79_9 : gP 79 9 = some (.aload 0, 1, 0, 0) := by decide +kernel
theorem c79_10 : gP 79 10 = some (.getfield 5, 3, 2, 49) := by decide +kernel
theorem c79_13 : gP 79 13 = some (.iconst 1, 1, 0, 0) := by decide +kernel
theorem c79_14 : gP 79 14 = some (.iadd, 1, 0, 0) := by decide +kernel
theorem c79_15 : gP 79 15 = some (.iastore, 1, 0, 0) := by decide +kernel
theorem c79_16 : gP 79 16 = some (.aload 0, 1, 0, 0) := by decide +kernel
theorem c79_17 : gP 79 17 = some (.aload 0, 1, 0, 0) := by decide +kernel
theorem c79_18 : gP 79 18 = some (.getfield 5, 3, 2, 49) := by decide +kernel
theorem c79_21 : gP 79 21 = some (.iconst 1, 1, 0, 0) := by decide +kernel
theorem c79_22 : gP 79 22 = some (.iadd, 1, 0, 0) := by decide +kernel
theorem c79_23 : gP 79 23 = some (.putfield 6, 3, 2, 0) := by decide +kernel
theorem c79_26 : gP 79 26 = some (.return_, 1, 0, 0) := by decide +kernel
theorem c80_0 : gP 80 0 = some (.iconst 0, 1, 0, 0) := by decide +kernel
theorem c80_1 : gP 80 1 = some (.istore 3, 1, 0, 0) := by decide +kernel
theorem c80_2 : gP 80 2 = some (.iload 3, 1, 0, 0) := by decide +kernel
theorem c80_3 : gP 80 3 = some (.aload 0, 1, 0, 0) := by decide +kernel
theorem c80_4 : gP 80 4 = some (.getfield 4, 3, 2, 26) := by decide +kernel
theorem c80_7 : gP 80 7 = some (.getfield 14, 3, 6, 85) := by decide +kernel
theorem c80_10 : gP 80 10 = some (.if_icmp .ge 35, 3, 0, 0) := by decide +kernel
theorem c80_13 : gP 80 13 = some (.aload 0, 1, 0, 0) := by decide +kernel
theorem c80_14 : gP 80 14 = some (.aload 1, 1, 0, 0) := by decide +kernel
theorem c80_15 : gP 80 15 = some (.iload 3, 1, 0, 0) := by decide +kernel
theorem c80_16 : gP 80 16 = some (.iaload, 1, 0, 0) := by decide +kernel
theorem c80_17 : gP 80 17 = some (.invokeinterface 78 67, 3, 2, 1) := by decide +kernel
theorem c80_20 : gP 80 20 = some (.ifCond .eq 29, 3, 0, 0) := by decide +kernel
theorem c80_23 : gP 80 23 = some (.aload 0, 1, 0, 0) := by decide +kernel
theorem c80_24 : gP 80 24 = some (.aload 2, 1, 0, 0) := by decide +kernel
theorem c80_25 : gP 80 25 = some (.iload 3, 1, 0, 0) := by decide +kernel
theorem c80_26 : gP 80 26 = some (.invokeinterface 79 88, 3, 3, 1) := by decide +kernel
theorem c80_29 : gP 80 29 = some (.iinc 3 1, 3, 0, 0) := by decide +kernel
theorem c80_32 : gP 80 32 = some (.goto 2, 3, 0, 0) := by decide +kernel
theorem c80_35 : gP 80 35 = some (.return_, 1, 0, 0) := by decide +kernel
theorem c81_0 : gP 81 0 = some (.iload 1, 1, 0, 0) := by decide +kernel
theorem c81_1 : gP 81 1 = some (.istore 3, 1, 0, 0) := by decide +kernel
theorem c81_2 : gP 81 2 = some (.iconst 0, 1, 0, 0) := by decide +kernel
theorem c81_3 : gP 81 3 = some (.istore 4, 2, 0, 0) := by decide +kernel
theorem c81_5 : gP 81 5 = some (.iload 4, 2, 0, 0) := by decide +kernel
theorem c81_7 : gP 81 7 = some (.iconst 6, 2, 0, 0) := by decide +kernel
theorem c81_9 : gP 81 9 = some (.if_icmp .ge 37, 3, 0, 0) := by decide +kernel
theorem c81_12 : gP 81 12 = some (.iload 3, 1, 0, 0) := by decide +kernel
theorem c81_13 : gP 81 13 = some (.iconst (-1), 1, 0, 0) := by decide +kernel
theorem c81_14 : gP 81 14 = some (.if_icmp .eq 37, 3, 0, 0) := by decide +kernel
theorem c81_17 : gP 81 17 = some (.iload 3, 1, 0, 0) := by decide +kernel
theorem c81_18 : gP 81 18 = some (.iload 2, 1, 0, 0) := by decide +kernel
theorem c81_19 : gP 81 19 = some (.if_icmp .ne 24, 3, 0, 0) := by decide +kernel
theorem c81_22 : gP 81 22 = some (.iconst 1, 1, 0, 0) := by decide +kernel
theorem c81_23 : gP 81 23 = some (.ireturn, 1, 1, 0) := by decide +kernel
theorem c81_24 : gP 81 24 = some (.aload 0, 1, 0, 0) := by decide +kernel
theorem c81_25 : gP 81 25 = some (.getfield 1, 3, 6, 15) := by decide +kernel
theorem c81_28 : gP 81 28 = some (.iload 3, 1, 0, 0) := by decide +kernel
theorem c81_29 : gP 81 29 = some (.iaload, 1, 0, 0) := by decide +kernel
theorem c81_30 : gP 81 30 = some (.istore 3, 1, 0, 0) := by decide +kernel
theorem c81_31 : gP 81 31 = some (.iinc 4 1, 3, 0, 0) := by decide +kernel
theorem c81_34 : gP 81 34 = some (.goto 5, 3, 0, 0) := by decide +kernel
theorem c81_37 : gP 81 37 = some (.iconst 0, 1, 0, 0) := by decide +kernel
theorem c81_38 : gP 81 38 = some (.ireturn, 1, 1, 0) := by decide +kernel
theorem c82_0 : gP 82 0 = some (.iconst 0, 1, 0, 0) := by decide +kernel
theorem c82_1 : gP 82 1 = some (.istore 2, 1, 0, 0) := by decide +kernel
theorem c82_2 : gP 82 2 = some (.iload 2, 1, 0, 0) := by decide +kernel
theorem c82_3 : gP 82 3 = some (.aload 0, 1, 0, 0) := by decide +kernel
theorem c82_4 : gP 82 4 = some (.getfield 4, 3, 2, 26) := by decide +kernel
theorem c82_7 : gP 82 7 = some (.getfield 14, 3, 6, 85) := by decide +kernel
theorem c82_10 : gP 82 10 = some (.if_icmp .ge 74, 3, 0, 0) := by decide +kernel
theorem c82_13 : gP 82 13 = some (.aload 0, 1, 0, 0) := by decide +kernel
theorem c82_14 : gP 82 14 = some (.aload 0, 1, 0, 0) := by decide +kernel
theorem c82_15 : gP 82 15 = some (.getfield 0, 3, 2, 11) := by decide +kernel
theorem c82_18 : gP 82 18 = some (.aload 1, 1, 0, 0) := by decide +kernel
theorem c82_19 : gP 82 19 = some (.getfield 3, 3, 5, 100) := by decide +kernel
theorem c82_22 : gP 82 22 = some (.aaload, 1, 0, 0) := by decide +kernel
theorem c82_23 : gP 82 23 = some (.iload 2, 1, 0, 0) := by decide +kernel
theorem c82_24 : gP 82 24 = some (.iaload, 1, 0, 0) := by decide +kernel
theorem c82_25 : gP 82 25 = some (.invokeinterface 78 67, 3, 2, 1) := by decide +kernel
theorem c82_28 : gP 82 28 = some (.ifCond .eq 68, 3, 0, 0) := by decide +kernel
theorem c82_31 : gP 82 31 = some (.aload 0, 1, 0, 0) := by decide +kernel
theorem c82_32 : gP 82 32 = some (.getfield 4, 3, 2, 26) := by decide +kernel
theorem c82_35 : gP 82 35 = some (.aload 0, 1, 0, 0) := by decide +kernel
theorem c82_36 : gP 82 36 = some (.getfield 4, 3, 2, 26) := by decide +kernel
theorem c82_39 : gP 82 39 = some (.getfield 7, 3, 6, 122) := by decide +kernel
theorem c82_42 : gP 82 42 = some (.iload 2, 1, 0, 0) := by decide +kernel
theorem c82_43 : gP 82 43 = some (.iaload, 1, 0, 0) := by decide +kernel
theorem c82_44 : gP 82 44 = some (.aload 1, 1, 0, 0) := by decide +kernel
theorem c82_45 : gP 82 45 = some (.getfield 7, 3, 5, 125) := by decide +kernel
theorem c82_48 : gP 82 48 = some (.invokeinterface 81 128, 3, 3, 1) := by decide +kernel
theorem c82_51 : gP 82 51 = some (.ifCond .eq 68, 3, 0, 0) := by decide +kernel
theorem c82_54 : gP 82 54 = some (.aload 0, 1, 0, 0) := by decide +kernel
theorem c82_55 : gP 82 55 = some (.aload 0, 1, 0, 0) := by decide +kernel
theorem c82_56 : gP 82 56 = some (.getfield 0, 3, 2, 11) := by decide +kernel
theorem c82_59 : gP 82 59 = some (.aload 1, 1, 0, 0) := by decide +kernel
theorem c82_60 : gP 82 60 = some (.getfield 2, 3, 5, 94) := by decide +kernel
theorem c82_63 : gP 82 63 = some (.aaload, 1, 0, 0) := by decide +kernel
theorem c82_64 : gP 82 64 = some (.iload 2, 1, 0, 0) := by decide +kernel
theorem c82_65 : gP 82 65 = some (.invokeinterface 79 88, 3, 3, 1) := by decide +kernel
theorem c82_68 : gP 82 68 = some (.iinc 2 1, 3, 0, 0) := by decide +kernel
theorem c82_71 : gP 82 71 = some (.goto 2, 3, 0, 0) := by decide +kernel
theorem c82_74 : gP 82 74 = some (.return_, 1, 0, 0) := by decide +kernel
theorem c83_0 : gP 83 0 = some (.aload 0, 1, 0, 0) := by decide +kernel
theorem c83_1 : gP 83 1 = some (.getfield 3, 3, 2, 23) := by decide +kernel
theorem c83_4 : gP 83 4 = some (.iload 1, 1, 0, 0) := by decide +kernel
theorem c83_5 : gP 83 5 = some (.iconst 8, 2, 0, 0) := by decide +kernel
theorem c83_7 : gP 83 7 = some (.imul, 1, 0, 0) := by decide +kernel
theorem c83_8 : gP 83 8 = some (.iload 2, 1, 0, 0) := by decide +kernel
theorem c83_9 : gP 83 9 = some (.iadd, 1, 0, 0) := by decide +kernel
theorem c83_10 : gP 83 10 = some (.aaload, 1, 0, 0) := by decide +kernel
theorem c83_11 : gP 83 11 = some (.areturn, 1, 0, 0) := by decide +kernel
theorem c84_0 : gP 84 0 = some (.iconst 0, 1, 0, 0) := by decide +kernel
theorem c84_1 : gP 84 1 = some (.istore 2, 1, 0, 0) := by decide +kernel
theorem c84_2 : gP 84 2 = some (.iload 2, 1, 0, 0) := by decide +kernel
theorem c84_3 : gP 84 3 = some (.aload 0, 1, 0, 0) := by decide +kernel
theorem c84_4 : gP 84 4 = some (.getfield 4, 3, 2, 26) := by decide +kernel
theorem c84_7 : gP 84 7 = some (.getfield 14, 3, 6, 85) := by decide +kernel
theorem c84_10 : gP 84 10 = some (.if_icmp .ge 67, 3, 0, 0) := by decide +kernel
theorem c84_13 : gP 84 13 = some (.aload 0, 1, 0, 0) := by decide +kernel
theorem c84_14 : gP 84 14 = some (.aload 0, 1, 0, 0) := by decide +kernel
theorem c84_15 : gP 84 15 = some (.getfield 0, 3, 2, 11) := by decide +kernel
theorem c84_18 : gP 84 18 = some (.aload 1, 1, 0, 0) := by decide +kernel
theorem c84_19 : gP 84 19 = some (.getfield 3, 3, 5, 100) := by decide +kernel
theorem c84_22 : gP 84 22 = some (.aaload, 1, 0, 0) := by decide +kernel
theorem c84_23 : gP 84 23 = some (.iload 2, 1, 0, 0) := by decide +kernel
theorem c84_24 : gP 84 24 = some (.iaload, 1, 0, 0) := by decide +kernel
theorem c84_25 : gP 84 25 = some (.invokeinterface 78 67, 3, 2, 1) := by decide +kernel
theorem c84_28 : gP 84 28 = some (.ifCond .eq 61, 3, 0, 0) := by decide +kernel
theorem c84_31 : gP 84 31 = some (.aload 1, 1, 0, 0) := by decide +kernel
theorem c84_32 : gP 84 32 = some (.getfield 6, 3, 5, 97) := by decide +kernel
theorem c84_35 : gP 84 35 = some (.iconst (-1), 1, 0, 0) := by decide +kernel
theorem c84_36 : gP 84 36 = some (.if_icmp .eq 61, 3, 0, 0) := by decide +kernel
theorem c84_39 : gP 84 39 = some (.aload 0, 1, 0, 0) := by decide +kernel
theorem c84_40 : gP 84 40 = some (.aload 0, 1, 0, 0) := by decide +kernel
theorem c84_41 : gP 84 41 = some (.iload 2, 1, 0, 0) := by decide +kernel
theorem c84_42 : gP 84 42 = some (.aload 1, 1, 0, 0) := by decide +kernel
theorem c84_43 : gP 84 43 = some (.getfield 6, 3, 5, 97) := by decide +kernel
theorem c84_46 : gP 84 46 = some (.invokeinterface 83 132, 3, 3, 1) := by decide +kernel
theorem c84_49 : gP 84 49 = some (.aload 0, 1, 0, 0) := by decide +kernel
theorem c84_50 : gP 84 50 = some (.getfield 0, 3, 2, 11) := by decide +kernel
theorem c84_53 : gP 84 53 = some (.aload 1, 1, 0, 0) := by decide +kernel
theorem c84_54 : gP 84 54 = some (.getfield 2, 3, 5, 94) := by decide +kernel
theorem c84_57 : gP 84 57 = some (.aaload, 1, 0, 0) := by decide +kernel
theorem c84_58 : gP 84 58 = some (.invokeinterface 80 103, 3, 3, 1) := by decide +kernel
theorem c84_61 : gP 84 61 = some (.iinc 2 1, 3, 0, 0) := by decide +kernel
theorem c84_64 : gP 84 64 = some (.goto 2, 3, 0, 0) := by decide +kernel
theorem c84_67 : gP 84 67 = some (.return_, 1, 0, 0) := by decide +kernel
theorem c85_0 : gP 85 0 = some (.iconst 0, 1, 0, 0) := by decide +kernel
theorem c85_1 : gP 85 1 = some (.istore 2, 1, 0, 0) := by decide +kernel
theorem c85_2 : gP 85 2 = some (.iload 2, 1, 0, 0) := by decide +kernel
theorem c85_3 : gP 85 3 = some (.aload 0, 1, 0, 0) := by decide +kernel
theorem c85_4 : gP 85 4 = some (.getfield 4, 3, 2, 26) := by decide +kernel
theorem c85_7 : gP 85 7 = some (.getfield 14, 3, 6, 85) := by decide +kernel
theorem c85_10 : gP 85 10 = some (.if_icmp .ge 82, 3, 0, 0) := by decide +kernel
theorem c85_13 : gP 85 13 = some (.aload 0, 1, 0, 0) := by decide +kernel
theorem c85_14 : gP 85 14 = some (.aload 0, 1, 0, 0) := by decide +kernel
theorem c85_15 : gP 85 15 = some (.getfield 0, 3, 2, 11) := by decide +kernel
theorem c85_18 : gP 85 18 = some (.aload 1, 1, 0, 0) := by decide +kernel
theorem c85_19 : gP 85 19 = some (.getfield 2, 3, 5, 94) := by decide +kernel
theorem c85_22 : gP 85 22 = some (.aaload, 1, 0, 0) := by decide +kernel
theorem c85_23 : gP 85 23 = some (.iload 2, 1, 0, 0) := by decide +kernel
theorem c85_24 : gP 85 24 = some (.iaload, 1, 0, 0) := by decide +kernel
theorem c85_25 : gP 85 25 = some (.invokeinterface 78 67, 3, 2, 1) := by decide +kernel
theorem c85_28 : gP 85 28 = some (.ifCond .eq 76, 3, 0, 0) := by decide +kernel
theorem c85_31 : gP 85 31 = some (.aload 0, 1, 0, 0) := by decide +kernel
theorem c85_32 : gP 85 32 = some (.getfield 4, 3, 2, 26) := by decide +kernel
theorem c85_35 : gP 85 35 = some (.aload 0, 1, 0, 0) := by decide +kernel
theorem c85_36 : gP 85 36 = some (.getfield 4, 3, 2, 26) := by decide +kernel
theorem c85_39 : gP 85 39 = some (.getfield 7, 3, 6, 122) := by decide +kernel
theorem c85_42 : gP 85 42 = some (.iload 2, 1, 0, 0) := by decide +kernel
theorem c85_43 : gP 85 43 = some (.iaload, 1, 0, 0) := by decide +kernel
theorem c85_44 : gP 85 44 = some (.aload 1, 1, 0, 0) := by decide +kernel
theorem c85_45 : gP 85 45 = some (.getfield 6, 3, 5, 97) := by decide +kernel
theorem c85_48 : gP 85 48 = some (.invokeinterface 47 136, 3, 3, 1) := by decide +kernel
theorem c85_51 : gP 85 51 = some (.ifCond .eq 76, 3, 0, 0) := by decide +kernel
theorem c85_54 : gP 85 54 = some (.aload 0, 1, 0, 0) := by decide +kernel
theorem c85_55 : gP 85 55 = some (.aload 0, 1, 0, 0) := by decide +kernel
theorem c85_56 : gP 85 56 = some (.getfield 0, 3, 2, 11) := by decide +kernel
theorem c85_59 : gP 85 59 = some (.aload 1, 1, 0, 0) := by decide +kernel
theorem c85_60 : gP 85 60 = some (.getfield 3, 3, 5, 100) := by decide +kernel
theorem c85_63 : gP 85 63 = some (.aaload, 1, 0, 0) := by decide +kernel
theorem c85_64 : gP 85 64 = some (.aload 0, 1, 0, 0) := by decide +kernel
theorem c85_65 : gP 85 65 = some (.iload 2, 1, 0, 0) := by decide +kernel
theorem c85_66 : gP 85 66 = some (.aload 1, 1, 0, 0) := by decide +kernel
theorem c85_67 : gP 85 67 = some (.getfield 6, 3, 5, 97) := by decide +kernel
theorem c85_70 : gP 85 70 = some (.invokeinterface 83 132, 3, 3, 1) := by decide +kernel
theorem c85_73 : gP 85 73 = some (.invokeinterface 80 103, 3, 3, 1) := by decide +kernel
theorem c85_76 : gP 85 76 = some (.iinc 2 1, 3, 0, 0) := by decide +kernel
theorem c85_79 : gP 85 79 = some (.goto 2, 3, 0, 0) := by decide +kernel
theorem c85_82 : gP 85 82 = some (.return_, 1, 0, 0) := by decide +kernel
theorem c86_0 : gP 86 0 = some (.iconst 0, 1, 0, 0) := by decide +kernel
theorem c86_1 : gP 86 1 = some (.istore 2, 1, 0, 0) := by decide +kernel
theorem c86_2 : gP 86 2 = some (.iload 2, 1, 0, 0) := by decide +kernel
theorem c86_3 : gP 86 3 = some (.aload 0, 1, 0, 0) := by decide +kernel
theorem c86_4 : gP 86 4 = some (.getfield 4, 3, 2, 26) := by decide +kernel
theorem c86_7 : gP 86 7 = some (.getfield 14, 3, 6, 85) := by decide +kernel
theorem c86_10 : gP 86 10 = some (.if_icmp .ge 112, 3, 0, 0) := by decide +kernel
theorem c86_13 : gP 86 13 = some (.aload 0, 1, 0, 0) := by decide +kernel
theorem c86_14 : gP 86 14 = some (.aload 0, 1, 0, 0) := by decide +kernel
theorem c86_15 : gP 86 15 = some (.getfield 0, 3, 2, 11) := by decide +kernel
theorem c86_18 : gP 86 18 = some (.aload 1, 1, 0, 0) := by decide +kernel
theorem c86_19 : gP 86 19 = some (.getfield 3, 3, 5, 100) := by decide +kernel
theorem c86_22 : gP 86 22 = some (.aaload, 1, 0, 0) := by decide +kernel
theorem c86_23 : gP 86 23 = some (.iload 2, 1, 0, 0) := by decide +kernel
theorem c86_24 : gP 86 24 = some (.iaload, 1, 0, 0) := by decide +kernel
theorem c86_25 : gP 86 25 = some (.invokeinterface 78 67, 3, 2, 1) := by decide +kernel
theorem c86_28 : gP 86 28 = some (.ifCond .eq 106, 3, 0, 0) := by decide +kernel
theorem c86_31 : gP 86 31 = some (.aload 0, 1, 0, 0) := by decide +kernel
theorem c86_32 : gP 86 32 = some (.getfield 4, 3, 2, 26) := by decide +kernel
theorem c86_35 : gP 86 35 = some (.aload 0, 1, 0, 0) := by decide +kernel
theorem c86_36 : gP 86 36 = some (.getfield 4, 3, 2, 26) := by decide +kernel
theorem c86_39 : gP 86 39 = some (.getfield 7, 3, 6, 122) := by decide +kernel
theorem c86_42 : gP 86 42 = some (.iload 2, 1, 0, 0) := by decide +kernel
theorem c86_43 : gP 86 43 = some (.iaload, 1, 0, 0) := by decide +kernel
theorem c86_44 : gP 86 44 = some (.aload 1, 1, 0, 0) := by decide +kernel
theorem c86_45 : gP 86 45 = some (.getfield 4, 3, 5, 139) := by decide +kernel
theorem c86_48 : gP 86 48 = some (.aload 1, 1, 0, 0) := by decide +kernel
theorem c86_49 : gP 86 49 = some (.getfield 8, 3, 5, 142) := by decide +kernel
theorem c86_52 : gP 86 52 = some (.invokeinterface 72 145, 3, 4, 1) := by decide +kernel
theorem c86_55 : gP 86 55 = some (.istore 3, 1, 0, 0) := by decide +kernel
theorem c86_56 : gP 86 56 = some (.iload 3, 1, 0, 0) := by decide +kernel
theorem c86_57 : gP 86 57 = some (.iconst (-1), 1, 0, 0) := by decide +kernel
theorem c86_58 : gP 86 58 = some (.if_icmp .eq 106, 3, 0, 0) := by decide +kernel
theorem c86_61 : gP 86 61 = some (.aload 0, 1, 0, 0) := by decide +kernel
theorem c86_62 : gP 86 62 = some (.aload 0, 1, 0, 0) := by decide +kernel
theorem c86_63 : gP 86 63 = some (.getfield 1, 3, 2, 16) := by decide +kernel
theorem c86_66 : gP 86 66 = some (.aload 1, 1, 0, 0) := by decide +kernel
theorem c86_67 : gP 86 67 = some (.getfield 6, 3, 5, 97) := by decide +kernel
theorem c86_70 : gP 86 70 = some (.aaload, 1, 0, 0) := by decide +kernel
theorem c86_71 : gP 86 71 = some (.iload 3, 1, 0, 0) := by decide +kernel
theorem c86_72 : gP 86 72 = some (.invokeinterface 79 88, 3, 3, 1) := by decide +kernel
theorem c86_75 : gP 86 75 = some (.aload 0, 1, 0, 0) := by decide +kernel
theorem c86_76 : gP 86 76 = some (.aload 0, 1, 0, 0) := by decide +kernel
theorem c86_77 : gP 86 77 = some (.getfield 2, 3, 2, 19) := by decide +kernel
theorem c86_80 : gP 86 80 = some (.iload 3, 1, 0, 0) := by decide +kernel
theorem c86_81 : gP 86 81 = some (.invokeinterface 79 88, 3, 3, 1) := by decide +kernel
theorem c86_84 : gP 86 84 = some (.aload 0, 1, 0, 0) := by decide +kernel
theorem c86_85 : gP 86 85 = some (.aload 0, 1, 0, 0) := by decide +kernel
theorem c86_86 : gP 86 86 = some (.getfield 0, 3, 2, 11) := by decide +kernel
theorem c86_89 : gP 86 89 = some (.aload 0, 1, 0, 0) := by decide +kernel
theorem c86_90 : gP 86 90 = some (.getfield 4, 3, 2, 26) := by decide +kernel
theorem c86_93 : gP 86 93 = some (.getfield 5, 3, 6, 39) := by decide +kernel
theorem c86_96 : gP 86 96 = some (.iload 3, 1, 0, 0) := by decide +kernel
theorem c86_97 : gP 86 97 = some (.aaload, 1, 0, 0) := by decide +kernel
theorem c86_98 : gP 86 98 = some (.invokeinterface 57 43, 3, 1, 1) := by decide +kernel
theorem c86_101 : gP 86 101 = some (.aaload, 1, 0, 0) := by decide +kernel
theorem c86_102 : gP 86 102 = some (.iload 2, 1, 0, 0) := by decide +kernel
theorem c86_103 : gP 86 103 = some (.invokeinterface 79 88, 3, 3, 1) := by decide +kernel
theorem c86_106 : gP 86 106 = some (.iinc 2 1, 3, 0, 0) := by decide +kernel
theorem c86_109 : gP 86 109 = some (.goto 2, 3, 0, 0) := by decide +kernel
theorem c86_112 : gP 86 112 = some (.return_, 1, 0, 0) := by decide +kernel
theorem c87_0 : gP 87 0 = some (.iload 1, 1, 0, 0) := by decide +kernel
theorem c87_1 : gP 87 1 = some (.aload 0, 1, 0, 0) := by decide +kernel
theorem c87_2 : gP 87 2 = some (.getfield 3, 3, 4, 15) := by decide +kernel
theorem c87_5 : gP 87 5 = some (.if_icmp .ge 19, 3, 0, 0) := by decide +kernel
theorem c87_8 : gP 87 8 = some (.aload 0, 1, 0, 0) := by decide +kernel
theorem c87_9 : gP 87 9 = some (.getfield 2, 3, 4, 9) := by decide +kernel
theorem c87_12 : gP 87 12 = some (.iconst 2, 1, 0, 0) := by decide +kernel
theorem c87_13 : gP 87 13 = some (.iadd, 1, 0, 0) := by decide +kernel
theorem c87_14 : gP 87 14 = some (.iload 1, 1, 0, 0) := by decide +kernel
theorem c87_15 : gP 87 15 = some (.iadd, 1, 0, 0) := by decide +kernel
theorem c87_16 : gP 87 16 = some (.goto 20, 3, 0, 0) := by decide +kernel
theorem c87_19 : gP 87 19 = some (.iconst (-1), 1, 0, 0) := by decide +kernel
theorem c87_20 : gP 87 20 = some (.ireturn, 1, 0, 0) := by decide +kernel
theorem c88_0 : gP 88 0 = some (.aload 1, 1, 0, 0) := by decide +kernel
theorem c88_1 : gP 88 1 = some (.getfield 8, 3, 5, 142) := by decide +kernel
theorem c88_4 : gP 88 4 = some (.ifCond .le 30, 3, 0, 0) := by decide +kernel
theorem c88_7 : gP 88 7 = some (.aload 0, 1, 0, 0) := by decide +kernel
theorem c88_8 : gP 88 8 = some (.aload 0, 1, 0, 0) := by decide +kernel
theorem c88_9 : gP 88 9 = some (.getfield 0, 3, 2, 11) := by decide +kernel
theorem c88_12 : gP 88 12 = some (.aload 1, 1, 0, 0) := by decide +kernel
theorem c88_13 : gP 88 13 = some (.getfield 9, 3, 5, 156) := by decide +kernel
theorem c88_16 : gP 88 16 = some (.aaload, 1, 0, 0) := by decide +kernel
theorem c88_17 : gP 88 17 = some (.aload 0, 1, 0, 0) := by decide +kernel
theorem c88_18 : gP 88 18 = some (.getfield 0, 3, 2, 11) := by decide +kernel
theorem c88_21 : gP 88 21 = some (.aload 2, 1, 0, 0) := by decide +kernel
theorem c88_22 : gP 88 22 = some (.iconst 0, 1, 0, 0) := by decide +kernel
theorem c88_23 : gP 88 23 = some (.invokeinterface 87 159, 3, 2, 1) := by decide +kernel
theorem c88_26 : gP 88 26 = some (.aaload, 1, 0, 0) := by decide +kernel
theorem c88_27 : gP 88 27 = some (.invokeinterface 80 103, 3, 3, 1) := by decide +kernel
theorem c88_30 : gP 88 30 = some (.aload 1, 1, 0, 0) := by decide +kernel
theorem c88_31 : gP 88 31 = some (.getfield 8, 3, 5, 142) := by decide +kernel
theorem c88_34 : gP 88 34 = some (.iconst 1, 1, 0, 0) := by decide +kernel
theorem c88_35 : gP 88 35 = some (.if_icmp .le 61, 3, 0, 0) := by decide +kernel
theorem c88_38 : gP 88 38 = some (.aload 0, 1, 0, 0) := by decide +kernel
theorem c88_39 : gP 88 39 = some (.aload 0, 1, 0, 0) := by decide +kernel
theorem c88_40 : gP 88 40 = some (.getfield 0, 3, 2, 11) := by decide +kernel
theorem c88_43 : gP 88 43 = some (.aload 1, 1, 0, 0) := by decide +kernel
theorem c88_44 : gP 88 44 = some (.getfield 10, 3, 5, 163) := by decide +kernel
theorem c88_47 : gP 88 47 = some (.aaload, 1, 0, 0) := by decide +kernel
theorem c88_48 : gP 88 48 = some (.aload 0, 1, 0, 0) := by decide +kernel
theorem c88_49 : gP 88 49 = some (.getfield 0, 3, 2, 11) := by decide +kernel
theorem c88_52 : gP 88 52 = some (.aload 2, 1, 0, 0) := by decide +kernel
theorem c88_53 : gP 88 53 = some (.iconst 1, 1, 0, 0) := by decide +kernel
theorem c88_54 : gP 88 54 = some (.invokeinterface 87 159, 3, 2, 1) := by decide +kernel
theorem c88_57 : gP 88 57 = some (.aaload, 1, 0, 0) := by decide +kernel
theorem c88_58 : gP 88 58 = some (.invokeinterface 80 103, 3, 3, 1) := by decide +kernel
theorem c88_61 : gP 88 61 = some (.aload 1, 1, 0, 0) := by decide +kernel
theorem c88_62 : gP 88 62 = some (.getfield 2, 3, 5, 94) := by decide +kernel
theorem c88_65 : gP 88 65 = some (.iconst (-1), 1, 0, 0) := by decide +kernel
theorem c88_66 : gP 88 66 = some (.if_icmp .eq 91, 3, 0, 0) := by decide +kernel
theorem c88_69 : gP 88 69 = some (.aload 0, 1, 0, 0) := by decide +kernel
theorem c88_70 : gP 88 70 = some (.aload 0, 1, 0, 0) := by decide +kernel
theorem c88_71 : gP 88 71 = some (.getfield 0, 3, 2, 11) := by decide +kernel
theorem c88_74 : gP 88 74 = some (.aload 2, 1, 0, 0) := by decide +kernel
theorem c88_75 : gP 88 75 = some (.getfield 2, 3, 4, 166) := by decide +kernel
theorem c88_78 : gP 88 78 = some (.aaload, 1, 0, 0) := by decide +kernel
theorem c88_79 : gP 88 79 = some (.aload 0, 1, 0, 0) := by decide +kernel
theorem c88_80 : gP 88 80 = some (.getfield 0, 3, 2, 11) := by decide +kernel
theorem c88_83 : gP 88 83 = some (.aload 1, 1, 0, 0) := by decide +kernel
theorem c88_84 : gP 88 84 = some (.getfield 2, 3, 5, 94) := by decide +kernel
theorem c88_87 : gP 88 87 = some (.aaload, 1, 0, 0) := by decide +kernel
theorem c88_88 : gP 88 88 = some (.invokeinterface 80 103, 3, 3, 1) := by decide +kernel
theorem c88_91 : gP 88 91 = some (.return_, 1, 0, 0) := by decide +kernel
theorem c89_0 : gP 89 0 = some (.iconst 0, 1, 0, 0) := by decide +kernel
theorem c89_1 : gP 89 1 = some (.istore 2, 1, 0, 0) := by decide +kernel
theorem c89_2 : gP 89 2 = some (.iload 2, 1, 0, 0) := by decide +kernel
theorem c89_3 : gP 89 3 = some (.aload 0, 1, 0, 0) := by decide +kernel
theorem c89_4 : gP 89 4 = some (.getfield 4, 3, 2, 26) := by decide +kernel
theorem c89_7 : gP 89 7 = some (.getfield 10, 3, 6, 149) := by decide +kernel
theorem c89_10 : gP 89 10 = some (.if_icmp .ge 51, 3, 0, 0) := by decide +kernel
theorem c89_13 : gP 89 13 = some (.aload 0, 1, 0, 0) := by decide +kernel
theorem c89_14 : gP 89 14 = some (.aload 0, 1, 0, 0) := by decide +kernel
theorem c89_15 : gP 89 15 = some (.getfield 1, 3, 2, 16) := by decide +kernel
theorem c89_18 : gP 89 18 = some (.aload 1, 1, 0, 0) := by decide +kernel
theorem c89_19 : gP 89 19 = some (.getfield 6, 3, 5, 97) := by decide +kernel
theorem c89_22 : gP 89 22 = some (.aaload, 1, 0, 0) := by decide +kernel
theorem c89_23 : gP 89 23 = some (.iload 2, 1, 0, 0) := by decide +kernel
theorem c89_24 : gP 89 24 = some (.iaload, 1, 0, 0) := by decide +kernel
theorem c89_25 : gP 89 25 = some (.invokeinterface 78 67, 3, 2, 1) := by decide +kernel
theorem c89_28 : gP 89 28 = some (.ifCond .eq 45, 3, 0, 0) := by decide +kernel
theorem c89_31 : gP 89 31 = some (.aload 0, 1, 0, 0) := by decide +kernel
theorem c89_32 : gP 89 32 = some (.aload 1, 1, 0, 0) := by decide +kernel
theorem c89_33 : gP 89 33 = some (.aload 0, 1, 0, 0) := by decide +kernel
theorem c89_34 : gP 89 34 = some (.getfield 4, 3, 2, 26) := by decide +kernel
theorem c89_37 : gP 89 37 = some (.getfield 5, 3, 6, 39) := by decide +kernel
theorem c89_40 : gP 89 40 = some (.iload 2, 1, 0, 0) := by decide +kernel
theorem c89_41 : gP 89 41 = some (.aaload, 1, 0, 0) := by decide +kernel
theorem c89_42 : gP 89 42 = some (.invokeinterface 88 152, 3, 3, 1) := by decide +kernel
theorem c89_45 : gP 89 45 = some (.iinc 2 1, 3, 0, 0) := by decide +kernel
theorem c89_48 : gP 89 48 = some (.goto 2, 3, 0, 0) := by decide +kernel
theorem c89_51 : gP 89 51 = some (.return_, 1, 0, 0) := by decide +kernel
theorem c90_0 : gP 90 0 = some (.aload 1, 1, 0, 0) := by decide +kernel
theorem c90_1 : gP 90 1 = some (.getfield 0, 3, 5, 91) := by decide +kernel
theorem c90_4 : gP 90 4 = some (.tableswitch 130 2 9 #[68, 109, 117, 48, 130, 93, 68, 101], 48, 0, 0) := by decide +kernel
theorem c90_52 : gP 90 52 = some (.aload 0, 1, 0, 0) := by decide +kernel
theorem c90_53 : gP 90 53 = some (.aload 0, 1, 0, 0) := by decide +kernel
theorem c90_54 : gP 90 54 = some (.getfield 0, 3, 2, 11) := by decide +kernel
theorem c90_57 : gP 90 57 = some (.aload 1, 1, 0, 0) := by decide +kernel
theorem c90_58 : gP 90 58 = some (.getfield 2, 3, 5, 94) := by decide +kernel
theorem c90_61 : gP 90 61 = some (.aaload, 1, 0, 0) := by decide +kernel
theorem c90_62 : gP 90 62 = some (.aload 1, 1, 0, 0) := by decide +kernel
theorem c90_63 : gP 90 63 = some (.getfield 6, 3, 5, 97) := by decide +kernel
theorem c90_66 : gP 90 66 = some (.invokeinterface 79 88, 3, 3, 1) := by decide +kernel
theorem c90_69 : gP 90 69 = some (.goto 134, 3, 0, 0) := by decide +kernel
theorem c90_72 : gP 90 72 = some (.aload 0, 1, 0, 0) := by decide +kernel
theorem c90_73 : gP 90 73 = some (.aload 0, 1, 0, 0) := by decide +kernel
theorem c90_74 : gP 90 74 = some (.getfield 0, 3, 2, 11) := by decide +kernel
theorem c90_77 : gP 90 77 = some (.aload 1, 1, 0, 0) := by decide +kernel
theorem c90_78 : gP 90 78 = some (.getfield 3, 3, 5, 100) := by decide +kernel
theorem c90_81 : gP 90 81 = some (.aaload, 1, 0, 0) := by decide +kernel
theorem c90_82 : gP 90 82 = some (.aload 0, 1, 0, 0) := by decide +kernel
theorem c90_83 : gP 90 83 = some (.getfield 0, 3, 2, 11) := by decide +kernel
theorem c90_86 : gP 90 86 = some (.aload 1, 1, 0, 0) := by decide +kernel
theorem c90_87 : gP 90 87 = some (.getfield 2, 3, 5, 94) := by decide +kernel
theorem c90_90 : gP 90 90 = some (.aaload, 1, 0, 0) := by decide +kernel
theorem c90_91 : gP 90 91 = some (.invokeinterface 80 103, 3, 3, 1) := by decide +kernel
theorem c90_94 : gP 90 94 = some (.goto 134, 3, 0, 0) := by decide +kernel
theorem c90_97 : gP 90 97 = some (.aload 0, 1, 0, 0) := by decide +kernel
theorem c90_98 : gP 90 98 = some (.aload 1, 1, 0, 0) := by decide +kernel
theorem c90_99 : gP 90 99 = some (.invokeinterface 82 107, 3, 2, 1) := by decide +kernel
theorem c90_102 : gP 90 102 = some (.goto 134, 3, 0, 0) := by decide +kernel
theorem c90_105 : gP 90 105 = some (.aload 0, 1, 0, 0) := by decide +kernel
theorem c90_106 : gP 90 106 = some (.aload 1, 1, 0, 0) := by decide +kernel
theorem c90_107 : gP 90 107 = some (.invokeinterface 84 110, 3, 2, 1) := by decide +kernel
theorem c90_110 : gP 90 110 = some (.goto 134, 3, 0, 0) := by decide +kernel
theorem c90_113 : gP 90 113 = some (.aload 0, 1, 0, 0) := by decide +kernel
theorem c90_114 : gP 90 114 = some (.aload 1, 1, 0, 0) := by decide +kernel
theorem c90_115 : gP 90 115 = some (.invokeinterface 85 113, 3, 2, 1) := by decide +kernel
theorem c90_118 : gP 90 118 = some (.goto 134, 3, 0, 0) := by decide +kernel
theorem c90_121 : gP 90 121 = some (.aload 0, 1, 0, 0) := by decide +kernel
theorem c90_122 : gP 90 122 = some (.aload 1, 1, 0, 0) := by decide +kernel
theorem c90_123 : gP 90 123 = some (.invokeinterface 86 116, 3, 2, 1) := by decide +kernel
theorem c90_126 : gP 90 126 = some (.aload 0, 1, 0, 0) := by decide +kernel
theorem c90_127 : gP 90 127 = some (.aload 1, 1, 0, 0) := by decide +kernel
theorem c90_128 : gP 90 128 = some (.invokeinterface 89 119, 3, 2, 1) := by decide +kernel
theorem c90_131 : gP 90 131 = some (.goto 134, 3, 0, 0) := by decide +kernel
theorem c90_134 : gP 90 134 = some (.return_, 1, 0, 0) := by decide +kernel
theorem c91_0 : gP 91 0 = some (.aload 0, 1, 0, 0) := by decide +kernel
theorem c91_1 : gP 91 1 = some (.aload 1, 1, 0, 0) := by decide +kernel
theorem c91_2 : gP 91 2 = some (.putfield 4, 3, 2, 6) := by decide +kernel
theorem c91_5 : gP 91 5 = some (.aload 0, 1, 0, 0) := by decide +kernel
theorem c91_6 : gP 91 6 = some (.invokeinterface 77 30, 3, 1, 1) := by decide +kernel
theorem c91_9 : gP 91 9 = some (.aload 0, 1, 0, 0) := by decide +kernel
theorem c91_10 : gP 91 10 = some (.getfield 4, 3, 2, 26) := by decide +kernel
theorem c91_13 : gP 91 13 = some (.getfield 17, 3, 6, 33) := by decide +kernel
theorem c91_16 : gP 91 16 = some (.iconst (-1), 1, 0, 0) := by decide +kernel
theorem c91_17 : gP 91 17 = some (.if_icmp .ne 21, 3, 0, 0) := by decide +kernel
theorem c91_20 : gP 91 20 = some (.return_, 1, 0, 0) := by decide +kernel
theorem c91_21 : gP 91 21 = some (.aload 0, 1, 0, 0) := by decide +kernel
theorem c91_22 : gP 91 22 = some (.getfield 2, 3, 2, 19) := by decide +kernel
theorem c91_25 : gP 91 25 = some (.aload 0, 1, 0, 0) := by decide +kernel
theorem c91_26 : gP 91 26 = some (.getfield 4, 3, 2, 26) := by decide +kernel
theorem c91_29 : gP 91 29 = some (.getfield 17, 3, 6, 33) := by decide +kernel
theorem c91_32 : gP 91 32 = some (.iconst 0, 1, 0, 0) := by decide +kernel
theorem c91_33 : gP 91 33 = some (.iastore, 1, 0, 0) := by decide +kernel
theorem c91_34 : gP 91 34 = some (.aload 0, 1, 0, 0) := by decide +kernel
theorem c91_35 : gP 91 35 = some (.getfield 0, 3, 2, 11) := by decide +kernel
theorem c91_38 : gP 91 38 = some (.aload 0, 1, 0, 0) := by decide +kernel
theorem c91_39 : gP 91 39 = some (.getfield 4, 3, 2, 26) := by decide +kernel
theorem c91_42 : gP 91 42 = some (.getfield 5, 3, 6, 39) := by decide +kernel
theorem c91_45 : gP 91 45 = some (.aload 0, 1, 0, 0) := by decide +kernel
theorem c91_46 : gP 91 46 = some (.getfield 4, 3, 2, 26) := by decide +kernel
theorem c91_49 : gP 91 49 = some (.getfield 17, 3, 6, 33) := by decide +kernel
theorem c91_52 : gP 91 52 = some (.aaload, 1, 0, 0) := by decide +kernel
theorem c91_53 : gP 91 53 = some (.invokeinterface 57 43, 3, 1, 1) := by decide +kernel
theorem c91_56 : gP 91 56 = some (.aaload, 1, 0, 0) := by decide +kernel
theorem c91_57 : gP 91 57 = some (.iconst 0, 1, 0, 0) := by decide +kernel
theorem c91_58 : gP 91 58 = some (.iconst 0, 1, 0, 0) := by decide +kernel
theorem c91_59 : gP 91 59 = some (.iastore, 1, 0, 0) := by decide +kernel
theorem c91_60 : gP 91 60 = some (.aload 0, 1, 0, 0) := by decide +kernel
theorem c91_61 : gP 91 61 = some (.iconst 0, 1, 0, 0) := by decide +kernel
theorem c91_62 : gP 91 62 = some (.putfield 5, 3, 2, 0) := by decide +kernel
theorem c91_65 : gP 91 65 = some (.aload 0, 1, 0, 0) := by decide +kernel
theorem c91_66 : gP 91 66 = some (.getfield 5, 3, 2, 49) := by decide +kernel
theorem c91_69 : gP 91 69 = some (.iconst 2000, 3, 0, 0) := by decide +kernel
theorem c91_72 : gP 91 72 = some (.if_icmp .ge 149, 3, 0, 0) := by decide +kernel
theorem c91_75 : gP 91 75 = some (.aload 0, 1, 0, 0) := by decide +kernel
theorem c91_76 : gP 91 76 = some (.getfield 5, 3, 2, 49) := by decide +kernel
theorem c91_79 : gP 91 79 = some (.aload 0, 1, 0, 0) := by decide +kernel
theorem c91_80 : gP 91 80 = some (.getfield 6, 3, 2, 52) := by decide +kernel
theorem c91_83 : gP 91 83 = some (.if_icmp .ne 149, 3, 0, 0) := by decide +kernel
theorem c91_86 : gP 91 86 = some (.iconst 0, 1, 0, 0) := by decide +kernel
theorem c91_87 : gP 91 87 = some (.istore 2, 1, 0, 0) := by decide +kernel
theorem c91_88 : gP 91 88 = some (.iload 2, 1, 0, 0) := by decide +kernel
theorem c91_89 : gP 91 89 = some (.aload 0, 1, 0, 0) := by decide +kernel
theorem c91_90 : gP 91 90 = some (.getfield 4, 3, 2, 26) := by decide +kernel
theorem c91_93 : gP 91 93 = some (.getfield 16, 3, 6, 55) := by decide +kernel
theorem c91_96 : gP 91 96 = some (.if_icmp .ge 136, 3, 0, 0) := by decide +kernel
theorem c91_99 : gP 91 99 = some (.aload 0, 1, 0, 0) := by decide +kernel
theorem c91_100 : gP 91 100 = some (.getfield 4, 3, 2, 26) := by decide +kernel
theorem c91_103 : gP 91 103 = some (.getfield 6, 3, 6, 58) := by decide +kernel
theorem c91_106 : gP 91 106 = some (.iload 2, 1, 0, 0) := by decide +kernel
theorem c91_107 : gP 91 107 = some (.aaload, 1, 0, 0) := by decide +kernel
theorem c91_108 : gP 91 108 = some (.astore 3, 1, 0, 0) := by decide +kernel
theorem c91_109 : gP 91 109 = some (.aload 0, 1, 0, 0) := by decide +kernel
theorem c91_110 : gP 91 110 = some (.aload 0, 1, 0, 0) := by decide +kernel
theorem c91_111 : gP 91 111 = some (.getfield 2, 3, 2, 19) := by decide +kernel
theorem c91_114 : gP 91 114 = some (.aload 3, 1, 0, 0) := by decide +kernel
theorem c91_115 : gP 91 115 = some (.getfield 1, 3, 5, 62) := by decide +kernel
theorem c91_118 : gP 91 118 = some (.iaload, 1, 0, 0) := by decide +kernel
theorem c91_119 : gP 91 119 = some (.invokeinterface 78 67, 3, 2, 1) := by decide +kernel
theorem c91_122 : gP 91 122 = some (.ifCond .eq 130, 3, 0, 0) := by decide +kernel
theorem c91_125 : gP 91 125 = some (.aload 0, 1, 0, 0) := by decide +kernel
theorem c91_126 : gP 91 126 = some (.aload 3, 1, 0, 0) := by decide +kernel
theorem c91_127 : gP 91 127 = some (.invokeinterface 90 71, 3, 2, 1) := by decide +kernel
theorem c91_130 : gP 91 130 = some (.iinc 2 1, 3, 0, 0) := by decide +kernel
theorem c91_133 : gP 91 133 = some (.goto 88, 3, 0, 0) := by decide +kernel
theorem c91_136 : gP 91 136 = some (.aload 0, 1, 0, 0) := by decide +kernel
theorem c91_137 : gP 91 137 = some (.dup, 1, 0, 0) := by decide +kernel
theorem c91_138 : gP 91 138 = some (.getfield 5, 3, 2, 49) := by decide +kernel
theorem c91_141 : gP 91 141 = some (.iconst 1, 1, 0, 0) := by decide +kernel
theorem c91_142 : gP 91 142 = some (.iadd, 1, 0, 0) := by decide +kernel
theorem c91_143 : gP 91 143 = some (.putfield 5, 3, 2, 0) := by decide +kernel
theorem c91_146 : gP 91 146 = some (.goto 65, 3, 0, 0) := by decide +kernel
theorem c91_149 : gP 91 149 = some (.return_, 1, 0, 0) := by decide +kernel
theorem c92_0 : gP 92 0 = some (.iconst 0, 1, 0, 0) := by decide +kernel
theorem c92_1 : gP 92 1 = some (.istore 1, 1, 0, 0) := by decide +kernel
theorem c92_2 : gP 92 2 = some (.iload 1, 1, 0, 0) := by decide +kernel
theorem c92_3 : gP 92 3 = some (.iconst 48, 2, 0, 0) := by decide +kernel
theorem c92_5 : gP 92 5 = some (.if_icmp .ge 24, 3, 0, 0) := by decide +kernel
theorem c92_8 : gP 92 8 = some (.aload 0, 1, 0, 0) := by decide +kernel
theorem c92_9 : gP 92 9 = some (.getfield 0, 3, 3, 11) := by decide +kernel
theorem c92_12 : gP 92 12 = some (.iload 1, 1, 0, 0) := by decide +kernel
theorem c92_13 : gP 92 13 = some (.aaload, 1, 0, 0) := by decide +kernel
theorem c92_14 : gP 92 14 = some (.iconst 0, 1, 0, 0) := by decide +kernel
theorem c92_15 : gP 92 15 = some (.invokeinterface 75 26, 3, 2, 0) := by decide +kernel
theorem c92_18 : gP 92 18 = some (.iinc 1 1, 3, 0, 0) := by decide +kernel
theorem c92_21 : gP 92 21 = some (.goto 2, 3, 0, 0) := by decide +kernel
theorem c92_24 : gP 92 24 = some (.return_, 1, 0, 0) := by decide +kernel
theorem c93_0 : gP 93 0 = some (.iconst 0, 1, 0, 0) := by decide +kernel
theorem c93_1 : gP 93 1 = some (.istore 1, 1, 0, 0) := by decide +kernel
theorem c93_2 : gP 93 2 = some (.iconst 0, 1, 0, 0) := by decide +kernel
theorem c93_3 : gP 93 3 = some (.istore 2, 1, 0, 0) := by decide +kernel
theorem c93_4 : gP 93 4 = some (.iload 2, 1, 0, 0) := by decide +kernel
theorem c93_5 : gP 93 5 = some (.aload 0, 1, 0, 0) := by decide +kernel
theorem c93_6 : gP 93 6 = some (.getfield 4, 3, 2, 26) := by decide +kernel
theorem c93_9 : gP 93 9 = some (.getfield 15, 3, 6, 169) := by decide +kernel
theorem c93_12 : gP 93 12 = some (.if_icmp .ge 55, 3, 0, 0) := by decide +kernel
theorem c93_15 : gP 93 15 = some (.iconst 0, 1, 0, 0) := by decide +kernel
theorem c93_16 : gP 93 16 = some (.istore 3, 1, 0, 0) := by decide +kernel
theorem c93_17 : gP 93 17 = some (.iload 3, 1, 0, 0) := by decide +kernel
theorem c93_18 : gP 93 18 = some (.aload 0, 1, 0, 0) := by decide +kernel
theorem c93_19 : gP 93 19 = some (.getfield 4, 3, 2, 26) := by decide +kernel
theorem c93_22 : gP 93 22 = some (.getfield 14, 3, 6, 85) := by decide +kernel
theorem c93_25 : gP 93 25 = some (.if_icmp .ge 49, 3, 0, 0) := by decide +kernel
theorem c93_28 : gP 93 28 = some (.aload 0, 1, 0, 0) := by decide +kernel
theorem c93_29 : gP 93 29 = some (.getfield 0, 3, 2, 11) := by decide +kernel
theorem c93_32 : gP 93 32 = some (.iload 2, 1, 0, 0) := by decide +kernel
theorem c93_33 : gP 93 33 = some (.aaload, 1, 0, 0) := by decide +kernel
theorem c93_34 : gP 93 34 = some (.iload 3, 1, 0, 0) := by decide +kernel
theorem c93_35 : gP 93 35 = some (.iaload, 1, 0, 0) := by decide +kernel
theorem c93_36 : gP 93 36 = some (.iconst (-1), 1, 0, 0) := by decide +kernel
theorem c93_37 : gP 93 37 = some (.if_icmp .eq 43, 3, 0, 0) := by decide +kernel
theorem c93_40 : gP 93 40 = some (.iinc 1 1, 3, 0, 0) := by decide +kernel
theorem c93_43 : gP 93 43 = some (.iinc 3 1, 3, 0, 0) := by decide +kernel
theorem c93_46 : gP 93 46 = some (.goto 17, 3, 0, 0) := by decide +kernel
theorem c93_49 : gP 93 49 = some (.iinc 2 1, 3, 0, 0) := by decide +kernel
theorem c93_52 : gP 93 52 = some (.goto 4, 3, 0, 0) := by decide +kernel
theorem c93_55 : gP 93 55 = some (.iload 1, 1, 0, 0) := by decide +kernel
theorem c93_56 : gP 93 56 = some (.ireturn, 1, 0, 0) := by decide +kernel
theorem c94_0 : gP 94 0 = some (.aload 0, 1, 0, 0) := by decide +kernel
theorem c94_1 : gP 94 1 = some (.aload 0, 1, 0, 0) := by decide +kernel
theorem c94_2 : gP 94 2 = some (.getfield 1, 3, 7, 16) := by decide +kernel
theorem c94_5 : gP 94 5 = some (.aload 0, 1, 0, 0) := by decide +kernel
theorem c94_6 : gP 94 6 = some (.getfield 0, 3, 7, 9) := by decide +kernel
theorem c94_9 : gP 94 9 = some (.aload 0, 1, 0, 0) := by decide +kernel
theorem c94_10 : gP 94 10 = some (.getfield 6, 3, 7, 55) := by decide +kernel
theorem c94_13 : gP 94 13 = some (.aload 0, 1, 0, 0) := by decide +kernel
theorem c94_14 : gP 94 14 = some (.getfield 5, 3, 7, 41) := by decide +kernel
theorem c94_17 : gP 94 17 = some (.invokeinterface 74 65, 3, 4, 1) := by decide +kernel
theorem c94_20 : gP 94 20 = some (.putfield 7, 3, 7, 0) := by decide +kernel
theorem c94_23 : gP 94 23 = some (.aload 0, 1, 0, 0) := by decide +kernel
theorem c94_24 : gP 94 24 = some (.getfield 7, 3, 7, 44) := by decide +kernel
theorem c94_27 : gP 94 27 = some (.iconst (-1), 1, 0, 0) := by decide +kernel
theorem c94_28 : gP 94 28 = some (.if_icmp .eq 39, 3, 0, 0) := by decide +kernel
theorem c94_31 : gP 94 31 = some (.athrow, 54, 9, 52) := by decide +kernel
theorem c94_39 : gP 94 39 = some (.aload 0, 1, 0, 0) := by decide +kernel
theorem c94_40 : gP 94 40 = some (.getfield 4, 3, 7, 37) := by decide +kernel
theorem c94_43 : gP 94 43 = some (.astore 1, 1, 0, 0) := by decide +kernel
theorem c94_44 : gP 94 44 = some (.aload 0, 1, 0, 0) := by decide +kernel
theorem c94_45 : gP 94 45 = some (.aload 0, 1, 0, 0) := by decide +kernel
theorem c94_46 : gP 94 46 = some (.getfield 5, 3, 7, 41) := by decide +kernel
theorem c94_49 : gP 94 49 = some (.putfield 4, 3, 7, 6) := by decide +kernel
theorem c94_52 : gP 94 52 = some (.aload 0, 1, 0, 0) := by decide +kernel
theorem c94_53 : gP 94 53 = some (.aload 1, 1, 0, 0) := by decide +kernel
theorem c94_54 : gP 94 54 = some (.putfield 5, 3, 7, 6) := by decide +kernel
theorem c94_57 : gP 94 57 = some (.aload 0, 1, 0, 0) := by decide +kernel
theorem c94_58 : gP 94 58 = some (.getfield 2, 3, 7, 23) := by decide +kernel
theorem c94_61 : gP 94 61 = some (.aload 0, 1, 0, 0) := by decide +kernel
theorem c94_62 : gP 94 62 = some (.getfield 4, 3, 7, 37) := by decide +kernel
theorem c94_65 : gP 94 65 = some (.invokeinterface 91 69, 3, 2, 1) := by decide +kernel
theorem c94_68 : gP 94 68 = some (.aload 0, 1, 0, 0) := by decide +kernel
theorem c94_69 : gP 94 69 = some (.getfield 3, 3, 7, 30) := by decide +kernel
theorem c94_72 : gP 94 72 = some (.invokeinterface 92 73, 3, 1, 1) := by decide +kernel
theorem c94_75 : gP 94 75 = some (.aload 0, 1, 0, 0) := by decide +kernel
theorem c94_76 : gP 94 76 = some (.getfield 2, 3, 7, 23) := by decide +kernel
theorem c94_79 : gP 94 79 = some (.invokeinterface 93 76, 3, 1, 1) := by decide +kernel
theorem c94_82 : gP 94 82 = some (.ireturn, 1, 0, 0) := by decide +kernel
theorem c95_0 : gP 95 0 = some (.aload 1, 1, 0, 0) := by decide +kernel
theorem c95_1 : gP 95 1 = some (.iconst 0, 1, 0, 0) := by decide +kernel
theorem c95_2 : gP 95 2 = some (.aload 0, 1, 0, 0) := by decide +kernel
theorem c95_3 : gP 95 3 = some (.invokeinterface 94 21, 3, 1, 1) := by decide +kernel
theorem c95_6 : gP 95 6 = some (.i2l, 1, 0, 0) := by decide +kernel
theorem c95_7 : gP 95 7 = some (.lastore, 1, 0, 0) := by decide +kernel
theorem c95_8 : gP 95 8 = some (.goto 14, 3, 0, 0) := by decide +kernel
theorem c95_11 : gP 95 11 = some (.astore 2, 1, 0, 0) := by decide +kernel
theorem c95_12 : gP 95 12 = some (.iconst 1, 1, 0, 0) := by decide +kernel
theorem c95_13 : gP 95 13 = some (.ireturn, 1, 0, 0) := by decide +kernel
theorem c95_14 : gP 95 14 = some (.iconst 0, 1, 0, 0) := by decide +kernel
theorem c95_15 : gP 95 15 = some (.ireturn, 1, 0, 0) := by decide +kernel
theorem c96_0 : gP 96 0 = some (.iconst 1, 1, 0, 0) := by decide +kernel
theorem c96_1 : gP 96 1 = some (.aload 0, 1, 0, 0) := by decide +kernel
theorem c96_2 : gP 96 2 = some (.getfield 18, 3, 8, 221) := by decide +kernel
theorem c96_5 : gP 96 5 = some (.isub, 1, 0, 0) := by decide +kernel
theorem c96_6 : gP 96 6 = some (.ireturn, 1, 0, 0) := by decide +kernel
theorem c97_0 : gP 97 0 = some (.iload 0, 1, 0, 0) := by decide +kernel
theorem c97_1 : gP 97 1 = some (.iconst 123, 2, 0, 0) := by decide +kernel
theorem c97_3 : gP 97 3 = some (.if_icmp .eq 54, 3, 0, 0) := by decide +kernel
theorem c97_6 : gP 97 6 = some (.iload 0, 1, 0, 0) := by decide +kernel
theorem c97_7 : gP 97 7 = some (.iconst 125, 2, 0, 0) := by decide +kernel
theorem c97_9 : gP 97 9 = some (.if_icmp .eq 54, 3, 0, 0) := by decide +kernel
theorem c97_12 : gP 97 12 = some (.iload 0, 1, 0, 0) := by decide +kernel
theorem c97_13 : gP 97 13 = some (.iconst 40, 2, 0, 0) := by decide +kernel
theorem c97_15 : gP 97 15 = some (.if_icmp .eq 54, 3, 0, 0) := by decide +kernel
theorem c97_18 : gP 97 18 = some (.iload 0, 1, 0, 0) := by decide +kernel
theorem c97_19 : gP 97 19 = some (.iconst 41, 2, 0, 0) := by decide +kernel
theorem c97_21 : gP 97 21 = some (.if_icmp .eq 54, 3, 0, 0) := by decide +kernel
theorem c97_24 : gP 97 24 = some (.iload 0, 1, 0, 0) := by decide +kernel
theorem c97_25 : gP 97 25 = some (.iconst 61, 2, 0, 0) := by decide +kernel
theorem c97_27 : gP 97 27 = some (.if_icmp .eq 54, 3, 0, 0) := by decide +kernel
theorem c97_30 : gP 97 30 = some (.iload 0, 1, 0, 0) := by decide +kernel
theorem c97_31 : gP 97 31 = some (.iconst 46, 2, 0, 0) := by decide +kernel
theorem c97_33 : gP 97 33 = some (.if_icmp .eq 54, 3, 0, 0) := by decide +kernel
theorem c97_36 : gP 97 36 = some (.iload 0, 1, 0, 0) := by decide +kernel
theorem c97_37 : gP 97 37 = some (.iconst 44, 2, 0, 0) := by decide +kernel
theorem c97_39 : gP 97 39 = some (.if_icmp .eq 54, 3, 0, 0) := by decide +kernel
theorem c97_42 : gP 97 42 = some (.iload 0, 1, 0, 0) := by decide +kernel
theorem c97_43 : gP 97 43 = some (.iconst 59, 2, 0, 0) := by decide +kernel
theorem c97_45 : gP 97 45 = some (.if_icmp .eq 54, 3, 0, 0) := by decide +kernel
theorem c97_48 : gP 97 48 = some (.iload 0, 1, 0, 0) := by decide +kernel
theorem c97_49 : gP 97 49 = some (.iconst 58, 2, 0, 0) := by decide +kernel
theorem c97_51 : gP 97 51 = some (.if_icmp .ne 58, 3, 0, 0) := by decide +kernel
theorem c97_54 : gP 97 54 = some (.iconst 1, 1, 0, 0) := by decide +kernel
theorem c97_55 : gP 97 55 = some (.goto 59, 3, 0, 0) := by decide +kernel
theorem c97_58 : gP 97 58 = some (.iconst 0, 1, 0, 0) := by decide +kernel
theorem c97_59 : gP 97 59 = some (.ireturn, 1, 1, 0) := by decide +kernel
theorem c98_0 : gP 98 0 = some (.iload 0, 1, 0, 0) := by decide +kernel
theorem c98_1 : gP 98 1 = some (.iconst 97, 2, 0, 0) := by decide +kernel
theorem c98_3 : gP 98 3 = some (.iconst 122, 2, 0, 0) := by decide +kernel
theorem c98_5 : gP 98 5 = some (.invokeinterface 22 126, 3, 3, 0) := by decide +kernel
theorem c98_8 : gP 98 8 = some (.ireturn, 1, 1, 0) := by decide +kernel
theorem c99_0 : gP 99 0 = some (.aload 0, 1, 0, 0) := by decide +kernel
theorem c99_1 : gP 99 1 = some (.aload 0, 1, 0, 0) := by decide +kernel
theorem c99_2 : gP 99 2 = some (.getfield 6, 3, 8, 141) := by decide +kernel
theorem c99_5 : gP 99 5 = some (.putfield 7, 3, 8, 0) := by decide +kernel
theorem c99_8 : gP 99 8 = some (.aload 0, 1, 0, 0) := by decide +kernel
theorem c99_9 : gP 99 9 = some (.getfield 6, 3, 8, 141) := by decide +kernel
theorem c99_12 : gP 99 12 = some (.istore 1, 1, 0, 0) := by decide +kernel
theorem c99_13 : gP 99 13 = some (.iload 1, 1, 0, 0) := by decide +kernel
theorem c99_14 : gP 99 14 = some (.aload 0, 1, 0, 0) := by decide +kernel
theorem c99_15 : gP 99 15 = some (.getfield 1, 3, 8, 138) := by decide +kernel
theorem c99_18 : gP 99 18 = some (.if_icmp .ge 38, 3, 0, 0) := by decide +kernel
theorem c99_21 : gP 99 21 = some (.aload 0, 1, 0, 0) := by decide +kernel
theorem c99_22 : gP 99 22 = some (.getfield 0, 3, 8, 7) := by decide +kernel
theorem c99_25 : gP 99 25 = some (.iload 1, 1, 0, 0) := by decide +kernel
theorem c99_26 : gP 99 26 = some (.iaload, 1, 0, 0) := by decide +kernel
theorem c99_27 : gP 99 27 = some (.iconst 32, 2, 0, 0) := by decide +kernel
theorem c99_29 : gP 99 29 = some (.if_icmp .ne 38, 3, 0, 0) := by decide +kernel
theorem c99_32 : gP 99 32 = some (.iinc 1 1, 3, 0, 0) := by decide +kernel
theorem c99_35 : gP 99 35 = some (.goto 13, 3, 0, 0) := by decide +kernel
theorem c99_38 : gP 99 38 = some (.aload 0, 1, 0, 0) := by decide +kernel
theorem c99_39 : gP 99 39 = some (.iload 1, 1, 0, 0) := by decide +kernel
theorem c99_40 : gP 99 40 = some (.putfield 5, 3, 8, 0) := by decide +kernel
theorem c99_43 : gP 99 43 = some (.iload 1, 1, 0, 0) := by decide +kernel
theorem c99_44 : gP 99 44 = some (.aload 0, 1, 0, 0) := by decide +kernel
theorem c99_45 : gP 99 45 = some (.getfield 1, 3, 8, 138) := by decide +kernel
theorem c99_48 : gP 99 48 = some (.if_icmp .ne 57, 3, 0, 0) := by decide +kernel
theorem c99_51 : gP 99 51 = some (.aload 0, 1, 0, 0) := by decide +kernel
theorem c99_52 : gP 99 52 = some (.iconst 0, 1, 0, 0) := by decide +kernel
theorem c99_53 : gP 99 53 = some (.putfield 3, 3, 8, 0) := by decide +kernel
theorem c99_56 : gP 99 56 = some (.return_, 1, 0, 0) := by decide +kernel
theorem c99_57 : gP 99 57 = some (.aload 0, 1, 0, 0) := by decide +kernel
theorem c99_58 : gP 99 58 = some (.getfield 0, 3, 8, 7) := by decide +kernel
theorem c99_61 : gP 99 61 = some (.iload 1, 1, 0, 0) := by decide +kernel
theorem c99_62 : gP 99 62 = some (.iaload, 1, 0, 0) := by decide +kernel
theorem c99_63 : gP 99 63 = some (.istore 2, 1, 0, 0) := by decide +kernel
theorem c99_64 : gP 99 64 = some (.aload 0, 1, 0, 0) := by decide +kernel
theorem c99_65 : gP 99 65 = some (.iload 2, 1, 0, 0) := by decide +kernel
theorem c99_66 : gP 99 66 = some (.invokeinterface 97 153, 3, 1, 0) := by decide +kernel
theorem c99_69 : gP 99 69 = some (.ifCond .eq 76, 3, 0, 0) := by decide +kernel
theorem c99_72 : gP 99 72 = some (.iconst 2, 1, 0, 0) := by decide +kernel
theorem c99_73 : gP 99 73 = some (.goto 77, 3, 0, 0) := by decide +kernel
theorem c99_76 : gP 99 76 = some (.iconst 3, 1, 0, 0) := by decide +kernel
theorem c99_77 : gP 99 77 = some (.putfield 3, 3, 8, 0) := by decide +kernel
theorem c99_80 : gP 99 80 = some (.aload 0, 1, 0, 0) := by decide +kernel
theorem c99_81 : gP 99 81 = some (.iload 2, 1, 0, 0) := by decide +kernel
theorem c99_82 : gP 99 82 = some (.putfield 4, 3, 8, 0) := by decide +kernel
theorem c99_85 : gP 99 85 = some (.aload 0, 1, 0, 0) := by decide +kernel
theorem c99_86 : gP 99 86 = some (.iload 1, 1, 0, 0) := by decide +kernel
theorem c99_87 : gP 99 87 = some (.iconst 1, 1, 0, 0) := by decide +kernel
theorem c99_88 : gP 99 88 = some (.iadd, 1, 0, 0) := by decide +kernel
theorem c99_89 : gP 99 89 = some (.putfield 6, 3, 8, 0) := by decide +kernel
theorem c99_92 : gP 99 92 = some (.iload 2, 1, 0, 0) := by decide +kernel
theorem c99_93 : gP 99 93 = some (.invokeinterface 98 160, 3, 1, 0) := by decide +kernel
theorem c99_96 : gP 99 96 = some (.ifCond .ne 100, 3, 0, 0) := by decide +kernel
theorem c99_99 : gP 99 99 = some (.return_, 1, 0, 0) := by decide +kernel
theorem c99_100 : gP 99 100 = some (.aload 0, 1, 0, 0) := by decide +kernel
theorem c99_101 : gP 99 101 = some (.iconst 0, 1, 0, 0) := by decide +kernel
theorem c99_102 : gP 99 102 = some (.putfield 4, 3, 8, 0) := by decide +kernel
theorem c99_105 : gP 99 105 = some (.iconst 0, 1, 0, 0) := by decide +kernel
theorem c99_106 : gP 99 106 = some (.istore 3, 1, 0, 0) := by decide +kernel
theorem c99_107 : gP 99 107 = some (.iload 1, 1, 0, 0) := by decide +kernel
theorem c99_108 : gP 99 108 = some (.aload 0, 1, 0, 0) := by decide +kernel
theorem c99_109 : gP 99 109 = some (.getfield 1, 3, 8, 138) := by decide +kernel
theorem c99_112 : gP 99 112 = some (.if_icmp .ge 165, 3, 0, 0) := by decide +kernel
theorem c99_115 : gP 99 115 = some (.aload 0, 1, 0, 0) := by decide +kernel
theorem c99_116 : gP 99 116 = some (.getfield 0, 3, 8, 7) := by decide +kernel
theorem c99_119 : gP 99 119 = some (.iload 1, 1, 0, 0) := by decide +kernel
theorem c99_120 : gP 99 120 = some (.iaload, 1, 0, 0) := by decide +kernel
theorem c99_121 : gP 99 121 = some (.invokeinterface 98 160, 3, 1, 0) := by decide +kernel
theorem c99_124 : gP 99 124 = some (.ifCond .eq 165, 3, 0, 0) := by decide +kernel
theorem c99_127 : gP 99 127 = some (.iload 3, 1, 0, 0) := by decide +kernel
theorem c99_128 : gP 99 128 = some (.iconst 6, 2, 0, 0) := by decide +kernel
theorem c99_130 : gP 99 130 = some (.if_icmp .ge 156, 3, 0, 0) := by decide +kernel
theorem c99_133 : gP 99 133 = some (.aload 0, 1, 0, 0) := by decide +kernel
theorem c99_134 : gP 99 134 = some (.iconst 27, 2, 0, 0) := by decide +kernel
theorem c99_136 : gP 99 136 = some (.aload 0, 1, 0, 0) := by decide +kernel
theorem c99_137 : gP 99 137 = some (.getfield 4, 3, 8, 157) := by decide +kernel
theorem c99_140 : gP 99 140 = some (.imul, 1, 0, 0) := by decide +kernel
theorem c99_141 : gP 99 141 = some (.aload 0, 1, 0, 0) := by decide +kernel
theorem c99_142 : gP 99 142 = some (.getfield 0, 3, 8, 7) := by decide +kernel
theorem c99_145 : gP 99 145 = some (.iload 1, 1, 0, 0) := by decide +kernel
theorem c99_146 : gP 99 146 = some (.iaload, 1, 0, 0) := by decide +kernel
theorem c99_147 : gP 99 147 = some (.iadd, 1, 0, 0) := by decide +kernel
theorem c99_148 : gP 99 148 = some (.iconst 97, 2, 0, 0) := by decide +kernel
theorem c99_150 : gP 99 150 = some (.isub, 1, 0, 0) := by decide +kernel
theorem c99_151 : gP 99 151 = some (.iconst 1, 1, 0, 0) := by decide +kernel
theorem c99_152 : gP 99 152 = some (.iadd, 1, 0, 0) := by decide +kernel
theorem c99_153 : gP 99 153 = some (.putfield 4, 3, 8, 0) := by decide +kernel
theorem c99_156 : gP 99 156 = some (.iinc 3 1, 3, 0, 0) := by decide +kernel
theorem c99_159 : gP 99 159 = some (.iinc 1 1, 3, 0, 0) := by decide +kernel
theorem c99_162 : gP 99 162 = some (.goto 107, 3, 0, 0) := by decide +kernel
theorem c99_165 : gP 99 165 = some (.aload 0, 1, 0, 0) := by decide +kernel
theorem c99_166 : gP 99 166 = some (.iload 1, 1, 0, 0) := by decide +kernel
theorem c99_167 : gP 99 167 = some (.putfield 6, 3, 8, 0) := by decide +kernel
theorem c99_170 : gP 99 170 = some (.aload 0, 1, 0, 0) := by decide +kernel
theorem c99_171 : gP 99 171 = some (.iload 3, 1, 0, 0) := by decide +kernel
theorem c99_172 : gP 99 172 = some (.iconst 6, 2, 0, 0) := by decide +kernel
theorem c99_174 : gP 99 174 = some (.if_icmp .le 181, 3, 0, 0) := by decide +kernel
theorem c99_177 : gP 99 177 = some (.iconst 3, 1, 0, 0) := by decide +kernel
theorem c99_178 : gP 99 178 = some (.goto 182, 3, 0, 0) := by decide +kernel
theorem c99_181 : gP 99 181 = some (.iconst 1, 1, 0, 0) := by decide +kernel
theorem c99_182 : gP 99 182 = some (.putfield 3, 3, 8, 0) := by decide +kernel
theorem c99_185 : gP 99 185 = some (.return_, 1, 0, 0) := by decide +kernel
theorem c100_0 : gP 100 0 = some (.iload 1, 1, 0, 0) := by decide +kernel
theorem c100_1 : gP 100 1 = some (.ifCond .ne 8, 3, 0, 0) := by decide +kernel
theorem c100_4 : gP 100 4 = some (.iload 0, 1, 0, 0) := by decide +kernel
theorem c100_5 : gP 100 5 = some (.goto 19, 3, 0, 0) := by decide +kernel
theorem c100_8 : gP 100 8 = some (.iconst 27, 2, 0, 0) := by decide +kernel
theorem c100_10 : gP 100 10 = some (.iload 0, 1, 0, 0) := by decide +kernel
theorem c100_11 : gP 100 11 = some (.imul, 1, 0, 0) := by decide +kernel
theorem c100_12 : gP 100 12 = some (.iload 1, 1, 0, 0) := by decide +kernel
theorem c100_13 : gP 100 13 = some (.iadd, 1, 0, 0) := by decide +kernel
theorem c100_14 : gP 100 14 = some (.iconst 97, 2, 0, 0) := by decide +kernel
theorem c100_16 : gP 100 16 = some (.isub, 1, 0, 0) := by decide +kernel
theorem c100_17 : gP 100 17 = some (.iconst 1, 1, 0, 0) := by decide +kernel
theorem c100_18 : gP 100 18 = some (.iadd, 1, 0, 0) := by decide +kernel
theorem c100_19 : gP 100 19 = some (.ireturn, 1, 0, 0) := by decide +kernel
theorem c101_0 : gP 101 0 = some (.iconst 0, 1, 0, 0) := by decide +kernel
theorem c101_1 : gP 101 1 = some (.iload 0, 1, 0, 0) := by decide +kernel
theorem c101_2 : gP 101 2 = some (.invokeinterface 100 163, 3, 2, 0) := by decide +kernel
theorem c101_5 : gP 101 5 = some (.iload 1, 1, 0, 0) := by decide +kernel
theorem c101_6 : gP 101 6 = some (.invokeinterface 100 163, 3, 2, 0) := by decide +kernel
theorem c101_9 : gP 101 9 = some (.iload 2, 1, 0, 0) := by decide +kernel
theorem c101_10 : gP 101 10 = some (.invokeinterface 100 163, 3, 2, 0) := by decide +kernel
theorem c101_13 : gP 101 13 = some (.iload 3, 1, 0, 0) := by decide +kernel
theorem c101_14 : gP 101 14 = some (.invokeinterface 100 163, 3, 2, 0) := by decide +kernel
theorem c101_17 : gP 101 17 = some (.iload 4, 2, 0, 0) := by decide +kernel
theorem c101_19 : gP 101 19 = some (.invokeinterface 100 163, 3, 2, 0) := by decide +kernel
theorem c101_22 : gP 101 22 = some (.iload 5, 2, 0, 0) := by decide +kernel
theorem c101_24 : gP 101 24 = some (.invokeinterface 100 163, 3, 2, 0) := by decide +kernel
theorem c101_27 : gP 101 27 = some (.ireturn, 1, 0, 0) := by decide +kernel
theorem c102_0 : gP 102 0 = some (.aload 0, 1, 0, 0) := by decide +kernel
theorem c102_1 : gP 102 1 = some (.getfield 3, 3, 8, 150) := by decide +kernel
theorem c102_4 : gP 102 4 = some (.iconst 1, 1, 0, 0) := by decide +kernel
theorem c102_5 : gP 102 5 = some (.if_icmp .ne 20, 3, 0, 0) := by decide +kernel
theorem c102_8 : gP 102 8 = some (.aload 0, 1, 0, 0) := by decide +kernel
theorem c102_9 : gP 102 9 = some (.getfield 4, 3, 8, 157) := by decide +kernel
theorem c102_12 : gP 102 12 = some (.iload 1, 1, 0, 0) := by decide +kernel
theorem c102_13 : gP 102 13 = some (.if_icmp .ne 20, 3, 0, 0) := by decide +kernel
theorem c102_16 : gP 102 16 = some (.iconst 1, 1, 0, 0) := by decide +kernel
theorem c102_17 : gP 102 17 = some (.goto 21, 3, 0, 0) := by decide +kernel
theorem c102_20 : gP 102 20 = some (.iconst 0, 1, 0, 0) := by decide +kernel
theorem c102_21 : gP 102 21 = some (.ireturn, 1, 1, 0) := by decide +kernel
theorem c103_0 : gP 103 0 = some (.aload 0, 1, 0, 0) := by decide +kernel
theorem c103_1 : gP 103 1 = some (.iconst 99, 2, 0, 0) := by decide +kernel
theorem c103_3 : gP 103 3 = some (.iconst 108, 2, 0, 0) := by decide +kernel
theorem c103_5 : gP 103 5 = some (.iconst 97, 2, 0, 0) := by decide +kernel
theorem c103_7 : gP 103 7 = some (.iconst 115, 2, 0, 0) := by decide +kernel
theorem c103_9 : gP 103 9 = some (.iconst 115, 2, 0, 0) := by decide +kernel
theorem c103_11 : gP 103 11 = some (.iconst 0, 1, 0, 0) := by decide +kernel
theorem c103_12 : gP 103 12 = some (.invokeinterface 101 167, 3, 6, 0) := by decide +kernel
theorem c103_15 : gP 103 15 = some (.invokeinterface 102 171, 3, 2, 1) := by decide +kernel
theorem c103_18 : gP 103 18 = some (.ireturn, 1, 1, 0) := by decide +kernel
theorem c104_0 : gP 104 0 = some (.aload 0, 1, 0, 0) := by decide +kernel
theorem c104_1 : gP 104 1 = some (.getfield 8, 3, 8, 205) := by decide +kernel
theorem c104_4 : gP 104 4 = some (.ifCond .ge 29, 3, 0, 0) := by decide +kernel
theorem c104_7 : gP 104 7 = some (.aload 0, 1, 0, 0) := by decide +kernel
theorem c104_8 : gP 104 8 = some (.aload 0, 1, 0, 0) := by decide +kernel
theorem c104_9 : gP 104 9 = some (.getfield 3, 3, 8, 150) := by decide +kernel
theorem c104_12 : gP 104 12 = some (.ifCond .ne 22, 3, 0, 0) := by decide +kernel
theorem c104_15 : gP 104 15 = some (.aload 0, 1, 0, 0) := by decide +kernel
theorem c104_16 : gP 104 16 = some (.getfield 7, 3, 8, 144) := by decide +kernel
theorem c104_19 : gP 104 19 = some (.goto 26, 3, 0, 0) := by decide +kernel
theorem c104_22 : gP 104 22 = some (.aload 0, 1, 0, 0) := by decide +kernel
theorem c104_23 : gP 104 23 = some (.getfield 5, 3, 8, 147) := by decide +kernel
theorem c104_26 : gP 104 26 = some (.putfield 8, 3, 8, 0) := by decide +kernel
theorem c104_29 : gP 104 29 = some (.return_, 1, 0, 0) := by decide +kernel
theorem c105_0 : gP 105 0 = some (.iload 1, 1, 0, 0) := by decide +kernel
theorem c105_1 : gP 105 1 = some (.ifCond .ne 8, 3, 0, 0) := by decide +kernel
theorem c105_4 : gP 105 4 = some (.aload 0, 1, 0, 0) := by decide +kernel
theorem c105_5 : gP 105 5 = some (.invokeinterface 104 208, 3, 1, 1) := by decide +kernel
theorem c105_8 : gP 105 8 = some (.aload 0, 1, 0, 0) := by decide +kernel
theorem c105_9 : gP 105 9 = some (.getfield 8, 3, 8, 205) := by decide +kernel
theorem c105_12 : gP 105 12 = some (.ifCond .lt 17, 3, 0, 0) := by decide +kernel
theorem c105_15 : gP 105 15 = some (.iconst 0, 1, 0, 0) := by decide +kernel
theorem c105_16 : gP 105 16 = some (.ireturn, 1, 1, 0) := by decide +kernel
theorem c105_17 : gP 105 17 = some (.aload 0, 1, 0, 0) := by decide +kernel
theorem c105_18 : gP 105 18 = some (.invokeinterface 99 211, 3, 1, 1) := by decide +kernel
theorem c105_21 : gP 105 21 = some (.iconst 1, 1, 0, 0) := by decide +kernel
theorem c105_22 : gP 105 22 = some (.ireturn, 1, 1, 0) := by decide +kernel
theorem c106_0 : gP 106 0 = some (.aload 0, 1, 0, 0) := by decide +kernel
theorem c106_1 : gP 106 1 = some (.iconst 102, 2, 0, 0) := by decide +kernel
theorem c106_3 : gP 106 3 = some (.iconst 105, 2, 0, 0) := by decide +kernel
theorem c106_5 : gP 106 5 = some (.iconst 101, 2, 0, 0) := by decide +kernel
theorem c106_7 : gP 106 7 = some (.iconst 108, 2, 0, 0) := by decide +kernel
theorem c106_9 : gP 106 9 = some (.iconst 100, 2, 0, 0) := by decide +kernel
theorem c106_11 : gP 106 11 = some (.iconst 0, 1, 0, 0) := by decide +kernel
theorem c106_12 : gP 106 12 = some (.invokeinterface 101 167, 3, 6, 0) := by decide +kernel
theorem c106_15 : gP 106 15 = some (.invokeinterface 102 171, 3, 2, 1) := by decide +kernel
theorem c106_18 : gP 106 18 = some (.ireturn, 1, 1, 0) := by decide +kernel
theorem c107_0 : gP 107 0 = some (.aload 0, 1, 0, 0) := by decide +kernel
theorem c107_1 : gP 107 1 = some (.iconst 100, 2, 0, 0) := by decide +kernel
theorem c107_3 : gP 107 3 = some (.iconst 101, 2, 0, 0) := by decide +kernel
theorem c107_5 : gP 107 5 = some (.iconst 102, 2, 0, 0) := by decide +kernel
theorem c107_7 : gP 107 7 = some (.iconst 0, 1, 0, 0) := by decide +kernel
theorem c107_8 : gP 107 8 = some (.iconst 0, 1, 0, 0) := by decide +kernel
theorem c107_9 : gP 107 9 = some (.iconst 0, 1, 0, 0) := by decide +kernel
theorem c107_10 : gP 107 10 = some (.invokeinterface 101 167, 3, 6, 0) := by decide +kernel
theorem c107_13 : gP 107 13 = some (.invokeinterface 102 171, 3, 2, 1) := by decide +kernel
theorem c107_16 : gP 107 16 = some (.ireturn, 1, 1, 0) := by decide +kernel
theorem c108_0 : gP 108 0 = some (.aload 0, 1, 0, 0) := by decide +kernel
theorem c108_1 : gP 108 1 = some (.iconst 110, 2, 0, 0) := by decide +kernel
theorem c108_3 : gP 108 3 = some (.iconst 101, 2, 0, 0) := by decide +kernel
theorem c108_5 : gP 108 5 = some (.iconst 119, 2, 0, 0) := by decide +kernel
theorem c108_7 : gP 108 7 = some (.iconst 0, 1, 0, 0) := by decide +kernel
theorem c108_8 : gP 108 8 = some (.iconst 0, 1, 0, 0) := by decide +kernel
theorem c108_9 : gP 108 9 = some (.iconst 0, 1, 0, 0) := by decide +kernel
theorem c108_10 : gP 108 10 = some (.invokeinterface 101 167, 3, 6, 0) := by decide +kernel
theorem c108_13 : gP 108 13 = some (.invokeinterface 102 171, 3, 2, 1) := by decide +kernel
theorem c108_16 : gP 108 16 = some (.ireturn, 1, 1, 0) := by decide +kernel
theorem c109_0 : gP 109 0 = some (.aload 0, 1, 0, 0) := by decide +kernel
theorem c109_1 : gP 109 1 = some (.iconst 110, 2, 0, 0) := by decide +kernel
theorem c109_3 : gP 109 3 = some (.iconst 117, 2, 0, 0) := by decide +kernel
theorem c109_5 : gP 109 5 = some (.iconst 108, 2, 0, 0) := by decide +kernel
theorem c109_7 : gP 109 7 = some (.iconst 108, 2, 0, 0) := by decide +kernel
theorem c109_9 : gP 109 9 = some (.iconst 0, 1, 0, 0) := by decide +kernel
theorem c109_10 : gP 109 10 = some (.iconst 0, 1, 0, 0) := by decide +kernel
theorem c109_11 : gP 109 11 = some (.invokeinterface 101 167, 3, 6, 0) := by decide +kernel
theorem c109_14 : gP 109 14 = some (.invokeinterface 102 171, 3, 2, 1) := by decide +kernel
theorem c109_17 : gP 109 17 = some (.ireturn, 1, 1, 0) := by decide +kernel
theorem c110_0 : gP 110 0 = some (.aload 0, 1, 0, 0) := by decide +kernel
theorem c110_1 : gP 110 1 = some (.iconst 105, 2, 0, 0) := by decide +kernel
theorem c110_3 : gP 110 3 = some (.iconst 102, 2, 0, 0) := by decide +kernel
theorem c110_5 : gP 110 5 = some (.iconst 0, 1, 0, 0) := by decide +kernel
theorem c110_6 : gP 110 6 = some (.iconst 0, 1, 0, 0) := by decide +kernel
theorem c110_7 : gP 110 7 = some (.iconst 0, 1, 0, 0) := by decide +kernel
theorem c110_8 : gP 110 8 = some (.iconst 0, 1, 0, 0) := by decide +kernel
theorem c110_9 : gP 110 9 = some (.invokeinterface 101 167, 3, 6, 0) := by decide +kernel
theorem c110_12 : gP 110 12 = some (.invokeinterface 102 171, 3, 2, 1) := by decide +kernel
theorem c110_15 : gP 110 15 = some (.ireturn, 1, 1, 0) := by decide +kernel
theorem c111_0 : gP 111 0 = some (.aload 0, 1, 0, 0) := by decide +kernel
theorem c111_1 : gP 111 1 = some (.iconst 101, 2, 0, 0) := by decide +kernel
theorem c111_3 : gP 111 3 = some (.iconst 108, 2, 0, 0) := by decide +kernel
theorem c111_5 : gP 111 5 = some (.iconst 115, 2, 0, 0) := by decide +kernel
theorem c111_7 : gP 111 7 = some (.iconst 101, 2, 0, 0) := by decide +kernel
theorem c111_9 : gP 111 9 = some (.iconst 0, 1, 0, 0) := by decide +kernel
theorem c111_10 : gP 111 10 = some (.iconst 0, 1, 0, 0) := by decide +kernel
theorem c111_11 : gP 111 11 = some (.invokeinterface 101 167, 3, 6, 0) := by decide +kernel
theorem c111_14 : gP 111 14 = some (.invokeinterface 102 171, 3, 2, 1) := by decide +kernel
theorem c111_17 : gP 111 17 = some (.ireturn, 1, 1, 0) := by decide +kernel
theorem c112_0 : gP 112 0 = some (.aload 0, 1, 0, 0) := by decide +kernel
theorem c112_1 : gP 112 1 = some (.iconst 119, 2, 0, 0) := by decide +kernel
theorem c112_3 : gP 112 3 = some (.iconst 104, 2, 0, 0) := by decide +kernel
theorem c112_5 : gP 112 5 = some (.iconst 105, 2, 0, 0) := by decide +kernel
theorem c112_7 : gP 112 7 = some (.iconst 108, 2, 0, 0) := by decide +kernel
theorem c112_9 : gP 112 9 = some (.iconst 101, 2, 0, 0) := by decide +kernel
theorem c112_11 : gP 112 11 = some (.iconst 0, 1, 0, 0) := by decide +kernel
theorem c112_12 : gP 112 12 = some (.invokeinterface 101 167, 3, 6, 0) := by decide +kernel
theorem c112_15 : gP 112 15 = some (.invokeinterface 102 171, 3, 2, 1) := by decide +kernel
theorem c112_18 : gP 112 18 = some (.ireturn, 1, 1, 0) := by decide +kernel
theorem c113_0 : gP 113 0 = some (.aload 0, 1, 0, 0) := by decide +kernel
theorem c113_1 : gP 113 1 = some (.iconst 114, 2, 0, 0) := by decide +kernel
theorem c113_3 : gP 113 3 = some (.iconst 101, 2, 0, 0) := by decide +kernel
theorem c113_5 : gP 113 5 = some (.iconst 116, 2, 0, 0) := by decide +kernel
theorem c113_7 : gP 113 7 = some (.iconst 117, 2, 0, 0) := by decide +kernel
theorem c113_9 : gP 113 9 = some (.iconst 114, 2, 0, 0) := by decide +kernel
theorem c113_11 : gP 113 11 = some (.iconst 110, 2, 0, 0) := by decide +kernel
theorem c113_13 : gP 113 13 = some (.invokeinterface 101 167, 3, 6, 0) := by decide +kernel
theorem c113_16 : gP 113 16 = some (.invokeinterface 102 171, 3, 2, 1) := by decide +kernel
theorem c113_19 : gP 113 19 = some (.ireturn, 1, 1, 0) := by decide +kernel
theorem c114_0 : gP 114 0 = some (.aload 0, 1, 0, 0) := by decide +kernel
theorem c114_1 : gP 114 1 = some (.iconst 116, 2, 0, 0) := by decide +kernel
theorem c114_3 : gP 114 3 = some (.iconst 104, 2, 0, 0) := by decide +kernel
theorem c114_5 : gP 114 5 = some (.iconst 105, 2, 0, 0) := by decide +kernel
theorem c114_7 : gP 114 7 = some (.iconst 115, 2, 0, 0) := by decide +kernel
theorem c114_9 : gP 114 9 = some (.iconst 0, 1, 0, 0) := by decide +kernel
theorem c114_10 : gP 114 10 = some (.iconst 0, 1, 0, 0) := by decide +kernel
theorem c114_11 : gP 114 11 = some (.invokeinterface 101 167, 3, 6, 0) := by decide +kernel
theorem c114_14 : gP 114 14 = some (.invokeinterface 102 171, 3, 2, 1) := by decide +kernel
theorem c114_17 : gP 114 17 = some (.ireturn, 1, 1, 0) := by decide +kernel
theorem c115_0 : gP 115 0 = some (.aload 0, 1, 0, 0) := by decide +kernel
theorem c115_1 : gP 115 1 = some (.getfield 3, 3, 8, 150) := by decide +kernel
theorem c115_4 : gP 115 4 = some (.iconst 1, 1, 0, 0) := by decide +kernel
theorem c115_5 : gP 115 5 = some (.if_icmp .ne 82, 3, 0, 0) := by decide +kernel
theorem c115_8 : gP 115 8 = some (.aload 0, 1, 0, 0) := by decide +kernel
theorem c115_9 : gP 115 9 = some (.invokeinterface 103 174, 3, 1, 1) := by decide +kernel
theorem c115_12 : gP 115 12 = some (.ifCond .ne 82, 3, 0, 0) := by decide +kernel
theorem c115_15 : gP 115 15 = some (.aload 0, 1, 0, 0) := by decide +kernel
theorem c115_16 : gP 115 16 = some (.invokeinterface 106 178, 3, 1, 1) := by decide +kernel
theorem c115_19 : gP 115 19 = some (.ifCond .ne 82, 3, 0, 0) := by decide +kernel
theorem c115_22 : gP 115 22 = some (.aload 0, 1, 0, 0) := by decide +kernel
theorem c115_23 : gP 115 23 = some (.invokeinterface 107 181, 3, 1, 1) := by decide +kernel
theorem c115_26 : gP 115 26 = some (.ifCond .ne 82, 3, 0, 0) := by decide +kernel
theorem c115_29 : gP 115 29 = some (.aload 0, 1, 0, 0) := by decide +kernel
theorem c115_30 : gP 115 30 = some (.invokeinterface 108 184, 3, 1, 1) := by decide +kernel
theorem c115_33 : gP 115 33 = some (.ifCond .ne 82, 3, 0, 0) := by decide +kernel
theorem c115_36 : gP 115 36 = some (.aload 0, 1, 0, 0) := by decide +kernel
theorem c115_37 : gP 115 37 = some (.invokeinterface 109 187, 3, 1, 1) := by decide +kernel
theorem c115_40 : gP 115 40 = some (.ifCond .ne 82, 3, 0, 0) := by decide +kernel
theorem c115_43 : gP 115 43 = some (.aload 0, 1, 0, 0) := by decide +kernel
theorem c115_44 : gP 115 44 = some (.invokeinterface 110 190, 3, 1, 1) := by decide +kernel
theorem c115_47 : gP 115 47 = some (.ifCond .ne 82, 3, 0, 0) := by decide +kernel
theorem c115_50 : gP 115 50 = some (.aload 0, 1, 0, 0) := by decide +kernel
theorem c115_51 : gP 115 51 = some (.invokeinterface 111 193, 3, 1, 1) := by decide +kernel
theorem c115_54 : gP 115 54 = some (.ifCond .ne 82, 3, 0, 0) := by decide +kernel
theorem c115_57 : gP 115 57 = some (.aload 0, 1, 0, 0) := by decide +kernel
theorem c115_58 : gP 115 58 = some (.invokeinterface 112 196, 3, 1, 1) := by decide +kernel
theorem c115_61 : gP 115 61 = some (.ifCond .ne 82, 3, 0, 0) := by decide +kernel
theorem c115_64 : gP 115 64 = some (.aload 0, 1, 0, 0) := by decide +kernel
theorem c115_65 : gP 115 65 = some (.invokeinterface 113 199, 3, 1, 1) := by decide +kernel
theorem c115_68 : gP 115 68 = some (.ifCond .ne 82, 3, 0, 0) := by decide +kernel
theorem c115_71 : gP 115 71 = some (.aload 0, 1, 0, 0) := by decide +kernel
theorem c115_72 : gP 115 72 = some (.invokeinterface 114 202, 3, 1, 1) := by decide +kernel
theorem c115_75 : gP 115 75 = some (.ifCond .ne 82, 3, 0, 0) := by decide +kernel
theorem c115_78 : gP 115 78 = some (.iconst 1, 1, 0, 0) := by decide +kernel
theorem c115_79 : gP 115 79 = some (.goto 83, 3, 0, 0) := by decide +kernel
theorem c115_82 : gP 115 82 = some (.iconst 0, 1, 0, 0) := by decide +kernel
theorem c115_83 : gP 115 83 = some (.ireturn, 1, 1, 0) := by decide +kernel
theorem c116_0 : gP 116 0 = some (.iconst 0, 1, 0, 0) := by decide +kernel
theorem c116_1 : gP 116 1 = some (.istore 3, 1, 0, 0) := by decide +kernel
theorem c116_2 : gP 116 2 = some (.iload 3, 1, 0, 0) := by decide +kernel
theorem c116_3 : gP 116 3 = some (.aload 0, 1, 0, 0) := by decide +kernel
theorem c116_4 : gP 116 4 = some (.getfield 20, 3, 8, 32) := by decide +kernel
theorem c116_7 : gP 116 7 = some (.iload 1, 1, 0, 0) := by decide +kernel
theorem c116_8 : gP 116 8 = some (.iaload, 1, 0, 0) := by decide +kernel
theorem c116_9 : gP 116 9 = some (.if_icmp .ge 35, 3, 0, 0) := by decide +kernel
theorem c116_12 : gP 116 12 = some (.aload 0, 1, 0, 0) := by decide +kernel
theorem c116_13 : gP 116 13 = some (.getfield 28, 3, 8, 56) := by decide +kernel
theorem c116_16 : gP 116 16 = some (.iconst 6, 2, 0, 0) := by decide +kernel
theorem c116_18 : gP 116 18 = some (.iload 1, 1, 0, 0) := by decide +kernel
theorem c116_19 : gP 116 19 = some (.imul, 1, 0, 0) := by decide +kernel
theorem c116_20 : gP 116 20 = some (.iload 3, 1, 0, 0) := by decide +kernel
theorem c116_21 : gP 116 21 = some (.iadd, 1, 0, 0) := by decide +kernel
theorem c116_22 : gP 116 22 = some (.iaload, 1, 0, 0) := by decide +kernel
theorem c116_23 : gP 116 23 = some (.iload 2, 1, 0, 0) := by decide +kernel
theorem c116_24 : gP 116 24 = some (.if_icmp .ne 29, 3, 0, 0) := by decide +kernel
theorem c116_27 : gP 116 27 = some (.iload 3, 1, 0, 0) := by decide +kernel
theorem c116_28 : gP 116 28 = some (.ireturn, 1, 0, 0) := by decide +kernel
theorem c116_29 : gP 116 29 = some (.iinc 3 1, 3, 0, 0) := by decide +kernel
theorem c116_32 : gP 116 32 = some (.goto 2, 3, 0, 0) := by decide +kernel
theorem c116_35 : gP 116 35 = some (.iconst (-1), 1, 0, 0) := by decide +kernel
theorem c116_36 : gP 116 36 = some (.ireturn, 1, 0, 0) := by decide +kernel
theorem c117_0 : gP 117 0 = some (.aload 0, 1, 0, 0) := by decide +kernel
theorem c117_1 : gP 117 1 = some (.getfield 3, 3, 8, 150) := by decide +kernel
theorem c117_4 : gP 117 4 = some (.iconst 2, 1, 0, 0) := by decide +kernel
theorem c117_5 : gP 117 5 = some (.if_icmp .ne 20, 3, 0, 0) := by decide +kernel
theorem c117_8 : gP 117 8 = some (.aload 0, 1, 0, 0) := by decide +kernel
theorem c117_9 : gP 117 9 = some (.getfield 4, 3, 8, 157) := by decide +kernel
theorem c117_12 : gP 117 12 = some (.iload 1, 1, 0, 0) := by decide +kernel
theorem c117_13 : gP 117 13 = some (.if_icmp .ne 20, 3, 0, 0) := by decide +kernel
theorem c117_16 : gP 117 16 = some (.iconst 1, 1, 0, 0) := by decide +kernel
theorem c117_17 : gP 117 17 = some (.goto 21, 3, 0, 0) := by decide +kernel
theorem c117_20 : gP 117 20 = some (.iconst 0, 1, 0, 0) := by decide +kernel
theorem c117_21 : gP 117 21 = some (.ireturn, 1, 1, 0) := by decide +kernel
theorem c118_0 : gP 118 0 = some (.aload 0, 1, 0, 0) := by decide +kernel
theorem c118_1 : gP 118 1 = some (.aload 0, 1, 0, 0) := by decide +kernel
theorem c118_2 : gP 118 2 = some (.iload 1, 1, 0, 0) := by decide +kernel
theorem c118_3 : gP 118 3 = some (.invokeinterface 117 214, 3, 2, 1) := by decide +kernel
theorem c118_6 : gP 118 6 = some (.invokeinterface 105 217, 3, 2, 1) := by decide +kernel
theorem c118_9 : gP 118 9 = some (.ireturn, 1, 1, 0) := by decide +kernel
theorem c119_0 : gP 119 0 = some (.aload 0, 1, 0, 0) := by decide +kernel
theorem c119_1 : gP 119 1 = some (.invokeinterface 96 228, 3, 1, 1) := by decide +kernel
theorem c119_4 : gP 119 4 = some (.istore 1, 1, 0, 0) := by decide +kernel
theorem c119_5 : gP 119 5 = some (.aload 0, 1, 0, 0) := by decide +kernel
theorem c119_6 : gP 119 6 = some (.aload 0, 1, 0, 0) := by decide +kernel
theorem c119_7 : gP 119 7 = some (.invokeinterface 103 174, 3, 1, 1) := by decide +kernel
theorem c119_10 : gP 119 10 = some (.invokeinterface 105 217, 3, 2, 1) := by decide +kernel
theorem c119_13 : gP 119 13 = some (.ifCond .ne 17, 3, 0, 0) := by decide +kernel
theorem c119_16 : gP 119 16 = some (.return_, 1, 0, 0) := by decide +kernel
theorem c119_17 : gP 119 17 = some (.aload 0, 1, 0, 0) := by decide +kernel
theorem c119_18 : gP 119 18 = some (.invokeinterface 115 232, 3, 1, 1) := by decide +kernel
theorem c119_21 : gP 119 21 = some (.ifCond .eq 51, 3, 0, 0) := by decide +kernel
theorem c119_24 : gP 119 24 = some (.aload 0, 1, 0, 0) := by decide +kernel
theorem c119_25 : gP 119 25 = some (.getfield 20, 3, 8, 32) := by decide +kernel
theorem c119_28 : gP 119 28 = some (.iload 1, 1, 0, 0) := by decide +kernel
theorem c119_29 : gP 119 29 = some (.iaload, 1, 0, 0) := by decide +kernel
theorem c119_30 : gP 119 30 = some (.iconst 6, 2, 0, 0) := by decide +kernel
theorem c119_32 : gP 119 32 = some (.if_icmp .ge 51, 3, 0, 0) := by decide +kernel
theorem c119_35 : gP 119 35 = some (.aload 0, 1, 0, 0) := by decide +kernel
theorem c119_36 : gP 119 36 = some (.iload 1, 1, 0, 0) := by decide +kernel
theorem c119_37 : gP 119 37 = some (.aload 0, 1, 0, 0) := by decide +kernel
theorem c119_38 : gP 119 38 = some (.getfield 4, 3, 8, 157) := by decide +kernel
theorem c119_41 : gP 119 41 = some (.invokeinterface 116 235, 3, 3, 1) := by decide +kernel
theorem c119_44 : gP 119 44 = some (.ifCond .ge 51, 3, 0, 0) := by decide +kernel
theorem c119_47 : gP 119 47 = some (.iconst 1, 1, 0, 0) := by decide +kernel
theorem c119_48 : gP 119 48 = some (.goto 52, 3, 0, 0) := by decide +kernel
theorem c119_51 : gP 119 51 = some (.iconst 0, 1, 0, 0) := by decide +kernel
theorem c119_52 : gP 119 52 = some (.istore 2, 1, 0, 0) := by decide +kernel
theorem c119_53 : gP 119 53 = some (.aload 0, 1, 0, 0) := by decide +kernel
theorem c119_54 : gP 119 54 = some (.getfield 4, 3, 8, 157) := by decide +kernel
theorem c119_57 : gP 119 57 = some (.istore 3, 1, 0, 0) := by decide +kernel
theorem c119_58 : gP 119 58 = some (.aload 0, 1, 0, 0) := by decide +kernel
theorem c119_59 : gP 119 59 = some (.iload 2, 1, 0, 0) := by decide +kernel
theorem c119_60 : gP 119 60 = some (.invokeinterface 105 217, 3, 2, 1) := by decide +kernel
theorem c119_63 : gP 119 63 = some (.ifCond .ne 67, 3, 0, 0) := by decide +kernel
theorem c119_66 : gP 119 66 = some (.return_, 1, 0, 0) := by decide +kernel
theorem c119_67 : gP 119 67 = some (.iconst (-1), 1, 0, 0) := by decide +kernel
theorem c119_68 : gP 119 68 = some (.istore 4, 2, 0, 0) := by decide +kernel
theorem c119_70 : gP 119 70 = some (.aload 0, 1, 0, 0) := by decide +kernel
theorem c119_71 : gP 119 71 = some (.iconst 58, 2, 0, 0) := by decide +kernel
theorem c119_73 : gP 119 73 = some (.invokeinterface 117 214, 3, 2, 1) := by decide +kernel
theorem c119_76 : gP 119 76 = some (.ifCond .eq 123, 3, 0, 0) := by decide +kernel
theorem c119_79 : gP 119 79 = some (.aload 0, 1, 0, 0) := by decide +kernel
theorem c119_80 : gP 119 80 = some (.invokeinterface 99 211, 3, 1, 1) := by decide +kernel
theorem c119_83 : gP 119 83 = some (.aload 0, 1, 0, 0) := by decide +kernel
theorem c119_84 : gP 119 84 = some (.invokeinterface 115 232, 3, 1, 1) := by decide +kernel
theorem c119_87 : gP 119 87 = some (.ifCond .eq 102, 3, 0, 0) := by decide +kernel
theorem c119_90 : gP 119 90 = some (.aload 0, 1, 0, 0) := by decide +kernel
theorem c119_91 : gP 119 91 = some (.iload 1, 1, 0, 0) := by decide +kernel
theorem c119_92 : gP 119 92 = some (.aload 0, 1, 0, 0) := by decide +kernel
theorem c119_93 : gP 119 93 = some (.getfield 4, 3, 8, 157) := by decide +kernel
theorem c119_96 : gP 119 96 = some (.invokeinterface 116 235, 3, 3, 1) := by decide +kernel
theorem c119_99 : gP 119 99 = some (.goto 103, 3, 0, 0) := by decide +kernel
theorem c119_102 : gP 119 102 = some (.iconst (-1), 1, 0, 0) := by decide +kernel
theorem c119_103 : gP 119 103 = some (.istore 4, 2, 0, 0) := by decide +kernel
theorem c119_105 : gP 119 105 = some (.aload 0, 1, 0, 0) := by decide +kernel
theorem c119_106 : gP 119 106 = some (.iload 4, 2, 0, 0) := by decide +kernel
theorem c119_108 : gP 119 108 = some (.ifCond .lt 115, 3, 0, 0) := by decide +kernel
theorem c119_111 : gP 119 111 = some (.iconst 1, 1, 0, 0) := by decide +kernel
theorem c119_112 : gP 119 112 = some (.goto 116, 3, 0, 0) := by decide +kernel
theorem c119_115 : gP 119 115 = some (.iconst 0, 1, 0, 0) := by decide +kernel
theorem c119_116 : gP 119 116 = some (.invokeinterface 105 217, 3, 2, 1) := by decide +kernel
theorem c119_119 : gP 119 119 = some (.ifCond .ne 123, 3, 0, 0) := by decide +kernel
theorem c119_122 : gP 119 122 = some (.return_, 1, 0, 0) := by decide +kernel
theorem c119_123 : gP 119 123 = some (.aload 0, 1, 0, 0) := by decide +kernel
theorem c119_124 : gP 119 124 = some (.getfield 28, 3, 8, 56) := by decide +kernel
theorem c119_127 : gP 119 127 = some (.iconst 6, 2, 0, 0) := by decide +kernel
theorem c119_129 : gP 119 129 = some (.iload 1, 1, 0, 0) := by decide +kernel
theorem c119_130 : gP 119 130 = some (.imul, 1, 0, 0) := by decide +kernel
theorem c119_131 : gP 119 131 = some (.aload 0, 1, 0, 0) := by decide +kernel
theorem c119_132 : gP 119 132 = some (.getfield 20, 3, 8, 32) := by decide +kernel
theorem c119_135 : gP 119 135 = some (.iload 1, 1, 0, 0) := by decide +kernel
theorem c119_136 : gP 119 136 = some (.iaload, 1, 0, 0) := by decide +kernel
theorem c119_137 : gP 119 137 = some (.iadd, 1, 0, 0) := by decide +kernel
theorem c119_138 : gP 119 138 = some (.iload 3, 1, 0, 0) := by decide +kernel
theorem c119_139 : gP 119 139 = some (.iastore, 1, 0, 0) := by decide +kernel
theorem c119_140 : gP 119 140 = some (.aload 0, 1, 0, 0) := by decide +kernel
theorem c119_141 : gP 119 141 = some (.getfield 29, 3, 8, 59) := by decide +kernel
theorem c119_144 : gP 119 144 = some (.iconst 6, 2, 0, 0) := by decide +kernel
theorem c119_146 : gP 119 146 = some (.iload 1, 1, 0, 0) := by decide +kernel
theorem c119_147 : gP 119 147 = some (.imul, 1, 0, 0) := by decide +kernel
theorem c119_148 : gP 119 148 = some (.aload 0, 1, 0, 0) := by decide +kernel
theorem c119_149 : gP 119 149 = some (.getfield 20, 3, 8, 32) := by decide +kernel
theorem c119_152 : gP 119 152 = some (.iload 1, 1, 0, 0) := by decide +kernel
theorem c119_153 : gP 119 153 = some (.iaload, 1, 0, 0) := by decide +kernel
theorem c119_154 : gP 119 154 = some (.iadd, 1, 0, 0) := by decide +kernel
theorem c119_155 : gP 119 155 = some (.iload 4, 2, 0, 0) := by decide +kernel
theorem c119_157 : gP 119 157 = some (.iastore, 1, 0, 0) := by decide +kernel
theorem c119_158 : gP 119 158 = some (.iconst 0, 1, 0, 0) := by decide +kernel
theorem c119_159 : gP 119 159 = some (.istore 5, 2, 0, 0) := by decide +kernel
theorem c119_161 : gP 119 161 = some (.iload 5, 2, 0, 0) := by decide +kernel
theorem c119_163 : gP 119 163 = some (.iconst 8, 2, 0, 0) := by decide +kernel
theorem c119_165 : gP 119 165 = some (.if_icmp .ge 197, 3, 0, 0) := by decide +kernel
theorem c119_168 : gP 119 168 = some (.aload 0, 1, 0, 0) := by decide +kernel
theorem c119_169 : gP 119 169 = some (.getfield 30, 3, 8, 62) := by decide +kernel
theorem c119_172 : gP 119 172 = some (.iconst 48, 2, 0, 0) := by decide +kernel
theorem c119_174 : gP 119 174 = some (.iload 1, 1, 0, 0) := by decide +kernel
theorem c119_175 : gP 119 175 = some (.imul, 1, 0, 0) := by decide +kernel
theorem c119_176 : gP 119 176 = some (.iconst 8, 2, 0, 0) := by decide +kernel
theorem c119_178 : gP 119 178 = some (.aload 0, 1, 0, 0) := by decide +kernel
theorem c119_179 : gP 119 179 = some (.getfield 20, 3, 8, 32) := by decide +kernel
theorem c119_182 : gP 119 182 = some (.iload 1, 1, 0, 0) := by decide +kernel
theorem c119_183 : gP 119 183 = some (.iaload, 1, 0, 0) := by decide +kernel
theorem c119_184 : gP 119 184 = some (.imul, 1, 0, 0) := by decide +kernel
theorem c119_185 : gP 119 185 = some (.iadd, 1, 0, 0) := by decide +kernel
theorem c119_186 : gP 119 186 = some (.iload 5, 2, 0, 0) := by decide +kernel
theorem c119_188 : gP 119 188 = some (.iadd, 1, 0, 0) := by decide +kernel
theorem c119_189 : gP 119 189 = some (.iconst 0, 1, 0, 0) := by decide +kernel
theorem c119_190 : gP 119 190 = some (.iastore, 1, 1, 0) := by decide +kernel
theorem c119_191 : gP 119 191 = some (.iinc 5 1, 3, 0, 0) := by decide +kernel
theorem c119_194 : gP 119 194 = some (.goto 161, 3, 0, 0) := by decide +kernel
theorem c119_197 : gP 119 197 = some (.aload 0, 1, 0, 0) := by decide +kernel
theorem c119_198 : gP 119 198 = some (.getfield 20, 3, 8, 32) := by decide +kernel
theorem c119_201 : gP 119 201 = some (.iload 1, 1, 0, 0) := by decide +kernel
theorem c119_202 : gP 119 202 = some (.dup2, 1, 0, 0) := by decide +kernel
theorem c119_203 : gP 119 203 = some (.iaload, 1, 0, 0) := by decide +kernel
theorem c119_204 : gP 119 204 = some (.iconst 1, 1, 0, 0) := by decide +kernel
theorem c119_205 : gP 119 205 = some (.iadd, 1, 0, 0) := by decide +kernel
theorem c119_206 : gP 119 206 = some (.iastore, 1, 0, 0) := by decide +kernel
theorem c119_207 : gP 119 207 = some (.aload 0, 1, 0, 0) := by decide +kernel
theorem c119_208 : gP 119 208 = some (.iconst 123, 2, 0, 0) := by decide +kernel
theorem c119_210 : gP 119 210 = some (.invokeinterface 118 238, 3, 2, 1) := by decide +kernel
theorem c119_213 : gP 119 213 = some (.ifCond .ne 217, 3, 0, 0) := by decide +kernel
theorem c119_216 : gP 119 216 = some (.return_, 1, 0, 0) := by decide +kernel
theorem c119_217 : gP 119 217 = some (.return_, 1, 0, 0) := by decide +kernel
theorem c120_0 : gP 120 0 = some (.iconst 0, 1, 0, 0) := by decide +kernel
theorem c120_1 : gP 120 1 = some (.istore 3, 1, 0, 0) := by decide +kernel
theorem c120_2 : gP 120 2 = some (.iload 3, 1, 0, 0) := by decide +kernel
theorem c120_3 : gP 120 3 = some (.aload 0, 1, 0, 0) := by decide +kernel
theorem c120_4 : gP 120 4 = some (.getfield 22, 3, 8, 38) := by decide +kernel
theorem c120_7 : gP 120 7 = some (.iload 1, 1, 0, 0) := by decide +kernel
theorem c120_8 : gP 120 8 = some (.iaload, 1, 0, 0) := by decide +kernel
theorem c120_9 : gP 120 9 = some (.if_icmp .ge 35, 3, 0, 0) := by decide +kernel
theorem c120_12 : gP 120 12 = some (.aload 0, 1, 0, 0) := by decide +kernel
theorem c120_13 : gP 120 13 = some (.getfield 31, 3, 8, 66) := by decide +kernel
theorem c120_16 : gP 120 16 = some (.iconst 8, 2, 0, 0) := by decide +kernel
theorem c120_18 : gP 120 18 = some (.iload 1, 1, 0, 0) := by decide +kernel
theorem c120_19 : gP 120 19 = some (.imul, 1, 0, 0) := by decide +kernel
theorem c120_20 : gP 120 20 = some (.iload 3, 1, 0, 0) := by decide +kernel
theorem c120_21 : gP 120 21 = some (.iadd, 1, 0, 0) := by decide +kernel
theorem c120_22 : gP 120 22 = some (.iaload, 1, 0, 0) := by decide +kernel
theorem c120_23 : gP 120 23 = some (.iload 2, 1, 0, 0) := by decide +kernel
theorem c120_24 : gP 120 24 = some (.if_icmp .ne 29, 3, 0, 0) := by decide +kernel
theorem c120_27 : gP 120 27 = some (.iload 3, 1, 0, 0) := by decide +kernel
theorem c120_28 : gP 120 28 = some (.ireturn, 1, 0, 0) := by decide +kernel
theorem c120_29 : gP 120 29 = some (.iinc 3 1, 3, 0, 0) := by decide +kernel
theorem c120_32 : gP 120 32 = some (.goto 2, 3, 0, 0) := by decide +kernel
theorem c120_35 : gP 120 35 = some (.iconst (-1), 1, 0, 0) := by decide +kernel
theorem c120_36 : gP 120 36 = some (.ireturn, 1, 0, 0) := by decide +kernel
theorem c121_0 : gP 121 0 = some (.iload 3, 1, 0, 0) := by decide +kernel
theorem c121_1 : gP 121 1 = some (.ifCond .ge 6, 3, 0, 0) := by decide +kernel
theorem c121_4 : gP 121 4 = some (.iconst 0, 1, 0, 0) := by decide +kernel
theorem c121_5 : gP 121 5 = some (.ireturn, 1, 1, 0) := by decide +kernel
theorem c121_6 : gP 121 6 = some (.iload 2, 1, 0, 0) := by decide +kernel
theorem c121_7 : gP 121 7 = some (.istore 4, 2, 0, 0) := by decide +kernel
theorem c121_9 : gP 121 9 = some (.iload 4, 2, 0, 0) := by decide +kernel
theorem c121_11 : gP 121 11 = some (.ifCond .lt 53, 3, 0, 0) := by decide +kernel
theorem c121_14 : gP 121 14 = some (.aload 0, 1, 0, 0) := by decide +kernel
theorem c121_15 : gP 121 15 = some (.getfield 30, 3, 8, 62) := by decide +kernel
theorem c121_18 : gP 121 18 = some (.iconst 48, 2, 0, 0) := by decide +kernel
theorem c121_20 : gP 121 20 = some (.iload 1, 1, 0, 0) := by decide +kernel
theorem c121_21 : gP 121 21 = some (.imul, 1, 0, 0) := by decide +kernel
theorem c121_22 : gP 121 22 = some (.iconst 8, 2, 0, 0) := by decide +kernel
theorem c121_24 : gP 121 24 = some (.iload 4, 2, 0, 0) := by decide +kernel
theorem c121_26 : gP 121 26 = some (.imul, 1, 0, 0) := by decide +kernel
theorem c121_27 : gP 121 27 = some (.iadd, 1, 0, 0) := by decide +kernel
theorem c121_28 : gP 121 28 = some (.iload 3, 1, 0, 0) := by decide +kernel
theorem c121_29 : gP 121 29 = some (.iadd, 1, 0, 0) := by decide +kernel
theorem c121_30 : gP 121 30 = some (.iaload, 1, 1, 0) := by decide +kernel
theorem c121_31 : gP 121 31 = some (.ifCond .eq 36, 3, 0, 0) := by decide +kernel
theorem c121_34 : gP 121 34 = some (.iconst 1, 1, 0, 0) := by decide +kernel
theorem c121_35 : gP 121 35 = some (.ireturn, 1, 1, 0) := by decide +kernel
theorem c121_36 : gP 121 36 = some (.aload 0, 1, 0, 0) := by decide +kernel
theorem c121_37 : gP 121 37 = some (.getfield 29, 3, 8, 59) := by decide +kernel
theorem c121_40 : gP 121 40 = some (.iconst 6, 2, 0, 0) := by decide +kernel
theorem c121_42 : gP 121 42 = some (.iload 1, 1, 0, 0) := by decide +kernel
theorem c121_43 : gP 121 43 = some (.imul, 1, 0, 0) := by decide +kernel
theorem c121_44 : gP 121 44 = some (.iload 4, 2, 0, 0) := by decide +kernel
theorem c121_46 : gP 121 46 = some (.iadd, 1, 0, 0) := by decide +kernel
theorem c121_47 : gP 121 47 = some (.iaload, 1, 0, 0) := by decide +kernel
theorem c121_48 : gP 121 48 = some (.istore 4, 2, 0, 0) := by decide +kernel
theorem c121_50 : gP 121 50 = some (.goto 9, 3, 0, 0) := by decide +kernel
theorem c121_53 : gP 121 53 = some (.iconst 0, 1, 0, 0) := by decide +kernel
theorem c121_54 : gP 121 54 = some (.ireturn, 1, 1, 0) := by decide +kernel
theorem c122_0 : gP 122 0 = some (.aload 0, 1, 0, 0) := by decide +kernel
theorem c122_1 : gP 122 1 = some (.invokeinterface 96 228, 3, 1, 1) := by decide +kernel
theorem c122_4 : gP 122 4 = some (.istore 1, 1, 0, 0) := by decide +kernel
theorem c122_5 : gP 122 5 = some (.aload 0, 1, 0, 0) := by decide +kernel
theorem c122_6 : gP 122 6 = some (.getfield 20, 3, 8, 32) := by decide +kernel
theorem c122_9 : gP 122 9 = some (.iload 1, 1, 0, 0) := by decide +kernel
theorem c122_10 : gP 122 10 = some (.iaload, 1, 0, 0) := by decide +kernel
theorem c122_11 : gP 122 11 = some (.iconst 1, 1, 0, 0) := by decide +kernel
theorem c122_12 : gP 122 12 = some (.isub, 1, 0, 0) := by decide +kernel
theorem c122_13 : gP 122 13 = some (.istore 2, 1, 0, 0) := by decide +kernel
theorem c122_14 : gP 122 14 = some (.aload 0, 1, 0, 0) := by decide +kernel
theorem c122_15 : gP 122 15 = some (.invokeinterface 99 211, 3, 1, 1) := by decide +kernel
theorem c122_18 : gP 122 18 = some (.aload 0, 1, 0, 0) := by decide +kernel
theorem c122_19 : gP 122 19 = some (.invokeinterface 115 232, 3, 1, 1) := by decide +kernel
theorem c122_22 : gP 122 22 = some (.ifCond .eq 37, 3, 0, 0) := by decide +kernel
theorem c122_25 : gP 122 25 = some (.aload 0, 1, 0, 0) := by decide +kernel
theorem c122_26 : gP 122 26 = some (.iload 1, 1, 0, 0) := by decide +kernel
theorem c122_27 : gP 122 27 = some (.aload 0, 1, 0, 0) := by decide +kernel
theorem c122_28 : gP 122 28 = some (.getfield 4, 3, 8, 157) := by decide +kernel
theorem c122_31 : gP 122 31 = some (.invokeinterface 120 241, 3, 3, 1) := by decide +kernel
theorem c122_34 : gP 122 34 = some (.goto 38, 3, 0, 0) := by decide +kernel
theorem c122_37 : gP 122 37 = some (.iconst (-1), 1, 0, 0) := by decide +kernel
theorem c122_38 : gP 122 38 = some (.istore 3, 1, 0, 0) := by decide +kernel
theorem c122_39 : gP 122 39 = some (.aload 0, 1, 0, 0) := by decide +kernel
theorem c122_40 : gP 122 40 = some (.invokeinterface 115 232, 3, 1, 1) := by decide +kernel
theorem c122_43 : gP 122 43 = some (.ifCond .eq 75, 3, 0, 0) := by decide +kernel
theorem c122_46 : gP 122 46 = some (.aload 0, 1, 0, 0) := by decide +kernel
theorem c122_47 : gP 122 47 = some (.iload 1, 1, 0, 0) := by decide +kernel
theorem c122_48 : gP 122 48 = some (.iload 2, 1, 0, 0) := by decide +kernel
theorem c122_49 : gP 122 49 = some (.iload 3, 1, 0, 0) := by decide +kernel
theorem c122_50 : gP 122 50 = some (.invokeinterface 121 244, 3, 4, 1) := by decide +kernel
theorem c122_53 : gP 122 53 = some (.ifCond .ne 75, 3, 0, 0) := by decide +kernel
theorem c122_56 : gP 122 56 = some (.iload 3, 1, 0, 0) := by decide +kernel
theorem c122_57 : gP 122 57 = some (.ifCond .ge 71, 3, 0, 0) := by decide +kernel
theorem c122_60 : gP 122 60 = some (.aload 0, 1, 0, 0) := by decide +kernel
theorem c122_61 : gP 122 61 = some (.getfield 22, 3, 8, 38) := by decide +kernel
theorem c122_64 : gP 122 64 = some (.iload 1, 1, 0, 0) := by decide +kernel
theorem c122_65 : gP 122 65 = some (.iaload, 1, 0, 0) := by decide +kernel
theorem c122_66 : gP 122 66 = some (.iconst 8, 2, 0, 0) := by decide +kernel
theorem c122_68 : gP 122 68 = some (.if_icmp .ge 75, 3, 0, 0) := by decide +kernel
theorem c122_71 : gP 122 71 = some (.iconst 1, 1, 0, 0) := by decide +kernel
theorem c122_72 : gP 122 72 = some (.goto 76, 3, 0, 0) := by decide +kernel
theorem c122_75 : gP 122 75 = some (.iconst 0, 1, 0, 0) := by decide +kernel
theorem c122_76 : gP 122 76 = some (.istore 4, 2, 0, 0) := by decide +kernel
theorem c122_78 : gP 122 78 = some (.aload 0, 1, 0, 0) := by decide +kernel
theorem c122_79 : gP 122 79 = some (.getfield 4, 3, 8, 157) := by decide +kernel
theorem c122_82 : gP 122 82 = some (.istore 5, 2, 0, 0) := by decide +kernel
theorem c122_84 : gP 122 84 = some (.aload 0, 1, 0, 0) := by decide +kernel
theorem c122_85 : gP 122 85 = some (.iload 4, 2, 0, 0) := by decide +kernel
theorem c122_87 : gP 122 87 = some (.invokeinterface 105 217, 3, 2, 1) := by decide +kernel
theorem c122_90 : gP 122 90 = some (.ifCond .ne 94, 3, 0, 0) := by decide +kernel
theorem c122_93 : gP 122 93 = some (.return_, 1, 0, 0) := by decide +kernel
theorem c122_94 : gP 122 94 = some (.iload 3, 1, 0, 0) := by decide +kernel
theorem c122_95 : gP 122 95 = some (.ifCond .ge 128, 3, 0, 0) := by decide +kernel
theorem c122_98 : gP 122 98 = some (.aload 0, 1, 0, 0) := by decide +kernel
theorem c122_99 : gP 122 99 = some (.getfield 22, 3, 8, 38) := by decide +kernel
theorem c122_102 : gP 122 102 = some (.iload 1, 1, 0, 0) := by decide +kernel
theorem c122_103 : gP 122 103 = some (.iaload, 1, 0, 0) := by decide +kernel
theorem c122_104 : gP 122 104 = some (.istore 3, 1, 0, 0) := by decide +kernel
theorem c122_105 : gP 122 105 = some (.aload 0, 1, 0, 0) := by decide +kernel
theorem c122_106 : gP 122 106 = some (.getfield 31, 3, 8, 66) := by decide +kernel
theorem c122_109 : gP 122 109 = some (.iconst 8, 2, 0, 0) := by decide +kernel
theorem c122_111 : gP 122 111 = some (.iload 1, 1, 0, 0) := by decide +kernel
theorem c122_112 : gP 122 112 = some (.imul, 1, 0, 0) := by decide +kernel
theorem c122_113 : gP 122 113 = some (.iload 3, 1, 0, 0) := by decide +kernel
theorem c122_114 : gP 122 114 = some (.iadd, 1, 0, 0) := by decide +kernel
theorem c122_115 : gP 122 115 = some (.iload 5, 2, 0, 0) := by decide +kernel
theorem c122_117 : gP 122 117 = some (.iastore, 1, 0, 0) := by decide +kernel
theorem c122_118 : gP 122 118 = some (.aload 0, 1, 0, 0) := by decide +kernel
theorem c122_119 : gP 122 119 = some (.getfield 22, 3, 8, 38) := by decide +kernel
theorem c122_122 : gP 122 122 = some (.iload 1, 1, 0, 0) := by decide +kernel
theorem c122_123 : gP 122 123 = some (.dup2, 1, 0, 0) := by decide +kernel
theorem c122_124 : gP 122 124 = some (.iaload, 1, 0, 0) := by decide +kernel
theorem c122_125 : gP 122 125 = some (.iconst 1, 1, 0, 0) := by decide +kernel
theorem c122_126 : gP 122 126 = some (.iadd, 1, 0, 0) := by decide +kernel
theorem c122_127 : gP 122 127 = some (.iastore, 1, 0, 0) := by decide +kernel
theorem c122_128 : gP 122 128 = some (.aload 0, 1, 0, 0) := by decide +kernel
theorem c122_129 : gP 122 129 = some (.getfield 30, 3, 8, 62) := by decide +kernel
theorem c122_132 : gP 122 132 = some (.iconst 48, 2, 0, 0) := by decide +kernel
theorem c122_134 : gP 122 134 = some (.iload 1, 1, 0, 0) := by decide +kernel
theorem c122_135 : gP 122 135 = some (.imul, 1, 0, 0) := by decide +kernel
theorem c122_136 : gP 122 136 = some (.iconst 8, 2, 0, 0) := by decide +kernel
theorem c122_138 : gP 122 138 = some (.iload 2, 1, 0, 0) := by decide +kernel
theorem c122_139 : gP 122 139 = some (.imul, 1, 0, 0) := by decide +kernel
theorem c122_140 : gP 122 140 = some (.iadd, 1, 0, 0) := by decide +kernel
theorem c122_141 : gP 122 141 = some (.iload 3, 1, 0, 0) := by decide +kernel
theorem c122_142 : gP 122 142 = some (.iadd, 1, 0, 0) := by decide +kernel
theorem c122_143 : gP 122 143 = some (.iconst 1, 1, 0, 0) := by decide +kernel
theorem c122_144 : gP 122 144 = some (.iastore, 1, 1, 0) := by decide +kernel
theorem c122_145 : gP 122 145 = some (.aload 0, 1, 0, 0) := by decide +kernel
theorem c122_146 : gP 122 146 = some (.iconst 59, 2, 0, 0) := by decide +kernel
theorem c122_148 : gP 122 148 = some (.invokeinterface 118 238, 3, 2, 1) := by decide +kernel
theorem c122_151 : gP 122 151 = some (.ifCond .ne 155, 3, 0, 0) := by decide +kernel
theorem c122_154 : gP 122 154 = some (.return_, 1, 0, 0) := by decide +kernel
theorem c122_155 : gP 122 155 = some (.return_, 1, 0, 0) := by decide +kernel
theorem c123_0 : gP 123 0 = some (.iload 2, 1, 0, 0) := by decide +kernel
theorem c123_1 : gP 123 1 = some (.istore 5, 2, 0, 0) := by decide +kernel
theorem c123_3 : gP 123 3 = some (.iload 5, 2, 0, 0) := by decide +kernel
theorem c123_5 : gP 123 5 = some (.ifCond .lt 90, 3, 0, 0) := by decide +kernel
theorem c123_8 : gP 123 8 = some (.iconst 0, 1, 0, 0) := by decide +kernel
theorem c123_9 : gP 123 9 = some (.istore 6, 2, 0, 0) := by decide +kernel
theorem c123_11 : gP 123 11 = some (.iload 6, 2, 0, 0) := by decide +kernel
theorem c123_13 : gP 123 13 = some (.aload 0, 1, 0, 0) := by decide +kernel
theorem c123_14 : gP 123 14 = some (.getfield 21, 3, 8, 35) := by decide +kernel
theorem c123_17 : gP 123 17 = some (.iload 1, 1, 0, 0) := by decide +kernel
theorem c123_18 : gP 123 18 = some (.iaload, 1, 0, 0) := by decide +kernel
theorem c123_19 : gP 123 19 = some (.if_icmp .ge 64, 3, 0, 0) := by decide +kernel
theorem c123_22 : gP 123 22 = some (.aload 0, 1, 0, 0) := by decide +kernel
theorem c123_23 : gP 123 23 = some (.getfield 33, 3, 8, 72) := by decide +kernel
theorem c123_26 : gP 123 26 = some (.iconst 10, 2, 0, 0) := by decide +kernel
theorem c123_28 : gP 123 28 = some (.iload 1, 1, 0, 0) := by decide +kernel
theorem c123_29 : gP 123 29 = some (.imul, 1, 0, 0) := by decide +kernel
theorem c123_30 : gP 123 30 = some (.iload 6, 2, 0, 0) := by decide +kernel
theorem c123_32 : gP 123 32 = some (.iadd, 1, 0, 0) := by decide +kernel
theorem c123_33 : gP 123 33 = some (.iaload, 1, 0, 0) := by decide +kernel
theorem c123_34 : gP 123 34 = some (.iload 5, 2, 0, 0) := by decide +kernel
theorem c123_36 : gP 123 36 = some (.if_icmp .ne 58, 3, 0, 0) := by decide +kernel
theorem c123_39 : gP 123 39 = some (.aload 0, 1, 0, 0) := by decide +kernel
theorem c123_40 : gP 123 40 = some (.getfield 32, 3, 8, 69) := by decide +kernel
theorem c123_43 : gP 123 43 = some (.iconst 10, 2, 0, 0) := by decide +kernel
theorem c123_45 : gP 123 45 = some (.iload 1, 1, 0, 0) := by decide +kernel
theorem c123_46 : gP 123 46 = some (.imul, 1, 0, 0) := by decide +kernel
theorem c123_47 : gP 123 47 = some (.iload 6, 2, 0, 0) := by decide +kernel
theorem c123_49 : gP 123 49 = some (.iadd, 1, 0, 0) := by decide +kernel
theorem c123_50 : gP 123 50 = some (.iaload, 1, 0, 0) := by decide +kernel
theorem c123_51 : gP 123 51 = some (.iload 3, 1, 0, 0) := by decide +kernel
theorem c123_52 : gP 123 52 = some (.if_icmp .ne 58, 3, 0, 0) := by decide +kernel
theorem c123_55 : gP 123 55 = some (.iload 6, 2, 0, 0) := by decide +kernel
theorem c123_57 : gP 123 57 = some (.ireturn, 1, 0, 0) := by decide +kernel
theorem c123_58 : gP 123 58 = some (.iinc 6 1, 3, 0, 0) := by decide +kernel
theorem c123_61 : gP 123 61 = some (.goto 11, 3, 0, 0) := by decide +kernel
theorem c123_64 : gP 123 64 = some (.iload 4, 2, 0, 0) := by decide +kernel
theorem c123_66 : gP 123 66 = some (.ifCond .eq 73, 3, 0, 0) := by decide +kernel
theorem c123_69 : gP 123 69 = some (.iconst (-1), 1, 0, 0) := by decide +kernel
theorem c123_70 : gP 123 70 = some (.goto 85, 3, 0, 0) := by decide +kernel
theorem c123_73 : gP 123 73 = some (.aload 0, 1, 0, 0) := by decide +kernel
theorem c123_74 : gP 123 74 = some (.getfield 29, 3, 8, 59) := by decide +kernel
theorem c123_77 : gP 123 77 = some (.iconst 6, 2, 0, 0) := by decide +kernel
theorem c123_79 : gP 123 79 = some (.iload 1, 1, 0, 0) := by decide +kernel
theorem c123_80 : gP 123 80 = some (.imul, 1, 0, 0) := by decide +kernel
theorem c123_81 : gP 123 81 = some (.iload 5, 2, 0, 0) := by decide +kernel
theorem c123_83 : gP 123 83 = some (.iadd, 1, 0, 0) := by decide +kernel
theorem c123_84 : gP 123 84 = some (.iaload, 1, 0, 0) := by decide +kernel
theorem c123_85 : gP 123 85 = some (.istore 5, 2, 0, 0) := by decide +kernel
theorem c123_87 : gP 123 87 = some (.goto 3, 3, 0, 0) := by decide +kernel
theorem c123_90 : gP 123 90 = some (.iconst (-1), 1, 0, 0) := by decide +kernel
theorem c123_91 : gP 123 91 = some (.ireturn, 1, 0, 0) := by decide +kernel
theorem c124_0 : gP 124 0 = some (.aload 0, 1, 0, 0) := by decide +kernel
theorem c124_1 : gP 124 1 = some (.invokeinterface 96 228, 3, 1, 1) := by decide +kernel
theorem c124_4 : gP 124 4 = some (.istore 2, 1, 0, 0) := by decide +kernel
theorem c124_5 : gP 124 5 = some (.aload 0, 1, 0, 0) := by decide +kernel
theorem c124_6 : gP 124 6 = some (.getfield 13, 3, 8, 23) := by decide +kernel
theorem c124_9 : gP 124 9 = some (.aload 0, 1, 0, 0) := by decide +kernel
theorem c124_10 : gP 124 10 = some (.getfield 26, 3, 8, 50) := by decide +kernel
theorem c124_13 : gP 124 13 = some (.iload 2, 1, 0, 0) := by decide +kernel
theorem c124_14 : gP 124 14 = some (.iaload, 1, 0, 0) := by decide +kernel
theorem c124_15 : gP 124 15 = some (.iload 1, 1, 0, 0) := by decide +kernel
theorem c124_16 : gP 124 16 = some (.iastore, 1, 0, 0) := by decide +kernel
theorem c124_17 : gP 124 17 = some (.aload 0, 1, 0, 0) := by decide +kernel
theorem c124_18 : gP 124 18 = some (.getfield 26, 3, 8, 50) := by decide +kernel
theorem c124_21 : gP 124 21 = some (.iload 2, 1, 0, 0) := by decide +kernel
theorem c124_22 : gP 124 22 = some (.dup2, 1, 0, 0) := by decide +kernel
theorem c124_23 : gP 124 23 = some (.iaload, 1, 0, 0) := by decide +kernel
theorem c124_24 : gP 124 24 = some (.iconst 1, 1, 0, 0) := by decide +kernel
theorem c124_25 : gP 124 25 = some (.iadd, 1, 0, 0) := by decide +kernel
theorem c124_26 : gP 124 26 = some (.iastore, 1, 0, 0) := by decide +kernel
theorem c124_27 : gP 124 27 = some (.aload 0, 1, 0, 0) := by decide +kernel
theorem c124_28 : gP 124 28 = some (.getfield 26, 3, 8, 50) := by decide +kernel
theorem c124_31 : gP 124 31 = some (.iload 2, 1, 0, 0) := by decide +kernel
theorem c124_32 : gP 124 32 = some (.iaload, 1, 0, 0) := by decide +kernel
theorem c124_33 : gP 124 33 = some (.iconst 1, 1, 0, 0) := by decide +kernel
theorem c124_34 : gP 124 34 = some (.isub, 1, 0, 0) := by decide +kernel
theorem c124_35 : gP 124 35 = some (.ireturn, 1, 0, 0) := by decide +kernel
theorem c125_0 : gP 125 0 = some (.aload 0, 1, 0, 0) := by decide +kernel
theorem c125_1 : gP 125 1 = some (.invokeinterface 96 228, 3, 1, 1) := by decide +kernel
theorem c125_4 : gP 125 4 = some (.istore 2, 1, 0, 0) := by decide +kernel
theorem c125_5 : gP 125 5 = some (.iconst 1, 1, 0, 0) := by decide +kernel
theorem c125_6 : gP 125 6 = some (.istore 3, 1, 0, 0) := by decide +kernel
theorem c125_7 : gP 125 7 = some (.iload 3, 1, 0, 0) := by decide +kernel
theorem c125_8 : gP 125 8 = some (.ifCond .eq 133, 3, 0, 0) := by decide +kernel
theorem c125_11 : gP 125 11 = some (.aload 0, 1, 0, 0) := by decide +kernel
theorem c125_12 : gP 125 12 = some (.invokeinterface 115 232, 3, 1, 1) := by decide +kernel
theorem c125_15 : gP 125 15 = some (.ifCond .eq 60, 3, 0, 0) := by decide +kernel
theorem c125_18 : gP 125 18 = some (.aload 0, 1, 0, 0) := by decide +kernel
theorem c125_19 : gP 125 19 = some (.getfield 26, 3, 8, 50) := by decide +kernel
theorem c125_22 : gP 125 22 = some (.iload 2, 1, 0, 0) := by decide +kernel
theorem c125_23 : gP 125 23 = some (.iaload, 1, 0, 0) := by decide +kernel
theorem c125_24 : gP 125 24 = some (.iconst 48, 2, 0, 0) := by decide +kernel
theorem c125_26 : gP 125 26 = some (.if_icmp .ge 60, 3, 0, 0) := by decide +kernel
theorem c125_29 : gP 125 29 = some (.aload 0, 1, 0, 0) := by decide +kernel
theorem c125_30 : gP 125 30 = some (.getfield 34, 3, 8, 75) := by decide +kernel
theorem c125_33 : gP 125 33 = some (.iload 1, 1, 0, 0) := by decide +kernel
theorem c125_34 : gP 125 34 = some (.iaload, 1, 0, 0) := by decide +kernel
theorem c125_35 : gP 125 35 = some (.ifCond .eq 56, 3, 0, 0) := by decide +kernel
theorem c125_38 : gP 125 38 = some (.aload 0, 1, 0, 0) := by decide +kernel
theorem c125_39 : gP 125 39 = some (.getfield 13, 3, 8, 23) := by decide +kernel
theorem c125_42 : gP 125 42 = some (.aload 0, 1, 0, 0) := by decide +kernel
theorem c125_43 : gP 125 43 = some (.getfield 14, 3, 8, 250) := by decide +kernel
theorem c125_46 : gP 125 46 = some (.iconst 2, 1, 0, 0) := by decide +kernel
theorem c125_47 : gP 125 47 = some (.iadd, 1, 0, 0) := by decide +kernel
theorem c125_48 : gP 125 48 = some (.iaload, 1, 0, 0) := by decide +kernel
theorem c125_49 : gP 125 49 = some (.aload 0, 1, 0, 0) := by decide +kernel
theorem c125_50 : gP 125 50 = some (.getfield 4, 3, 8, 157) := by decide +kernel
theorem c125_53 : gP 125 53 = some (.if_icmp .eq 60, 3, 0, 0) := by decide +kernel
theorem c125_56 : gP 125 56 = some (.iconst 1, 1, 0, 0) := by decide +kernel
theorem c125_57 : gP 125 57 = some (.goto 61, 3, 0, 0) := by decide +kernel
theorem c125_60 : gP 125 60 = some (.iconst 0, 1, 0, 0) := by decide +kernel
theorem c125_61 : gP 125 61 = some (.istore 4, 2, 0, 0) := by decide +kernel
theorem c125_63 : gP 125 63 = some (.aload 0, 1, 0, 0) := by decide +kernel
theorem c125_64 : gP 125 64 = some (.getfield 4, 3, 8, 157) := by decide +kernel
theorem c125_67 : gP 125 67 = some (.istore 5, 2, 0, 0) := by decide +kernel
theorem c125_69 : gP 125 69 = some (.aload 0, 1, 0, 0) := by decide +kernel
theorem c125_70 : gP 125 70 = some (.iload 4, 2, 0, 0) := by decide +kernel
theorem c125_72 : gP 125 72 = some (.invokeinterface 105 217, 3, 2, 1) := by decide +kernel
theorem c125_75 : gP 125 75 = some (.ifCond .ne 79, 3, 0, 0) := by decide +kernel
theorem c125_78 : gP 125 78 = some (.return_, 1, 0, 0) := by decide +kernel
theorem c125_79 : gP 125 79 = some (.aload 0, 1, 0, 0) := by decide +kernel
theorem c125_80 : gP 125 80 = some (.iload 5, 2, 0, 0) := by decide +kernel
theorem c125_82 : gP 125 82 = some (.invokeinterface 124 247, 3, 2, 1) := by decide +kernel
theorem c125_85 : gP 125 85 = some (.istore 6, 2, 0, 0) := by decide +kernel
theorem c125_87 : gP 125 87 = some (.aload 0, 1, 0, 0) := by decide +kernel
theorem c125_88 : gP 125 88 = some (.getfield 34, 3, 8, 75) := by decide +kernel
theorem c125_91 : gP 125 91 = some (.iload 1, 1, 0, 0) := by decide +kernel
theorem c125_92 : gP 125 92 = some (.dup2, 1, 0, 0) := by decide +kernel
theorem c125_93 : gP 125 93 = some (.iaload, 1, 0, 0) := by decide +kernel
theorem c125_94 : gP 125 94 = some (.iconst 1, 1, 0, 0) := by decide +kernel
theorem c125_95 : gP 125 95 = some (.iadd, 1, 0, 0) := by decide +kernel
theorem c125_96 : gP 125 96 = some (.iastore, 1, 0, 0) := by decide +kernel
theorem c125_97 : gP 125 97 = some (.aload 0, 1, 0, 0) := by decide +kernel
theorem c125_98 : gP 125 98 = some (.getfield 34, 3, 8, 75) := by decide +kernel
theorem c125_101 : gP 125 101 = some (.iload 1, 1, 0, 0) := by decide +kernel
theorem c125_102 : gP 125 102 = some (.iaload, 1, 0, 0) := by decide +kernel
theorem c125_103 : gP 125 103 = some (.iconst 1, 1, 0, 0) := by decide +kernel
theorem c125_104 : gP 125 104 = some (.if_icmp .ne 120, 3, 0, 0) := by decide +kernel
theorem c125_107 : gP 125 107 = some (.aload 0, 1, 0, 0) := by decide +kernel
theorem c125_108 : gP 125 108 = some (.iconst 44, 2, 0, 0) := by decide +kernel
theorem c125_110 : gP 125 110 = some (.invokeinterface 117 214, 3, 2, 1) := by decide +kernel
theorem c125_113 : gP 125 113 = some (.ifCond .eq 120, 3, 0, 0) := by decide +kernel
theorem c125_116 : gP 125 116 = some (.iconst 1, 1, 0, 0) := by decide +kernel
theorem c125_117 : gP 125 117 = some (.goto 121, 3, 0, 0) := by decide +kernel
theorem c125_120 : gP 125 120 = some (.iconst 0, 1, 0, 0) := by decide +kernel
theorem c125_121 : gP 125 121 = some (.istore 3, 1, 0, 0) := by decide +kernel
theorem c125_122 : gP 125 122 = some (.iload 3, 1, 0, 0) := by decide +kernel
theorem c125_123 : gP 125 123 = some (.ifCond .eq 130, 3, 0, 0) := by decide +kernel
theorem c125_126 : gP 125 126 = some (.aload 0, 1, 0, 0) := by decide +kernel
theorem c125_127 : gP 125 127 = some (.invokeinterface 99 211, 3, 1, 1) := by decide +kernel
theorem c125_130 : gP 125 130 = some (.goto 7, 3, 0, 0) := by decide +kernel
theorem c125_133 : gP 125 133 = some (.return_, 1, 0, 0) := by decide +kernel
theorem c126_0 : gP 126 0 = some (.aload 0, 1, 0, 0) := by decide +kernel
theorem c126_1 : gP 126 1 = some (.invokeinterface 96 228, 3, 1, 1) := by decide +kernel
theorem c126_4 : gP 126 4 = some (.istore 1, 1, 0, 0) := by decide +kernel
theorem c126_5 : gP 126 5 = some (.aload 0, 1, 0, 0) := by decide +kernel
theorem c126_6 : gP 126 6 = some (.getfield 20, 3, 8, 32) := by decide +kernel
theorem c126_9 : gP 126 9 = some (.iload 1, 1, 0, 0) := by decide +kernel
theorem c126_10 : gP 126 10 = some (.iaload, 1, 0, 0) := by decide +kernel
theorem c126_11 : gP 126 11 = some (.iconst 1, 1, 0, 0) := by decide +kernel
theorem c126_12 : gP 126 12 = some (.isub, 1, 0, 0) := by decide +kernel
theorem c126_13 : gP 126 13 = some (.istore 2, 1, 0, 0) := by decide +kernel
theorem c126_14 : gP 126 14 = some (.aload 0, 1, 0, 0) := by decide +kernel
theorem c126_15 : gP 126 15 = some (.invokeinterface 99 211, 3, 1, 1) := by decide +kernel
theorem c126_18 : gP 126 18 = some (.aload 0, 1, 0, 0) := by decide +kernel
theorem c126_19 : gP 126 19 = some (.invokeinterface 115 232, 3, 1, 1) := by decide +kernel
theorem c126_22 : gP 126 22 = some (.ifCond .eq 65, 3, 0, 0) := by decide +kernel
theorem c126_25 : gP 126 25 = some (.aload 0, 1, 0, 0) := by decide +kernel
theorem c126_26 : gP 126 26 = some (.getfield 21, 3, 8, 35) := by decide +kernel
theorem c126_29 : gP 126 29 = some (.iload 1, 1, 0, 0) := by decide +kernel
theorem c126_30 : gP 126 30 = some (.iaload, 1, 0, 0) := by decide +kernel
theorem c126_31 : gP 126 31 = some (.iconst 10, 2, 0, 0) := by decide +kernel
theorem c126_33 : gP 126 33 = some (.if_icmp .ge 65, 3, 0, 0) := by decide +kernel
theorem c126_36 : gP 126 36 = some (.aload 0, 1, 0, 0) := by decide +kernel
theorem c126_37 : gP 126 37 = some (.getfield 26, 3, 8, 50) := by decide +kernel
theorem c126_40 : gP 126 40 = some (.iload 1, 1, 0, 0) := by decide +kernel
theorem c126_41 : gP 126 41 = some (.iaload, 1, 0, 0) := by decide +kernel
theorem c126_42 : gP 126 42 = some (.iconst 47, 2, 0, 0) := by decide +kernel
theorem c126_44 : gP 126 44 = some (.if_icmp .ge 65, 3, 0, 0) := by decide +kernel
theorem c126_47 : gP 126 47 = some (.aload 0, 1, 0, 0) := by decide +kernel
theorem c126_48 : gP 126 48 = some (.iload 1, 1, 0, 0) := by decide +kernel
theorem c126_49 : gP 126 49 = some (.iload 2, 1, 0, 0) := by decide +kernel
theorem c126_50 : gP 126 50 = some (.aload 0, 1, 0, 0) := by decide +kernel
theorem c126_51 : gP 126 51 = some (.getfield 4, 3, 8, 157) := by decide +kernel
theorem c126_54 : gP 126 54 = some (.iconst 1, 1, 0, 0) := by decide +kernel
theorem c126_55 : gP 126 55 = some (.invokeinterface 123 224, 3, 5, 1) := by decide +kernel
theorem c126_58 : gP 126 58 = some (.ifCond .ge 65, 3, 0, 0) := by decide +kernel
theorem c126_61 : gP 126 61 = some (.iconst 1, 1, 0, 0) := by decide +kernel
theorem c126_62 : gP 126 62 = some (.goto 66, 3, 0, 0) := by decide +kernel
theorem c126_65 : gP 126 65 = some (.iconst 0, 1, 0, 0) := by decide +kernel
theorem c126_66 : gP 126 66 = some (.istore 3, 1, 0, 0) := by decide +kernel
theorem c126_67 : gP 126 67 = some (.aload 0, 1, 0, 0) := by decide +kernel
theorem c126_68 : gP 126 68 = some (.getfield 4, 3, 8, 157) := by decide +kernel
theorem c126_71 : gP 126 71 = some (.istore 4, 2, 0, 0) := by decide +kernel
theorem c126_73 : gP 126 73 = some (.aload 0, 1, 0, 0) := by decide +kernel
theorem c126_74 : gP 126 74 = some (.iload 3, 1, 0, 0) := by decide +kernel
theorem c126_75 : gP 126 75 = some (.invokeinterface 105 217, 3, 2, 1) := by decide +kernel
theorem c126_78 : gP 126 78 = some (.ifCond .ne 82, 3, 0, 0) := by decide +kernel
theorem c126_81 : gP 126 81 = some (.return_, 1, 0, 0) := by decide +kernel
theorem c126_82 : gP 126 82 = some (.iconst 10, 2, 0, 0) := by decide +kernel
theorem c126_84 : gP 126 84 = some (.iload 1, 1, 0, 0) := by decide +kernel
theorem c126_85 : gP 126 85 = some (.imul, 1, 0, 0) := by decide +kernel
theorem c126_86 : gP 126 86 = some (.aload 0, 1, 0, 0) := by decide +kernel
theorem c126_87 : gP 126 87 = some (.getfield 21, 3, 8, 35) := by decide +kernel
theorem c126_90 : gP 126 90 = some (.iload 1, 1, 0, 0) := by decide +kernel
theorem c126_91 : gP 126 91 = some (.iaload, 1, 0, 0) := by decide +kernel
theorem c126_92 : gP 126 92 = some (.iadd, 1, 0, 0) := by decide +kernel
theorem c126_93 : gP 126 93 = some (.istore 5, 2, 0, 0) := by decide +kernel
theorem c126_95 : gP 126 95 = some (.aload 0, 1, 0, 0) := by decide +kernel
theorem c126_96 : gP 126 96 = some (.getfield 32, 3, 8, 69) := by decide +kernel
theorem c126_99 : gP 126 99 = some (.iload 5, 2, 0, 0) := by decide +kernel
theorem c126_101 : gP 126 101 = some (.iload 4, 2, 0, 0) := by decide +kernel
theorem c126_103 : gP 126 103 = some (.iastore, 1, 0, 0) := by decide +kernel
theorem c126_104 : gP 126 104 = some (.aload 0, 1, 0, 0) := by decide +kernel
theorem c126_105 : gP 126 105 = some (.getfield 33, 3, 8, 72) := by decide +kernel
theorem c126_108 : gP 126 108 = some (.iload 5, 2, 0, 0) := by decide +kernel
theorem c126_110 : gP 126 110 = some (.iload 2, 1, 0, 0) := by decide +kernel
theorem c126_111 : gP 126 111 = some (.iastore, 1, 0, 0) := by decide +kernel
theorem c126_112 : gP 126 112 = some (.aload 0, 1, 0, 0) := by decide +kernel
theorem c126_113 : gP 126 113 = some (.getfield 34, 3, 8, 75) := by decide +kernel
theorem c126_116 : gP 126 116 = some (.iload 5, 2, 0, 0) := by decide +kernel
theorem c126_118 : gP 126 118 = some (.iconst 0, 1, 0, 0) := by decide +kernel
theorem c126_119 : gP 126 119 = some (.iastore, 1, 0, 0) := by decide +kernel
theorem c126_120 : gP 126 120 = some (.aload 0, 1, 0, 0) := by decide +kernel
theorem c126_121 : gP 126 121 = some (.getfield 36, 3, 8, 81) := by decide +kernel
theorem c126_124 : gP 126 124 = some (.iload 5, 2, 0, 0) := by decide +kernel
theorem c126_126 : gP 126 126 = some (.aload 0, 1, 0, 0) := by decide +kernel
theorem c126_127 : gP 126 127 = some (.getfield 27, 3, 8, 53) := by decide +kernel
theorem c126_130 : gP 126 130 = some (.iload 1, 1, 0, 0) := by decide +kernel
theorem c126_131 : gP 126 131 = some (.iaload, 1, 0, 0) := by decide +kernel
theorem c126_132 : gP 126 132 = some (.iastore, 1, 0, 0) := by decide +kernel
theorem c126_133 : gP 126 133 = some (.aload 0, 1, 0, 0) := by decide +kernel
theorem c126_134 : gP 126 134 = some (.aload 0, 1, 0, 0) := by decide +kernel
theorem c126_135 : gP 126 135 = some (.iconst (-1), 1, 0, 0) := by decide +kernel
theorem c126_136 : gP 126 136 = some (.invokeinterface 124 247, 3, 2, 1) := by decide +kernel
theorem c126_139 : gP 126 139 = some (.putfield 14, 3, 8, 0) := by decide +kernel
theorem c126_142 : gP 126 142 = some (.aload 0, 1, 0, 0) := by decide +kernel
theorem c126_143 : gP 126 143 = some (.getfield 35, 3, 8, 78) := by decide +kernel
theorem c126_146 : gP 126 146 = some (.iload 5, 2, 0, 0) := by decide +kernel
theorem c126_148 : gP 126 148 = some (.aload 0, 1, 0, 0) := by decide +kernel
theorem c126_149 : gP 126 149 = some (.getfield 14, 3, 8, 250) := by decide +kernel
theorem c126_152 : gP 126 152 = some (.iastore, 1, 0, 0) := by decide +kernel
theorem c126_153 : gP 126 153 = some (.aload 0, 1, 0, 0) := by decide +kernel
theorem c126_154 : gP 126 154 = some (.iconst (-1), 1, 0, 0) := by decide +kernel
theorem c126_155 : gP 126 155 = some (.invokeinterface 124 247, 3, 2, 1) := by decide +kernel
theorem c126_158 : gP 126 158 = some (.istore 6, 2, 0, 0) := by decide +kernel
theorem c126_160 : gP 126 160 = some (.aload 0, 1, 0, 0) := by decide +kernel
theorem c126_161 : gP 126 161 = some (.getfield 21, 3, 8, 35) := by decide +kernel
theorem c126_164 : gP 126 164 = some (.iload 1, 1, 0, 0) := by decide +kernel
theorem c126_165 : gP 126 165 = some (.dup2, 1, 0, 0) := by decide +kernel
theorem c126_166 : gP 126 166 = some (.iaload, 1, 0, 0) := by decide +kernel
theorem c126_167 : gP 126 167 = some (.iconst 1, 1, 0, 0) := by decide +kernel
theorem c126_168 : gP 126 168 = some (.iadd, 1, 0, 0) := by decide +kernel
theorem c126_169 : gP 126 169 = some (.iastore, 1, 0, 0) := by decide +kernel
theorem c126_170 : gP 126 170 = some (.aload 0, 1, 0, 0) := by decide +kernel
theorem c126_171 : gP 126 171 = some (.iconst 40, 2, 0, 0) := by decide +kernel
theorem c126_173 : gP 126 173 = some (.invokeinterface 118 238, 3, 2, 1) := by decide +kernel
theorem c126_176 : gP 126 176 = some (.ifCond .ne 180, 3, 0, 0) := by decide +kernel
theorem c126_179 : gP 126 179 = some (.return_, 1, 0, 0) := by decide +kernel
theorem c126_180 : gP 126 180 = some (.aload 0, 1, 0, 0) := by decide +kernel
theorem c126_181 : gP 126 181 = some (.invokeinterface 115 232, 3, 1, 1) := by decide +kernel
theorem c126_184 : gP 126 184 = some (.ifCond .eq 193, 3, 0, 0) := by decide +kernel
theorem c126_187 : gP 126 187 = some (.aload 0, 1, 0, 0) := by decide +kernel
theorem c126_188 : gP 126 188 = some (.iload 5, 2, 0, 0) := by decide +kernel
theorem c126_190 : gP 126 190 = some (.invokeinterface 125 253, 3, 2, 1) := by decide +kernel
theorem c126_193 : gP 126 193 = some (.aload 0, 1, 0, 0) := by decide +kernel
theorem c126_194 : gP 126 194 = some (.getfield 8, 3, 8, 205) := by decide +kernel
theorem c126_197 : gP 126 197 = some (.ifCond .ge 209, 3, 0, 0) := by decide +kernel
theorem c126_200 : gP 126 200 = some (.aload 0, 1, 0, 0) := by decide +kernel
theorem c126_201 : gP 126 201 = some (.iconst 41, 2, 0, 0) := by decide +kernel
theorem c126_203 : gP 126 203 = some (.invokeinterface 118 238, 3, 2, 1) := by decide +kernel
theorem c126_206 : gP 126 206 = some (.ifCond .ne 210, 3, 0, 0) := by decide +kernel
theorem c126_209 : gP 126 209 = some (.return_, 1, 0, 0) := by decide +kernel
theorem c126_210 : gP 126 210 = some (.aload 0, 1, 0, 0) := by decide +kernel
theorem c126_211 : gP 126 211 = some (.iconst 123, 2, 0, 0) := by decide +kernel
theorem c126_213 : gP 126 213 = some (.invokeinterface 118 238, 3, 2, 1) := by decide +kernel
theorem c126_216 : gP 126 216 = some (.ifCond .ne 220, 3, 0, 0) := by decide +kernel
theorem c126_219 : gP 126 219 = some (.return_, 1, 0, 0) := by decide +kernel
theorem c126_220 : gP 126 220 = some (.return_, 1, 0, 0) := by decide +kernel
theorem c127_0 : gP 127 0 = some (.aload 0, 1, 0, 0) := by decide +kernel
theorem c127_1 : gP 127 1 = some (.invokeinterface 96 228, 3, 1, 1) := by decide +kernel
theorem c127_4 : gP 127 4 = some (.istore 5, 2, 0, 0) := by decide +kernel
theorem c127_6 : gP 127 6 = some (.iconst 1000, 3, 0, 0) := by decide +kernel
theorem c127_9 : gP 127 9 = some (.iload 5, 2, 0, 0) := by decide +kernel
theorem c127_11 : gP 127 11 = some (.imul, 1, 0, 0) := by decide +kernel
theorem c127_12 : gP 127 12 = some (.iconst 8, 2, 0, 0) := by decide +kernel
theorem c127_14 : gP 127 14 = some (.aload 0, 1, 0, 0) := by decide +kernel
theorem c127_15 : gP 127 15 = some (.getfield 27, 3, 8, 53) := by decide +kernel
theorem c127_18 : gP 127 18 = some (.iload 5, 2, 0, 0) := by decide +kernel
theorem c127_20 : gP 127 20 = some (.iaload, 1, 0, 0) := by decide +kernel
theorem c127_21 : gP 127 21 = some (.imul, 1, 0, 0) := by decide +kernel
theorem c127_22 : gP 127 22 = some (.iadd, 1, 0, 0) := by decide +kernel
theorem c127_23 : gP 127 23 = some (.istore 6, 2, 0, 0) := by decide +kernel
theorem c127_25 : gP 127 25 = some (.aload 0, 1, 0, 0) := by decide +kernel
theorem c127_26 : gP 127 26 = some (.getfield 40, 3, 8, 93) := by decide +kernel
theorem c127_29 : gP 127 29 = some (.iload 6, 2, 0, 0) := by decide +kernel
theorem c127_31 : gP 127 31 = some (.iload 1, 1, 0, 0) := by decide +kernel
theorem c127_32 : gP 127 32 = some (.iastore, 1, 0, 0) := by decide +kernel
theorem c127_33 : gP 127 33 = some (.aload 0, 1, 0, 0) := by decide +kernel
theorem c127_34 : gP 127 34 = some (.getfield 40, 3, 8, 93) := by decide +kernel
theorem c127_37 : gP 127 37 = some (.iload 6, 2, 0, 0) := by decide +kernel
theorem c127_39 : gP 127 39 = some (.iconst 1, 1, 0, 0) := by decide +kernel
theorem c127_40 : gP 127 40 = some (.iadd, 1, 0, 0) := by decide +kernel
theorem c127_41 : gP 127 41 = some (.aload 0, 1, 0, 0) := by decide +kernel
theorem c127_42 : gP 127 42 = some (.getfield 21, 3, 8, 35) := by decide +kernel
theorem c127_45 : gP 127 45 = some (.iload 5, 2, 0, 0) := by decide +kernel
theorem c127_47 : gP 127 47 = some (.iaload, 1, 0, 0) := by decide +kernel
theorem c127_48 : gP 127 48 = some (.iconst 1, 1, 0, 0) := by decide +kernel
theorem c127_49 : gP 127 49 = some (.isub, 1, 0, 0) := by decide +kernel
theorem c127_50 : gP 127 50 = some (.iastore, 1, 0, 0) := by decide +kernel
theorem c127_51 : gP 127 51 = some (.aload 0, 1, 0, 0) := by decide +kernel
theorem c127_52 : gP 127 52 = some (.getfield 40, 3, 8, 93) := by decide +kernel
theorem c127_55 : gP 127 55 = some (.iload 6, 2, 0, 0) := by decide +kernel
theorem c127_57 : gP 127 57 = some (.iconst 2, 1, 0, 0) := by decide +kernel
theorem c127_58 : gP 127 58 = some (.iadd, 1, 0, 0) := by decide +kernel
theorem c127_59 : gP 127 59 = some (.iload 2, 1, 0, 0) := by decide +kernel
theorem c127_60 : gP 127 60 = some (.iastore, 1, 0, 0) := by decide +kernel
theorem c127_61 : gP 127 61 = some (.aload 0, 1, 0, 0) := by decide +kernel
theorem c127_62 : gP 127 62 = some (.getfield 40, 3, 8, 93) := by decide +kernel
theorem c127_65 : gP 127 65 = some (.iload 6, 2, 0, 0) := by decide +kernel
theorem c127_67 : gP 127 67 = some (.iconst 3, 1, 0, 0) := by decide +kernel
theorem c127_68 : gP 127 68 = some (.iadd, 1, 0, 0) := by decide +kernel
theorem c127_69 : gP 127 69 = some (.iload 3, 1, 0, 0) := by decide +kernel
theorem c127_70 : gP 127 70 = some (.iastore, 1, 0, 0) := by decide +kernel
theorem c127_71 : gP 127 71 = some (.aload 0, 1, 0, 0) := by decide +kernel
theorem c127_72 : gP 127 72 = some (.getfield 40, 3, 8, 93) := by decide +kernel
theorem c127_75 : gP 127 75 = some (.iload 6, 2, 0, 0) := by decide +kernel
theorem c127_77 : gP 127 77 = some (.iconst 4, 1, 0, 0) := by decide +kernel
theorem c127_78 : gP 127 78 = some (.iadd, 1, 0, 0) := by decide +kernel
theorem c127_79 : gP 127 79 = some (.iload 4, 2, 0, 0) := by decide +kernel
theorem c127_81 : gP 127 81 = some (.iastore, 1, 0, 0) := by decide +kernel
theorem c127_82 : gP 127 82 = some (.aload 0, 1, 0, 0) := by decide +kernel
theorem c127_83 : gP 127 83 = some (.getfield 27, 3, 8, 53) := by decide +kernel
theorem c127_86 : gP 127 86 = some (.iload 5, 2, 0, 0) := by decide +kernel
theorem c127_88 : gP 127 88 = some (.dup2, 1, 0, 0) := by decide +kernel
theorem c127_89 : gP 127 89 = some (.iaload, 1, 0, 0) := by decide +kernel
theorem c127_90 : gP 127 90 = some (.iconst 1, 1, 0, 0) := by decide +kernel
theorem c127_91 : gP 127 91 = some (.iadd, 1, 0, 0) := by decide +kernel
theorem c127_92 : gP 127 92 = some (.iastore, 1, 0, 0) := by decide +kernel
theorem c127_93 : gP 127 93 = some (.aload 0, 1, 0, 0) := by decide +kernel
theorem c127_94 : gP 127 94 = some (.getfield 27, 3, 8, 53) := by decide +kernel
theorem c127_97 : gP 127 97 = some (.iload 5, 2, 0, 0) := by decide +kernel
theorem c127_99 : gP 127 99 = some (.iaload, 1, 0, 0) := by decide +kernel
theorem c127_100 : gP 127 100 = some (.iconst 1, 1, 0, 0) := by decide +kernel
theorem c127_101 : gP 127 101 = some (.isub, 1, 0, 0) := by decide +kernel
theorem c127_102 : gP 127 102 = some (.ireturn, 1, 0, 0) := by decide +kernel
theorem c128_0 : gP 128 0 = some (.aload 0, 1, 0, 0) := by decide +kernel
theorem c128_1 : gP 128 1 = some (.getfield 40, 3, 8, 93) := by decide +kernel
theorem c128_4 : gP 128 4 = some (.iconst 1000, 3, 0, 0) := by decide +kernel
theorem c128_7 : gP 128 7 = some (.aload 0, 1, 0, 0) := by decide +kernel
theorem c128_8 : gP 128 8 = some (.invokeinterface 96 228, 3, 1, 1) := by decide +kernel
theorem c128_11 : gP 128 11 = some (.imul, 1, 0, 0) := by decide +kernel
theorem c128_12 : gP 128 12 = some (.iconst 8, 2, 0, 0) := by decide +kernel
theorem c128_14 : gP 128 14 = some (.iload 1, 1, 0, 0) := by decide +kernel
theorem c128_15 : gP 128 15 = some (.imul, 1, 0, 0) := by decide +kernel
theorem c128_16 : gP 128 16 = some (.iadd, 1, 0, 0) := by decide +kernel
theorem c128_17 : gP 128 17 = some (.iconst 3, 1, 0, 0) := by decide +kernel
theorem c128_18 : gP 128 18 = some (.iadd, 1, 0, 0) := by decide +kernel
theorem c128_19 : gP 128 19 = some (.aload 0, 1, 0, 0) := by decide +kernel
theorem c128_20 : gP 128 20 = some (.getfield 27, 3, 8, 53) := by decide +kernel
theorem c128_23 : gP 128 23 = some (.aload 0, 1, 0, 0) := by decide +kernel
theorem c128_24 : gP 128 24 = some (.invokeinterface 96 228, 3, 1, 1) := by decide +kernel
theorem c128_27 : gP 128 27 = some (.iaload, 1, 0, 0) := by decide +kernel
theorem c128_28 : gP 128 28 = some (.iastore, 1, 0, 0) := by decide +kernel
theorem c128_29 : gP 128 29 = some (.return_, 1, 0, 0) := by decide +kernel
theorem c129_0 : gP 129 0 = some (.aload 0, 1, 0, 0) := by decide +kernel
theorem c129_1 : gP 129 1 = some (.invokeinterface 99 211, 3, 1, 1) := by decide +kernel
theorem c129_4 : gP 129 4 = some (.aload 0, 1, 0, 0) := by decide +kernel
theorem c129_5 : gP 129 5 = some (.getfield 12, 3, 8, 20) := by decide +kernel
theorem c129_8 : gP 129 8 = some (.aload 0, 1, 0, 0) := by decide +kernel
theorem c129_9 : gP 129 9 = some (.getfield 10, 3, 8, 286) := by decide +kernel
theorem c129_12 : gP 129 12 = some (.iconst 1, 1, 0, 0) := by decide +kernel
theorem c129_13 : gP 129 13 = some (.isub, 1, 0, 0) := by decide +kernel
theorem c129_14 : gP 129 14 = some (.iaload, 1, 0, 0) := by decide +kernel
theorem c129_15 : gP 129 15 = some (.istore 1, 1, 0, 0) := by decide +kernel
theorem c129_16 : gP 129 16 = some (.aload 0, 1, 0, 0) := by decide +kernel
theorem c129_17 : gP 129 17 = some (.getfield 11, 3, 8, 17) := by decide +kernel
theorem c129_20 : gP 129 20 = some (.aload 0, 1, 0, 0) := by decide +kernel
theorem c129_21 : gP 129 21 = some (.getfield 10, 3, 8, 286) := by decide +kernel
theorem c129_24 : gP 129 24 = some (.iconst 1, 1, 0, 0) := by decide +kernel
theorem c129_25 : gP 129 25 = some (.isub, 1, 0, 0) := by decide +kernel
theorem c129_26 : gP 129 26 = some (.iaload, 1, 0, 0) := by decide +kernel
theorem c129_27 : gP 129 27 = some (.iconst 3, 1, 0, 0) := by decide +kernel
theorem c129_28 : gP 129 28 = some (.if_icmp .ne 41, 3, 0, 0) := by decide +kernel
theorem c129_31 : gP 129 31 = some (.aload 0, 1, 0, 0) := by decide +kernel
theorem c129_32 : gP 129 32 = some (.iconst 11, 2, 0, 0) := by decide +kernel
theorem c129_34 : gP 129 34 = some (.iconst 0, 1, 0, 0) := by decide +kernel
theorem c129_35 : gP 129 35 = some (.iload 1, 1, 0, 0) := by decide +kernel
theorem c129_36 : gP 129 36 = some (.iconst 0, 1, 0, 0) := by decide +kernel
theorem c129_37 : gP 129 37 = some (.invokeinterface 127 263, 3, 5, 1) := by decide +kernel
theorem c129_40 : gP 129 40 = some (.istore 2, 1, 0, 0) := by decide +kernel
theorem c129_41 : gP 129 41 = some (.aload 0, 1, 0, 0) := by decide +kernel
theorem c129_42 : gP 129 42 = some (.getfield 11, 3, 8, 17) := by decide +kernel
theorem c129_45 : gP 129 45 = some (.aload 0, 1, 0, 0) := by decide +kernel
theorem c129_46 : gP 129 46 = some (.getfield 10, 3, 8, 286) := by decide +kernel
theorem c129_49 : gP 129 49 = some (.iconst 1, 1, 0, 0) := by decide +kernel
theorem c129_50 : gP 129 50 = some (.isub, 1, 0, 0) := by decide +kernel
theorem c129_51 : gP 129 51 = some (.iaload, 1, 0, 0) := by decide +kernel
theorem c129_52 : gP 129 52 = some (.iconst 1, 1, 0, 0) := by decide +kernel
theorem c129_53 : gP 129 53 = some (.if_icmp .ne 119, 3, 0, 0) := by decide +kernel
theorem c129_56 : gP 129 56 = some (.aload 0, 1, 0, 0) := by decide +kernel
theorem c129_57 : gP 129 57 = some (.invokeinterface 111 193, 3, 1, 1) := by decide +kernel
theorem c129_60 : gP 129 60 = some (.ifCond .eq 119, 3, 0, 0) := by decide +kernel
theorem c129_63 : gP 129 63 = some (.aload 0, 1, 0, 0) := by decide +kernel
theorem c129_64 : gP 129 64 = some (.invokeinterface 99 211, 3, 1, 1) := by decide +kernel
theorem c129_67 : gP 129 67 = some (.aload 0, 1, 0, 0) := by decide +kernel
theorem c129_68 : gP 129 68 = some (.iconst 11, 2, 0, 0) := by decide +kernel
theorem c129_70 : gP 129 70 = some (.iconst 0, 1, 0, 0) := by decide +kernel
theorem c129_71 : gP 129 71 = some (.iconst 0, 1, 0, 0) := by decide +kernel
theorem c129_72 : gP 129 72 = some (.iconst 0, 1, 0, 0) := by decide +kernel
theorem c129_73 : gP 129 73 = some (.invokeinterface 127 263, 3, 5, 1) := by decide +kernel
theorem c129_76 : gP 129 76 = some (.istore 2, 1, 0, 0) := by decide +kernel
theorem c129_77 : gP 129 77 = some (.aload 0, 1, 0, 0) := by decide +kernel
theorem c129_78 : gP 129 78 = some (.iload 1, 1, 0, 0) := by decide +kernel
theorem c129_79 : gP 129 79 = some (.invokeinterface 128 289, 3, 2, 1) := by decide +kernel
theorem c129_82 : gP 129 82 = some (.aload 0, 1, 0, 0) := by decide +kernel
theorem c129_83 : gP 129 83 = some (.getfield 11, 3, 8, 17) := by decide +kernel
theorem c129_86 : gP 129 86 = some (.aload 0, 1, 0, 0) := by decide +kernel
theorem c129_87 : gP 129 87 = some (.getfield 10, 3, 8, 286) := by decide +kernel
theorem c129_90 : gP 129 90 = some (.iconst 1, 1, 0, 0) := by decide +kernel
theorem c129_91 : gP 129 91 = some (.isub, 1, 0, 0) := by decide +kernel
theorem c129_92 : gP 129 92 = some (.iconst 2, 1, 0, 0) := by decide +kernel
theorem c129_93 : gP 129 93 = some (.iastore, 1, 0, 0) := by decide +kernel
theorem c129_94 : gP 129 94 = some (.aload 0, 1, 0, 0) := by decide +kernel
theorem c129_95 : gP 129 95 = some (.getfield 12, 3, 8, 20) := by decide +kernel
theorem c129_98 : gP 129 98 = some (.aload 0, 1, 0, 0) := by decide +kernel
theorem c129_99 : gP 129 99 = some (.getfield 10, 3, 8, 286) := by decide +kernel
theorem c129_102 : gP 129 102 = some (.iconst 1, 1, 0, 0) := by decide +kernel
theorem c129_103 : gP 129 103 = some (.isub, 1, 0, 0) := by decide +kernel
theorem c129_104 : gP 129 104 = some (.iload 2, 1, 0, 0) := by decide +kernel
theorem c129_105 : gP 129 105 = some (.iastore, 1, 0, 0) := by decide +kernel
theorem c129_106 : gP 129 106 = some (.aload 0, 1, 0, 0) := by decide +kernel
theorem c129_107 : gP 129 107 = some (.iconst 123, 2, 0, 0) := by decide +kernel
theorem c129_109 : gP 129 109 = some (.invokeinterface 118 238, 3, 2, 1) := by decide +kernel
theorem c129_112 : gP 129 112 = some (.ifCond .ne 116, 3, 0, 0) := by decide +kernel
theorem c129_115 : gP 129 115 = some (.return_, 1, 0, 0) := by decide +kernel
theorem c129_116 : gP 129 116 = some (.goto 134, 3, 0, 0) := by decide +kernel
theorem c129_119 : gP 129 119 = some (.aload 0, 1, 0, 0) := by decide +kernel
theorem c129_120 : gP 129 120 = some (.iload 1, 1, 0, 0) := by decide +kernel
theorem c129_121 : gP 129 121 = some (.invokeinterface 128 289, 3, 2, 1) := by decide +kernel
theorem c129_124 : gP 129 124 = some (.aload 0, 1, 0, 0) := by decide +kernel
theorem c129_125 : gP 129 125 = some (.dup, 1, 0, 0) := by decide +kernel
theorem c129_126 : gP 129 126 = some (.getfield 10, 3, 8, 286) := by decide +kernel
theorem c129_129 : gP 129 129 = some (.iconst 1, 1, 0, 0) := by decide +kernel
theorem c129_130 : gP 129 130 = some (.isub, 1, 0, 0) := by decide +kernel
theorem c129_131 : gP 129 131 = some (.putfield 10, 3, 8, 0) := by decide +kernel
theorem c129_134 : gP 129 134 = some (.return_, 1, 0, 0) := by decide +kernel
theorem c130_0 : gP 130 0 = some (.aload 0, 1, 0, 0) := by decide +kernel
theorem c130_1 : gP 130 1 = some (.invokeinterface 96 228, 3, 1, 1) := by decide +kernel
theorem c130_4 : gP 130 4 = some (.istore 1, 1, 0, 0) := by decide +kernel
theorem c130_5 : gP 130 5 = some (.aload 0, 1, 0, 0) := by decide +kernel
theorem c130_6 : gP 130 6 = some (.invokeinterface 114 202, 3, 1, 1) := by decide +kernel
theorem c130_9 : gP 130 9 = some (.ifCond .eq 23, 3, 0, 0) := by decide +kernel
theorem c130_12 : gP 130 12 = some (.aload 0, 1, 0, 0) := by decide +kernel
theorem c130_13 : gP 130 13 = some (.invokeinterface 99 211, 3, 1, 1) := by decide +kernel
theorem c130_16 : gP 130 16 = some (.aload 0, 1, 0, 0) := by decide +kernel
theorem c130_17 : gP 130 17 = some (.getfield 14, 3, 8, 250) := by decide +kernel
theorem c130_20 : gP 130 20 = some (.iconst 1, 1, 0, 0) := by decide +kernel
theorem c130_21 : gP 130 21 = some (.iadd, 1, 0, 0) := by decide +kernel
theorem c130_22 : gP 130 22 = some (.ireturn, 1, 0, 0) := by decide +kernel
theorem c130_23 : gP 130 23 = some (.iconst (-1), 1, 0, 0) := by decide +kernel
theorem c130_24 : gP 130 24 = some (.istore 2, 1, 0, 0) := by decide +kernel
theorem c130_25 : gP 130 25 = some (.aload 0, 1, 0, 0) := by decide +kernel
theorem c130_26 : gP 130 26 = some (.getfield 14, 3, 8, 250) := by decide +kernel
theorem c130_29 : gP 130 29 = some (.iconst 2, 1, 0, 0) := by decide +kernel
theorem c130_30 : gP 130 30 = some (.iadd, 1, 0, 0) := by decide +kernel
theorem c130_31 : gP 130 31 = some (.istore 3, 1, 0, 0) := by decide +kernel
theorem c130_32 : gP 130 32 = some (.iload 3, 1, 0, 0) := by decide +kernel
theorem c130_33 : gP 130 33 = some (.aload 0, 1, 0, 0) := by decide +kernel
theorem c130_34 : gP 130 34 = some (.getfield 26, 3, 8, 50) := by decide +kernel
theorem c130_37 : gP 130 37 = some (.iload 1, 1, 0, 0) := by decide +kernel
theorem c130_38 : gP 130 38 = some (.iaload, 1, 0, 0) := by decide +kernel
theorem c130_39 : gP 130 39 = some (.if_icmp .ge 70, 3, 0, 0) := by decide +kernel
theorem c130_42 : gP 130 42 = some (.aload 0, 1, 0, 0) := by decide +kernel
theorem c130_43 : gP 130 43 = some (.invokeinterface 115 232, 3, 1, 1) := by decide +kernel
theorem c130_46 : gP 130 46 = some (.ifCond .eq 70, 3, 0, 0) := by decide +kernel
theorem c130_49 : gP 130 49 = some (.aload 0, 1, 0, 0) := by decide +kernel
theorem c130_50 : gP 130 50 = some (.getfield 13, 3, 8, 23) := by decide +kernel
theorem c130_53 : gP 130 53 = some (.iload 3, 1, 0, 0) := by decide +kernel
theorem c130_54 : gP 130 54 = some (.iaload, 1, 0, 0) := by decide +kernel
theorem c130_55 : gP 130 55 = some (.aload 0, 1, 0, 0) := by decide +kernel
theorem c130_56 : gP 130 56 = some (.getfield 4, 3, 8, 157) := by decide +kernel
theorem c130_59 : gP 130 59 = some (.if_icmp .ne 64, 3, 0, 0) := by decide +kernel
theorem c130_62 : gP 130 62 = some (.iload 3, 1, 0, 0) := by decide +kernel
theorem c130_63 : gP 130 63 = some (.istore 2, 1, 0, 0) := by decide +kernel
theorem c130_64 : gP 130 64 = some (.iinc 3 1, 3, 0, 0) := by decide +kernel
theorem c130_67 : gP 130 67 = some (.goto 32, 3, 0, 0) := by decide +kernel
theorem c130_70 : gP 130 70 = some (.aload 0, 1, 0, 0) := by decide +kernel
theorem c130_71 : gP 130 71 = some (.invokeinterface 115 232, 3, 1, 1) := by decide +kernel
theorem c130_74 : gP 130 74 = some (.ifCond .eq 96, 3, 0, 0) := by decide +kernel
theorem c130_77 : gP 130 77 = some (.iload 2, 1, 0, 0) := by decide +kernel
theorem c130_78 : gP 130 78 = some (.ifCond .ge 92, 3, 0, 0) := by decide +kernel
theorem c130_81 : gP 130 81 = some (.aload 0, 1, 0, 0) := by decide +kernel
theorem c130_82 : gP 130 82 = some (.getfield 26, 3, 8, 50) := by decide +kernel
theorem c130_85 : gP 130 85 = some (.iload 1, 1, 0, 0) := by decide +kernel
theorem c130_86 : gP 130 86 = some (.iaload, 1, 0, 0) := by decide +kernel
theorem c130_87 : gP 130 87 = some (.iconst 48, 2, 0, 0) := by decide +kernel
theorem c130_89 : gP 130 89 = some (.if_icmp .ge 96, 3, 0, 0) := by decide +kernel
theorem c130_92 : gP 130 92 = some (.iconst 1, 1, 0, 0) := by decide +kernel
theorem c130_93 : gP 130 93 = some (.goto 97, 3, 0, 0) := by decide +kernel
theorem c130_96 : gP 130 96 = some (.iconst 0, 1, 0, 0) := by decide +kernel
theorem c130_97 : gP 130 97 = some (.istore 3, 1, 0, 0) := by decide +kernel
theorem c130_98 : gP 130 98 = some (.iload 3, 1, 0, 0) := by decide +kernel
theorem c130_99 : gP 130 99 = some (.ifCond .eq 115, 3, 0, 0) := by decide +kernel
theorem c130_102 : gP 130 102 = some (.iload 2, 1, 0, 0) := by decide +kernel
theorem c130_103 : gP 130 103 = some (.ifCond .ge 115, 3, 0, 0) := by decide +kernel
theorem c130_106 : gP 130 106 = some (.aload 0, 1, 0, 0) := by decide +kernel
theorem c130_107 : gP 130 107 = some (.aload 0, 1, 0, 0) := by decide +kernel
theorem c130_108 : gP 130 108 = some (.getfield 4, 3, 8, 157) := by decide +kernel
theorem c130_111 : gP 130 111 = some (.invokeinterface 124 247, 3, 2, 1) := by decide +kernel
theorem c130_114 : gP 130 114 = some (.istore 2, 1, 0, 0) := by decide +kernel
theorem c130_115 : gP 130 115 = some (.aload 0, 1, 0, 0) := by decide +kernel
theorem c130_116 : gP 130 116 = some (.iload 3, 1, 0, 0) := by decide +kernel
theorem c130_117 : gP 130 117 = some (.invokeinterface 105 217, 3, 2, 1) := by decide +kernel
theorem c130_120 : gP 130 120 = some (.ifCond .eq 127, 3, 0, 0) := by decide +kernel
theorem c130_123 : gP 130 123 = some (.iload 2, 1, 0, 0) := by decide +kernel
theorem c130_124 : gP 130 124 = some (.goto 128, 3, 0, 0) := by decide +kernel
theorem c130_127 : gP 130 127 = some (.iconst (-1), 1, 0, 0) := by decide +kernel
theorem c130_128 : gP 130 128 = some (.ireturn, 1, 0, 0) := by decide +kernel
theorem c131_0 : gP 131 0 = some (.aload 0, 1, 0, 0) := by decide +kernel
theorem c131_1 : gP 131 1 = some (.invokeinterface 112 196, 3, 1, 1) := by decide +kernel
theorem c131_4 : gP 131 4 = some (.istore 1, 1, 0, 0) := by decide +kernel
theorem c131_5 : gP 131 5 = some (.aload 0, 1, 0, 0) := by decide +kernel
theorem c131_6 : gP 131 6 = some (.invokeinterface 99 211, 3, 1, 1) := by decide +kernel
theorem c131_9 : gP 131 9 = some (.aload 0, 1, 0, 0) := by decide +kernel
theorem c131_10 : gP 131 10 = some (.invokeinterface 130 260, 3, 1, 1) := by decide +kernel
theorem c131_13 : gP 131 13 = some (.istore 2, 1, 0, 0) := by decide +kernel
theorem c131_14 : gP 131 14 = some (.aload 0, 1, 0, 0) := by decide +kernel
theorem c131_15 : gP 131 15 = some (.getfield 8, 3, 8, 205) := by decide +kernel
theorem c131_18 : gP 131 18 = some (.ifCond .ge 50, 3, 0, 0) := by decide +kernel
theorem c131_21 : gP 131 21 = some (.aload 0, 1, 0, 0) := by decide +kernel
theorem c131_22 : gP 131 22 = some (.aload 0, 1, 0, 0) := by decide +kernel
theorem c131_23 : gP 131 23 = some (.iconst 123, 2, 0, 0) := by decide +kernel
theorem c131_25 : gP 131 25 = some (.invokeinterface 117 214, 3, 2, 1) := by decide +kernel
theorem c131_28 : gP 131 28 = some (.ifCond .eq 43, 3, 0, 0) := by decide +kernel
theorem c131_31 : gP 131 31 = some (.aload 0, 1, 0, 0) := by decide +kernel
theorem c131_32 : gP 131 32 = some (.getfield 10, 3, 8, 286) := by decide +kernel
theorem c131_35 : gP 131 35 = some (.iconst 3, 1, 0, 0) := by decide +kernel
theorem c131_36 : gP 131 36 = some (.if_icmp .ge 43, 3, 0, 0) := by decide +kernel
theorem c131_39 : gP 131 39 = some (.iconst 1, 1, 0, 0) := by decide +kernel
theorem c131_40 : gP 131 40 = some (.goto 44, 3, 0, 0) := by decide +kernel
theorem c131_43 : gP 131 43 = some (.iconst 0, 1, 0, 0) := by decide +kernel
theorem c131_44 : gP 131 44 = some (.invokeinterface 105 217, 3, 2, 1) := by decide +kernel
theorem c131_47 : gP 131 47 = some (.ifCond .ne 51, 3, 0, 0) := by decide +kernel
theorem c131_50 : gP 131 50 = some (.return_, 1, 0, 0) := by decide +kernel
theorem c131_51 : gP 131 51 = some (.aload 0, 1, 0, 0) := by decide +kernel
theorem c131_52 : gP 131 52 = some (.getfield 11, 3, 8, 17) := by decide +kernel
theorem c131_55 : gP 131 55 = some (.aload 0, 1, 0, 0) := by decide +kernel
theorem c131_56 : gP 131 56 = some (.getfield 10, 3, 8, 286) := by decide +kernel
theorem c131_59 : gP 131 59 = some (.iload 1, 1, 0, 0) := by decide +kernel
theorem c131_60 : gP 131 60 = some (.ifCond .eq 67, 3, 0, 0) := by decide +kernel
theorem c131_63 : gP 131 63 = some (.iconst 3, 1, 0, 0) := by decide +kernel
theorem c131_64 : gP 131 64 = some (.goto 68, 3, 0, 0) := by decide +kernel
theorem c131_67 : gP 131 67 = some (.iconst 1, 1, 0, 0) := by decide +kernel
theorem c131_68 : gP 131 68 = some (.iastore, 1, 0, 0) := by decide +kernel
theorem c131_69 : gP 131 69 = some (.aload 0, 1, 0, 0) := by decide +kernel
theorem c131_70 : gP 131 70 = some (.getfield 12, 3, 8, 20) := by decide +kernel
theorem c131_73 : gP 131 73 = some (.aload 0, 1, 0, 0) := by decide +kernel
theorem c131_74 : gP 131 74 = some (.getfield 10, 3, 8, 286) := by decide +kernel
theorem c131_77 : gP 131 77 = some (.aload 0, 1, 0, 0) := by decide +kernel
theorem c131_78 : gP 131 78 = some (.iload 1, 1, 0, 0) := by decide +kernel
theorem c131_79 : gP 131 79 = some (.ifCond .eq 87, 3, 0, 0) := by decide +kernel
theorem c131_82 : gP 131 82 = some (.iconst 10, 2, 0, 0) := by decide +kernel
theorem c131_84 : gP 131 84 = some (.goto 89, 3, 0, 0) := by decide +kernel
theorem c131_87 : gP 131 87 = some (.iconst 9, 2, 0, 0) := by decide +kernel
theorem c131_89 : gP 131 89 = some (.iload 2, 1, 0, 0) := by decide +kernel
theorem c131_90 : gP 131 90 = some (.iconst 0, 1, 0, 0) := by decide +kernel
theorem c131_91 : gP 131 91 = some (.iconst 0, 1, 0, 0) := by decide +kernel
theorem c131_92 : gP 131 92 = some (.invokeinterface 127 263, 3, 5, 1) := by decide +kernel
theorem c131_95 : gP 131 95 = some (.iastore, 1, 0, 0) := by decide +kernel
theorem c131_96 : gP 131 96 = some (.aload 0, 1, 0, 0) := by decide +kernel
theorem c131_97 : gP 131 97 = some (.dup, 1, 0, 0) := by decide +kernel
theorem c131_98 : gP 131 98 = some (.getfield 10, 3, 8, 286) := by decide +kernel
theorem c131_101 : gP 131 101 = some (.iconst 1, 1, 0, 0) := by decide +kernel
theorem c131_102 : gP 131 102 = some (.iadd, 1, 0, 0) := by decide +kernel
theorem c131_103 : gP 131 103 = some (.putfield 10, 3, 8, 0) := by decide +kernel
theorem c131_106 : gP 131 106 = some (.return_, 1, 0, 0) := by decide +kernel
theorem c132_0 : gP 132 0 = some (.aload 0, 1, 0, 0) := by decide +kernel
theorem c132_1 : gP 132 1 = some (.invokeinterface 96 228, 3, 1, 1) := by decide +kernel
theorem c132_4 : gP 132 4 = some (.istore 5, 2, 0, 0) := by decide +kernel
theorem c132_6 : gP 132 6 = some (.aload 0, 1, 0, 0) := by decide +kernel
theorem c132_7 : gP 132 7 = some (.getfield 23, 3, 8, 41) := by decide +kernel
theorem c132_10 : gP 132 10 = some (.iload 5, 2, 0, 0) := by decide +kernel
theorem c132_12 : gP 132 12 = some (.iaload, 1, 0, 0) := by decide +kernel
theorem c132_13 : gP 132 13 = some (.iconst 12, 2, 0, 0) := by decide +kernel
theorem c132_15 : gP 132 15 = some (.if_icmp .ne 25, 3, 0, 0) := by decide +kernel
theorem c132_18 : gP 132 18 = some (.aload 0, 1, 0, 0) := by decide +kernel
theorem c132_19 : gP 132 19 = some (.iload 4, 2, 0, 0) := by decide +kernel
theorem c132_21 : gP 132 21 = some (.putfield 8, 3, 8, 0) := by decide +kernel
theorem c132_24 : gP 132 24 = some (.return_, 1, 0, 0) := by decide +kernel
theorem c132_25 : gP 132 25 = some (.aload 0, 1, 0, 0) := by decide +kernel
theorem c132_26 : gP 132 26 = some (.getfield 23, 3, 8, 41) := by decide +kernel
theorem c132_29 : gP 132 29 = some (.iload 5, 2, 0, 0) := by decide +kernel
theorem c132_31 : gP 132 31 = some (.iaload, 1, 0, 0) := by decide +kernel
theorem c132_32 : gP 132 32 = some (.istore 6, 2, 0, 0) := by decide +kernel
theorem c132_34 : gP 132 34 = some (.aload 0, 1, 0, 0) := by decide +kernel
theorem c132_35 : gP 132 35 = some (.getfield 23, 3, 8, 41) := by decide +kernel
theorem c132_38 : gP 132 38 = some (.iload 5, 2, 0, 0) := by decide +kernel
theorem c132_40 : gP 132 40 = some (.dup2, 1, 0, 0) := by decide +kernel
theorem c132_41 : gP 132 41 = some (.iaload, 1, 0, 0) := by decide +kernel
theorem c132_42 : gP 132 42 = some (.iconst 1, 1, 0, 0) := by decide +kernel
theorem c132_43 : gP 132 43 = some (.iadd, 1, 0, 0) := by decide +kernel
theorem c132_44 : gP 132 44 = some (.iastore, 1, 0, 0) := by decide +kernel
theorem c132_45 : gP 132 45 = some (.aload 0, 1, 0, 0) := by decide +kernel
theorem c132_46 : gP 132 46 = some (.invokeinterface 99 211, 3, 1, 1) := by decide +kernel
theorem c132_49 : gP 132 49 = some (.iconst 0, 1, 0, 0) := by decide +kernel
theorem c132_50 : gP 132 50 = some (.istore 7, 2, 0, 0) := by decide +kernel
theorem c132_52 : gP 132 52 = some (.iconst (-1), 1, 0, 0) := by decide +kernel
theorem c132_53 : gP 132 53 = some (.istore 8, 2, 0, 0) := by decide +kernel
theorem c132_55 : gP 132 55 = some (.iconst (-1), 1, 0, 0) := by decide +kernel
theorem c132_56 : gP 132 56 = some (.istore 9, 2, 0, 0) := by decide +kernel
theorem c132_58 : gP 132 58 = some (.aload 0, 1, 0, 0) := by decide +kernel
theorem c132_59 : gP 132 59 = some (.iconst 41, 2, 0, 0) := by decide +kernel
theorem c132_61 : gP 132 61 = some (.invokeinterface 117 214, 3, 2, 1) := by decide +kernel
theorem c132_64 : gP 132 64 = some (.ifCond .ne 105, 3, 0, 0) := by decide +kernel
theorem c132_67 : gP 132 67 = some (.aload 0, 1, 0, 0) := by decide +kernel
theorem c132_68 : gP 132 68 = some (.invokeinterface 130 260, 3, 1, 1) := by decide +kernel
theorem c132_71 : gP 132 71 = some (.istore 8, 2, 0, 0) := by decide +kernel
theorem c132_73 : gP 132 73 = some (.iconst 1, 1, 0, 0) := by decide +kernel
theorem c132_74 : gP 132 74 = some (.istore 7, 2, 0, 0) := by decide +kernel
theorem c132_76 : gP 132 76 = some (.aload 0, 1, 0, 0) := by decide +kernel
theorem c132_77 : gP 132 77 = some (.getfield 8, 3, 8, 205) := by decide +kernel
theorem c132_80 : gP 132 80 = some (.ifCond .ge 105, 3, 0, 0) := by decide +kernel
theorem c132_83 : gP 132 83 = some (.aload 0, 1, 0, 0) := by decide +kernel
theorem c132_84 : gP 132 84 = some (.iconst 44, 2, 0, 0) := by decide +kernel
theorem c132_86 : gP 132 86 = some (.invokeinterface 117 214, 3, 2, 1) := by decide +kernel
theorem c132_89 : gP 132 89 = some (.ifCond .eq 105, 3, 0, 0) := by decide +kernel
theorem c132_92 : gP 132 92 = some (.aload 0, 1, 0, 0) := by decide +kernel
theorem c132_93 : gP 132 93 = some (.invokeinterface 99 211, 3, 1, 1) := by decide +kernel
theorem c132_96 : gP 132 96 = some (.aload 0, 1, 0, 0) := by decide +kernel
theorem c132_97 : gP 132 97 = some (.invokeinterface 130 260, 3, 1, 1) := by decide +kernel
theorem c132_100 : gP 132 100 = some (.istore 9, 2, 0, 0) := by decide +kernel
theorem c132_102 : gP 132 102 = some (.iconst 2, 1, 0, 0) := by decide +kernel
theorem c132_103 : gP 132 103 = some (.istore 7, 2, 0, 0) := by decide +kernel
theorem c132_105 : gP 132 105 = some (.aload 0, 1, 0, 0) := by decide +kernel
theorem c132_106 : gP 132 106 = some (.getfield 8, 3, 8, 205) := by decide +kernel
theorem c132_109 : gP 132 109 = some (.ifCond .ge 121, 3, 0, 0) := by decide +kernel
theorem c132_112 : gP 132 112 = some (.aload 0, 1, 0, 0) := by decide +kernel
theorem c132_113 : gP 132 113 = some (.iconst 41, 2, 0, 0) := by decide +kernel
theorem c132_115 : gP 132 115 = some (.invokeinterface 118 238, 3, 2, 1) := by decide +kernel
theorem c132_118 : gP 132 118 = some (.ifCond .ne 122, 3, 0, 0) := by decide +kernel
theorem c132_121 : gP 132 121 = some (.return_, 1, 0, 0) := by decide +kernel
theorem c132_122 : gP 132 122 = some (.iconst 1000, 3, 0, 0) := by decide +kernel
theorem c132_125 : gP 132 125 = some (.iload 5, 2, 0, 0) := by decide +kernel
theorem c132_127 : gP 132 127 = some (.imul, 1, 0, 0) := by decide +kernel
theorem c132_128 : gP 132 128 = some (.iconst 8, 2, 0, 0) := by decide +kernel
theorem c132_130 : gP 132 130 = some (.aload 0, 1, 0, 0) := by decide +kernel
theorem c132_131 : gP 132 131 = some (.iconst 7, 2, 0, 0) := by decide +kernel
theorem c132_133 : gP 132 133 = some (.iload 1, 1, 0, 0) := by decide +kernel
theorem c132_134 : gP 132 134 = some (.iload 2, 1, 0, 0) := by decide +kernel
theorem c132_135 : gP 132 135 = some (.iload 3, 1, 0, 0) := by decide +kernel
theorem c132_136 : gP 132 136 = some (.invokeinterface 127 263, 3, 5, 1) := by decide +kernel
theorem c132_139 : gP 132 139 = some (.imul, 1, 0, 0) := by decide +kernel
theorem c132_140 : gP 132 140 = some (.iadd, 1, 0, 0) := by decide +kernel
theorem c132_141 : gP 132 141 = some (.istore 10, 2, 0, 0) := by decide +kernel
theorem c132_143 : gP 132 143 = some (.aload 0, 1, 0, 0) := by decide +kernel
theorem c132_144 : gP 132 144 = some (.getfield 40, 3, 8, 93) := by decide +kernel
theorem c132_147 : gP 132 147 = some (.iload 10, 2, 0, 0) := by decide +kernel
theorem c132_149 : gP 132 149 = some (.iconst 5, 1, 0, 0) := by decide +kernel
theorem c132_150 : gP 132 150 = some (.iadd, 1, 0, 0) := by decide +kernel
theorem c132_151 : gP 132 151 = some (.iconst 16, 2, 0, 0) := by decide +kernel
theorem c132_153 : gP 132 153 = some (.iload 6, 2, 0, 0) := by decide +kernel
theorem c132_155 : gP 132 155 = some (.imul, 1, 0, 0) := by decide +kernel
theorem c132_156 : gP 132 156 = some (.iload 7, 2, 0, 0) := by decide +kernel
theorem c132_158 : gP 132 158 = some (.iadd, 1, 0, 0) := by decide +kernel
theorem c132_159 : gP 132 159 = some (.iastore, 1, 0, 0) := by decide +kernel
theorem c132_160 : gP 132 160 = some (.aload 0, 1, 0, 0) := by decide +kernel
theorem c132_161 : gP 132 161 = some (.getfield 40, 3, 8, 93) := by decide +kernel
theorem c132_164 : gP 132 164 = some (.iload 10, 2, 0, 0) := by decide +kernel
theorem c132_166 : gP 132 166 = some (.iconst 6, 2, 0, 0) := by decide +kernel
theorem c132_168 : gP 132 168 = some (.iadd, 1, 0, 0) := by decide +kernel
theorem c132_169 : gP 132 169 = some (.iload 8, 2, 0, 0) := by decide +kernel
theorem c132_171 : gP 132 171 = some (.iastore, 1, 0, 0) := by decide +kernel
theorem c132_172 : gP 132 172 = some (.aload 0, 1, 0, 0) := by decide +kernel
theorem c132_173 : gP 132 173 = some (.getfield 40, 3, 8, 93) := by decide +kernel
theorem c132_176 : gP 132 176 = some (.iload 10, 2, 0, 0) := by decide +kernel
theorem c132_178 : gP 132 178 = some (.iconst 7, 2, 0, 0) := by decide +kernel
theorem c132_180 : gP 132 180 = some (.iadd, 1, 0, 0) := by decide +kernel
theorem c132_181 : gP 132 181 = some (.iload 9, 2, 0, 0) := by decide +kernel
theorem c132_183 : gP 132 183 = some (.iastore, 1, 0, 0) := by decide +kernel
theorem c132_184 : gP 132 184 = some (.return_, 1, 0, 0) := by decide +kernel
theorem c133_0 : gP 133 0 = some (.aload 0, 1, 0, 0) := by decide +kernel
theorem c133_1 : gP 133 1 = some (.invokeinterface 99 211, 3, 1, 1) := by decide +kernel
theorem c133_4 : gP 133 4 = some (.aload 0, 1, 0, 0) := by decide +kernel
theorem c133_5 : gP 133 5 = some (.getfield 4, 3, 8, 157) := by decide +kernel
theorem c133_8 : gP 133 8 = some (.istore 2, 1, 0, 0) := by decide +kernel
theorem c133_9 : gP 133 9 = some (.aload 0, 1, 0, 0) := by decide +kernel
theorem c133_10 : gP 133 10 = some (.getfield 5, 3, 8, 147) := by decide +kernel
theorem c133_13 : gP 133 13 = some (.istore 3, 1, 0, 0) := by decide +kernel
theorem c133_14 : gP 133 14 = some (.aload 0, 1, 0, 0) := by decide +kernel
theorem c133_15 : gP 133 15 = some (.aload 0, 1, 0, 0) := by decide +kernel
theorem c133_16 : gP 133 16 = some (.invokeinterface 115 232, 3, 1, 1) := by decide +kernel
theorem c133_19 : gP 133 19 = some (.invokeinterface 105 217, 3, 2, 1) := by decide +kernel
theorem c133_22 : gP 133 22 = some (.ifCond .ne 26, 3, 0, 0) := by decide +kernel
theorem c133_25 : gP 133 25 = some (.return_, 1, 0, 0) := by decide +kernel
theorem c133_26 : gP 133 26 = some (.aload 0, 1, 0, 0) := by decide +kernel
theorem c133_27 : gP 133 27 = some (.iconst 40, 2, 0, 0) := by decide +kernel
theorem c133_29 : gP 133 29 = some (.invokeinterface 117 214, 3, 2, 1) := by decide +kernel
theorem c133_32 : gP 133 32 = some (.ifCond .eq 44, 3, 0, 0) := by decide +kernel
theorem c133_35 : gP 133 35 = some (.aload 0, 1, 0, 0) := by decide +kernel
theorem c133_36 : gP 133 36 = some (.iconst (-1), 1, 0, 0) := by decide +kernel
theorem c133_37 : gP 133 37 = some (.iload 1, 1, 0, 0) := by decide +kernel
theorem c133_38 : gP 133 38 = some (.iload 2, 1, 0, 0) := by decide +kernel
theorem c133_39 : gP 133 39 = some (.iload 3, 1, 0, 0) := by decide +kernel
theorem c133_40 : gP 133 40 = some (.invokeinterface 132 276, 3, 5, 1) := by decide +kernel
theorem c133_43 : gP 133 43 = some (.return_, 1, 0, 0) := by decide +kernel
theorem c133_44 : gP 133 44 = some (.aload 0, 1, 0, 0) := by decide +kernel
theorem c133_45 : gP 133 45 = some (.iconst 61, 2, 0, 0) := by decide +kernel
theorem c133_47 : gP 133 47 = some (.invokeinterface 118 238, 3, 2, 1) := by decide +kernel
theorem c133_50 : gP 133 50 = some (.ifCond .ne 54, 3, 0, 0) := by decide +kernel
theorem c133_53 : gP 133 53 = some (.return_, 1, 0, 0) := by decide +kernel
theorem c133_54 : gP 133 54 = some (.aload 0, 1, 0, 0) := by decide +kernel
theorem c133_55 : gP 133 55 = some (.invokeinterface 130 260, 3, 1, 1) := by decide +kernel
theorem c133_58 : gP 133 58 = some (.istore 4, 2, 0, 0) := by decide +kernel
theorem c133_60 : gP 133 60 = some (.aload 0, 1, 0, 0) := by decide +kernel
theorem c133_61 : gP 133 61 = some (.getfield 8, 3, 8, 205) := by decide +kernel
theorem c133_64 : gP 133 64 = some (.ifCond .ge 78, 3, 0, 0) := by decide +kernel
theorem c133_67 : gP 133 67 = some (.aload 0, 1, 0, 0) := by decide +kernel
theorem c133_68 : gP 133 68 = some (.iconst 5, 1, 0, 0) := by decide +kernel
theorem c133_69 : gP 133 69 = some (.iload 1, 1, 0, 0) := by decide +kernel
theorem c133_70 : gP 133 70 = some (.iload 4, 2, 0, 0) := by decide +kernel
theorem c133_72 : gP 133 72 = some (.iload 2, 1, 0, 0) := by decide +kernel
theorem c133_73 : gP 133 73 = some (.invokeinterface 127 263, 3, 5, 1) := by decide +kernel
theorem c133_76 : gP 133 76 = some (.istore 4, 2, 0, 0) := by decide +kernel
theorem c133_78 : gP 133 78 = some (.return_, 1, 0, 0) := by decide +kernel
theorem c134_0 : gP 134 0 = some (.aload 0, 1, 0, 0) := by decide +kernel
theorem c134_1 : gP 134 1 = some (.getfield 15, 3, 8, 26) := by decide +kernel
theorem c134_4 : gP 134 4 = some (.aload 0, 1, 0, 0) := by decide +kernel
theorem c134_5 : gP 134 5 = some (.getfield 17, 3, 8, 257) := by decide +kernel
theorem c134_8 : gP 134 8 = some (.aload 0, 1, 0, 0) := by decide +kernel
theorem c134_9 : gP 134 9 = some (.getfield 4, 3, 8, 157) := by decide +kernel
theorem c134_12 : gP 134 12 = some (.iastore, 1, 0, 0) := by decide +kernel
theorem c134_13 : gP 134 13 = some (.aload 0, 1, 0, 0) := by decide +kernel
theorem c134_14 : gP 134 14 = some (.getfield 16, 3, 8, 29) := by decide +kernel
theorem c134_17 : gP 134 17 = some (.aload 0, 1, 0, 0) := by decide +kernel
theorem c134_18 : gP 134 18 = some (.getfield 17, 3, 8, 257) := by decide +kernel
theorem c134_21 : gP 134 21 = some (.aload 0, 1, 0, 0) := by decide +kernel
theorem c134_22 : gP 134 22 = some (.getfield 5, 3, 8, 147) := by decide +kernel
theorem c134_25 : gP 134 25 = some (.iastore, 1, 0, 0) := by decide +kernel
theorem c134_26 : gP 134 26 = some (.aload 0, 1, 0, 0) := by decide +kernel
theorem c134_27 : gP 134 27 = some (.dup, 1, 0, 0) := by decide +kernel
theorem c134_28 : gP 134 28 = some (.getfield 17, 3, 8, 257) := by decide +kernel
theorem c134_31 : gP 134 31 = some (.iconst 1, 1, 0, 0) := by decide +kernel
theorem c134_32 : gP 134 32 = some (.iadd, 1, 0, 0) := by decide +kernel
theorem c134_33 : gP 134 33 = some (.putfield 17, 3, 8, 0) := by decide +kernel
theorem c134_36 : gP 134 36 = some (.return_, 1, 0, 0) := by decide +kernel
theorem c135_0 : gP 135 0 = some (.aload 0, 1, 0, 0) := by decide +kernel
theorem c135_1 : gP 135 1 = some (.invokeinterface 96 228, 3, 1, 1) := by decide +kernel
theorem c135_4 : gP 135 4 = some (.istore 2, 1, 0, 0) := by decide +kernel
theorem c135_5 : gP 135 5 = some (.aload 0, 1, 0, 0) := by decide +kernel
theorem c135_6 : gP 135 6 = some (.aload 0, 1, 0, 0) := by decide +kernel
theorem c135_7 : gP 135 7 = some (.getfield 25, 3, 8, 47) := by decide +kernel
theorem c135_10 : gP 135 10 = some (.iload 2, 1, 0, 0) := by decide +kernel
theorem c135_11 : gP 135 11 = some (.iaload, 1, 0, 0) := by decide +kernel
theorem c135_12 : gP 135 12 = some (.iconst 12, 2, 0, 0) := by decide +kernel
theorem c135_14 : gP 135 14 = some (.if_icmp .ge 21, 3, 0, 0) := by decide +kernel
theorem c135_17 : gP 135 17 = some (.iconst 1, 1, 0, 0) := by decide +kernel
theorem c135_18 : gP 135 18 = some (.goto 22, 3, 0, 0) := by decide +kernel
theorem c135_21 : gP 135 21 = some (.iconst 0, 1, 0, 0) := by decide +kernel
theorem c135_22 : gP 135 22 = some (.invokeinterface 105 217, 3, 2, 1) := by decide +kernel
theorem c135_25 : gP 135 25 = some (.ifCond .ne 29, 3, 0, 0) := by decide +kernel
theorem c135_28 : gP 135 28 = some (.return_, 1, 0, 0) := by decide +kernel
theorem c135_29 : gP 135 29 = some (.aload 0, 1, 0, 0) := by decide +kernel
theorem c135_30 : gP 135 30 = some (.invokeinterface 115 232, 3, 1, 1) := by decide +kernel
theorem c135_33 : gP 135 33 = some (.ifCond .ne 41, 3, 0, 0) := by decide +kernel
theorem c135_36 : gP 135 36 = some (.aload 0, 1, 0, 0) := by decide +kernel
theorem c135_37 : gP 135 37 = some (.invokeinterface 104 208, 3, 1, 1) := by decide +kernel
theorem c135_40 : gP 135 40 = some (.return_, 1, 0, 0) := by decide +kernel
theorem c135_41 : gP 135 41 = some (.aload 0, 1, 0, 0) := by decide +kernel
theorem c135_42 : gP 135 42 = some (.iconst 0, 1, 0, 0) := by decide +kernel
theorem c135_43 : gP 135 43 = some (.invokeinterface 134 267, 3, 2, 1) := by decide +kernel
theorem c135_46 : gP 135 46 = some (.aload 0, 1, 0, 0) := by decide +kernel
theorem c135_47 : gP 135 47 = some (.getfield 37, 3, 8, 84) := by decide +kernel
theorem c135_50 : gP 135 50 = some (.iconst 12, 2, 0, 0) := by decide +kernel
theorem c135_52 : gP 135 52 = some (.iload 2, 1, 0, 0) := by decide +kernel
theorem c135_53 : gP 135 53 = some (.imul, 1, 0, 0) := by decide +kernel
theorem c135_54 : gP 135 54 = some (.aload 0, 1, 0, 0) := by decide +kernel
theorem c135_55 : gP 135 55 = some (.getfield 25, 3, 8, 47) := by decide +kernel
theorem c135_58 : gP 135 58 = some (.iload 2, 1, 0, 0) := by decide +kernel
theorem c135_59 : gP 135 59 = some (.iaload, 1, 0, 0) := by decide +kernel
theorem c135_60 : gP 135 60 = some (.iadd, 1, 0, 0) := by decide +kernel
theorem c135_61 : gP 135 61 = some (.aload 0, 1, 0, 0) := by decide +kernel
theorem c135_62 : gP 135 62 = some (.getfield 4, 3, 8, 157) := by decide +kernel
theorem c135_65 : gP 135 65 = some (.iastore, 1, 0, 0) := by decide +kernel
theorem c135_66 : gP 135 66 = some (.aload 0, 1, 0, 0) := by decide +kernel
theorem c135_67 : gP 135 67 = some (.iconst 1, 1, 0, 0) := by decide +kernel
theorem c135_68 : gP 135 68 = some (.iload 1, 1, 0, 0) := by decide +kernel
theorem c135_69 : gP 135 69 = some (.aload 0, 1, 0, 0) := by decide +kernel
theorem c135_70 : gP 135 70 = some (.getfield 25, 3, 8, 47) := by decide +kernel
theorem c135_73 : gP 135 73 = some (.iload 2, 1, 0, 0) := by decide +kernel
theorem c135_74 : gP 135 74 = some (.iaload, 1, 0, 0) := by decide +kernel
theorem c135_75 : gP 135 75 = some (.iconst 0, 1, 0, 0) := by decide +kernel
theorem c135_76 : gP 135 76 = some (.invokeinterface 127 263, 3, 5, 1) := by decide +kernel
theorem c135_79 : gP 135 79 = some (.istore 3, 1, 0, 0) := by decide +kernel
theorem c135_80 : gP 135 80 = some (.aload 0, 1, 0, 0) := by decide +kernel
theorem c135_81 : gP 135 81 = some (.getfield 25, 3, 8, 47) := by decide +kernel
theorem c135_84 : gP 135 84 = some (.iload 2, 1, 0, 0) := by decide +kernel
theorem c135_85 : gP 135 85 = some (.dup2, 1, 0, 0) := by decide +kernel
theorem c135_86 : gP 135 86 = some (.iaload, 1, 0, 0) := by decide +kernel
theorem c135_87 : gP 135 87 = some (.iconst 1, 1, 0, 0) := by decide +kernel
theorem c135_88 : gP 135 88 = some (.iadd, 1, 0, 0) := by decide +kernel
theorem c135_89 : gP 135 89 = some (.iastore, 1, 0, 0) := by decide +kernel
theorem c135_90 : gP 135 90 = some (.aload 0, 1, 0, 0) := by decide +kernel
theorem c135_91 : gP 135 91 = some (.invokeinterface 99 211, 3, 1, 1) := by decide +kernel
theorem c135_94 : gP 135 94 = some (.return_, 1, 0, 0) := by decide +kernel
theorem c136_0 : gP 136 0 = some (.aload 0, 1, 0, 0) := by decide +kernel
theorem c136_1 : gP 136 1 = some (.invokeinterface 96 228, 3, 1, 1) := by decide +kernel
theorem c136_4 : gP 136 4 = some (.istore 2, 1, 0, 0) := by decide +kernel
theorem c136_5 : gP 136 5 = some (.aload 0, 1, 0, 0) := by decide +kernel
theorem c136_6 : gP 136 6 = some (.aload 0, 1, 0, 0) := by decide +kernel
theorem c136_7 : gP 136 7 = some (.getfield 24, 3, 8, 44) := by decide +kernel
theorem c136_10 : gP 136 10 = some (.iload 2, 1, 0, 0) := by decide +kernel
theorem c136_11 : gP 136 11 = some (.iaload, 1, 0, 0) := by decide +kernel
theorem c136_12 : gP 136 12 = some (.iconst 8, 2, 0, 0) := by decide +kernel
theorem c136_14 : gP 136 14 = some (.if_icmp .ge 21, 3, 0, 0) := by decide +kernel
theorem c136_17 : gP 136 17 = some (.iconst 1, 1, 0, 0) := by decide +kernel
theorem c136_18 : gP 136 18 = some (.goto 22, 3, 0, 0) := by decide +kernel
theorem c136_21 : gP 136 21 = some (.iconst 0, 1, 0, 0) := by decide +kernel
theorem c136_22 : gP 136 22 = some (.invokeinterface 105 217, 3, 2, 1) := by decide +kernel
theorem c136_25 : gP 136 25 = some (.ifCond .ne 29, 3, 0, 0) := by decide +kernel
theorem c136_28 : gP 136 28 = some (.return_, 1, 0, 0) := by decide +kernel
theorem c136_29 : gP 136 29 = some (.aload 0, 1, 0, 0) := by decide +kernel
theorem c136_30 : gP 136 30 = some (.invokeinterface 115 232, 3, 1, 1) := by decide +kernel
theorem c136_33 : gP 136 33 = some (.ifCond .ne 41, 3, 0, 0) := by decide +kernel
theorem c136_36 : gP 136 36 = some (.aload 0, 1, 0, 0) := by decide +kernel
theorem c136_37 : gP 136 37 = some (.invokeinterface 104 208, 3, 1, 1) := by decide +kernel
theorem c136_40 : gP 136 40 = some (.return_, 1, 0, 0) := by decide +kernel
theorem c136_41 : gP 136 41 = some (.aload 0, 1, 0, 0) := by decide +kernel
theorem c136_42 : gP 136 42 = some (.iconst 1, 1, 0, 0) := by decide +kernel
theorem c136_43 : gP 136 43 = some (.invokeinterface 134 267, 3, 2, 1) := by decide +kernel
theorem c136_46 : gP 136 46 = some (.aload 0, 1, 0, 0) := by decide +kernel
theorem c136_47 : gP 136 47 = some (.getfield 24, 3, 8, 44) := by decide +kernel
theorem c136_50 : gP 136 50 = some (.iload 2, 1, 0, 0) := by decide +kernel
theorem c136_51 : gP 136 51 = some (.iaload, 1, 0, 0) := by decide +kernel
theorem c136_52 : gP 136 52 = some (.istore 3, 1, 0, 0) := by decide +kernel
theorem c136_53 : gP 136 53 = some (.aload 0, 1, 0, 0) := by decide +kernel
theorem c136_54 : gP 136 54 = some (.getfield 39, 3, 8, 90) := by decide +kernel
theorem c136_57 : gP 136 57 = some (.iconst 8, 2, 0, 0) := by decide +kernel
theorem c136_59 : gP 136 59 = some (.iload 2, 1, 0, 0) := by decide +kernel
theorem c136_60 : gP 136 60 = some (.imul, 1, 0, 0) := by decide +kernel
theorem c136_61 : gP 136 61 = some (.iload 3, 1, 0, 0) := by decide +kernel
theorem c136_62 : gP 136 62 = some (.iadd, 1, 0, 0) := by decide +kernel
theorem c136_63 : gP 136 63 = some (.aload 0, 1, 0, 0) := by decide +kernel
theorem c136_64 : gP 136 64 = some (.getfield 4, 3, 8, 157) := by decide +kernel
theorem c136_67 : gP 136 67 = some (.iastore, 1, 0, 0) := by decide +kernel
theorem c136_68 : gP 136 68 = some (.aload 0, 1, 0, 0) := by decide +kernel
theorem c136_69 : gP 136 69 = some (.getfield 24, 3, 8, 44) := by decide +kernel
theorem c136_72 : gP 136 72 = some (.iload 2, 1, 0, 0) := by decide +kernel
theorem c136_73 : gP 136 73 = some (.dup2, 1, 0, 0) := by decide +kernel
theorem c136_74 : gP 136 74 = some (.iaload, 1, 0, 0) := by decide +kernel
theorem c136_75 : gP 136 75 = some (.iconst 1, 1, 0, 0) := by decide +kernel
theorem c136_76 : gP 136 76 = some (.iadd, 1, 0, 0) := by decide +kernel
theorem c136_77 : gP 136 77 = some (.iastore, 1, 0, 0) := by decide +kernel
theorem c136_78 : gP 136 78 = some (.aload 0, 1, 0, 0) := by decide +kernel
theorem c136_79 : gP 136 79 = some (.invokeinterface 99 211, 3, 1, 1) := by decide +kernel
theorem c136_82 : gP 136 82 = some (.aload 0, 1, 0, 0) := by decide +kernel
theorem c136_83 : gP 136 83 = some (.iconst 41, 2, 0, 0) := by decide +kernel
theorem c136_85 : gP 136 85 = some (.invokeinterface 118 238, 3, 2, 1) := by decide +kernel
theorem c136_88 : gP 136 88 = some (.ifCond .ne 92, 3, 0, 0) := by decide +kernel
theorem c136_91 : gP 136 91 = some (.return_, 1, 0, 0) := by decide +kernel
theorem c136_92 : gP 136 92 = some (.aload 0, 1, 0, 0) := by decide +kernel
theorem c136_93 : gP 136 93 = some (.invokeinterface 130 260, 3, 1, 1) := by decide +kernel
theorem c136_96 : gP 136 96 = some (.istore 4, 2, 0, 0) := by decide +kernel
theorem c136_98 : gP 136 98 = some (.aload 0, 1, 0, 0) := by decide +kernel
theorem c136_99 : gP 136 99 = some (.getfield 38, 3, 8, 87) := by decide +kernel
theorem c136_102 : gP 136 102 = some (.iconst 8, 2, 0, 0) := by decide +kernel
theorem c136_104 : gP 136 104 = some (.iload 2, 1, 0, 0) := by decide +kernel
theorem c136_105 : gP 136 105 = some (.imul, 1, 0, 0) := by decide +kernel
theorem c136_106 : gP 136 106 = some (.iload 3, 1, 0, 0) := by decide +kernel
theorem c136_107 : gP 136 107 = some (.iadd, 1, 0, 0) := by decide +kernel
theorem c136_108 : gP 136 108 = some (.iload 4, 2, 0, 0) := by decide +kernel
theorem c136_110 : gP 136 110 = some (.iastore, 1, 0, 0) := by decide +kernel
theorem c136_111 : gP 136 111 = some (.aload 0, 1, 0, 0) := by decide +kernel
theorem c136_112 : gP 136 112 = some (.getfield 8, 3, 8, 205) := by decide +kernel
theorem c136_115 : gP 136 115 = some (.ifCond .ge 129, 3, 0, 0) := by decide +kernel
theorem c136_118 : gP 136 118 = some (.aload 0, 1, 0, 0) := by decide +kernel
theorem c136_119 : gP 136 119 = some (.iconst 3, 1, 0, 0) := by decide +kernel
theorem c136_120 : gP 136 120 = some (.iload 1, 1, 0, 0) := by decide +kernel
theorem c136_121 : gP 136 121 = some (.iload 4, 2, 0, 0) := by decide +kernel
theorem c136_123 : gP 136 123 = some (.iload 3, 1, 0, 0) := by decide +kernel
theorem c136_124 : gP 136 124 = some (.invokeinterface 127 263, 3, 5, 1) := by decide +kernel
theorem c136_127 : gP 136 127 = some (.istore 4, 2, 0, 0) := by decide +kernel
theorem c136_129 : gP 136 129 = some (.return_, 1, 0, 0) := by decide +kernel
theorem c137_0 : gP 137 0 = some (.aload 0, 1, 0, 0) := by decide +kernel
theorem c137_1 : gP 137 1 = some (.invokeinterface 108 184, 3, 1, 1) := by decide +kernel
theorem c137_4 : gP 137 4 = some (.ifCond .eq 15, 3, 0, 0) := by decide +kernel
theorem c137_7 : gP 137 7 = some (.aload 0, 1, 0, 0) := by decide +kernel
theorem c137_8 : gP 137 8 = some (.iload 1, 1, 0, 0) := by decide +kernel
theorem c137_9 : gP 137 9 = some (.invokeinterface 135 270, 3, 2, 1) := by decide +kernel
theorem c137_12 : gP 137 12 = some (.goto 145, 3, 0, 0) := by decide +kernel
theorem c137_15 : gP 137 15 = some (.aload 0, 1, 0, 0) := by decide +kernel
theorem c137_16 : gP 137 16 = some (.invokeinterface 109 187, 3, 1, 1) := by decide +kernel
theorem c137_19 : gP 137 19 = some (.ifCond .eq 39, 3, 0, 0) := by decide +kernel
theorem c137_22 : gP 137 22 = some (.aload 0, 1, 0, 0) := by decide +kernel
theorem c137_23 : gP 137 23 = some (.invokeinterface 99 211, 3, 1, 1) := by decide +kernel
theorem c137_26 : gP 137 26 = some (.aload 0, 1, 0, 0) := by decide +kernel
theorem c137_27 : gP 137 27 = some (.iconst 8, 2, 0, 0) := by decide +kernel
theorem c137_29 : gP 137 29 = some (.iload 1, 1, 0, 0) := by decide +kernel
theorem c137_30 : gP 137 30 = some (.iconst 0, 1, 0, 0) := by decide +kernel
theorem c137_31 : gP 137 31 = some (.iconst 0, 1, 0, 0) := by decide +kernel
theorem c137_32 : gP 137 32 = some (.invokeinterface 127 263, 3, 5, 1) := by decide +kernel
theorem c137_35 : gP 137 35 = some (.istore 2, 1, 0, 0) := by decide +kernel
theorem c137_36 : gP 137 36 = some (.goto 145, 3, 0, 0) := by decide +kernel
theorem c137_39 : gP 137 39 = some (.aload 0, 1, 0, 0) := by decide +kernel
theorem c137_40 : gP 137 40 = some (.iconst 40, 2, 0, 0) := by decide +kernel
theorem c137_42 : gP 137 42 = some (.invokeinterface 117 214, 3, 2, 1) := by decide +kernel
theorem c137_45 : gP 137 45 = some (.ifCond .eq 56, 3, 0, 0) := by decide +kernel
theorem c137_48 : gP 137 48 = some (.aload 0, 1, 0, 0) := by decide +kernel
theorem c137_49 : gP 137 49 = some (.iload 1, 1, 0, 0) := by decide +kernel
theorem c137_50 : gP 137 50 = some (.invokeinterface 136 273, 3, 2, 1) := by decide +kernel
theorem c137_53 : gP 137 53 = some (.goto 145, 3, 0, 0) := by decide +kernel
theorem c137_56 : gP 137 56 = some (.aload 0, 1, 0, 0) := by decide +kernel
theorem c137_57 : gP 137 57 = some (.invokeinterface 130 260, 3, 1, 1) := by decide +kernel
theorem c137_60 : gP 137 60 = some (.istore 2, 1, 0, 0) := by decide +kernel
theorem c137_61 : gP 137 61 = some (.aload 0, 1, 0, 0) := by decide +kernel
theorem c137_62 : gP 137 62 = some (.getfield 8, 3, 8, 205) := by decide +kernel
theorem c137_65 : gP 137 65 = some (.ifCond .lt 69, 3, 0, 0) := by decide +kernel
theorem c137_68 : gP 137 68 = some (.return_, 1, 0, 0) := by decide +kernel
theorem c137_69 : gP 137 69 = some (.aload 0, 1, 0, 0) := by decide +kernel
theorem c137_70 : gP 137 70 = some (.iconst 46, 2, 0, 0) := by decide +kernel
theorem c137_72 : gP 137 72 = some (.invokeinterface 117 214, 3, 2, 1) := by decide +kernel
theorem c137_75 : gP 137 75 = some (.ifCond .ne 88, 3, 0, 0) := by decide +kernel
theorem c137_78 : gP 137 78 = some (.aload 0, 1, 0, 0) := by decide +kernel
theorem c137_79 : gP 137 79 = some (.iconst 2, 1, 0, 0) := by decide +kernel
theorem c137_80 : gP 137 80 = some (.iload 1, 1, 0, 0) := by decide +kernel
theorem c137_81 : gP 137 81 = some (.iload 2, 1, 0, 0) := by decide +kernel
theorem c137_82 : gP 137 82 = some (.iconst 0, 1, 0, 0) := by decide +kernel
theorem c137_83 : gP 137 83 = some (.invokeinterface 127 263, 3, 5, 1) := by decide +kernel
theorem c137_86 : gP 137 86 = some (.istore 2, 1, 0, 0) := by decide +kernel
theorem c137_87 : gP 137 87 = some (.return_, 1, 0, 0) := by decide +kernel
theorem c137_88 : gP 137 88 = some (.aload 0, 1, 0, 0) := by decide +kernel
theorem c137_89 : gP 137 89 = some (.invokeinterface 99 211, 3, 1, 1) := by decide +kernel
theorem c137_92 : gP 137 92 = some (.aload 0, 1, 0, 0) := by decide +kernel
theorem c137_93 : gP 137 93 = some (.getfield 4, 3, 8, 157) := by decide +kernel
theorem c137_96 : gP 137 96 = some (.istore 3, 1, 0, 0) := by decide +kernel
theorem c137_97 : gP 137 97 = some (.aload 0, 1, 0, 0) := by decide +kernel
theorem c137_98 : gP 137 98 = some (.getfield 5, 3, 8, 147) := by decide +kernel
theorem c137_101 : gP 137 101 = some (.istore 4, 2, 0, 0) := by decide +kernel
theorem c137_103 : gP 137 103 = some (.aload 0, 1, 0, 0) := by decide +kernel
theorem c137_104 : gP 137 104 = some (.aload 0, 1, 0, 0) := by decide +kernel
theorem c137_105 : gP 137 105 = some (.invokeinterface 115 232, 3, 1, 1) := by decide +kernel
theorem c137_108 : gP 137 108 = some (.invokeinterface 105 217, 3, 2, 1) := by decide +kernel
theorem c137_111 : gP 137 111 = some (.ifCond .ne 115, 3, 0, 0) := by decide +kernel
theorem c137_114 : gP 137 114 = some (.return_, 1, 0, 0) := by decide +kernel
theorem c137_115 : gP 137 115 = some (.aload 0, 1, 0, 0) := by decide +kernel
theorem c137_116 : gP 137 116 = some (.iconst 40, 2, 0, 0) := by decide +kernel
theorem c137_118 : gP 137 118 = some (.invokeinterface 117 214, 3, 2, 1) := by decide +kernel
theorem c137_121 : gP 137 121 = some (.ifCond .eq 136, 3, 0, 0) := by decide +kernel
theorem c137_124 : gP 137 124 = some (.aload 0, 1, 0, 0) := by decide +kernel
theorem c137_125 : gP 137 125 = some (.iload 1, 1, 0, 0) := by decide +kernel
theorem c137_126 : gP 137 126 = some (.iload 2, 1, 0, 0) := by decide +kernel
theorem c137_127 : gP 137 127 = some (.iload 3, 1, 0, 0) := by decide +kernel
theorem c137_128 : gP 137 128 = some (.iload 4, 2, 0, 0) := by decide +kernel
theorem c137_130 : gP 137 130 = some (.invokeinterface 132 276, 3, 5, 1) := by decide +kernel
theorem c137_133 : gP 137 133 = some (.goto 145, 3, 0, 0) := by decide +kernel
theorem c137_136 : gP 137 136 = some (.aload 0, 1, 0, 0) := by decide +kernel
theorem c137_137 : gP 137 137 = some (.iconst 4, 1, 0, 0) := by decide +kernel
theorem c137_138 : gP 137 138 = some (.iload 1, 1, 0, 0) := by decide +kernel
theorem c137_139 : gP 137 139 = some (.iload 2, 1, 0, 0) := by decide +kernel
theorem c137_140 : gP 137 140 = some (.iload 3, 1, 0, 0) := by decide +kernel
theorem c137_141 : gP 137 141 = some (.invokeinterface 127 263, 3, 5, 1) := by decide +kernel
theorem c137_144 : gP 137 144 = some (.istore 2, 1, 0, 0) := by decide +kernel
theorem c137_145 : gP 137 145 = some (.return_, 1, 0, 0) := by decide +kernel
theorem c138_0 : gP 138 0 = some (.aload 0, 1, 0, 0) := by decide +kernel
theorem c138_1 : gP 138 1 = some (.invokeinterface 115 232, 3, 1, 1) := by decide +kernel
theorem c138_4 : gP 138 4 = some (.istore 1, 1, 0, 0) := by decide +kernel
theorem c138_5 : gP 138 5 = some (.aload 0, 1, 0, 0) := by decide +kernel
theorem c138_6 : gP 138 6 = some (.invokeinterface 113 199, 3, 1, 1) := by decide +kernel
theorem c138_9 : gP 138 9 = some (.ifCond .eq 41, 3, 0, 0) := by decide +kernel
theorem c138_12 : gP 138 12 = some (.aload 0, 1, 0, 0) := by decide +kernel
theorem c138_13 : gP 138 13 = some (.invokeinterface 99 211, 3, 1, 1) := by decide +kernel
theorem c138_16 : gP 138 16 = some (.aload 0, 1, 0, 0) := by decide +kernel
theorem c138_17 : gP 138 17 = some (.invokeinterface 130 260, 3, 1, 1) := by decide +kernel
theorem c138_20 : gP 138 20 = some (.istore 2, 1, 0, 0) := by decide +kernel
theorem c138_21 : gP 138 21 = some (.aload 0, 1, 0, 0) := by decide +kernel
theorem c138_22 : gP 138 22 = some (.getfield 8, 3, 8, 205) := by decide +kernel
theorem c138_25 : gP 138 25 = some (.ifCond .ge 38, 3, 0, 0) := by decide +kernel
theorem c138_28 : gP 138 28 = some (.aload 0, 1, 0, 0) := by decide +kernel
theorem c138_29 : gP 138 29 = some (.iconst 6, 2, 0, 0) := by decide +kernel
theorem c138_31 : gP 138 31 = some (.iload 2, 1, 0, 0) := by decide +kernel
theorem c138_32 : gP 138 32 = some (.iconst 0, 1, 0, 0) := by decide +kernel
theorem c138_33 : gP 138 33 = some (.iconst 0, 1, 0, 0) := by decide +kernel
theorem c138_34 : gP 138 34 = some (.invokeinterface 127 263, 3, 5, 1) := by decide +kernel
theorem c138_37 : gP 138 37 = some (.istore 2, 1, 0, 0) := by decide +kernel
theorem c138_38 : gP 138 38 = some (.goto 101, 3, 0, 0) := by decide +kernel
theorem c138_41 : gP 138 41 = some (.aload 0, 1, 0, 0) := by decide +kernel
theorem c138_42 : gP 138 42 = some (.invokeinterface 130 260, 3, 1, 1) := by decide +kernel
theorem c138_45 : gP 138 45 = some (.istore 2, 1, 0, 0) := by decide +kernel
theorem c138_46 : gP 138 46 = some (.aload 0, 1, 0, 0) := by decide +kernel
theorem c138_47 : gP 138 47 = some (.getfield 8, 3, 8, 205) := by decide +kernel
theorem c138_50 : gP 138 50 = some (.ifCond .lt 54, 3, 0, 0) := by decide +kernel
theorem c138_53 : gP 138 53 = some (.return_, 1, 0, 0) := by decide +kernel
theorem c138_54 : gP 138 54 = some (.aload 0, 1, 0, 0) := by decide +kernel
theorem c138_55 : gP 138 55 = some (.iconst 46, 2, 0, 0) := by decide +kernel
theorem c138_57 : gP 138 57 = some (.invokeinterface 117 214, 3, 2, 1) := by decide +kernel
theorem c138_60 : gP 138 60 = some (.ifCond .eq 71, 3, 0, 0) := by decide +kernel
theorem c138_63 : gP 138 63 = some (.aload 0, 1, 0, 0) := by decide +kernel
theorem c138_64 : gP 138 64 = some (.iload 2, 1, 0, 0) := by decide +kernel
theorem c138_65 : gP 138 65 = some (.invokeinterface 133 280, 3, 2, 1) := by decide +kernel
theorem c138_68 : gP 138 68 = some (.goto 101, 3, 0, 0) := by decide +kernel
theorem c138_71 : gP 138 71 = some (.aload 0, 1, 0, 0) := by decide +kernel
theorem c138_72 : gP 138 72 = some (.iload 1, 1, 0, 0) := by decide +kernel
theorem c138_73 : gP 138 73 = some (.ifCond .eq 89, 3, 0, 0) := by decide +kernel
theorem c138_76 : gP 138 76 = some (.aload 0, 1, 0, 0) := by decide +kernel
theorem c138_77 : gP 138 77 = some (.iconst 61, 2, 0, 0) := by decide +kernel
theorem c138_79 : gP 138 79 = some (.invokeinterface 117 214, 3, 2, 1) := by decide +kernel
theorem c138_82 : gP 138 82 = some (.ifCond .eq 89, 3, 0, 0) := by decide +kernel
theorem c138_85 : gP 138 85 = some (.iconst 1, 1, 0, 0) := by decide +kernel
theorem c138_86 : gP 138 86 = some (.goto 90, 3, 0, 0) := by decide +kernel
theorem c138_89 : gP 138 89 = some (.iconst 0, 1, 0, 0) := by decide +kernel
theorem c138_90 : gP 138 90 = some (.invokeinterface 105 217, 3, 2, 1) := by decide +kernel
theorem c138_93 : gP 138 93 = some (.ifCond .eq 101, 3, 0, 0) := by decide +kernel
theorem c138_96 : gP 138 96 = some (.aload 0, 1, 0, 0) := by decide +kernel
theorem c138_97 : gP 138 97 = some (.iload 2, 1, 0, 0) := by decide +kernel
theorem c138_98 : gP 138 98 = some (.invokeinterface 137 283, 3, 2, 1) := by decide +kernel
theorem c138_101 : gP 138 101 = some (.aload 0, 1, 0, 0) := by decide +kernel
theorem c138_102 : gP 138 102 = some (.getfield 8, 3, 8, 205) := by decide +kernel
theorem c138_105 : gP 138 105 = some (.ifCond .ge 118, 3, 0, 0) := by decide +kernel
theorem c138_108 : gP 138 108 = some (.aload 0, 1, 0, 0) := by decide +kernel
theorem c138_109 : gP 138 109 = some (.iconst 59, 2, 0, 0) := by decide +kernel
theorem c138_111 : gP 138 111 = some (.invokeinterface 118 238, 3, 2, 1) := by decide +kernel
theorem c138_114 : gP 138 114 = some (.ifCond .ne 118, 3, 0, 0) := by decide +kernel
theorem c138_117 : gP 138 117 = some (.return_, 1, 0, 0) := by decide +kernel
theorem c138_118 : gP 138 118 = some (.return_, 1, 0, 0) := by decide +kernel
theorem c139_0 : gP 139 0 = some (.aload 0, 1, 0, 0) := by decide +kernel
theorem c139_1 : gP 139 1 = some (.iconst 0, 1, 0, 0) := by decide +kernel
theorem c139_2 : gP 139 2 = some (.putfield 10, 3, 8, 0) := by decide +kernel
theorem c139_5 : gP 139 5 = some (.aload 0, 1, 0, 0) := by decide +kernel
theorem c139_6 : gP 139 6 = some (.getfield 8, 3, 8, 205) := by decide +kernel
theorem c139_9 : gP 139 9 = some (.ifCond .ge 139, 3, 0, 0) := by decide +kernel
theorem c139_12 : gP 139 12 = some (.aload 0, 1, 0, 0) := by decide +kernel
theorem c139_13 : gP 139 13 = some (.iconst 125, 2, 0, 0) := by decide +kernel
theorem c139_15 : gP 139 15 = some (.invokeinterface 117 214, 3, 2, 1) := by decide +kernel
theorem c139_18 : gP 139 18 = some (.ifCond .eq 50, 3, 0, 0) := by decide +kernel
theorem c139_21 : gP 139 21 = some (.aload 0, 1, 0, 0) := by decide +kernel
theorem c139_22 : gP 139 22 = some (.getfield 10, 3, 8, 286) := by decide +kernel
theorem c139_25 : gP 139 25 = some (.ifCond .ne 43, 3, 0, 0) := by decide +kernel
theorem c139_28 : gP 139 28 = some (.aload 0, 1, 0, 0) := by decide +kernel
theorem c139_29 : gP 139 29 = some (.invokeinterface 99 211, 3, 1, 1) := by decide +kernel
theorem c139_32 : gP 139 32 = some (.aload 0, 1, 0, 0) := by decide +kernel
theorem c139_33 : gP 139 33 = some (.iconst 12, 2, 0, 0) := by decide +kernel
theorem c139_35 : gP 139 35 = some (.iconst 0, 1, 0, 0) := by decide +kernel
theorem c139_36 : gP 139 36 = some (.iconst 0, 1, 0, 0) := by decide +kernel
theorem c139_37 : gP 139 37 = some (.iconst 0, 1, 0, 0) := by decide +kernel
theorem c139_38 : gP 139 38 = some (.invokeinterface 127 263, 3, 5, 1) := by decide +kernel
theorem c139_41 : gP 139 41 = some (.istore 1, 1, 0, 0) := by decide +kernel
theorem c139_42 : gP 139 42 = some (.return_, 1, 0, 0) := by decide +kernel
theorem c139_43 : gP 139 43 = some (.aload 0, 1, 0, 0) := by decide +kernel
theorem c139_44 : gP 139 44 = some (.invokeinterface 129 292, 3, 1, 1) := by decide +kernel
theorem c139_47 : gP 139 47 = some (.goto 5, 3, 0, 0) := by decide +kernel
theorem c139_50 : gP 139 50 = some (.aload 0, 1, 0, 0) := by decide +kernel
theorem c139_51 : gP 139 51 = some (.getfield 9, 3, 8, 295) := by decide +kernel
theorem c139_54 : gP 139 54 = some (.iconst 40, 2, 0, 0) := by decide +kernel
theorem c139_56 : gP 139 56 = some (.if_icmp .eq 94, 3, 0, 0) := by decide +kernel
theorem c139_59 : gP 139 59 = some (.aload 0, 1, 0, 0) := by decide +kernel
theorem c139_60 : gP 139 60 = some (.invokeinterface 115 232, 3, 1, 1) := by decide +kernel
theorem c139_63 : gP 139 63 = some (.ifCond .ne 101, 3, 0, 0) := by decide +kernel
theorem c139_66 : gP 139 66 = some (.aload 0, 1, 0, 0) := by decide +kernel
theorem c139_67 : gP 139 67 = some (.invokeinterface 114 202, 3, 1, 1) := by decide +kernel
theorem c139_70 : gP 139 70 = some (.ifCond .ne 101, 3, 0, 0) := by decide +kernel
theorem c139_73 : gP 139 73 = some (.aload 0, 1, 0, 0) := by decide +kernel
theorem c139_74 : gP 139 74 = some (.invokeinterface 110 190, 3, 1, 1) := by decide +kernel
theorem c139_77 : gP 139 77 = some (.ifCond .ne 101, 3, 0, 0) := by decide +kernel
theorem c139_80 : gP 139 80 = some (.aload 0, 1, 0, 0) := by decide +kernel
theorem c139_81 : gP 139 81 = some (.invokeinterface 112 196, 3, 1, 1) := by decide +kernel
theorem c139_84 : gP 139 84 = some (.ifCond .ne 101, 3, 0, 0) := by decide +kernel
theorem c139_87 : gP 139 87 = some (.aload 0, 1, 0, 0) := by decide +kernel
theorem c139_88 : gP 139 88 = some (.invokeinterface 113 199, 3, 1, 1) := by decide +kernel
theorem c139_91 : gP 139 91 = some (.ifCond .ne 101, 3, 0, 0) := by decide +kernel
theorem c139_94 : gP 139 94 = some (.aload 0, 1, 0, 0) := by decide +kernel
theorem c139_95 : gP 139 95 = some (.invokeinterface 104 208, 3, 1, 1) := by decide +kernel
theorem c139_98 : gP 139 98 = some (.goto 5, 3, 0, 0) := by decide +kernel
theorem c139_101 : gP 139 101 = some (.aload 0, 1, 0, 0) := by decide +kernel
theorem c139_102 : gP 139 102 = some (.dup, 1, 0, 0) := by decide +kernel
theorem c139_103 : gP 139 103 = some (.getfield 9, 3, 8, 295) := by decide +kernel
theorem c139_106 : gP 139 106 = some (.iconst 1, 1, 0, 0) := by decide +kernel
theorem c139_107 : gP 139 107 = some (.iadd, 1, 0, 0) := by decide +kernel
theorem c139_108 : gP 139 108 = some (.putfield 9, 3, 8, 0) := by decide +kernel
theorem c139_111 : gP 139 111 = some (.aload 0, 1, 0, 0) := by decide +kernel
theorem c139_112 : gP 139 112 = some (.invokeinterface 110 190, 3, 1, 1) := by decide +kernel
theorem c139_115 : gP 139 115 = some (.ifCond .ne 125, 3, 0, 0) := by decide +kernel
theorem c139_118 : gP 139 118 = some (.aload 0, 1, 0, 0) := by decide +kernel
theorem c139_119 : gP 139 119 = some (.invokeinterface 112 196, 3, 1, 1) := by decide +kernel
theorem c139_122 : gP 139 122 = some (.ifCond .eq 132, 3, 0, 0) := by decide +kernel
theorem c139_125 : gP 139 125 = some (.aload 0, 1, 0, 0) := by decide +kernel
theorem c139_126 : gP 139 126 = some (.invokeinterface 131 298, 3, 1, 1) := by decide +kernel
theorem c139_129 : gP 139 129 = some (.goto 5, 3, 0, 0) := by decide +kernel
theorem c139_132 : gP 139 132 = some (.aload 0, 1, 0, 0) := by decide +kernel
theorem c139_133 : gP 139 133 = some (.invokeinterface 138 301, 3, 1, 1) := by decide +kernel
theorem c139_136 : gP 139 136 = some (.goto 5, 3, 0, 0) := by decide +kernel
theorem c139_139 : gP 139 139 = some (.return_, 1, 0, 0) := by decide +kernel
theorem c140_0 : gP 140 0 = some (.aload 0, 1, 0, 0) := by decide +kernel
theorem c140_1 : gP 140 1 = some (.invokeinterface 119 304, 3, 1, 1) := by decide +kernel
theorem c140_4 : gP 140 4 = some (.aload 0, 1, 0, 0) := by decide +kernel
theorem c140_5 : gP 140 5 = some (.getfield 8, 3, 8, 205) := by decide +kernel
theorem c140_8 : gP 140 8 = some (.ifCond .ge 66, 3, 0, 0) := by decide +kernel
theorem c140_11 : gP 140 11 = some (.aload 0, 1, 0, 0) := by decide +kernel
theorem c140_12 : gP 140 12 = some (.iconst 125, 2, 0, 0) := by decide +kernel
theorem c140_14 : gP 140 14 = some (.invokeinterface 117 214, 3, 2, 1) := by decide +kernel
theorem c140_17 : gP 140 17 = some (.ifCond .ne 66, 3, 0, 0) := by decide +kernel
theorem c140_20 : gP 140 20 = some (.aload 0, 1, 0, 0) := by decide +kernel
theorem c140_21 : gP 140 21 = some (.invokeinterface 106 178, 3, 1, 1) := by decide +kernel
theorem c140_24 : gP 140 24 = some (.ifCond .eq 34, 3, 0, 0) := by decide +kernel
theorem c140_27 : gP 140 27 = some (.aload 0, 1, 0, 0) := by decide +kernel
theorem c140_28 : gP 140 28 = some (.invokeinterface 122 307, 3, 1, 1) := by decide +kernel
theorem c140_31 : gP 140 31 = some (.goto 4, 3, 0, 0) := by decide +kernel
theorem c140_34 : gP 140 34 = some (.aload 0, 1, 0, 0) := by decide +kernel
theorem c140_35 : gP 140 35 = some (.invokeinterface 107 181, 3, 1, 1) := by decide +kernel
theorem c140_38 : gP 140 38 = some (.ifCond .eq 59, 3, 0, 0) := by decide +kernel
theorem c140_41 : gP 140 41 = some (.aload 0, 1, 0, 0) := by decide +kernel
theorem c140_42 : gP 140 42 = some (.invokeinterface 126 310, 3, 1, 1) := by decide +kernel
theorem c140_45 : gP 140 45 = some (.aload 0, 1, 0, 0) := by decide +kernel
theorem c140_46 : gP 140 46 = some (.getfield 8, 3, 8, 205) := by decide +kernel
theorem c140_49 : gP 140 49 = some (.ifCond .ge 4, 3, 0, 0) := by decide +kernel
theorem c140_52 : gP 140 52 = some (.aload 0, 1, 0, 0) := by decide +kernel
theorem c140_53 : gP 140 53 = some (.invokeinterface 139 313, 3, 1, 1) := by decide +kernel
theorem c140_56 : gP 140 56 = some (.goto 4, 3, 0, 0) := by decide +kernel
theorem c140_59 : gP 140 59 = some (.aload 0, 1, 0, 0) := by decide +kernel
theorem c140_60 : gP 140 60 = some (.invokeinterface 104 208, 3, 1, 1) := by decide +kernel
theorem c140_63 : gP 140 63 = some (.goto 4, 3, 0, 0) := by decide +kernel
theorem c140_66 : gP 140 66 = some (.aload 0, 1, 0, 0) := by decide +kernel
theorem c140_67 : gP 140 67 = some (.getfield 8, 3, 8, 205) := by decide +kernel
theorem c140_70 : gP 140 70 = some (.ifCond .ge 77, 3, 0, 0) := by decide +kernel
theorem c140_73 : gP 140 73 = some (.aload 0, 1, 0, 0) := by decide +kernel
theorem c140_74 : gP 140 74 = some (.invokeinterface 99 211, 3, 1, 1) := by decide +kernel
theorem c140_77 : gP 140 77 = some (.return_, 1, 0, 0) := by decide +kernel
theorem c141_0 : gP 141 0 = some (.iconst 0, 1, 0, 0) := by decide +kernel
theorem c141_1 : gP 141 1 = some (.istore 2, 1, 0, 0) := by decide +kernel
theorem c141_2 : gP 141 2 = some (.iload 2, 1, 0, 0) := by decide +kernel
theorem c141_3 : gP 141 3 = some (.aload 0, 1, 0, 0) := by decide +kernel
theorem c141_4 : gP 141 4 = some (.getfield 17, 3, 8, 257) := by decide +kernel
theorem c141_7 : gP 141 7 = some (.if_icmp .ge 47, 3, 0, 0) := by decide +kernel
theorem c141_10 : gP 141 10 = some (.aload 0, 1, 0, 0) := by decide +kernel
theorem c141_11 : gP 141 11 = some (.getfield 8, 3, 8, 205) := by decide +kernel
theorem c141_14 : gP 141 14 = some (.ifCond .ge 47, 3, 0, 0) := by decide +kernel
theorem c141_17 : gP 141 17 = some (.aload 0, 1, 0, 0) := by decide +kernel
theorem c141_18 : gP 141 18 = some (.iload 1, 1, 0, 0) := by decide +kernel
theorem c141_19 : gP 141 19 = some (.aload 0, 1, 0, 0) := by decide +kernel
theorem c141_20 : gP 141 20 = some (.getfield 15, 3, 8, 26) := by decide +kernel
theorem c141_23 : gP 141 23 = some (.iload 2, 1, 0, 0) := by decide +kernel
theorem c141_24 : gP 141 24 = some (.iaload, 1, 0, 0) := by decide +kernel
theorem c141_25 : gP 141 25 = some (.invokeinterface 116 235, 3, 3, 1) := by decide +kernel
theorem c141_28 : gP 141 28 = some (.ifCond .ge 41, 3, 0, 0) := by decide +kernel
theorem c141_31 : gP 141 31 = some (.aload 0, 1, 0, 0) := by decide +kernel
theorem c141_32 : gP 141 32 = some (.aload 0, 1, 0, 0) := by decide +kernel
theorem c141_33 : gP 141 33 = some (.getfield 16, 3, 8, 29) := by decide +kernel
theorem c141_36 : gP 141 36 = some (.iload 2, 1, 0, 0) := by decide +kernel
theorem c141_37 : gP 141 37 = some (.iaload, 1, 0, 0) := by decide +kernel
theorem c141_38 : gP 141 38 = some (.putfield 8, 3, 8, 0) := by decide +kernel
theorem c141_41 : gP 141 41 = some (.iinc 2 1, 3, 0, 0) := by decide +kernel
theorem c141_44 : gP 141 44 = some (.goto 2, 3, 0, 0) := by decide +kernel
theorem c141_47 : gP 141 47 = some (.aload 0, 1, 0, 0) := by decide +kernel
theorem c141_48 : gP 141 48 = some (.getfield 8, 3, 8, 205) := by decide +kernel
theorem c141_51 : gP 141 51 = some (.ifCond .lt 55, 3, 0, 0) := by decide +kernel
theorem c141_54 : gP 141 54 = some (.return_, 1, 0, 0) := by decide +kernel
theorem c141_55 : gP 141 55 = some (.iconst 1, 1, 0, 0) := by decide +kernel
theorem c141_56 : gP 141 56 = some (.istore 2, 1, 0, 0) := by decide +kernel
theorem c141_57 : gP 141 57 = some (.iload 2, 1, 0, 0) := by decide +kernel
theorem c141_58 : gP 141 58 = some (.aload 0, 1, 0, 0) := by decide +kernel
theorem c141_59 : gP 141 59 = some (.getfield 25, 3, 8, 47) := by decide +kernel
theorem c141_62 : gP 141 62 = some (.iload 1, 1, 0, 0) := by decide +kernel
theorem c141_63 : gP 141 63 = some (.iaload, 1, 0, 0) := by decide +kernel
theorem c141_64 : gP 141 64 = some (.if_icmp .ge 100, 3, 0, 0) := by decide +kernel
theorem c141_67 : gP 141 67 = some (.aload 0, 1, 0, 0) := by decide +kernel
theorem c141_68 : gP 141 68 = some (.getfield 37, 3, 8, 84) := by decide +kernel
theorem c141_71 : gP 141 71 = some (.iconst 12, 2, 0, 0) := by decide +kernel
theorem c141_73 : gP 141 73 = some (.iload 1, 1, 0, 0) := by decide +kernel
theorem c141_74 : gP 141 74 = some (.imul, 1, 0, 0) := by decide +kernel
theorem c141_75 : gP 141 75 = some (.iload 2, 1, 0, 0) := by decide +kernel
theorem c141_76 : gP 141 76 = some (.iadd, 1, 0, 0) := by decide +kernel
theorem c141_77 : gP 141 77 = some (.aload 0, 1, 0, 0) := by decide +kernel
theorem c141_78 : gP 141 78 = some (.iload 1, 1, 0, 0) := by decide +kernel
theorem c141_79 : gP 141 79 = some (.aload 0, 1, 0, 0) := by decide +kernel
theorem c141_80 : gP 141 80 = some (.getfield 37, 3, 8, 84) := by decide +kernel
theorem c141_83 : gP 141 83 = some (.iconst 12, 2, 0, 0) := by decide +kernel
theorem c141_85 : gP 141 85 = some (.iload 1, 1, 0, 0) := by decide +kernel
theorem c141_86 : gP 141 86 = some (.imul, 1, 0, 0) := by decide +kernel
theorem c141_87 : gP 141 87 = some (.iload 2, 1, 0, 0) := by decide +kernel
theorem c141_88 : gP 141 88 = some (.iadd, 1, 0, 0) := by decide +kernel
theorem c141_89 : gP 141 89 = some (.iaload, 1, 0, 0) := by decide +kernel
theorem c141_90 : gP 141 90 = some (.invokeinterface 116 235, 3, 3, 1) := by decide +kernel
theorem c141_93 : gP 141 93 = some (.iastore, 1, 0, 0) := by decide +kernel
theorem c141_94 : gP 141 94 = some (.iinc 2 1, 3, 0, 0) := by decide +kernel
theorem c141_97 : gP 141 97 = some (.goto 57, 3, 0, 0) := by decide +kernel
theorem c141_100 : gP 141 100 = some (.iconst 0, 1, 0, 0) := by decide +kernel
theorem c141_101 : gP 141 101 = some (.istore 2, 1, 0, 0) := by decide +kernel
theorem c141_102 : gP 141 102 = some (.iload 2, 1, 0, 0) := by decide +kernel
theorem c141_103 : gP 141 103 = some (.aload 0, 1, 0, 0) := by decide +kernel
theorem c141_104 : gP 141 104 = some (.getfield 24, 3, 8, 44) := by decide +kernel
theorem c141_107 : gP 141 107 = some (.iload 1, 1, 0, 0) := by decide +kernel
theorem c141_108 : gP 141 108 = some (.iaload, 1, 0, 0) := by decide +kernel
theorem c141_109 : gP 141 109 = some (.if_icmp .ge 145, 3, 0, 0) := by decide +kernel
theorem c141_112 : gP 141 112 = some (.aload 0, 1, 0, 0) := by decide +kernel
theorem c141_113 : gP 141 113 = some (.getfield 39, 3, 8, 90) := by decide +kernel
theorem c141_116 : gP 141 116 = some (.iconst 8, 2, 0, 0) := by decide +kernel
theorem c141_118 : gP 141 118 = some (.iload 1, 1, 0, 0) := by decide +kernel
theorem c141_119 : gP 141 119 = some (.imul, 1, 0, 0) := by decide +kernel
theorem c141_120 : gP 141 120 = some (.iload 2, 1, 0, 0) := by decide +kernel
theorem c141_121 : gP 141 121 = some (.iadd, 1, 0, 0) := by decide +kernel
theorem c141_122 : gP 141 122 = some (.aload 0, 1, 0, 0) := by decide +kernel
theorem c141_123 : gP 141 123 = some (.iload 1, 1, 0, 0) := by decide +kernel
theorem c141_124 : gP 141 124 = some (.aload 0, 1, 0, 0) := by decide +kernel
theorem c141_125 : gP 141 125 = some (.getfield 39, 3, 8, 90) := by decide +kernel
theorem c141_128 : gP 141 128 = some (.iconst 8, 2, 0, 0) := by decide +kernel
theorem c141_130 : gP 141 130 = some (.iload 1, 1, 0, 0) := by decide +kernel
theorem c141_131 : gP 141 131 = some (.imul, 1, 0, 0) := by decide +kernel
theorem c141_132 : gP 141 132 = some (.iload 2, 1, 0, 0) := by decide +kernel
theorem c141_133 : gP 141 133 = some (.iadd, 1, 0, 0) := by decide +kernel
theorem c141_134 : gP 141 134 = some (.iaload, 1, 0, 0) := by decide +kernel
theorem c141_135 : gP 141 135 = some (.invokeinterface 116 235, 3, 3, 1) := by decide +kernel
theorem c141_138 : gP 141 138 = some (.iastore, 1, 0, 0) := by decide +kernel
theorem c141_139 : gP 141 139 = some (.iinc 2 1, 3, 0, 0) := by decide +kernel
theorem c141_142 : gP 141 142 = some (.goto 102, 3, 0, 0) := by decide +kernel
theorem c141_145 : gP 141 145 = some (.iconst 0, 1, 0, 0) := by decide +kernel
theorem c141_146 : gP 141 146 = some (.istore 2, 1, 0, 0) := by decide +kernel
theorem c141_147 : gP 141 147 = some (.iload 2, 1, 0, 0) := by decide +kernel
theorem c141_148 : gP 141 148 = some (.aload 0, 1, 0, 0) := by decide +kernel
theorem c141_149 : gP 141 149 = some (.getfield 27, 3, 8, 53) := by decide +kernel
theorem c141_152 : gP 141 152 = some (.iload 1, 1, 0, 0) := by decide +kernel
theorem c141_153 : gP 141 153 = some (.iaload, 1, 0, 0) := by decide +kernel
theorem c141_154 : gP 141 154 = some (.if_icmp .ge 215, 3, 0, 0) := by decide +kernel
theorem c141_157 : gP 141 157 = some (.iconst 1000, 3, 0, 0) := by decide +kernel
theorem c141_160 : gP 141 160 = some (.iload 1, 1, 0, 0) := by decide +kernel
theorem c141_161 : gP 141 161 = some (.imul, 1, 0, 0) := by decide +kernel
theorem c141_162 : gP 141 162 = some (.iconst 8, 2, 0, 0) := by decide +kernel
theorem c141_164 : gP 141 164 = some (.iload 2, 1, 0, 0) := by decide +kernel
theorem c141_165 : gP 141 165 = some (.imul, 1, 0, 0) := by decide +kernel
theorem c141_166 : gP 141 166 = some (.iadd, 1, 0, 0) := by decide +kernel
theorem c141_167 : gP 141 167 = some (.istore 3, 1, 0, 0) := by decide +kernel
theorem c141_168 : gP 141 168 = some (.aload 0, 1, 0, 0) := by decide +kernel
theorem c141_169 : gP 141 169 = some (.getfield 40, 3, 8, 93) := by decide +kernel
theorem c141_172 : gP 141 172 = some (.iload 3, 1, 0, 0) := by decide +kernel
theorem c141_173 : gP 141 173 = some (.iaload, 1, 0, 0) := by decide +kernel
theorem c141_174 : gP 141 174 = some (.iconst 4, 1, 0, 0) := by decide +kernel
theorem c141_175 : gP 141 175 = some (.if_icmp .eq 188, 3, 0, 0) := by decide +kernel
theorem c141_178 : gP 141 178 = some (.aload 0, 1, 0, 0) := by decide +kernel
theorem c141_179 : gP 141 179 = some (.getfield 40, 3, 8, 93) := by decide +kernel
theorem c141_182 : gP 141 182 = some (.iload 3, 1, 0, 0) := by decide +kernel
theorem c141_183 : gP 141 183 = some (.iaload, 1, 0, 0) := by decide +kernel
theorem c141_184 : gP 141 184 = some (.iconst 5, 1, 0, 0) := by decide +kernel
theorem c141_185 : gP 141 185 = some (.if_icmp .ne 209, 3, 0, 0) := by decide +kernel
theorem c141_188 : gP 141 188 = some (.aload 0, 1, 0, 0) := by decide +kernel
theorem c141_189 : gP 141 189 = some (.getfield 40, 3, 8, 93) := by decide +kernel
theorem c141_192 : gP 141 192 = some (.iload 3, 1, 0, 0) := by decide +kernel
theorem c141_193 : gP 141 193 = some (.iconst 4, 1, 0, 0) := by decide +kernel
theorem c141_194 : gP 141 194 = some (.iadd, 1, 0, 0) := by decide +kernel
theorem c141_195 : gP 141 195 = some (.aload 0, 1, 0, 0) := by decide +kernel
theorem c141_196 : gP 141 196 = some (.iload 1, 1, 0, 0) := by decide +kernel
theorem c141_197 : gP 141 197 = some (.aload 0, 1, 0, 0) := by decide +kernel
theorem c141_198 : gP 141 198 = some (.getfield 40, 3, 8, 93) := by decide +kernel
theorem c141_201 : gP 141 201 = some (.iload 3, 1, 0, 0) := by decide +kernel
theorem c141_202 : gP 141 202 = some (.iconst 4, 1, 0, 0) := by decide +kernel
theorem c141_203 : gP 141 203 = some (.iadd, 1, 0, 0) := by decide +kernel
theorem c141_204 : gP 141 204 = some (.iaload, 1, 0, 0) := by decide +kernel
theorem c141_205 : gP 141 205 = some (.invokeinterface 120 241, 3, 3, 1) := by decide +kernel
theorem c141_208 : gP 141 208 = some (.iastore, 1, 0, 0) := by decide +kernel
theorem c141_209 : gP 141 209 = some (.iinc 2 1, 3, 0, 0) := by decide +kernel
theorem c141_212 : gP 141 212 = some (.goto 147, 3, 0, 0) := by decide +kernel
theorem c141_215 : gP 141 215 = some (.return_, 1, 0, 0) := by decide +kernel
theorem c142_0 : gP 142 0 = some (.aload 0, 1, 0, 0) := by decide +kernel
theorem c142_1 : gP 142 1 = some (.iload 1, 1, 0, 0) := by decide +kernel
theorem c142_2 : gP 142 2 = some (.iload 2, 1, 0, 0) := by decide +kernel
theorem c142_3 : gP 142 3 = some (.iload 3, 1, 0, 0) := by decide +kernel
theorem c142_4 : gP 142 4 = some (.iconst 0, 1, 0, 0) := by decide +kernel
theorem c142_5 : gP 142 5 = some (.invokeinterface 123 224, 3, 5, 1) := by decide +kernel
theorem c142_8 : gP 142 8 = some (.istore 5, 2, 0, 0) := by decide +kernel
theorem c142_10 : gP 142 10 = some (.iload 5, 2, 0, 0) := by decide +kernel
theorem c142_12 : gP 142 12 = some (.ifCond .lt 37, 3, 0, 0) := by decide +kernel
theorem c142_15 : gP 142 15 = some (.aload 0, 1, 0, 0) := by decide +kernel
theorem c142_16 : gP 142 16 = some (.getfield 34, 3, 8, 75) := by decide +kernel
theorem c142_19 : gP 142 19 = some (.iconst 10, 2, 0, 0) := by decide +kernel
theorem c142_21 : gP 142 21 = some (.iload 1, 1, 0, 0) := by decide +kernel
theorem c142_22 : gP 142 22 = some (.imul, 1, 0, 0) := by decide +kernel
theorem c142_23 : gP 142 23 = some (.iload 5, 2, 0, 0) := by decide +kernel
theorem c142_25 : gP 142 25 = some (.iadd, 1, 0, 0) := by decide +kernel
theorem c142_26 : gP 142 26 = some (.iaload, 1, 0, 0) := by decide +kernel
theorem c142_27 : gP 142 27 = some (.iload 4, 2, 0, 0) := by decide +kernel
theorem c142_29 : gP 142 29 = some (.if_icmp .ne 37, 3, 0, 0) := by decide +kernel
theorem c142_32 : gP 142 32 = some (.iload 5, 2, 0, 0) := by decide +kernel
theorem c142_34 : gP 142 34 = some (.goto 38, 3, 0, 0) := by decide +kernel
theorem c142_37 : gP 142 37 = some (.iconst (-1), 1, 0, 0) := by decide +kernel
theorem c142_38 : gP 142 38 = some (.ireturn, 1, 0, 0) := by decide +kernel
theorem c143_0 : gP 143 0 = some (.aload 0, 1, 0, 0) := by decide +kernel
theorem c143_1 : gP 143 1 = some (.aload 0, 1, 0, 0) := by decide +kernel
theorem c143_2 : gP 143 2 = some (.getfield 18, 3, 8, 221) := by decide +kernel
theorem c143_5 : gP 143 5 = some (.iconst 0, 1, 0, 0) := by decide +kernel
theorem c143_6 : gP 143 6 = some (.iconst 103, 2, 0, 0) := by decide +kernel
theorem c143_8 : gP 143 8 = some (.iconst 111, 2, 0, 0) := by decide +kernel
theorem c143_10 : gP 143 10 = some (.iconst 0, 1, 0, 0) := by decide +kernel
theorem c143_11 : gP 143 11 = some (.iconst 0, 1, 0, 0) := by decide +kernel
theorem c143_12 : gP 143 12 = some (.iconst 0, 1, 0, 0) := by decide +kernel
theorem c143_13 : gP 143 13 = some (.iconst 0, 1, 0, 0) := by decide +kernel
theorem c143_14 : gP 143 14 = some (.invokeinterface 101 167, 3, 6, 0) := by decide +kernel
theorem c143_17 : gP 143 17 = some (.iconst 0, 1, 0, 0) := by decide +kernel
theorem c143_18 : gP 143 18 = some (.invokeinterface 142 332, 3, 5, 1) := by decide +kernel
theorem c143_21 : gP 143 21 = some (.ireturn, 1, 0, 0) := by decide +kernel
theorem c144_0 : gP 144 0 = some (.iload 1, 1, 0, 0) := by decide +kernel
theorem c144_1 : gP 144 1 = some (.ifCond .lt 16, 3, 0, 0) := by decide +kernel
theorem c144_4 : gP 144 4 = some (.iload 1, 1, 0, 0) := by decide +kernel
theorem c144_5 : gP 144 5 = some (.aload 0, 1, 0, 0) := by decide +kernel
theorem c144_6 : gP 144 6 = some (.getfield 45, 3, 8, 335) := by decide +kernel
theorem c144_9 : gP 144 9 = some (.if_icmp .ge 16, 3, 0, 0) := by decide +kernel
theorem c144_12 : gP 144 12 = some (.iconst 1, 1, 0, 0) := by decide +kernel
theorem c144_13 : gP 144 13 = some (.goto 17, 3, 0, 0) := by decide +kernel
theorem c144_16 : gP 144 16 = some (.iconst 0, 1, 0, 0) := by decide +kernel
theorem c144_17 : gP 144 17 = some (.ireturn, 1, 1, 0) := by decide +kernel
theorem c145_0 : gP 145 0 = some (.aload 0, 1, 0, 0) := by decide +kernel
theorem c145_1 : gP 145 1 = some (.getfield 41, 3, 8, 96) := by decide +kernel
theorem c145_4 : gP 145 4 = some (.iconst 12, 2, 0, 0) := by decide +kernel
theorem c145_6 : gP 145 6 = some (.iload 1, 1, 0, 0) := by decide +kernel
theorem c145_7 : gP 145 7 = some (.imul, 1, 0, 0) := by decide +kernel
theorem c145_8 : gP 145 8 = some (.iload 2, 1, 0, 0) := by decide +kernel
theorem c145_9 : gP 145 9 = some (.iadd, 1, 0, 0) := by decide +kernel
theorem c145_10 : gP 145 10 = some (.iaload, 1, 0, 0) := by decide +kernel
theorem c145_11 : gP 145 11 = some (.ifCond .lt 15, 3, 0, 0) := by decide +kernel
theorem c145_14 : gP 145 14 = some (.return_, 1, 0, 0) := by decide +kernel
theorem c145_15 : gP 145 15 = some (.aload 0, 1, 0, 0) := by decide +kernel
theorem c145_16 : gP 145 16 = some (.getfield 41, 3, 8, 96) := by decide +kernel
theorem c145_19 : gP 145 19 = some (.iconst 12, 2, 0, 0) := by decide +kernel
theorem c145_21 : gP 145 21 = some (.iload 1, 1, 0, 0) := by decide +kernel
theorem c145_22 : gP 145 22 = some (.imul, 1, 0, 0) := by decide +kernel
theorem c145_23 : gP 145 23 = some (.iload 2, 1, 0, 0) := by decide +kernel
theorem c145_24 : gP 145 24 = some (.iadd, 1, 0, 0) := by decide +kernel
theorem c145_25 : gP 145 25 = some (.aload 0, 1, 0, 0) := by decide +kernel
theorem c145_26 : gP 145 26 = some (.getfield 45, 3, 8, 335) := by decide +kernel
theorem c145_29 : gP 145 29 = some (.iastore, 1, 0, 0) := by decide +kernel
theorem c145_30 : gP 145 30 = some (.aload 0, 1, 0, 0) := by decide +kernel
theorem c145_31 : gP 145 31 = some (.iconst 1, 1, 0, 0) := by decide +kernel
theorem c145_32 : gP 145 32 = some (.putfield 46, 3, 8, 1) := by decide +kernel
theorem c145_35 : gP 145 35 = some (.return_, 1, 0, 0) := by decide +kernel
theorem c146_0 : gP 146 0 = some (.iconst 0, 1, 0, 0) := by decide +kernel
theorem c146_1 : gP 146 1 = some (.istore 3, 1, 0, 0) := by decide +kernel
theorem c146_2 : gP 146 2 = some (.iload 3, 1, 0, 0) := by decide +kernel
theorem c146_3 : gP 146 3 = some (.aload 0, 1, 0, 0) := by decide +kernel
theorem c146_4 : gP 146 4 = some (.getfield 25, 3, 8, 47) := by decide +kernel
theorem c146_7 : gP 146 7 = some (.aload 0, 1, 0, 0) := by decide +kernel
theorem c146_8 : gP 146 8 = some (.getfield 18, 3, 8, 221) := by decide +kernel
theorem c146_11 : gP 146 11 = some (.iaload, 1, 0, 0) := by decide +kernel
theorem c146_12 : gP 146 12 = some (.if_icmp .ge 45, 3, 0, 0) := by decide +kernel
theorem c146_15 : gP 146 15 = some (.aload 0, 1, 0, 0) := by decide +kernel
theorem c146_16 : gP 146 16 = some (.aload 0, 1, 0, 0) := by decide +kernel
theorem c146_17 : gP 146 17 = some (.getfield 41, 3, 8, 96) := by decide +kernel
theorem c146_20 : gP 146 20 = some (.iconst 12, 2, 0, 0) := by decide +kernel
theorem c146_22 : gP 146 22 = some (.iload 2, 1, 0, 0) := by decide +kernel
theorem c146_23 : gP 146 23 = some (.imul, 1, 0, 0) := by decide +kernel
theorem c146_24 : gP 146 24 = some (.iload 3, 1, 0, 0) := by decide +kernel
theorem c146_25 : gP 146 25 = some (.iadd, 1, 0, 0) := by decide +kernel
theorem c146_26 : gP 146 26 = some (.iaload, 1, 0, 0) := by decide +kernel
theorem c146_27 : gP 146 27 = some (.invokeinterface 144 341, 3, 2, 1) := by decide +kernel
theorem c146_30 : gP 146 30 = some (.ifCond .eq 39, 3, 0, 0) := by decide +kernel
theorem c146_33 : gP 146 33 = some (.aload 0, 1, 0, 0) := by decide +kernel
theorem c146_34 : gP 146 34 = some (.iload 1, 1, 0, 0) := by decide +kernel
theorem c146_35 : gP 146 35 = some (.iload 3, 1, 0, 0) := by decide +kernel
theorem c146_36 : gP 146 36 = some (.invokeinterface 145 344, 3, 3, 1) := by decide +kernel
theorem c146_39 : gP 146 39 = some (.iinc 3 1, 3, 0, 0) := by decide +kernel
theorem c146_42 : gP 146 42 = some (.goto 2, 3, 0, 0) := by decide +kernel
theorem c146_45 : gP 146 45 = some (.return_, 1, 0, 0) := by decide +kernel
theorem c147_0 : gP 147 0 = some (.aload 0, 1, 0, 0) := by decide +kernel
theorem c147_1 : gP 147 1 = some (.getfield 40, 3, 8, 93) := by decide +kernel
theorem c147_4 : gP 147 4 = some (.iload 1, 1, 0, 0) := by decide +kernel
theorem c147_5 : gP 147 5 = some (.iaload, 1, 0, 0) := by decide +kernel
theorem c147_6 : gP 147 6 = some (.iconst 4, 1, 0, 0) := by decide +kernel
theorem c147_7 : gP 147 7 = some (.if_icmp .ne 14, 3, 0, 0) := by decide +kernel
theorem c147_10 : gP 147 10 = some (.iconst 1, 1, 0, 0) := by decide +kernel
theorem c147_11 : gP 147 11 = some (.goto 15, 3, 0, 0) := by decide +kernel
theorem c147_14 : gP 147 14 = some (.iconst 0, 1, 0, 0) := by decide +kernel
theorem c147_15 : gP 147 15 = some (.istore 2, 1, 0, 0) := by decide +kernel
theorem c147_16 : gP 147 16 = some (.aload 0, 1, 0, 0) := by decide +kernel
theorem c147_17 : gP 147 17 = some (.getfield 40, 3, 8, 93) := by decide +kernel
theorem c147_20 : gP 147 20 = some (.iload 1, 1, 0, 0) := by decide +kernel
theorem c147_21 : gP 147 21 = some (.iconst 4, 1, 0, 0) := by decide +kernel
theorem c147_22 : gP 147 22 = some (.iadd, 1, 0, 0) := by decide +kernel
theorem c147_23 : gP 147 23 = some (.iaload, 1, 0, 0) := by decide +kernel
theorem c147_24 : gP 147 24 = some (.istore 3, 1, 0, 0) := by decide +kernel
theorem c147_25 : gP 147 25 = some (.iload 2, 1, 0, 0) := by decide +kernel
theorem c147_26 : gP 147 26 = some (.ifCond .eq 40, 3, 0, 0) := by decide +kernel
theorem c147_29 : gP 147 29 = some (.aload 0, 1, 0, 0) := by decide +kernel
theorem c147_30 : gP 147 30 = some (.getfield 40, 3, 8, 93) := by decide +kernel
theorem c147_33 : gP 147 33 = some (.iload 1, 1, 0, 0) := by decide +kernel
theorem c147_34 : gP 147 34 = some (.iconst 3, 1, 0, 0) := by decide +kernel
theorem c147_35 : gP 147 35 = some (.iadd, 1, 0, 0) := by decide +kernel
theorem c147_36 : gP 147 36 = some (.iaload, 1, 0, 0) := by decide +kernel
theorem c147_37 : gP 147 37 = some (.goto 48, 3, 0, 0) := by decide +kernel
theorem c147_40 : gP 147 40 = some (.aload 0, 1, 0, 0) := by decide +kernel
theorem c147_41 : gP 147 41 = some (.getfield 40, 3, 8, 93) := by decide +kernel
theorem c147_44 : gP 147 44 = some (.iload 1, 1, 0, 0) := by decide +kernel
theorem c147_45 : gP 147 45 = some (.iconst 2, 1, 0, 0) := by decide +kernel
theorem c147_46 : gP 147 46 = some (.iadd, 1, 0, 0) := by decide +kernel
theorem c147_47 : gP 147 47 = some (.iaload, 1, 0, 0) := by decide +kernel
theorem c147_48 : gP 147 48 = some (.istore 4, 2, 0, 0) := by decide +kernel
theorem c147_50 : gP 147 50 = some (.iconst 0, 1, 0, 0) := by decide +kernel
theorem c147_51 : gP 147 51 = some (.istore 5, 2, 0, 0) := by decide +kernel
theorem c147_53 : gP 147 53 = some (.iload 5, 2, 0, 0) := by decide +kernel
theorem c147_55 : gP 147 55 = some (.aload 0, 1, 0, 0) := by decide +kernel
theorem c147_56 : gP 147 56 = some (.getfield 25, 3, 8, 47) := by decide +kernel
theorem c147_59 : gP 147 59 = some (.aload 0, 1, 0, 0) := by decide +kernel
theorem c147_60 : gP 147 60 = some (.getfield 18, 3, 8, 221) := by decide +kernel
theorem c147_63 : gP 147 63 = some (.iaload, 1, 0, 0) := by decide +kernel
theorem c147_64 : gP 147 64 = some (.if_icmp .ge 250, 3, 0, 0) := by decide +kernel
theorem c147_67 : gP 147 67 = some (.iload 3, 1, 0, 0) := by decide +kernel
theorem c147_68 : gP 147 68 = some (.ifCond .lt 250, 3, 0, 0) := by decide +kernel
theorem c147_71 : gP 147 71 = some (.aload 0, 1, 0, 0) := by decide +kernel
theorem c147_72 : gP 147 72 = some (.aload 0, 1, 0, 0) := by decide +kernel
theorem c147_73 : gP 147 73 = some (.getfield 41, 3, 8, 96) := by decide +kernel
theorem c147_76 : gP 147 76 = some (.iconst 12, 2, 0, 0) := by decide +kernel
theorem c147_78 : gP 147 78 = some (.iload 4, 2, 0, 0) := by decide +kernel
theorem c147_80 : gP 147 80 = some (.imul, 1, 0, 0) := by decide +kernel
theorem c147_81 : gP 147 81 = some (.iload 5, 2, 0, 0) := by decide +kernel
theorem c147_83 : gP 147 83 = some (.iadd, 1, 0, 0) := by decide +kernel
theorem c147_84 : gP 147 84 = some (.iaload, 1, 0, 0) := by decide +kernel
theorem c147_85 : gP 147 85 = some (.invokeinterface 144 341, 3, 2, 1) := by decide +kernel
theorem c147_88 : gP 147 88 = some (.ifCond .eq 244, 3, 0, 0) := by decide +kernel
theorem c147_91 : gP 147 91 = some (.iconst 0, 1, 0, 0) := by decide +kernel
theorem c147_92 : gP 147 92 = some (.istore 6, 2, 0, 0) := by decide +kernel
theorem c147_94 : gP 147 94 = some (.iload 6, 2, 0, 0) := by decide +kernel
theorem c147_96 : gP 147 96 = some (.aload 0, 1, 0, 0) := by decide +kernel
theorem c147_97 : gP 147 97 = some (.getfield 25, 3, 8, 47) := by decide +kernel
theorem c147_100 : gP 147 100 = some (.aload 0, 1, 0, 0) := by decide +kernel
theorem c147_101 : gP 147 101 = some (.getfield 18, 3, 8, 221) := by decide +kernel
theorem c147_104 : gP 147 104 = some (.iaload, 1, 0, 0) := by decide +kernel
theorem c147_105 : gP 147 105 = some (.if_icmp .ge 244, 3, 0, 0) := by decide +kernel
theorem c147_108 : gP 147 108 = some (.iconst 96, 2, 0, 0) := by decide +kernel
theorem c147_110 : gP 147 110 = some (.iload 5, 2, 0, 0) := by decide +kernel
theorem c147_112 : gP 147 112 = some (.imul, 1, 0, 0) := by decide +kernel
theorem c147_113 : gP 147 113 = some (.iconst 12, 2, 0, 0) := by decide +kernel
theorem c147_115 : gP 147 115 = some (.iload 3, 1, 0, 0) := by decide +kernel
theorem c147_116 : gP 147 116 = some (.imul, 1, 0, 0) := by decide +kernel
theorem c147_117 : gP 147 117 = some (.iadd, 1, 0, 0) := by decide +kernel
theorem c147_118 : gP 147 118 = some (.iload 6, 2, 0, 0) := by decide +kernel
theorem c147_120 : gP 147 120 = some (.iadd, 1, 0, 0) := by decide +kernel
theorem c147_121 : gP 147 121 = some (.istore 7, 2, 0, 0) := by decide +kernel
theorem c147_123 : gP 147 123 = some (.iload 2, 1, 0, 0) := by decide +kernel
theorem c147_124 : gP 147 124 = some (.ifCond .eq 155, 3, 0, 0) := by decide +kernel
theorem c147_127 : gP 147 127 = some (.aload 0, 1, 0, 0) := by decide +kernel
theorem c147_128 : gP 147 128 = some (.aload 0, 1, 0, 0) := by decide +kernel
theorem c147_129 : gP 147 129 = some (.getfield 42, 3, 8, 99) := by decide +kernel
theorem c147_132 : gP 147 132 = some (.iload 7, 2, 0, 0) := by decide +kernel
theorem c147_134 : gP 147 134 = some (.iaload, 1, 0, 0) := by decide +kernel
theorem c147_135 : gP 147 135 = some (.invokeinterface 144 341, 3, 2, 1) := by decide +kernel
theorem c147_138 : gP 147 138 = some (.ifCond .eq 155, 3, 0, 0) := by decide +kernel
theorem c147_141 : gP 147 141 = some (.aload 0, 1, 0, 0) := by decide +kernel
theorem c147_142 : gP 147 142 = some (.aload 0, 1, 0, 0) := by decide +kernel
theorem c147_143 : gP 147 143 = some (.getfield 40, 3, 8, 93) := by decide +kernel
theorem c147_146 : gP 147 146 = some (.iload 1, 1, 0, 0) := by decide +kernel
theorem c147_147 : gP 147 147 = some (.iconst 2, 1, 0, 0) := by decide +kernel
theorem c147_148 : gP 147 148 = some (.iadd, 1, 0, 0) := by decide +kernel
theorem c147_149 : gP 147 149 = some (.iaload, 1, 0, 0) := by decide +kernel
theorem c147_150 : gP 147 150 = some (.iload 6, 2, 0, 0) := by decide +kernel
theorem c147_152 : gP 147 152 = some (.invokeinterface 145 344, 3, 3, 1) := by decide +kernel
theorem c147_155 : gP 147 155 = some (.iload 2, 1, 0, 0) := by decide +kernel
theorem c147_156 : gP 147 156 = some (.ifCond .ne 238, 3, 0, 0) := by decide +kernel
theorem c147_159 : gP 147 159 = some (.aload 0, 1, 0, 0) := by decide +kernel
theorem c147_160 : gP 147 160 = some (.aload 0, 1, 0, 0) := by decide +kernel
theorem c147_161 : gP 147 161 = some (.getfield 41, 3, 8, 96) := by decide +kernel
theorem c147_164 : gP 147 164 = some (.iconst 12, 2, 0, 0) := by decide +kernel
theorem c147_166 : gP 147 166 = some (.aload 0, 1, 0, 0) := by decide +kernel
theorem c147_167 : gP 147 167 = some (.getfield 40, 3, 8, 93) := by decide +kernel
theorem c147_170 : gP 147 170 = some (.iload 1, 1, 0, 0) := by decide +kernel
theorem c147_171 : gP 147 171 = some (.iconst 3, 1, 0, 0) := by decide +kernel
theorem c147_172 : gP 147 172 = some (.iadd, 1, 0, 0) := by decide +kernel
theorem c147_173 : gP 147 173 = some (.iaload, 1, 0, 0) := by decide +kernel
theorem c147_174 : gP 147 174 = some (.imul, 1, 0, 0) := by decide +kernel
theorem c147_175 : gP 147 175 = some (.iload 6, 2, 0, 0) := by decide +kernel
theorem c147_177 : gP 147 177 = some (.iadd, 1, 0, 0) := by decide +kernel
theorem c147_178 : gP 147 178 = some (.iaload, 1, 0, 0) := by decide +kernel
theorem c147_179 : gP 147 179 = some (.invokeinterface 144 341, 3, 2, 1) := by decide +kernel
theorem c147_182 : gP 147 182 = some (.ifCond .eq 238, 3, 0, 0) := by decide +kernel
theorem c147_185 : gP 147 185 = some (.aload 0, 1, 0, 0) := by decide +kernel
theorem c147_186 : gP 147 186 = some (.getfield 42, 3, 8, 99) := by decide +kernel
theorem c147_189 : gP 147 189 = some (.iload 7, 2, 0, 0) := by decide +kernel
theorem c147_191 : gP 147 191 = some (.iaload, 1, 0, 0) := by decide +kernel
theorem c147_192 : gP 147 192 = some (.ifCond .ge 238, 3, 0, 0) := by decide +kernel
theorem c147_195 : gP 147 195 = some (.aload 0, 1, 0, 0) := by decide +kernel
theorem c147_196 : gP 147 196 = some (.aload 0, 1, 0, 0) := by decide +kernel
theorem c147_197 : gP 147 197 = some (.getfield 18, 3, 8, 221) := by decide +kernel
theorem c147_200 : gP 147 200 = some (.aload 0, 1, 0, 0) := by decide +kernel
theorem c147_201 : gP 147 201 = some (.getfield 37, 3, 8, 84) := by decide +kernel
theorem c147_204 : gP 147 204 = some (.iconst 12, 2, 0, 0) := by decide +kernel
theorem c147_206 : gP 147 206 = some (.aload 0, 1, 0, 0) := by decide +kernel
theorem c147_207 : gP 147 207 = some (.getfield 18, 3, 8, 221) := by decide +kernel
theorem c147_210 : gP 147 210 = some (.imul, 1, 0, 0) := by decide +kernel
theorem c147_211 : gP 147 211 = some (.iload 5, 2, 0, 0) := by decide +kernel
theorem c147_213 : gP 147 213 = some (.iadd, 1, 0, 0) := by decide +kernel
theorem c147_214 : gP 147 214 = some (.iaload, 1, 0, 0) := by decide +kernel
theorem c147_215 : gP 147 215 = some (.iload 3, 1, 0, 0) := by decide +kernel
theorem c147_216 : gP 147 216 = some (.invokeinterface 121 244, 3, 4, 1) := by decide +kernel
theorem c147_219 : gP 147 219 = some (.ifCond .eq 238, 3, 0, 0) := by decide +kernel
theorem c147_222 : gP 147 222 = some (.aload 0, 1, 0, 0) := by decide +kernel
theorem c147_223 : gP 147 223 = some (.getfield 42, 3, 8, 99) := by decide +kernel
theorem c147_226 : gP 147 226 = some (.iload 7, 2, 0, 0) := by decide +kernel
theorem c147_228 : gP 147 228 = some (.aload 0, 1, 0, 0) := by decide +kernel
theorem c147_229 : gP 147 229 = some (.getfield 45, 3, 8, 335) := by decide +kernel
theorem c147_232 : gP 147 232 = some (.iastore, 1, 0, 0) := by decide +kernel
theorem c147_233 : gP 147 233 = some (.aload 0, 1, 0, 0) := by decide +kernel
theorem c147_234 : gP 147 234 = some (.iconst 1, 1, 0, 0) := by decide +kernel
theorem c147_235 : gP 147 235 = some (.putfield 46, 3, 8, 1) := by decide +kernel
theorem c147_238 : gP 147 238 = some (.iinc 6 1, 3, 0, 0) := by decide +kernel
theorem c147_241 : gP 147 241 = some (.goto 94, 3, 0, 0) := by decide +kernel
theorem c147_244 : gP 147 244 = some (.iinc 5 1, 3, 0, 0) := by decide +kernel
theorem c147_247 : gP 147 247 = some (.goto 53, 3, 0, 0) := by decide +kernel
theorem c147_250 : gP 147 250 = some (.return_, 1, 0, 0) := by decide +kernel
theorem c148_0 : gP 148 0 = some (.aload 0, 1, 0, 0) := by decide +kernel
theorem c148_1 : gP 148 1 = some (.getfield 40, 3, 8, 93) := by decide +kernel
theorem c148_4 : gP 148 4 = some (.iload 1, 1, 0, 0) := by decide +kernel
theorem c148_5 : gP 148 5 = some (.iconst 3, 1, 0, 0) := by decide +kernel
theorem c148_6 : gP 148 6 = some (.iadd, 1, 0, 0) := by decide +kernel
theorem c148_7 : gP 148 7 = some (.iaload, 1, 0, 0) := by decide +kernel
theorem c148_8 : gP 148 8 = some (.istore 2, 1, 0, 0) := by decide +kernel
theorem c148_9 : gP 148 9 = some (.aload 0, 1, 0, 0) := by decide +kernel
theorem c148_10 : gP 148 10 = some (.getfield 40, 3, 8, 93) := by decide +kernel
theorem c148_13 : gP 148 13 = some (.iload 1, 1, 0, 0) := by decide +kernel
theorem c148_14 : gP 148 14 = some (.iconst 5, 1, 0, 0) := by decide +kernel
theorem c148_15 : gP 148 15 = some (.iadd, 1, 0, 0) := by decide +kernel
theorem c148_16 : gP 148 16 = some (.iaload, 1, 0, 0) := by decide +kernel
theorem c148_17 : gP 148 17 = some (.iconst 16, 2, 0, 0) := by decide +kernel
theorem c148_19 : gP 148 19 = some (.idiv, 1, 0, 0) := by decide +kernel
theorem c148_20 : gP 148 20 = some (.istore 3, 1, 0, 0) := by decide +kernel
theorem c148_21 : gP 148 21 = some (.aload 0, 1, 0, 0) := by decide +kernel
theorem c148_22 : gP 148 22 = some (.getfield 40, 3, 8, 93) := by decide +kernel
theorem c148_25 : gP 148 25 = some (.iload 1, 1, 0, 0) := by decide +kernel
theorem c148_26 : gP 148 26 = some (.iconst 5, 1, 0, 0) := by decide +kernel
theorem c148_27 : gP 148 27 = some (.iadd, 1, 0, 0) := by decide +kernel
theorem c148_28 : gP 148 28 = some (.iaload, 1, 0, 0) := by decide +kernel
theorem c148_29 : gP 148 29 = some (.iconst 16, 2, 0, 0) := by decide +kernel
theorem c148_31 : gP 148 31 = some (.irem, 1, 0, 0) := by decide +kernel
theorem c148_32 : gP 148 32 = some (.istore 4, 2, 0, 0) := by decide +kernel
theorem c148_34 : gP 148 34 = some (.iconst 0, 1, 0, 0) := by decide +kernel
theorem c148_35 : gP 148 35 = some (.istore 5, 2, 0, 0) := by decide +kernel
theorem c148_37 : gP 148 37 = some (.iload 5, 2, 0, 0) := by decide +kernel
theorem c148_39 : gP 148 39 = some (.aload 0, 1, 0, 0) := by decide +kernel
theorem c148_40 : gP 148 40 = some (.getfield 25, 3, 8, 47) := by decide +kernel
theorem c148_43 : gP 148 43 = some (.aload 0, 1, 0, 0) := by decide +kernel
theorem c148_44 : gP 148 44 = some (.getfield 18, 3, 8, 221) := by decide +kernel
theorem c148_47 : gP 148 47 = some (.iaload, 1, 0, 0) := by decide +kernel
theorem c148_48 : gP 148 48 = some (.if_icmp .ge 205, 3, 0, 0) := by decide +kernel
theorem c148_51 : gP 148 51 = some (.aload 0, 1, 0, 0) := by decide +kernel
theorem c148_52 : gP 148 52 = some (.aload 0, 1, 0, 0) := by decide +kernel
theorem c148_53 : gP 148 53 = some (.getfield 41, 3, 8, 96) := by decide +kernel
theorem c148_56 : gP 148 56 = some (.iconst 12, 2, 0, 0) := by decide +kernel
theorem c148_58 : gP 148 58 = some (.iload 2, 1, 0, 0) := by decide +kernel
theorem c148_59 : gP 148 59 = some (.imul, 1, 0, 0) := by decide +kernel
theorem c148_60 : gP 148 60 = some (.iload 5, 2, 0, 0) := by decide +kernel
theorem c148_62 : gP 148 62 = some (.iadd, 1, 0, 0) := by decide +kernel
theorem c148_63 : gP 148 63 = some (.iaload, 1, 0, 0) := by decide +kernel
theorem c148_64 : gP 148 64 = some (.invokeinterface 144 341, 3, 2, 1) := by decide +kernel
theorem c148_67 : gP 148 67 = some (.ifCond .eq 106, 3, 0, 0) := by decide +kernel
theorem c148_70 : gP 148 70 = some (.aload 0, 1, 0, 0) := by decide +kernel
theorem c148_71 : gP 148 71 = some (.aload 0, 1, 0, 0) := by decide +kernel
theorem c148_72 : gP 148 72 = some (.getfield 18, 3, 8, 221) := by decide +kernel
theorem c148_75 : gP 148 75 = some (.aload 0, 1, 0, 0) := by decide +kernel
theorem c148_76 : gP 148 76 = some (.getfield 37, 3, 8, 84) := by decide +kernel
theorem c148_79 : gP 148 79 = some (.iconst 12, 2, 0, 0) := by decide +kernel
theorem c148_81 : gP 148 81 = some (.aload 0, 1, 0, 0) := by decide +kernel
theorem c148_82 : gP 148 82 = some (.getfield 18, 3, 8, 221) := by decide +kernel
theorem c148_85 : gP 148 85 = some (.imul, 1, 0, 0) := by decide +kernel
theorem c148_86 : gP 148 86 = some (.iload 5, 2, 0, 0) := by decide +kernel
theorem c148_88 : gP 148 88 = some (.iadd, 1, 0, 0) := by decide +kernel
theorem c148_89 : gP 148 89 = some (.iaload, 1, 0, 0) := by decide +kernel
theorem c148_90 : gP 148 90 = some (.aload 0, 1, 0, 0) := by decide +kernel
theorem c148_91 : gP 148 91 = some (.getfield 40, 3, 8, 93) := by decide +kernel
theorem c148_94 : gP 148 94 = some (.iload 1, 1, 0, 0) := by decide +kernel
theorem c148_95 : gP 148 95 = some (.iconst 4, 1, 0, 0) := by decide +kernel
theorem c148_96 : gP 148 96 = some (.iadd, 1, 0, 0) := by decide +kernel
theorem c148_97 : gP 148 97 = some (.iaload, 1, 0, 0) := by decide +kernel
theorem c148_98 : gP 148 98 = some (.iload 4, 2, 0, 0) := by decide +kernel
theorem c148_100 : gP 148 100 = some (.invokeinterface 142 332, 3, 5, 1) := by decide +kernel
theorem c148_103 : gP 148 103 = some (.goto 107, 3, 0, 0) := by decide +kernel
theorem c148_106 : gP 148 106 = some (.iconst (-1), 1, 0, 0) := by decide +kernel
theorem c148_107 : gP 148 107 = some (.istore 6, 2, 0, 0) := by decide +kernel
theorem c148_109 : gP 148 109 = some (.iload 6, 2, 0, 0) := by decide +kernel
theorem c148_111 : gP 148 111 = some (.ifCond .lt 199, 3, 0, 0) := by decide +kernel
theorem c148_114 : gP 148 114 = some (.aload 0, 1, 0, 0) := by decide +kernel
theorem c148_115 : gP 148 115 = some (.getfield 43, 3, 8, 102) := by decide +kernel
theorem c148_118 : gP 148 118 = some (.iconst 10, 2, 0, 0) := by decide +kernel
theorem c148_120 : gP 148 120 = some (.iload 3, 1, 0, 0) := by decide +kernel
theorem c148_121 : gP 148 121 = some (.imul, 1, 0, 0) := by decide +kernel
theorem c148_122 : gP 148 122 = some (.iload 6, 2, 0, 0) := by decide +kernel
theorem c148_124 : gP 148 124 = some (.iadd, 1, 0, 0) := by decide +kernel
theorem c148_125 : gP 148 125 = some (.iaload, 1, 0, 0) := by decide +kernel
theorem c148_126 : gP 148 126 = some (.ifCond .ge 150, 3, 0, 0) := by decide +kernel
theorem c148_129 : gP 148 129 = some (.aload 0, 1, 0, 0) := by decide +kernel
theorem c148_130 : gP 148 130 = some (.getfield 43, 3, 8, 102) := by decide +kernel
theorem c148_133 : gP 148 133 = some (.iconst 10, 2, 0, 0) := by decide +kernel
theorem c148_135 : gP 148 135 = some (.iload 3, 1, 0, 0) := by decide +kernel
theorem c148_136 : gP 148 136 = some (.imul, 1, 0, 0) := by decide +kernel
theorem c148_137 : gP 148 137 = some (.iload 6, 2, 0, 0) := by decide +kernel
theorem c148_139 : gP 148 139 = some (.iadd, 1, 0, 0) := by decide +kernel
theorem c148_140 : gP 148 140 = some (.aload 0, 1, 0, 0) := by decide +kernel
theorem c148_141 : gP 148 141 = some (.getfield 45, 3, 8, 335) := by decide +kernel
theorem c148_144 : gP 148 144 = some (.iastore, 1, 0, 0) := by decide +kernel
theorem c148_145 : gP 148 145 = some (.aload 0, 1, 0, 0) := by decide +kernel
theorem c148_146 : gP 148 146 = some (.iconst 1, 1, 0, 0) := by decide +kernel
theorem c148_147 : gP 148 147 = some (.putfield 46, 3, 8, 1) := by decide +kernel
theorem c148_150 : gP 148 150 = some (.aload 0, 1, 0, 0) := by decide +kernel
theorem c148_151 : gP 148 151 = some (.getfield 44, 3, 8, 105) := by decide +kernel
theorem c148_154 : gP 148 154 = some (.iload 6, 2, 0, 0) := by decide +kernel
theorem c148_156 : gP 148 156 = some (.iaload, 1, 0, 0) := by decide +kernel
theorem c148_157 : gP 148 157 = some (.ifCond .ge 176, 3, 0, 0) := by decide +kernel
theorem c148_160 : gP 148 160 = some (.aload 0, 1, 0, 0) := by decide +kernel
theorem c148_161 : gP 148 161 = some (.getfield 44, 3, 8, 105) := by decide +kernel
theorem c148_164 : gP 148 164 = some (.iload 6, 2, 0, 0) := by decide +kernel
theorem c148_166 : gP 148 166 = some (.aload 0, 1, 0, 0) := by decide +kernel
theorem c148_167 : gP 148 167 = some (.getfield 45, 3, 8, 335) := by decide +kernel
theorem c148_170 : gP 148 170 = some (.iastore, 1, 0, 0) := by decide +kernel
theorem c148_171 : gP 148 171 = some (.aload 0, 1, 0, 0) := by decide +kernel
theorem c148_172 : gP 148 172 = some (.iconst 1, 1, 0, 0) := by decide +kernel
theorem c148_173 : gP 148 173 = some (.putfield 46, 3, 8, 1) := by decide +kernel
theorem c148_176 : gP 148 176 = some (.aload 0, 1, 0, 0) := by decide +kernel
theorem c148_177 : gP 148 177 = some (.aload 0, 1, 0, 0) := by decide +kernel
theorem c148_178 : gP 148 178 = some (.getfield 35, 3, 8, 78) := by decide +kernel
theorem c148_181 : gP 148 181 = some (.iconst 10, 2, 0, 0) := by decide +kernel
theorem c148_183 : gP 148 183 = some (.aload 0, 1, 0, 0) := by decide +kernel
theorem c148_184 : gP 148 184 = some (.getfield 18, 3, 8, 221) := by decide +kernel
theorem c148_187 : gP 148 187 = some (.imul, 1, 0, 0) := by decide +kernel
theorem c148_188 : gP 148 188 = some (.iload 6, 2, 0, 0) := by decide +kernel
theorem c148_190 : gP 148 190 = some (.iadd, 1, 0, 0) := by decide +kernel
theorem c148_191 : gP 148 191 = some (.iaload, 1, 0, 0) := by decide +kernel
theorem c148_192 : gP 148 192 = some (.iconst 1, 1, 0, 0) := by decide +kernel
theorem c148_193 : gP 148 193 = some (.iadd, 1, 0, 0) := by decide +kernel
theorem c148_194 : gP 148 194 = some (.iload 5, 2, 0, 0) := by decide +kernel
theorem c148_196 : gP 148 196 = some (.invokeinterface 145 344, 3, 3, 1) := by decide +kernel
theorem c148_199 : gP 148 199 = some (.iinc 5 1, 3, 0, 0) := by decide +kernel
theorem c148_202 : gP 148 202 = some (.goto 37, 3, 0, 0) := by decide +kernel
theorem c148_205 : gP 148 205 = some (.iconst 0, 1, 0, 0) := by decide +kernel
theorem c148_206 : gP 148 206 = some (.istore 5, 2, 0, 0) := by decide +kernel
theorem c148_208 : gP 148 208 = some (.iload 5, 2, 0, 0) := by decide +kernel
theorem c148_210 : gP 148 210 = some (.aload 0, 1, 0, 0) := by decide +kernel
theorem c148_211 : gP 148 211 = some (.getfield 21, 3, 8, 35) := by decide +kernel
theorem c148_214 : gP 148 214 = some (.aload 0, 1, 0, 0) := by decide +kernel
theorem c148_215 : gP 148 215 = some (.getfield 18, 3, 8, 221) := by decide +kernel
theorem c148_218 : gP 148 218 = some (.iaload, 1, 0, 0) := by decide +kernel
theorem c148_219 : gP 148 219 = some (.if_icmp .ge 328, 3, 0, 0) := by decide +kernel
theorem c148_222 : gP 148 222 = some (.aload 0, 1, 0, 0) := by decide +kernel
theorem c148_223 : gP 148 223 = some (.aload 0, 1, 0, 0) := by decide +kernel
theorem c148_224 : gP 148 224 = some (.getfield 43, 3, 8, 102) := by decide +kernel
theorem c148_227 : gP 148 227 = some (.iconst 10, 2, 0, 0) := by decide +kernel
theorem c148_229 : gP 148 229 = some (.iload 3, 1, 0, 0) := by decide +kernel
theorem c148_230 : gP 148 230 = some (.imul, 1, 0, 0) := by decide +kernel
theorem c148_231 : gP 148 231 = some (.iload 5, 2, 0, 0) := by decide +kernel
theorem c148_233 : gP 148 233 = some (.iadd, 1, 0, 0) := by decide +kernel
theorem c148_234 : gP 148 234 = some (.iaload, 1, 0, 0) := by decide +kernel
theorem c148_235 : gP 148 235 = some (.invokeinterface 144 341, 3, 2, 1) := by decide +kernel
theorem c148_238 : gP 148 238 = some (.ifCond .eq 322, 3, 0, 0) := by decide +kernel
theorem c148_241 : gP 148 241 = some (.aload 0, 1, 0, 0) := by decide +kernel
theorem c148_242 : gP 148 242 = some (.getfield 35, 3, 8, 78) := by decide +kernel
theorem c148_245 : gP 148 245 = some (.iconst 10, 2, 0, 0) := by decide +kernel
theorem c148_247 : gP 148 247 = some (.aload 0, 1, 0, 0) := by decide +kernel
theorem c148_248 : gP 148 248 = some (.getfield 18, 3, 8, 221) := by decide +kernel
theorem c148_251 : gP 148 251 = some (.imul, 1, 0, 0) := by decide +kernel
theorem c148_252 : gP 148 252 = some (.iload 5, 2, 0, 0) := by decide +kernel
theorem c148_254 : gP 148 254 = some (.iadd, 1, 0, 0) := by decide +kernel
theorem c148_255 : gP 148 255 = some (.iaload, 1, 0, 0) := by decide +kernel
theorem c148_256 : gP 148 256 = some (.istore 6, 2, 0, 0) := by decide +kernel
theorem c148_258 : gP 148 258 = some (.iconst 0, 1, 0, 0) := by decide +kernel
theorem c148_259 : gP 148 259 = some (.istore 7, 2, 0, 0) := by decide +kernel
theorem c148_261 : gP 148 261 = some (.iload 7, 2, 0, 0) := by decide +kernel
theorem c148_263 : gP 148 263 = some (.iload 4, 2, 0, 0) := by decide +kernel
theorem c148_265 : gP 148 265 = some (.if_icmp .ge 297, 3, 0, 0) := by decide +kernel
theorem c148_268 : gP 148 268 = some (.aload 0, 1, 0, 0) := by decide +kernel
theorem c148_269 : gP 148 269 = some (.iload 6, 2, 0, 0) := by decide +kernel
theorem c148_271 : gP 148 271 = some (.iconst 2, 1, 0, 0) := by decide +kernel
theorem c148_272 : gP 148 272 = some (.iadd, 1, 0, 0) := by decide +kernel
theorem c148_273 : gP 148 273 = some (.iload 7, 2, 0, 0) := by decide +kernel
theorem c148_275 : gP 148 275 = some (.iadd, 1, 0, 0) := by decide +kernel
theorem c148_276 : gP 148 276 = some (.aload 0, 1, 0, 0) := by decide +kernel
theorem c148_277 : gP 148 277 = some (.getfield 40, 3, 8, 93) := by decide +kernel
theorem c148_280 : gP 148 280 = some (.iload 1, 1, 0, 0) := by decide +kernel
theorem c148_281 : gP 148 281 = some (.iconst 6, 2, 0, 0) := by decide +kernel
theorem c148_283 : gP 148 283 = some (.iadd, 1, 0, 0) := by decide +kernel
theorem c148_284 : gP 148 284 = some (.iload 7, 2, 0, 0) := by decide +kernel
theorem c148_286 : gP 148 286 = some (.iadd, 1, 0, 0) := by decide +kernel
theorem c148_287 : gP 148 287 = some (.iaload, 1, 0, 0) := by decide +kernel
theorem c148_288 : gP 148 288 = some (.invokeinterface 146 348, 3, 3, 1) := by decide +kernel
theorem c148_291 : gP 148 291 = some (.iinc 7 1, 3, 0, 0) := by decide +kernel
theorem c148_294 : gP 148 294 = some (.goto 261, 3, 0, 0) := by decide +kernel
theorem c148_297 : gP 148 297 = some (.aload 0, 1, 0, 0) := by decide +kernel
theorem c148_298 : gP 148 298 = some (.getfield 40, 3, 8, 93) := by decide +kernel
theorem c148_301 : gP 148 301 = some (.iload 1, 1, 0, 0) := by decide +kernel
theorem c148_302 : gP 148 302 = some (.iconst 2, 1, 0, 0) := by decide +kernel
theorem c148_303 : gP 148 303 = some (.iadd, 1, 0, 0) := by decide +kernel
theorem c148_304 : gP 148 304 = some (.iaload, 1, 0, 0) := by decide +kernel
theorem c148_305 : gP 148 305 = some (.ifCond .lt 322, 3, 0, 0) := by decide +kernel
theorem c148_308 : gP 148 308 = some (.aload 0, 1, 0, 0) := by decide +kernel
theorem c148_309 : gP 148 309 = some (.aload 0, 1, 0, 0) := by decide +kernel
theorem c148_310 : gP 148 310 = some (.getfield 40, 3, 8, 93) := by decide +kernel
theorem c148_313 : gP 148 313 = some (.iload 1, 1, 0, 0) := by decide +kernel
theorem c148_314 : gP 148 314 = some (.iconst 2, 1, 0, 0) := by decide +kernel
theorem c148_315 : gP 148 315 = some (.iadd, 1, 0, 0) := by decide +kernel
theorem c148_316 : gP 148 316 = some (.iaload, 1, 0, 0) := by decide +kernel
theorem c148_317 : gP 148 317 = some (.iload 6, 2, 0, 0) := by decide +kernel
theorem c148_319 : gP 148 319 = some (.invokeinterface 146 348, 3, 3, 1) := by decide +kernel
theorem c148_322 : gP 148 322 = some (.iinc 5 1, 3, 0, 0) := by decide +kernel
theorem c148_325 : gP 148 325 = some (.goto 208, 3, 0, 0) := by decide +kernel
theorem c148_328 : gP 148 328 = some (.return_, 1, 0, 0) := by decide +kernel
theorem c149_0 : gP 149 0 = some (.iload 2, 1, 0, 0) := by decide +kernel
theorem c149_1 : gP 149 1 = some (.istore 4, 2, 0, 0) := by decide +kernel
theorem c149_3 : gP 149 3 = some (.iload 4, 2, 0, 0) := by decide +kernel
theorem c149_5 : gP 149 5 = some (.ifCond .lt 31, 3, 0, 0) := by decide +kernel
theorem c149_8 : gP 149 8 = some (.iload 4, 2, 0, 0) := by decide +kernel
theorem c149_10 : gP 149 10 = some (.iload 3, 1, 0, 0) := by decide +kernel
theorem c149_11 : gP 149 11 = some (.if_icmp .eq 31, 3, 0, 0) := by decide +kernel
theorem c149_14 : gP 149 14 = some (.aload 0, 1, 0, 0) := by decide +kernel
theorem c149_15 : gP 149 15 = some (.getfield 29, 3, 8, 59) := by decide +kernel
theorem c149_18 : gP 149 18 = some (.iconst 6, 2, 0, 0) := by decide +kernel
theorem c149_20 : gP 149 20 = some (.iload 1, 1, 0, 0) := by decide +kernel
theorem c149_21 : gP 149 21 = some (.imul, 1, 0, 0) := by decide +kernel
theorem c149_22 : gP 149 22 = some (.iload 4, 2, 0, 0) := by decide +kernel
theorem c149_24 : gP 149 24 = some (.iadd, 1, 0, 0) := by decide +kernel
theorem c149_25 : gP 149 25 = some (.iaload, 1, 0, 0) := by decide +kernel
theorem c149_26 : gP 149 26 = some (.istore 4, 2, 0, 0) := by decide +kernel
theorem c149_28 : gP 149 28 = some (.goto 3, 3, 0, 0) := by decide +kernel
theorem c149_31 : gP 149 31 = some (.iload 4, 2, 0, 0) := by decide +kernel
theorem c149_33 : gP 149 33 = some (.iload 3, 1, 0, 0) := by decide +kernel
theorem c149_34 : gP 149 34 = some (.if_icmp .ne 41, 3, 0, 0) := by decide +kernel
theorem c149_37 : gP 149 37 = some (.iconst 1, 1, 0, 0) := by decide +kernel
theorem c149_38 : gP 149 38 = some (.goto 42, 3, 0, 0) := by decide +kernel
theorem c149_41 : gP 149 41 = some (.iconst 0, 1, 0, 0) := by decide +kernel
theorem c149_42 : gP 149 42 = some (.ireturn, 1, 1, 0) := by decide +kernel
theorem c150_0 : gP 150 0 = some (.aload 0, 1, 0, 0) := by decide +kernel
theorem c150_1 : gP 150 1 = some (.getfield 40, 3, 8, 93) := by decide +kernel
theorem c150_4 : gP 150 4 = some (.iload 1, 1, 0, 0) := by decide +kernel
theorem c150_5 : gP 150 5 = some (.iaload, 1, 0, 0) := by decide +kernel
theorem c150_6 : gP 150 6 = some (.istore 2, 1, 0, 0) := by decide +kernel
theorem c150_7 : gP 150 7 = some (.aload 0, 1, 0, 0) := by decide +kernel
theorem c150_8 : gP 150 8 = some (.getfield 40, 3, 8, 93) := by decide +kernel
theorem c150_11 : gP 150 11 = some (.iload 1, 1, 0, 0) := by decide +kernel
theorem c150_12 : gP 150 12 = some (.iconst 2, 1, 0, 0) := by decide +kernel
theorem c150_13 : gP 150 13 = some (.iadd, 1, 0, 0) := by decide +kernel
theorem c150_14 : gP 150 14 = some (.iaload, 1, 0, 0) := by decide +kernel
theorem c150_15 : gP 150 15 = some (.istore 3, 1, 0, 0) := by decide +kernel
theorem c150_16 : gP 150 16 = some (.aload 0, 1, 0, 0) := by decide +kernel
theorem c150_17 : gP 150 17 = some (.getfield 40, 3, 8, 93) := by decide +kernel
theorem c150_20 : gP 150 20 = some (.iload 1, 1, 0, 0) := by decide +kernel
theorem c150_21 : gP 150 21 = some (.iconst 3, 1, 0, 0) := by decide +kernel
theorem c150_22 : gP 150 22 = some (.iadd, 1, 0, 0) := by decide +kernel
theorem c150_23 : gP 150 23 = some (.iaload, 1, 0, 0) := by decide +kernel
theorem c150_24 : gP 150 24 = some (.istore 4, 2, 0, 0) := by decide +kernel
theorem c150_26 : gP 150 26 = some (.iload 2, 1, 0, 0) := by decide +kernel
theorem c150_27 : gP 150 27 = some (.iconst 1, 1, 0, 0) := by decide +kernel
theorem c150_28 : gP 150 28 = some (.if_icmp .ne 41, 3, 0, 0) := by decide +kernel
theorem c150_31 : gP 150 31 = some (.aload 0, 1, 0, 0) := by decide +kernel
theorem c150_32 : gP 150 32 = some (.iload 3, 1, 0, 0) := by decide +kernel
theorem c150_33 : gP 150 33 = some (.iload 4, 2, 0, 0) := by decide +kernel
theorem c150_35 : gP 150 35 = some (.invokeinterface 145 344, 3, 3, 1) := by decide +kernel
theorem c150_38 : gP 150 38 = some (.goto 225, 3, 0, 0) := by decide +kernel
theorem c150_41 : gP 150 41 = some (.iload 2, 1, 0, 0) := by decide +kernel
theorem c150_42 : gP 150 42 = some (.iconst 2, 1, 0, 0) := by decide +kernel
theorem c150_43 : gP 150 43 = some (.if_icmp .ne 56, 3, 0, 0) := by decide +kernel
theorem c150_46 : gP 150 46 = some (.aload 0, 1, 0, 0) := by decide +kernel
theorem c150_47 : gP 150 47 = some (.iload 3, 1, 0, 0) := by decide +kernel
theorem c150_48 : gP 150 48 = some (.iload 4, 2, 0, 0) := by decide +kernel
theorem c150_50 : gP 150 50 = some (.invokeinterface 146 348, 3, 3, 1) := by decide +kernel
theorem c150_53 : gP 150 53 = some (.goto 225, 3, 0, 0) := by decide +kernel
theorem c150_56 : gP 150 56 = some (.iload 2, 1, 0, 0) := by decide +kernel
theorem c150_57 : gP 150 57 = some (.iconst 6, 2, 0, 0) := by decide +kernel
theorem c150_59 : gP 150 59 = some (.if_icmp .ne 91, 3, 0, 0) := by decide +kernel
theorem c150_62 : gP 150 62 = some (.aload 0, 1, 0, 0) := by decide +kernel
theorem c150_63 : gP 150 63 = some (.aload 0, 1, 0, 0) := by decide +kernel
theorem c150_64 : gP 150 64 = some (.getfield 35, 3, 8, 78) := by decide +kernel
theorem c150_67 : gP 150 67 = some (.iconst 10, 2, 0, 0) := by decide +kernel
theorem c150_69 : gP 150 69 = some (.aload 0, 1, 0, 0) := by decide +kernel
theorem c150_70 : gP 150 70 = some (.getfield 18, 3, 8, 221) := by decide +kernel
theorem c150_73 : gP 150 73 = some (.imul, 1, 0, 0) := by decide +kernel
theorem c150_74 : gP 150 74 = some (.aload 0, 1, 0, 0) := by decide +kernel
theorem c150_75 : gP 150 75 = some (.getfield 40, 3, 8, 93) := by decide +kernel
theorem c150_78 : gP 150 78 = some (.iload 1, 1, 0, 0) := by decide +kernel
theorem c150_79 : gP 150 79 = some (.iconst 1, 1, 0, 0) := by decide +kernel
theorem c150_80 : gP 150 80 = some (.iadd, 1, 0, 0) := by decide +kernel
theorem c150_81 : gP 150 81 = some (.iaload, 1, 0, 0) := by decide +kernel
theorem c150_82 : gP 150 82 = some (.iadd, 1, 0, 0) := by decide +kernel
theorem c150_83 : gP 150 83 = some (.iaload, 1, 0, 0) := by decide +kernel
theorem c150_84 : gP 150 84 = some (.iload 3, 1, 0, 0) := by decide +kernel
theorem c150_85 : gP 150 85 = some (.invokeinterface 146 348, 3, 3, 1) := by decide +kernel
theorem c150_88 : gP 150 88 = some (.goto 225, 3, 0, 0) := by decide +kernel
theorem c150_91 : gP 150 91 = some (.iload 2, 1, 0, 0) := by decide +kernel
theorem c150_92 : gP 150 92 = some (.iconst 4, 1, 0, 0) := by decide +kernel
theorem c150_93 : gP 150 93 = some (.if_icmp .eq 101, 3, 0, 0) := by decide +kernel
theorem c150_96 : gP 150 96 = some (.iload 2, 1, 0, 0) := by decide +kernel
theorem c150_97 : gP 150 97 = some (.iconst 5, 1, 0, 0) := by decide +kernel
theorem c150_98 : gP 150 98 = some (.if_icmp .ne 109, 3, 0, 0) := by decide +kernel
theorem c150_101 : gP 150 101 = some (.aload 0, 1, 0, 0) := by decide +kernel
theorem c150_102 : gP 150 102 = some (.iload 1, 1, 0, 0) := by decide +kernel
theorem c150_103 : gP 150 103 = some (.invokeinterface 147 351, 3, 2, 1) := by decide +kernel
theorem c150_106 : gP 150 106 = some (.goto 225, 3, 0, 0) := by decide +kernel
theorem c150_109 : gP 150 109 = some (.iload 2, 1, 0, 0) := by decide +kernel
theorem c150_110 : gP 150 110 = some (.iconst 7, 2, 0, 0) := by decide +kernel
theorem c150_112 : gP 150 112 = some (.if_icmp .ne 123, 3, 0, 0) := by decide +kernel
theorem c150_115 : gP 150 115 = some (.aload 0, 1, 0, 0) := by decide +kernel
theorem c150_116 : gP 150 116 = some (.iload 1, 1, 0, 0) := by decide +kernel
theorem c150_117 : gP 150 117 = some (.invokeinterface 148 354, 3, 2, 1) := by decide +kernel
theorem c150_120 : gP 150 120 = some (.goto 225, 3, 0, 0) := by decide +kernel
theorem c150_123 : gP 150 123 = some (.iload 2, 1, 0, 0) := by decide +kernel
theorem c150_124 : gP 150 124 = some (.iconst 3, 1, 0, 0) := by decide +kernel
theorem c150_125 : gP 150 125 = some (.if_icmp .ne 225, 3, 0, 0) := by decide +kernel
theorem c150_128 : gP 150 128 = some (.iconst 0, 1, 0, 0) := by decide +kernel
theorem c150_129 : gP 150 129 = some (.istore 5, 2, 0, 0) := by decide +kernel
theorem c150_131 : gP 150 131 = some (.iload 5, 2, 0, 0) := by decide +kernel
theorem c150_133 : gP 150 133 = some (.aload 0, 1, 0, 0) := by decide +kernel
theorem c150_134 : gP 150 134 = some (.getfield 25, 3, 8, 47) := by decide +kernel
theorem c150_137 : gP 150 137 = some (.aload 0, 1, 0, 0) := by decide +kernel
theorem c150_138 : gP 150 138 = some (.getfield 18, 3, 8, 221) := by decide +kernel
theorem c150_141 : gP 150 141 = some (.iaload, 1, 0, 0) := by decide +kernel
theorem c150_142 : gP 150 142 = some (.if_icmp .ge 225, 3, 0, 0) := by decide +kernel
theorem c150_145 : gP 150 145 = some (.aload 0, 1, 0, 0) := by decide +kernel
theorem c150_146 : gP 150 146 = some (.aload 0, 1, 0, 0) := by decide +kernel
theorem c150_147 : gP 150 147 = some (.getfield 41, 3, 8, 96) := by decide +kernel
theorem c150_150 : gP 150 150 = some (.iconst 12, 2, 0, 0) := by decide +kernel
theorem c150_152 : gP 150 152 = some (.iload 4, 2, 0, 0) := by decide +kernel
theorem c150_154 : gP 150 154 = some (.imul, 1, 0, 0) := by decide +kernel
theorem c150_155 : gP 150 155 = some (.iload 5, 2, 0, 0) := by decide +kernel
theorem c150_157 : gP 150 157 = some (.iadd, 1, 0, 0) := by decide +kernel
theorem c150_158 : gP 150 158 = some (.iaload, 1, 0, 0) := by decide +kernel
theorem c150_159 : gP 150 159 = some (.invokeinterface 144 341, 3, 2, 1) := by decide +kernel
theorem c150_162 : gP 150 162 = some (.ifCond .eq 219, 3, 0, 0) := by decide +kernel
theorem c150_165 : gP 150 165 = some (.aload 0, 1, 0, 0) := by decide +kernel
theorem c150_166 : gP 150 166 = some (.aload 0, 1, 0, 0) := by decide +kernel
theorem c150_167 : gP 150 167 = some (.getfield 18, 3, 8, 221) := by decide +kernel
theorem c150_170 : gP 150 170 = some (.aload 0, 1, 0, 0) := by decide +kernel
theorem c150_171 : gP 150 171 = some (.getfield 37, 3, 8, 84) := by decide +kernel
theorem c150_174 : gP 150 174 = some (.iconst 12, 2, 0, 0) := by decide +kernel
theorem c150_176 : gP 150 176 = some (.aload 0, 1, 0, 0) := by decide +kernel
theorem c150_177 : gP 150 177 = some (.getfield 18, 3, 8, 221) := by decide +kernel
theorem c150_180 : gP 150 180 = some (.imul, 1, 0, 0) := by decide +kernel
theorem c150_181 : gP 150 181 = some (.iload 5, 2, 0, 0) := by decide +kernel
theorem c150_183 : gP 150 183 = some (.iadd, 1, 0, 0) := by decide +kernel
theorem c150_184 : gP 150 184 = some (.iaload, 1, 0, 0) := by decide +kernel
theorem c150_185 : gP 150 185 = some (.aload 0, 1, 0, 0) := by decide +kernel
theorem c150_186 : gP 150 186 = some (.getfield 39, 3, 8, 90) := by decide +kernel
theorem c150_189 : gP 150 189 = some (.iconst 8, 2, 0, 0) := by decide +kernel
theorem c150_191 : gP 150 191 = some (.aload 0, 1, 0, 0) := by decide +kernel
theorem c150_192 : gP 150 192 = some (.getfield 18, 3, 8, 221) := by decide +kernel
theorem c150_195 : gP 150 195 = some (.imul, 1, 0, 0) := by decide +kernel
theorem c150_196 : gP 150 196 = some (.aload 0, 1, 0, 0) := by decide +kernel
theorem c150_197 : gP 150 197 = some (.getfield 40, 3, 8, 93) := by decide +kernel
theorem c150_200 : gP 150 200 = some (.iload 1, 1, 0, 0) := by decide +kernel
theorem c150_201 : gP 150 201 = some (.iconst 4, 1, 0, 0) := by decide +kernel
theorem c150_202 : gP 150 202 = some (.iadd, 1, 0, 0) := by decide +kernel
theorem c150_203 : gP 150 203 = some (.iaload, 1, 0, 0) := by decide +kernel
theorem c150_204 : gP 150 204 = some (.iadd, 1, 0, 0) := by decide +kernel
theorem c150_205 : gP 150 205 = some (.iaload, 1, 0, 0) := by decide +kernel
theorem c150_206 : gP 150 206 = some (.invokeinterface 149 357, 3, 4, 1) := by decide +kernel
theorem c150_209 : gP 150 209 = some (.ifCond .eq 219, 3, 0, 0) := by decide +kernel
theorem c150_212 : gP 150 212 = some (.aload 0, 1, 0, 0) := by decide +kernel
theorem c150_213 : gP 150 213 = some (.iload 3, 1, 0, 0) := by decide +kernel
theorem c150_214 : gP 150 214 = some (.iload 5, 2, 0, 0) := by decide +kernel
theorem c150_216 : gP 150 216 = some (.invokeinterface 145 344, 3, 3, 1) := by decide +kernel
theorem c150_219 : gP 150 219 = some (.iinc 5 1, 3, 0, 0) := by decide +kernel
theorem c150_222 : gP 150 222 = some (.goto 131, 3, 0, 0) := by decide +kernel
theorem c150_225 : gP 150 225 = some (.return_, 1, 0, 0) := by decide +kernel
theorem c151_0 : gP 151 0 = some (.iconst 0, 1, 0, 0) := by decide +kernel
theorem c151_1 : gP 151 1 = some (.istore 1, 1, 0, 0) := by decide +kernel
theorem c151_2 : gP 151 2 = some (.iload 1, 1, 0, 0) := by decide +kernel
theorem c151_3 : gP 151 3 = some (.iconst 576, 3, 0, 0) := by decide +kernel
theorem c151_6 : gP 151 6 = some (.if_icmp .ge 22, 3, 0, 0) := by decide +kernel
theorem c151_9 : gP 151 9 = some (.aload 0, 1, 0, 0) := by decide +kernel
theorem c151_10 : gP 151 10 = some (.getfield 41, 3, 8, 96) := by decide +kernel
theorem c151_13 : gP 151 13 = some (.iload 1, 1, 0, 0) := by decide +kernel
theorem c151_14 : gP 151 14 = some (.iconst (-1), 1, 0, 0) := by decide +kernel
theorem c151_15 : gP 151 15 = some (.iastore, 1, 0, 0) := by decide +kernel
theorem c151_16 : gP 151 16 = some (.iinc 1 1, 3, 0, 0) := by decide +kernel
theorem c151_19 : gP 151 19 = some (.goto 2, 3, 0, 0) := by decide +kernel
theorem c151_22 : gP 151 22 = some (.iconst 0, 1, 0, 0) := by decide +kernel
theorem c151_23 : gP 151 23 = some (.istore 1, 1, 0, 0) := by decide +kernel
theorem c151_24 : gP 151 24 = some (.iload 1, 1, 0, 0) := by decide +kernel
theorem c151_25 : gP 151 25 = some (.iconst 1152, 3, 0, 0) := by decide +kernel
theorem c151_28 : gP 151 28 = some (.if_icmp .ge 44, 3, 0, 0) := by decide +kernel
theorem c151_31 : gP 151 31 = some (.aload 0, 1, 0, 0) := by decide +kernel
theorem c151_32 : gP 151 32 = some (.getfield 42, 3, 8, 99) := by decide +kernel
theorem c151_35 : gP 151 35 = some (.iload 1, 1, 0, 0) := by decide +kernel
theorem c151_36 : gP 151 36 = some (.iconst (-1), 1, 0, 0) := by decide +kernel
theorem c151_37 : gP 151 37 = some (.iastore, 1, 0, 0) := by decide +kernel
theorem c151_38 : gP 151 38 = some (.iinc 1 1, 3, 0, 0) := by decide +kernel
theorem c151_41 : gP 151 41 = some (.goto 24, 3, 0, 0) := by decide +kernel
theorem c151_44 : gP 151 44 = some (.iconst 0, 1, 0, 0) := by decide +kernel
theorem c151_45 : gP 151 45 = some (.istore 1, 1, 0, 0) := by decide +kernel
theorem c151_46 : gP 151 46 = some (.iload 1, 1, 0, 0) := by decide +kernel
theorem c151_47 : gP 151 47 = some (.iconst 120, 2, 0, 0) := by decide +kernel
theorem c151_49 : gP 151 49 = some (.if_icmp .ge 65, 3, 0, 0) := by decide +kernel
theorem c151_52 : gP 151 52 = some (.aload 0, 1, 0, 0) := by decide +kernel
theorem c151_53 : gP 151 53 = some (.getfield 43, 3, 8, 102) := by decide +kernel
theorem c151_56 : gP 151 56 = some (.iload 1, 1, 0, 0) := by decide +kernel
theorem c151_57 : gP 151 57 = some (.iconst (-1), 1, 0, 0) := by decide +kernel
theorem c151_58 : gP 151 58 = some (.iastore, 1, 0, 0) := by decide +kernel
theorem c151_59 : gP 151 59 = some (.iinc 1 1, 3, 0, 0) := by decide +kernel
theorem c151_62 : gP 151 62 = some (.goto 46, 3, 0, 0) := by decide +kernel
theorem c151_65 : gP 151 65 = some (.iconst 0, 1, 0, 0) := by decide +kernel
theorem c151_66 : gP 151 66 = some (.istore 1, 1, 0, 0) := by decide +kernel
theorem c151_67 : gP 151 67 = some (.iload 1, 1, 0, 0) := by decide +kernel
theorem c151_68 : gP 151 68 = some (.iconst 10, 2, 0, 0) := by decide +kernel
theorem c151_70 : gP 151 70 = some (.if_icmp .ge 86, 3, 0, 0) := by decide +kernel
theorem c151_73 : gP 151 73 = some (.aload 0, 1, 0, 0) := by decide +kernel
theorem c151_74 : gP 151 74 = some (.getfield 44, 3, 8, 105) := by decide +kernel
theorem c151_77 : gP 151 77 = some (.iload 1, 1, 0, 0) := by decide +kernel
theorem c151_78 : gP 151 78 = some (.iconst (-1), 1, 0, 0) := by decide +kernel
theorem c151_79 : gP 151 79 = some (.iastore, 1, 0, 0) := by decide +kernel
theorem c151_80 : gP 151 80 = some (.iinc 1 1, 3, 0, 0) := by decide +kernel
theorem c151_83 : gP 151 83 = some (.goto 67, 3, 0, 0) := by decide +kernel
theorem c151_86 : gP 151 86 = some (.aload 0, 1, 0, 0) := by decide +kernel
theorem c151_87 : gP 151 87 = some (.iconst 0, 1, 0, 0) := by decide +kernel
theorem c151_88 : gP 151 88 = some (.putfield 47, 3, 8, 0) := by decide +kernel
theorem c151_91 : gP 151 91 = some (.aload 0, 1, 0, 0) := by decide +kernel
theorem c151_92 : gP 151 92 = some (.iconst 0, 1, 0, 0) := by decide +kernel
theorem c151_93 : gP 151 93 = some (.putfield 45, 3, 8, 0) := by decide +kernel
theorem c151_96 : gP 151 96 = some (.aload 0, 1, 0, 0) := by decide +kernel
theorem c151_97 : gP 151 97 = some (.invokeinterface 143 363, 3, 1, 1) := by decide +kernel
theorem c151_100 : gP 151 100 = some (.istore 1, 1, 0, 0) := by decide +kernel
theorem c151_101 : gP 151 101 = some (.iload 1, 1, 0, 0) := by decide +kernel
theorem c151_102 : gP 151 102 = some (.ifCond .ge 106, 3, 0, 0) := by decide +kernel
theorem c151_105 : gP 151 105 = some (.return_, 1, 0, 0) := by decide +kernel
theorem c151_106 : gP 151 106 = some (.aload 0, 1, 0, 0) := by decide +kernel
theorem c151_107 : gP 151 107 = some (.getfield 44, 3, 8, 105) := by decide +kernel
theorem c151_110 : gP 151 110 = some (.iload 1, 1, 0, 0) := by decide +kernel
theorem c151_111 : gP 151 111 = some (.iconst 0, 1, 0, 0) := by decide +kernel
theorem c151_112 : gP 151 112 = some (.iastore, 1, 0, 0) := by decide +kernel
theorem c151_113 : gP 151 113 = some (.aload 0, 1, 0, 0) := by decide +kernel
theorem c151_114 : gP 151 114 = some (.getfield 41, 3, 8, 96) := by decide +kernel
theorem c151_117 : gP 151 117 = some (.iconst 12, 2, 0, 0) := by decide +kernel
theorem c151_119 : gP 151 119 = some (.aload 0, 1, 0, 0) := by decide +kernel
theorem c151_120 : gP 151 120 = some (.getfield 35, 3, 8, 78) := by decide +kernel
theorem c151_123 : gP 151 123 = some (.iconst 10, 2, 0, 0) := by decide +kernel
theorem c151_125 : gP 151 125 = some (.aload 0, 1, 0, 0) := by decide +kernel
theorem c151_126 : gP 151 126 = some (.getfield 18, 3, 8, 221) := by decide +kernel
theorem c151_129 : gP 151 129 = some (.imul, 1, 0, 0) := by decide +kernel
theorem c151_130 : gP 151 130 = some (.iload 1, 1, 0, 0) := by decide +kernel
theorem c151_131 : gP 151 131 = some (.iadd, 1, 0, 0) := by decide +kernel
theorem c151_132 : gP 151 132 = some (.iaload, 1, 0, 0) := by decide +kernel
theorem c151_133 : gP 151 133 = some (.iconst 1, 1, 0, 0) := by decide +kernel
theorem c151_134 : gP 151 134 = some (.iadd, 1, 0, 0) := by decide +kernel
theorem c151_135 : gP 151 135 = some (.imul, 1, 0, 0) := by decide +kernel
theorem c151_136 : gP 151 136 = some (.iconst 0, 1, 0, 0) := by decide +kernel
theorem c151_137 : gP 151 137 = some (.iastore, 1, 0, 0) := by decide +kernel
theorem c151_138 : gP 151 138 = some (.aload 0, 1, 0, 0) := by decide +kernel
theorem c151_139 : gP 151 139 = some (.iconst 1, 1, 0, 0) := by decide +kernel
theorem c151_140 : gP 151 140 = some (.putfield 46, 3, 8, 1) := by decide +kernel
theorem c151_143 : gP 151 143 = some (.aload 0, 1, 0, 0) := by decide +kernel
theorem c151_144 : gP 151 144 = some (.getfield 46, 3, 8, 338) := by decide +kernel
theorem c151_147 : gP 151 147 = some (.ifCond .eq 243, 3, 0, 0) := by decide +kernel
theorem c151_150 : gP 151 150 = some (.aload 0, 1, 0, 0) := by decide +kernel
theorem c151_151 : gP 151 151 = some (.iconst 0, 1, 0, 0) := by decide +kernel
theorem c151_152 : gP 151 152 = some (.putfield 46, 3, 8, 1) := by decide +kernel
theorem c151_155 : gP 151 155 = some (.aload 0, 1, 0, 0) := by decide +kernel
theorem c151_156 : gP 151 156 = some (.dup, 1, 0, 0) := by decide +kernel
theorem c151_157 : gP 151 157 = some (.getfield 45, 3, 8, 335) := by decide +kernel
theorem c151_160 : gP 151 160 = some (.iconst 1, 1, 0, 0) := by decide +kernel
theorem c151_161 : gP 151 161 = some (.iadd, 1, 0, 0) := by decide +kernel
theorem c151_162 : gP 151 162 = some (.putfield 45, 3, 8, 0) := by decide +kernel
theorem c151_165 : gP 151 165 = some (.iconst 0, 1, 0, 0) := by decide +kernel
theorem c151_166 : gP 151 166 = some (.istore 2, 1, 0, 0) := by decide +kernel
theorem c151_167 : gP 151 167 = some (.iload 2, 1, 0, 0) := by decide +kernel
theorem c151_168 : gP 151 168 = some (.aload 0, 1, 0, 0) := by decide +kernel
theorem c151_169 : gP 151 169 = some (.getfield 27, 3, 8, 53) := by decide +kernel
theorem c151_172 : gP 151 172 = some (.aload 0, 1, 0, 0) := by decide +kernel
theorem c151_173 : gP 151 173 = some (.getfield 18, 3, 8, 221) := by decide +kernel
theorem c151_176 : gP 151 176 = some (.iaload, 1, 0, 0) := by decide +kernel
theorem c151_177 : gP 151 177 = some (.if_icmp .ge 225, 3, 0, 0) := by decide +kernel
theorem c151_180 : gP 151 180 = some (.iconst 1000, 3, 0, 0) := by decide +kernel
theorem c151_183 : gP 151 183 = some (.aload 0, 1, 0, 0) := by decide +kernel
theorem c151_184 : gP 151 184 = some (.getfield 18, 3, 8, 221) := by decide +kernel
theorem c151_187 : gP 151 187 = some (.imul, 1, 0, 0) := by decide +kernel
theorem c151_188 : gP 151 188 = some (.iconst 8, 2, 0, 0) := by decide +kernel
theorem c151_190 : gP 151 190 = some (.iload 2, 1, 0, 0) := by decide +kernel
theorem c151_191 : gP 151 191 = some (.imul, 1, 0, 0) := by decide +kernel
theorem c151_192 : gP 151 192 = some (.iadd, 1, 0, 0) := by decide +kernel
theorem c151_193 : gP 151 193 = some (.istore 3, 1, 0, 0) := by decide +kernel
theorem c151_194 : gP 151 194 = some (.aload 0, 1, 0, 0) := by decide +kernel
theorem c151_195 : gP 151 195 = some (.aload 0, 1, 0, 0) := by decide +kernel
theorem c151_196 : gP 151 196 = some (.getfield 44, 3, 8, 105) := by decide +kernel
theorem c151_199 : gP 151 199 = some (.aload 0, 1, 0, 0) := by decide +kernel
theorem c151_200 : gP 151 200 = some (.getfield 40, 3, 8, 93) := by decide +kernel
theorem c151_203 : gP 151 203 = some (.iload 3, 1, 0, 0) := by decide +kernel
theorem c151_204 : gP 151 204 = some (.iconst 1, 1, 0, 0) := by decide +kernel
theorem c151_205 : gP 151 205 = some (.iadd, 1, 0, 0) := by decide +kernel
theorem c151_206 : gP 151 206 = some (.iaload, 1, 0, 0) := by decide +kernel
theorem c151_207 : gP 151 207 = some (.iaload, 1, 0, 0) := by decide +kernel
theorem c151_208 : gP 151 208 = some (.invokeinterface 144 341, 3, 2, 1) := by decide +kernel
theorem c151_211 : gP 151 211 = some (.ifCond .eq 219, 3, 0, 0) := by decide +kernel
theorem c151_214 : gP 151 214 = some (.aload 0, 1, 0, 0) := by decide +kernel
theorem c151_215 : gP 151 215 = some (.iload 3, 1, 0, 0) := by decide +kernel
theorem c151_216 : gP 151 216 = some (.invokeinterface 150 366, 3, 2, 1) := by decide +kernel
theorem c151_219 : gP 151 219 = some (.iinc 2 1, 3, 0, 0) := by decide +kernel
theorem c151_222 : gP 151 222 = some (.goto 167, 3, 0, 0) := by decide +kernel
theorem c151_225 : gP 151 225 = some (.aload 0, 1, 0, 0) := by decide +kernel
theorem c151_226 : gP 151 226 = some (.getfield 46, 3, 8, 338) := by decide +kernel
theorem c151_229 : gP 151 229 = some (.ifCond .eq 143, 3, 0, 0) := by decide +kernel
theorem c151_232 : gP 151 232 = some (.aload 0, 1, 0, 0) := by decide +kernel
theorem c151_233 : gP 151 233 = some (.aload 0, 1, 0, 0) := by decide +kernel
theorem c151_234 : gP 151 234 = some (.getfield 45, 3, 8, 335) := by decide +kernel
theorem c151_237 : gP 151 237 = some (.putfield 47, 3, 8, 0) := by decide +kernel
theorem c151_240 : gP 151 240 = some (.goto 143, 3, 0, 0) := by decide +kernel
theorem c151_243 : gP 151 243 = some (.return_, 1, 0, 0) := by decide +kernel
theorem c152_0 : gP 152 0 = some (.aload 0, 1, 0, 0) := by decide +kernel
theorem c152_1 : gP 152 1 = some (.invokeinterface 96 228, 3, 1, 1) := by decide +kernel
theorem c152_4 : gP 152 4 = some (.istore 1, 1, 0, 0) := by decide +kernel
theorem c152_5 : gP 152 5 = some (.aload 0, 1, 0, 0) := by decide +kernel
theorem c152_6 : gP 152 6 = some (.getfield 20, 3, 8, 32) := by decide +kernel
theorem c152_9 : gP 152 9 = some (.iload 1, 1, 0, 0) := by decide +kernel
theorem c152_10 : gP 152 10 = some (.iconst 0, 1, 0, 0) := by decide +kernel
theorem c152_11 : gP 152 11 = some (.iastore, 1, 0, 0) := by decide +kernel
theorem c152_12 : gP 152 12 = some (.aload 0, 1, 0, 0) := by decide +kernel
theorem c152_13 : gP 152 13 = some (.getfield 21, 3, 8, 35) := by decide +kernel
theorem c152_16 : gP 152 16 = some (.iload 1, 1, 0, 0) := by decide +kernel
theorem c152_17 : gP 152 17 = some (.iconst 0, 1, 0, 0) := by decide +kernel
theorem c152_18 : gP 152 18 = some (.iastore, 1, 0, 0) := by decide +kernel
theorem c152_19 : gP 152 19 = some (.aload 0, 1, 0, 0) := by decide +kernel
theorem c152_20 : gP 152 20 = some (.getfield 22, 3, 8, 38) := by decide +kernel
theorem c152_23 : gP 152 23 = some (.iload 1, 1, 0, 0) := by decide +kernel
theorem c152_24 : gP 152 24 = some (.iconst 0, 1, 0, 0) := by decide +kernel
theorem c152_25 : gP 152 25 = some (.iastore, 1, 0, 0) := by decide +kernel
theorem c152_26 : gP 152 26 = some (.aload 0, 1, 0, 0) := by decide +kernel
theorem c152_27 : gP 152 27 = some (.getfield 23, 3, 8, 41) := by decide +kernel
theorem c152_30 : gP 152 30 = some (.iload 1, 1, 0, 0) := by decide +kernel
theorem c152_31 : gP 152 31 = some (.iconst 0, 1, 0, 0) := by decide +kernel
theorem c152_32 : gP 152 32 = some (.iastore, 1, 0, 0) := by decide +kernel
theorem c152_33 : gP 152 33 = some (.aload 0, 1, 0, 0) := by decide +kernel
theorem c152_34 : gP 152 34 = some (.getfield 24, 3, 8, 44) := by decide +kernel
theorem c152_37 : gP 152 37 = some (.iload 1, 1, 0, 0) := by decide +kernel
theorem c152_38 : gP 152 38 = some (.iconst 0, 1, 0, 0) := by decide +kernel
theorem c152_39 : gP 152 39 = some (.iastore, 1, 0, 0) := by decide +kernel
theorem c152_40 : gP 152 40 = some (.aload 0, 1, 0, 0) := by decide +kernel
theorem c152_41 : gP 152 41 = some (.getfield 25, 3, 8, 47) := by decide +kernel
theorem c152_44 : gP 152 44 = some (.iload 1, 1, 0, 0) := by decide +kernel
theorem c152_45 : gP 152 45 = some (.iconst 1, 1, 0, 0) := by decide +kernel
theorem c152_46 : gP 152 46 = some (.iastore, 1, 0, 0) := by decide +kernel
theorem c152_47 : gP 152 47 = some (.aload 0, 1, 0, 0) := by decide +kernel
theorem c152_48 : gP 152 48 = some (.getfield 26, 3, 8, 50) := by decide +kernel
theorem c152_51 : gP 152 51 = some (.iload 1, 1, 0, 0) := by decide +kernel
theorem c152_52 : gP 152 52 = some (.iconst 0, 1, 0, 0) := by decide +kernel
theorem c152_53 : gP 152 53 = some (.iastore, 1, 0, 0) := by decide +kernel
theorem c152_54 : gP 152 54 = some (.aload 0, 1, 0, 0) := by decide +kernel
theorem c152_55 : gP 152 55 = some (.getfield 27, 3, 8, 53) := by decide +kernel
theorem c152_58 : gP 152 58 = some (.iload 1, 1, 0, 0) := by decide +kernel
theorem c152_59 : gP 152 59 = some (.iconst 0, 1, 0, 0) := by decide +kernel
theorem c152_60 : gP 152 60 = some (.iastore, 1, 0, 0) := by decide +kernel
theorem c152_61 : gP 152 61 = some (.aload 0, 1, 0, 0) := by decide +kernel
theorem c152_62 : gP 152 62 = some (.getfield 37, 3, 8, 84) := by decide +kernel
theorem c152_65 : gP 152 65 = some (.iconst 12, 2, 0, 0) := by decide +kernel
theorem c152_67 : gP 152 67 = some (.iload 1, 1, 0, 0) := by decide +kernel
theorem c152_68 : gP 152 68 = some (.imul, 1, 0, 0) := by decide +kernel
theorem c152_69 : gP 152 69 = some (.iconst 0, 1, 0, 0) := by decide +kernel
theorem c152_70 : gP 152 70 = some (.iastore, 1, 0, 0) := by decide +kernel
theorem c152_71 : gP 152 71 = some (.aload 0, 1, 0, 0) := by decide +kernel
theorem c152_72 : gP 152 72 = some (.iconst 0, 1, 0, 0) := by decide +kernel
theorem c152_73 : gP 152 73 = some (.putfield 9, 3, 8, 0) := by decide +kernel
theorem c152_76 : gP 152 76 = some (.aload 0, 1, 0, 0) := by decide +kernel
theorem c152_77 : gP 152 77 = some (.iconst 0, 1, 0, 0) := by decide +kernel
theorem c152_78 : gP 152 78 = some (.putfield 17, 3, 8, 0) := by decide +kernel
theorem c152_81 : gP 152 81 = some (.aload 0, 1, 0, 0) := by decide +kernel
theorem c152_82 : gP 152 82 = some (.iconst 0, 1, 0, 0) := by decide +kernel
theorem c152_83 : gP 152 83 = some (.putfield 6, 3, 8, 0) := by decide +kernel
theorem c152_86 : gP 152 86 = some (.aload 0, 1, 0, 0) := by decide +kernel
theorem c152_87 : gP 152 87 = some (.iconst (-1), 1, 0, 0) := by decide +kernel
theorem c152_88 : gP 152 88 = some (.putfield 8, 3, 8, 0) := by decide +kernel
theorem c152_91 : gP 152 91 = some (.aload 0, 1, 0, 0) := by decide +kernel
theorem c152_92 : gP 152 92 = some (.invokeinterface 99 211, 3, 1, 1) := by decide +kernel
theorem c152_95 : gP 152 95 = some (.aload 0, 1, 0, 0) := by decide +kernel
theorem c152_96 : gP 152 96 = some (.invokeinterface 140 316, 3, 1, 1) := by decide +kernel
theorem c152_99 : gP 152 99 = some (.aload 0, 1, 0, 0) := by decide +kernel
theorem c152_100 : gP 152 100 = some (.getfield 8, 3, 8, 205) := by decide +kernel
theorem c152_103 : gP 152 103 = some (.ifCond .ge 120, 3, 0, 0) := by decide +kernel
theorem c152_106 : gP 152 106 = some (.aload 0, 1, 0, 0) := by decide +kernel
theorem c152_107 : gP 152 107 = some (.getfield 3, 3, 8, 150) := by decide +kernel
theorem c152_110 : gP 152 110 = some (.ifCond .eq 120, 3, 0, 0) := by decide +kernel
theorem c152_113 : gP 152 113 = some (.aload 0, 1, 0, 0) := by decide +kernel
theorem c152_114 : gP 152 114 = some (.invokeinterface 140 316, 3, 1, 1) := by decide +kernel
theorem c152_117 : gP 152 117 = some (.goto 99, 3, 0, 0) := by decide +kernel
theorem c152_120 : gP 152 120 = some (.aload 0, 1, 0, 0) := by decide +kernel
theorem c152_121 : gP 152 121 = some (.getfield 8, 3, 8, 205) := by decide +kernel
theorem c152_124 : gP 152 124 = some (.ifCond .ge 132, 3, 0, 0) := by decide +kernel
theorem c152_127 : gP 152 127 = some (.aload 0, 1, 0, 0) := by decide +kernel
theorem c152_128 : gP 152 128 = some (.iload 1, 1, 0, 0) := by decide +kernel
theorem c152_129 : gP 152 129 = some (.invokeinterface 141 319, 3, 2, 1) := by decide +kernel
theorem c152_132 : gP 152 132 = some (.aload 0, 1, 0, 0) := by decide +kernel
theorem c152_133 : gP 152 133 = some (.aload 0, 1, 0, 0) := by decide +kernel
theorem c152_134 : gP 152 134 = some (.getfield 8, 3, 8, 205) := by decide +kernel
theorem c152_137 : gP 152 137 = some (.putfield 2, 3, 8, 0) := by decide +kernel
theorem c152_140 : gP 152 140 = some (.aload 0, 1, 0, 0) := by decide +kernel
theorem c152_141 : gP 152 141 = some (.aload 0, 1, 0, 0) := by decide +kernel
theorem c152_142 : gP 152 142 = some (.getfield 8, 3, 8, 205) := by decide +kernel
theorem c152_145 : gP 152 145 = some (.ifCond .ge 152, 3, 0, 0) := by decide +kernel
theorem c152_148 : gP 152 148 = some (.iconst 1, 1, 0, 0) := by decide +kernel
theorem c152_149 : gP 152 149 = some (.goto 153, 3, 0, 0) := by decide +kernel
theorem c152_152 : gP 152 152 = some (.iconst 0, 1, 0, 0) := by decide +kernel
theorem c152_153 : gP 152 153 = some (.iconst 1, 1, 0, 0) := by decide +kernel
theorem c152_154 : gP 152 154 = some (.invokeinterface 23 130, 3, 3, 1) := by decide +kernel
theorem c152_157 : gP 152 157 = some (.ifCond .ne 162, 3, 0, 0) := by decide +kernel
theorem c152_160 : gP 152 160 = some (.iconst 0, 1, 0, 0) := by decide +kernel
theorem c152_161 : gP 152 161 = some (.ireturn, 1, 0, 0) := by decide +kernel
theorem c152_162 : gP 152 162 = some (.aload 0, 1, 0, 0) := by decide +kernel
theorem c152_163 : gP 152 163 = some (.iload 1, 1, 0, 0) := by decide +kernel
theorem c152_164 : gP 152 164 = some (.putfield 18, 3, 8, 0) := by decide +kernel
theorem c152_167 : gP 152 167 = some (.aload 0, 1, 0, 0) := by decide +kernel
theorem c152_168 : gP 152 168 = some (.iconst 1, 1, 0, 0) := by decide +kernel
theorem c152_169 : gP 152 169 = some (.putfield 19, 3, 8, 1) := by decide +kernel
theorem c152_172 : gP 152 172 = some (.aload 0, 1, 0, 0) := by decide +kernel
theorem c152_173 : gP 152 173 = some (.iconst 0, 1, 0, 0) := by decide +kernel
theorem c152_174 : gP 152 174 = some (.putfield 51, 3, 8, 0) := by decide +kernel
theorem c152_177 : gP 152 177 = some (.iconst 0, 1, 0, 0) := by decide +kernel
theorem c152_178 : gP 152 178 = some (.istore 2, 1, 0, 0) := by decide +kernel
theorem c152_179 : gP 152 179 = some (.iload 2, 1, 0, 0) := by decide +kernel
theorem c152_180 : gP 152 180 = some (.iconst 576, 3, 0, 0) := by decide +kernel
theorem c152_183 : gP 152 183 = some (.if_icmp .ge 199, 3, 0, 0) := by decide +kernel
theorem c152_186 : gP 152 186 = some (.aload 0, 1, 0, 0) := by decide +kernel
theorem c152_187 : gP 152 187 = some (.getfield 48, 3, 8, 108) := by decide +kernel
theorem c152_190 : gP 152 190 = some (.iload 2, 1, 0, 0) := by decide +kernel
theorem c152_191 : gP 152 191 = some (.iconst 0, 1, 0, 0) := by decide +kernel
theorem c152_192 : gP 152 192 = some (.iastore, 1, 1, 0) := by decide +kernel
theorem c152_193 : gP 152 193 = some (.iinc 2 1, 3, 0, 0) := by decide +kernel
theorem c152_196 : gP 152 196 = some (.goto 179, 3, 0, 0) := by decide +kernel
theorem c152_199 : gP 152 199 = some (.aload 0, 1, 0, 0) := by decide +kernel
theorem c152_200 : gP 152 200 = some (.invokeinterface 151 329, 3, 1, 1) := by decide +kernel
theorem c152_203 : gP 152 203 = some (.iconst 0, 1, 0, 0) := by decide +kernel
theorem c152_204 : gP 152 204 = some (.istore 2, 1, 0, 0) := by decide +kernel
theorem c152_205 : gP 152 205 = some (.iconst 0, 1, 0, 0) := by decide +kernel
theorem c152_206 : gP 152 206 = some (.istore 3, 1, 0, 0) := by decide +kernel
theorem c152_207 : gP 152 207 = some (.iload 3, 1, 0, 0) := by decide +kernel
theorem c152_208 : gP 152 208 = some (.iconst 576, 3, 0, 0) := by decide +kernel
theorem c152_211 : gP 152 211 = some (.if_icmp .ge 232, 3, 0, 0) := by decide +kernel
theorem c152_214 : gP 152 214 = some (.aload 0, 1, 0, 0) := by decide +kernel
theorem c152_215 : gP 152 215 = some (.getfield 41, 3, 8, 96) := by decide +kernel
theorem c152_218 : gP 152 218 = some (.iload 3, 1, 0, 0) := by decide +kernel
theorem c152_219 : gP 152 219 = some (.iaload, 1, 0, 0) := by decide +kernel
theorem c152_220 : gP 152 220 = some (.ifCond .lt 226, 3, 0, 0) := by decide +kernel
theorem c152_223 : gP 152 223 = some (.iinc 2 1, 3, 0, 0) := by decide +kernel
theorem c152_226 : gP 152 226 = some (.iinc 3 1, 3, 0, 0) := by decide +kernel
theorem c152_229 : gP 152 229 = some (.goto 207, 3, 0, 0) := by decide +kernel
theorem c152_232 : gP 152 232 = some (.iload 2, 1, 0, 0) := by decide +kernel
theorem c152_233 : gP 152 233 = some (.ireturn, 1, 0, 0) := by decide +kernel
theorem c153_0 : gP 153 0 = some (.aload 0, 1, 0, 0) := by decide +kernel
theorem c153_1 : gP 153 1 = some (.getfield 7, 3, 7, 44) := by decide +kernel
theorem c153_4 : gP 153 4 = some (.ireturn, 1, 0, 0) := by decide +kernel
theorem c154_0 : gP 154 0 = some (.aload 0, 1, 0, 0) := by decide +kernel
theorem c154_1 : gP 154 1 = some (.iconst 0, 1, 0, 0) := by decide +kernel
theorem c154_2 : gP 154 2 = some (.putfield 57, 3, 8, 0) := by decide +kernel
theorem c154_5 : gP 154 5 = some (.aload 0, 1, 0, 0) := by decide +kernel
theorem c154_6 : gP 154 6 = some (.getfield 2, 3, 8, 13) := by decide +kernel
theorem c154_9 : gP 154 9 = some (.ireturn, 1, 0, 0) := by decide +kernel
theorem c155_0 : gP 155 0 = some (.iload 0, 1, 0, 0) := by decide +kernel
theorem c155_1 : gP 155 1 = some (.ifCond .lt 13, 3, 0, 0) := by decide +kernel
theorem c155_4 : gP 155 4 = some (.iload 0, 1, 0, 0) := by decide +kernel
theorem c155_5 : gP 155 5 = some (.iload 1, 1, 0, 0) := by decide +kernel
theorem c155_6 : gP 155 6 = some (.if_icmp .ge 13, 3, 0, 0) := by decide +kernel
theorem c155_9 : gP 155 9 = some (.iconst 1, 1, 0, 0) := by decide +kernel
theorem c155_10 : gP 155 10 = some (.goto 14, 3, 0, 0) := by decide +kernel
theorem c155_13 : gP 155 13 = some (.iconst 0, 1, 0, 0) := by decide +kernel
theorem c155_14 : gP 155 14 = some (.ireturn, 1, 1, 0) := by decide +kernel
theorem c156_0 : gP 156 0 = some (.iload 1, 1, 0, 0) := by decide +kernel
theorem c156_1 : gP 156 1 = some (.aload 0, 1, 0, 0) := by decide +kernel
theorem c156_2 : gP 156 2 = some (.getfield 4, 3, 7, 37) := by decide +kernel
theorem c156_5 : gP 156 5 = some (.getfield 15, 3, 6, 175) := by decide +kernel
theorem c156_8 : gP 156 8 = some (.invokeinterface 155 97, 3, 2, 0) := by decide +kernel
theorem c156_11 : gP 156 11 = some (.ireturn, 1, 1, 0) := by decide +kernel
theorem c157_0 : gP 157 0 = some (.iload 1, 1, 0, 0) := by decide +kernel
theorem c157_1 : gP 157 1 = some (.aload 0, 1, 0, 0) := by decide +kernel
theorem c157_2 : gP 157 2 = some (.getfield 4, 3, 7, 37) := by decide +kernel
theorem c157_5 : gP 157 5 = some (.getfield 14, 3, 6, 172) := by decide +kernel
theorem c157_8 : gP 157 8 = some (.invokeinterface 155 97, 3, 2, 0) := by decide +kernel
theorem c157_11 : gP 157 11 = some (.ireturn, 1, 1, 0) := by decide +kernel
theorem c158_0 : gP 158 0 = some (.aload 0, 1, 0, 0) := by decide +kernel
theorem c158_1 : gP 158 1 = some (.iload 1, 1, 0, 0) := by decide +kernel
theorem c158_2 : gP 158 2 = some (.invokeinterface 156 80, 3, 2, 1) := by decide +kernel
theorem c158_5 : gP 158 5 = some (.ifCond .eq 16, 3, 0, 0) := by decide +kernel
theorem c158_8 : gP 158 8 = some (.aload 0, 1, 0, 0) := by decide +kernel
theorem c158_9 : gP 158 9 = some (.iload 2, 1, 0, 0) := by decide +kernel
theorem c158_10 : gP 158 10 = some (.invokeinterface 157 84, 3, 2, 1) := by decide +kernel
theorem c158_13 : gP 158 13 = some (.ifCond .ne 24, 3, 0, 0) := by decide +kernel
theorem c158_16 : gP 158 16 = some (.athrow, 89, 11, 87) := by decide +kernel
theorem c158_24 : gP 158 24 = some (.aload 0, 1, 0, 0) := by decide +kernel
theorem c158_25 : gP 158 25 = some (.getfield 2, 3, 7, 23) := by decide +kernel
theorem c158_28 : gP 158 28 = some (.getfield 0, 3, 2, 90) := by decide +kernel
theorem c158_31 : gP 158 31 = some (.iload 1, 1, 0, 0) := by decide +kernel
theorem c158_32 : gP 158 32 = some (.aaload, 1, 0, 0) := by decide +kernel
theorem c158_33 : gP 158 33 = some (.iload 2, 1, 0, 0) := by decide +kernel
theorem c158_34 : gP 158 34 = some (.iaload, 1, 0, 0) := by decide +kernel
theorem c158_35 : gP 158 35 = some (.ireturn, 1, 0, 0) := by decide +kernel
theorem c159_0 : gP 159 0 = some (.aload 3, 1, 0, 0) := by decide +kernel
theorem c159_1 : gP 159 1 = some (.iconst 0, 1, 0, 0) := by decide +kernel
theorem c159_2 : gP 159 2 = some (.aload 0, 1, 0, 0) := by decide +kernel
theorem c159_3 : gP 159 3 = some (.iload 1, 1, 0, 0) := by decide +kernel
theorem c159_4 : gP 159 4 = some (.iload 2, 1, 0, 0) := by decide +kernel
theorem c159_5 : gP 159 5 = some (.invokeinterface 158 25, 3, 3, 1) := by decide +kernel
theorem c159_8 : gP 159 8 = some (.i2l, 1, 0, 0) := by decide +kernel
theorem c159_9 : gP 159 9 = some (.lastore, 1, 0, 0) := by decide +kernel
theorem c159_10 : gP 159 10 = some (.goto 17, 3, 0, 0) := by decide +kernel
theorem c159_13 : gP 159 13 = some (.astore 4, 2, 0, 0) := by decide +kernel
theorem c159_15 : gP 159 15 = some (.iconst 1, 1, 0, 0) := by decide +kernel
theorem c159_16 : gP 159 16 = some (.ireturn, 1, 0, 0) := by decide +kernel
theorem c159_17 : gP 159 17 = some (.iconst 0, 1, 0, 0) := by decide +kernel
theorem c159_18 : gP 159 18 = some (.ireturn, 1, 0, 0) := by decide +kernel
theorem c160_0 : gP 160 0 = some (.aload 0, 1, 0, 0) := by decide +kernel
theorem c160_1 : gP 160 1 = some (.getfield 19, 3, 8, 322) := by decide +kernel
theorem c160_4 : gP 160 4 = some (.ifCond .eq 30, 3, 0, 0) := by decide +kernel
theorem c160_7 : gP 160 7 = some (.iload 1, 1, 0, 0) := by decide +kernel
theorem c160_8 : gP 160 8 = some (.iconst 0, 1, 0, 0) := by decide +kernel
theorem c160_9 : gP 160 9 = some (.aload 0, 1, 0, 0) := by decide +kernel
theorem c160_10 : gP 160 10 = some (.getfield 26, 3, 8, 50) := by decide +kernel
theorem c160_13 : gP 160 13 = some (.aload 0, 1, 0, 0) := by decide +kernel
theorem c160_14 : gP 160 14 = some (.getfield 18, 3, 8, 221) := by decide +kernel
theorem c160_17 : gP 160 17 = some (.iaload, 1, 0, 0) := by decide +kernel
theorem c160_18 : gP 160 18 = some (.iconst 1, 1, 0, 0) := by decide +kernel
theorem c160_19 : gP 160 19 = some (.isub, 1, 0, 0) := by decide +kernel
theorem c160_20 : gP 160 20 = some (.invokeinterface 22 126, 3, 3, 0) := by decide +kernel
theorem c160_23 : gP 160 23 = some (.ifCond .eq 30, 3, 0, 0) := by decide +kernel
theorem c160_26 : gP 160 26 = some (.iconst 1, 1, 0, 0) := by decide +kernel
theorem c160_27 : gP 160 27 = some (.goto 31, 3, 0, 0) := by decide +kernel
theorem c160_30 : gP 160 30 = some (.iconst 0, 1, 0, 0) := by decide +kernel
theorem c160_31 : gP 160 31 = some (.ireturn, 1, 1, 0) := by decide +kernel
theorem c161_0 : gP 161 0 = some (.aload 0, 1, 0, 0) := by decide +kernel
theorem c161_1 : gP 161 1 = some (.getfield 19, 3, 8, 322) := by decide +kernel
theorem c161_4 : gP 161 4 = some (.ifCond .eq 30, 3, 0, 0) := by decide +kernel
theorem c161_7 : gP 161 7 = some (.iload 1, 1, 0, 0) := by decide +kernel
theorem c161_8 : gP 161 8 = some (.iconst 0, 1, 0, 0) := by decide +kernel
theorem c161_9 : gP 161 9 = some (.aload 0, 1, 0, 0) := by decide +kernel
theorem c161_10 : gP 161 10 = some (.getfield 25, 3, 8, 47) := by decide +kernel
theorem c161_13 : gP 161 13 = some (.aload 0, 1, 0, 0) := by decide +kernel
theorem c161_14 : gP 161 14 = some (.getfield 18, 3, 8, 221) := by decide +kernel
theorem c161_17 : gP 161 17 = some (.iaload, 1, 0, 0) := by decide +kernel
theorem c161_18 : gP 161 18 = some (.iconst 1, 1, 0, 0) := by decide +kernel
theorem c161_19 : gP 161 19 = some (.isub, 1, 0, 0) := by decide +kernel
theorem c161_20 : gP 161 20 = some (.invokeinterface 22 126, 3, 3, 0) := by decide +kernel
theorem c161_23 : gP 161 23 = some (.ifCond .eq 30, 3, 0, 0) := by decide +kernel
theorem c161_26 : gP 161 26 = some (.iconst 1, 1, 0, 0) := by decide +kernel
theorem c161_27 : gP 161 27 = some (.goto 31, 3, 0, 0) := by decide +kernel
theorem c161_30 : gP 161 30 = some (.iconst 0, 1, 0, 0) := by decide +kernel
theorem c161_31 : gP 161 31 = some (.ireturn, 1, 1, 0) := by decide +kernel
theorem c162_0 : gP 162 0 = some (.aload 0, 1, 0, 0) := by decide +kernel
theorem c162_1 : gP 162 1 = some (.aload 0, 1, 0, 0) := by decide +kernel
theorem c162_2 : gP 162 2 = some (.getfield 19, 3, 8, 322) := by decide +kernel
theorem c162_5 : gP 162 5 = some (.ifCond .eq 16, 3, 0, 0) := by decide +kernel
theorem c162_8 : gP 162 8 = some (.iload 1, 1, 0, 0) := by decide +kernel
theorem c162_9 : gP 162 9 = some (.ifCond .eq 16, 3, 0, 0) := by decide +kernel
theorem c162_12 : gP 162 12 = some (.iconst 1, 1, 0, 0) := by decide +kernel
theorem c162_13 : gP 162 13 = some (.goto 17, 3, 0, 0) := by decide +kernel
theorem c162_16 : gP 162 16 = some (.iconst 0, 1, 0, 0) := by decide +kernel
theorem c162_17 : gP 162 17 = some (.iconst 1, 1, 0, 0) := by decide +kernel
theorem c162_18 : gP 162 18 = some (.invokeinterface 23 130, 3, 3, 1) := by decide +kernel
theorem c162_21 : gP 162 21 = some (.ireturn, 1, 1, 0) := by decide +kernel
theorem c163_0 : gP 163 0 = some (.aload 0, 1, 0, 0) := by decide +kernel
theorem c163_1 : gP 163 1 = some (.aload 0, 1, 0, 0) := by decide +kernel
theorem c163_2 : gP 163 2 = some (.iload 1, 1, 0, 0) := by decide +kernel
theorem c163_3 : gP 163 3 = some (.invokeinterface 160 369, 3, 2, 1) := by decide +kernel
theorem c163_6 : gP 163 6 = some (.ifCond .eq 21, 3, 0, 0) := by decide +kernel
theorem c163_9 : gP 163 9 = some (.aload 0, 1, 0, 0) := by decide +kernel
theorem c163_10 : gP 163 10 = some (.iload 2, 1, 0, 0) := by decide +kernel
theorem c163_11 : gP 163 11 = some (.invokeinterface 161 372, 3, 2, 1) := by decide +kernel
theorem c163_14 : gP 163 14 = some (.ifCond .eq 21, 3, 0, 0) := by decide +kernel
theorem c163_17 : gP 163 17 = some (.iconst 1, 1, 0, 0) := by decide +kernel
theorem c163_18 : gP 163 18 = some (.goto 22, 3, 0, 0) := by decide +kernel
theorem c163_21 : gP 163 21 = some (.iconst 0, 1, 0, 0) := by decide +kernel
theorem c163_22 : gP 163 22 = some (.invokeinterface 162 375, 3, 2, 1) := by decide +kernel
theorem c163_25 : gP 163 25 = some (.ifCond .eq 42, 3, 0, 0) := by decide +kernel
theorem c163_28 : gP 163 28 = some (.aload 0, 1, 0, 0) := by decide +kernel
theorem c163_29 : gP 163 29 = some (.getfield 41, 3, 8, 96) := by decide +kernel
theorem c163_32 : gP 163 32 = some (.iconst 12, 2, 0, 0) := by decide +kernel
theorem c163_34 : gP 163 34 = some (.iload 1, 1, 0, 0) := by decide +kernel
theorem c163_35 : gP 163 35 = some (.imul, 1, 0, 0) := by decide +kernel
theorem c163_36 : gP 163 36 = some (.iload 2, 1, 0, 0) := by decide +kernel
theorem c163_37 : gP 163 37 = some (.iadd, 1, 0, 0) := by decide +kernel
theorem c163_38 : gP 163 38 = some (.iaload, 1, 0, 0) := by decide +kernel
theorem c163_39 : gP 163 39 = some (.goto 43, 3, 0, 0) := by decide +kernel
theorem c163_42 : gP 163 42 = some (.iconst 0, 1, 0, 0) := by decide +kernel
theorem c163_43 : gP 163 43 = some (.ireturn, 1, 0, 0) := by decide +kernel
theorem c164_0 : gP 164 0 = some (.aload 0, 1, 0, 0) := by decide +kernel
theorem c164_1 : gP 164 1 = some (.iload 1, 1, 0, 0) := by decide +kernel
theorem c164_2 : gP 164 2 = some (.invokeinterface 157 84, 3, 2, 1) := by decide +kernel
theorem c164_5 : gP 164 5 = some (.ifCond .eq 30, 3, 0, 0) := by decide +kernel
theorem c164_8 : gP 164 8 = some (.iload 2, 1, 0, 0) := by decide +kernel
theorem c164_9 : gP 164 9 = some (.aload 0, 1, 0, 0) := by decide +kernel
theorem c164_10 : gP 164 10 = some (.getfield 4, 3, 7, 37) := by decide +kernel
theorem c164_13 : gP 164 13 = some (.getfield 11, 3, 6, 94) := by decide +kernel
theorem c164_16 : gP 164 16 = some (.invokeinterface 155 97, 3, 2, 0) := by decide +kernel
theorem c164_19 : gP 164 19 = some (.ifCond .eq 30, 3, 0, 0) := by decide +kernel
theorem c164_22 : gP 164 22 = some (.aload 0, 1, 0, 0) := by decide +kernel
theorem c164_23 : gP 164 23 = some (.iload 3, 1, 0, 0) := by decide +kernel
theorem c164_24 : gP 164 24 = some (.invokeinterface 157 84, 3, 2, 1) := by decide +kernel
theorem c164_27 : gP 164 27 = some (.ifCond .ne 38, 3, 0, 0) := by decide +kernel
theorem c164_30 : gP 164 30 = some (.athrow, 89, 11, 87) := by decide +kernel
theorem c164_38 : gP 164 38 = some (.aload 0, 1, 0, 0) := by decide +kernel
theorem c164_39 : gP 164 39 = some (.getfield 2, 3, 7, 23) := by decide +kernel
theorem c164_42 : gP 164 42 = some (.iload 1, 1, 0, 0) := by decide +kernel
theorem c164_43 : gP 164 43 = some (.iload 2, 1, 0, 0) := by decide +kernel
theorem c164_44 : gP 164 44 = some (.invokeinterface 83 101, 3, 3, 1) := by decide +kernel
theorem c164_47 : gP 164 47 = some (.iload 3, 1, 0, 0) := by decide +kernel
theorem c164_48 : gP 164 48 = some (.iaload, 1, 0, 0) := by decide +kernel
theorem c164_49 : gP 164 49 = some (.ireturn, 1, 0, 0) := by decide +kernel
theorem c165_0 : gP 165 0 = some (.aload 4, 2, 0, 0) := by decide +kernel
theorem c165_2 : gP 165 2 = some (.iconst 0, 1, 0, 0) := by decide +kernel
theorem c165_3 : gP 165 3 = some (.aload 0, 1, 0, 0) := by decide +kernel
theorem c165_4 : gP 165 4 = some (.iload 1, 1, 0, 0) := by decide +kernel
theorem c165_5 : gP 165 5 = some (.iload 2, 1, 0, 0) := by decide +kernel
theorem c165_6 : gP 165 6 = some (.iload 3, 1, 0, 0) := by decide +kernel
theorem c165_7 : gP 165 7 = some (.invokeinterface 164 31, 3, 4, 1) := by decide +kernel
theorem c165_10 : gP 165 10 = some (.i2l, 1, 0, 0) := by decide +kernel
theorem c165_11 : gP 165 11 = some (.lastore, 1, 0, 0) := by decide +kernel
theorem c165_12 : gP 165 12 = some (.goto 19, 3, 0, 0) := by decide +kernel
theorem c165_15 : gP 165 15 = some (.astore 5, 2, 0, 0) := by decide +kernel
theorem c165_17 : gP 165 17 = some (.iconst 1, 1, 0, 0) := by decide +kernel
theorem c165_18 : gP 165 18 = some (.ireturn, 1, 0, 0) := by decide +kernel
theorem c165_19 : gP 165 19 = some (.iconst 0, 1, 0, 0) := by decide +kernel
theorem c165_20 : gP 165 20 = some (.ireturn, 1, 0, 0) := by decide +kernel
theorem c166_0 : gP 166 0 = some (.aload 0, 1, 0, 0) := by decide +kernel
theorem c166_1 : gP 166 1 = some (.aload 0, 1, 0, 0) := by decide +kernel
theorem c166_2 : gP 166 2 = some (.iload 1, 1, 0, 0) := by decide +kernel
theorem c166_3 : gP 166 3 = some (.invokeinterface 161 372, 3, 2, 1) := by decide +kernel
theorem c166_6 : gP 166 6 = some (.ifCond .eq 40, 3, 0, 0) := by decide +kernel
theorem c166_9 : gP 166 9 = some (.aload 0, 1, 0, 0) := by decide +kernel
theorem c166_10 : gP 166 10 = some (.iload 3, 1, 0, 0) := by decide +kernel
theorem c166_11 : gP 166 11 = some (.invokeinterface 161 372, 3, 2, 1) := by decide +kernel
theorem c166_14 : gP 166 14 = some (.ifCond .eq 40, 3, 0, 0) := by decide +kernel
theorem c166_17 : gP 166 17 = some (.iload 2, 1, 0, 0) := by decide +kernel
theorem c166_18 : gP 166 18 = some (.iconst 0, 1, 0, 0) := by decide +kernel
theorem c166_19 : gP 166 19 = some (.aload 0, 1, 0, 0) := by decide +kernel
theorem c166_20 : gP 166 20 = some (.getfield 22, 3, 8, 38) := by decide +kernel
theorem c166_23 : gP 166 23 = some (.aload 0, 1, 0, 0) := by decide +kernel
theorem c166_24 : gP 166 24 = some (.getfield 18, 3, 8, 221) := by decide +kernel
theorem c166_27 : gP 166 27 = some (.iaload, 1, 0, 0) := by decide +kernel
theorem c166_28 : gP 166 28 = some (.iconst 1, 1, 0, 0) := by decide +kernel
theorem c166_29 : gP 166 29 = some (.isub, 1, 0, 0) := by decide +kernel
theorem c166_30 : gP 166 30 = some (.invokeinterface 22 126, 3, 3, 0) := by decide +kernel
theorem c166_33 : gP 166 33 = some (.ifCond .eq 40, 3, 0, 0) := by decide +kernel
theorem c166_36 : gP 166 36 = some (.iconst 1, 1, 0, 0) := by decide +kernel
theorem c166_37 : gP 166 37 = some (.goto 41, 3, 0, 0) := by decide +kernel
theorem c166_40 : gP 166 40 = some (.iconst 0, 1, 0, 0) := by decide +kernel
theorem c166_41 : gP 166 41 = some (.invokeinterface 162 375, 3, 2, 1) := by decide +kernel
theorem c166_44 : gP 166 44 = some (.ifCond .eq 66, 3, 0, 0) := by decide +kernel
theorem c166_47 : gP 166 47 = some (.aload 0, 1, 0, 0) := by decide +kernel
theorem c166_48 : gP 166 48 = some (.getfield 42, 3, 8, 99) := by decide +kernel
theorem c166_51 : gP 166 51 = some (.iconst 96, 2, 0, 0) := by decide +kernel
theorem c166_53 : gP 166 53 = some (.iload 1, 1, 0, 0) := by decide +kernel
theorem c166_54 : gP 166 54 = some (.imul, 1, 0, 0) := by decide +kernel
theorem c166_55 : gP 166 55 = some (.iconst 12, 2, 0, 0) := by decide +kernel
theorem c166_57 : gP 166 57 = some (.iload 2, 1, 0, 0) := by decide +kernel
theorem c166_58 : gP 166 58 = some (.imul, 1, 0, 0) := by decide +kernel
theorem c166_59 : gP 166 59 = some (.iadd, 1, 0, 0) := by decide +kernel
theorem c166_60 : gP 166 60 = some (.iload 3, 1, 0, 0) := by decide +kernel
theorem c166_61 : gP 166 61 = some (.iadd, 1, 0, 0) := by decide +kernel
theorem c166_62 : gP 166 62 = some (.iaload, 1, 0, 0) := by decide +kernel
theorem c166_63 : gP 166 63 = some (.goto 67, 3, 0, 0) := by decide +kernel
theorem c166_66 : gP 166 66 = some (.iconst 0, 1, 0, 0) := by decide +kernel
theorem c166_67 : gP 166 67 = some (.ireturn, 1, 0, 0) := by decide +kernel
theorem c167_0 : gP 167 0 = some (.iload 1, 1, 0, 0) := by decide +kernel
theorem c167_1 : gP 167 1 = some (.aload 0, 1, 0, 0) := by decide +kernel
theorem c167_2 : gP 167 2 = some (.getfield 4, 3, 7, 37) := by decide +kernel
theorem c167_5 : gP 167 5 = some (.getfield 10, 3, 6, 169) := by decide +kernel
theorem c167_8 : gP 167 8 = some (.invokeinterface 155 97, 3, 2, 0) := by decide +kernel
theorem c167_11 : gP 167 11 = some (.ireturn, 1, 1, 0) := by decide +kernel
theorem c168_0 : gP 168 0 = some (.iload 1, 1, 0, 0) := by decide +kernel
theorem c168_1 : gP 168 1 = some (.aload 0, 1, 0, 0) := by decide +kernel
theorem c168_2 : gP 168 2 = some (.getfield 4, 3, 7, 37) := by decide +kernel
theorem c168_5 : gP 168 5 = some (.getfield 12, 3, 6, 105) := by decide +kernel
theorem c168_8 : gP 168 8 = some (.invokeinterface 155 97, 3, 2, 0) := by decide +kernel
theorem c168_11 : gP 168 11 = some (.ifCond .eq 22, 3, 0, 0) := by decide +kernel
theorem c168_14 : gP 168 14 = some (.aload 0, 1, 0, 0) := by decide +kernel
theorem c168_15 : gP 168 15 = some (.iload 2, 1, 0, 0) := by decide +kernel
theorem c168_16 : gP 168 16 = some (.invokeinterface 167 108, 3, 2, 1) := by decide +kernel
theorem c168_19 : gP 168 19 = some (.ifCond .ne 30, 3, 0, 0) := by decide +kernel
theorem c168_22 : gP 168 22 = some (.athrow, 89, 11, 87) := by decide +kernel
theorem c168_30 : gP 168 30 = some (.aload 0, 1, 0, 0) := by decide +kernel
theorem c168_31 : gP 168 31 = some (.getfield 2, 3, 7, 23) := by decide +kernel
theorem c168_34 : gP 168 34 = some (.getfield 1, 3, 2, 111) := by decide +kernel
theorem c168_37 : gP 168 37 = some (.iload 1, 1, 0, 0) := by decide +kernel
theorem c168_38 : gP 168 38 = some (.aaload, 1, 0, 0) := by decide +kernel
theorem c168_39 : gP 168 39 = some (.iload 2, 1, 0, 0) := by decide +kernel
theorem c168_40 : gP 168 40 = some (.iaload, 1, 0, 0) := by decide +kernel
theorem c168_41 : gP 168 41 = some (.ireturn, 1, 0, 0) := by decide +kernel
theorem c169_0 : gP 169 0 = some (.aload 3, 1, 0, 0) := by decide +kernel
theorem c169_1 : gP 169 1 = some (.iconst 0, 1, 0, 0) := by decide +kernel
theorem c169_2 : gP 169 2 = some (.aload 0, 1, 0, 0) := by decide +kernel
theorem c169_3 : gP 169 3 = some (.iload 1, 1, 0, 0) := by decide +kernel
theorem c169_4 : gP 169 4 = some (.iload 2, 1, 0, 0) := by decide +kernel
theorem c169_5 : gP 169 5 = some (.invokeinterface 168 35, 3, 3, 1) := by decide +kernel
theorem c169_8 : gP 169 8 = some (.i2l, 1, 0, 0) := by decide +kernel
theorem c169_9 : gP 169 9 = some (.lastore, 1, 0, 0) := by decide +kernel
theorem c169_10 : gP 169 10 = some (.goto 17, 3, 0, 0) := by decide +kernel
theorem c169_13 : gP 169 13 = some (.astore 4, 2, 0, 0) := by decide +kernel
theorem c169_15 : gP 169 15 = some (.iconst 1, 1, 0, 0) := by decide +kernel
theorem c169_16 : gP 169 16 = some (.ireturn, 1, 0, 0) := by decide +kernel
theorem c169_17 : gP 169 17 = some (.iconst 0, 1, 0, 0) := by decide +kernel
theorem c169_18 : gP 169 18 = some (.ireturn, 1, 0, 0) := by decide +kernel
theorem c170_0 : gP 170 0 = some (.aload 0, 1, 0, 0) := by decide +kernel
theorem c170_1 : gP 170 1 = some (.getfield 19, 3, 8, 322) := by decide +kernel
theorem c170_4 : gP 170 4 = some (.ifCond .eq 30, 3, 0, 0) := by decide +kernel
theorem c170_7 : gP 170 7 = some (.iload 1, 1, 0, 0) := by decide +kernel
theorem c170_8 : gP 170 8 = some (.iconst 0, 1, 0, 0) := by decide +kernel
theorem c170_9 : gP 170 9 = some (.aload 0, 1, 0, 0) := by decide +kernel
theorem c170_10 : gP 170 10 = some (.getfield 21, 3, 8, 35) := by decide +kernel
theorem c170_13 : gP 170 13 = some (.aload 0, 1, 0, 0) := by decide +kernel
theorem c170_14 : gP 170 14 = some (.getfield 18, 3, 8, 221) := by decide +kernel
theorem c170_17 : gP 170 17 = some (.iaload, 1, 0, 0) := by decide +kernel
theorem c170_18 : gP 170 18 = some (.iconst 1, 1, 0, 0) := by decide +kernel
theorem c170_19 : gP 170 19 = some (.isub, 1, 0, 0) := by decide +kernel
theorem c170_20 : gP 170 20 = some (.invokeinterface 22 126, 3, 3, 0) := by decide +kernel
theorem c170_23 : gP 170 23 = some (.ifCond .eq 30, 3, 0, 0) := by decide +kernel
theorem c170_26 : gP 170 26 = some (.iconst 1, 1, 0, 0) := by decide +kernel
theorem c170_27 : gP 170 27 = some (.goto 31, 3, 0, 0) := by decide +kernel
theorem c170_30 : gP 170 30 = some (.iconst 0, 1, 0, 0) := by decide +kernel
theorem c170_31 : gP 170 31 = some (.ireturn, 1, 1, 0) := by decide +kernel
theorem c171_0 : gP 171 0 = some (.aload 0, 1, 0, 0) := by decide +kernel
theorem c171_1 : gP 171 1 = some (.aload 0, 1, 0, 0) := by decide +kernel
theorem c171_2 : gP 171 2 = some (.iload 2, 1, 0, 0) := by decide +kernel
theorem c171_3 : gP 171 3 = some (.invokeinterface 170 378, 3, 2, 1) := by decide +kernel
theorem c171_6 : gP 171 6 = some (.ifCond .eq 32, 3, 0, 0) := by decide +kernel
theorem c171_9 : gP 171 9 = some (.iload 1, 1, 0, 0) := by decide +kernel
theorem c171_10 : gP 171 10 = some (.iconst 0, 1, 0, 0) := by decide +kernel
theorem c171_11 : gP 171 11 = some (.aload 0, 1, 0, 0) := by decide +kernel
theorem c171_12 : gP 171 12 = some (.getfield 23, 3, 8, 41) := by decide +kernel
theorem c171_15 : gP 171 15 = some (.aload 0, 1, 0, 0) := by decide +kernel
theorem c171_16 : gP 171 16 = some (.getfield 18, 3, 8, 221) := by decide +kernel
theorem c171_19 : gP 171 19 = some (.iaload, 1, 0, 0) := by decide +kernel
theorem c171_20 : gP 171 20 = some (.iconst 1, 1, 0, 0) := by decide +kernel
theorem c171_21 : gP 171 21 = some (.isub, 1, 0, 0) := by decide +kernel
theorem c171_22 : gP 171 22 = some (.invokeinterface 22 126, 3, 3, 0) := by decide +kernel
theorem c171_25 : gP 171 25 = some (.ifCond .eq 32, 3, 0, 0) := by decide +kernel
theorem c171_28 : gP 171 28 = some (.iconst 1, 1, 0, 0) := by decide +kernel
theorem c171_29 : gP 171 29 = some (.goto 33, 3, 0, 0) := by decide +kernel
theorem c171_32 : gP 171 32 = some (.iconst 0, 1, 0, 0) := by decide +kernel
theorem c171_33 : gP 171 33 = some (.invokeinterface 162 375, 3, 2, 1) := by decide +kernel
theorem c171_36 : gP 171 36 = some (.ifCond .eq 53, 3, 0, 0) := by decide +kernel
theorem c171_39 : gP 171 39 = some (.aload 0, 1, 0, 0) := by decide +kernel
theorem c171_40 : gP 171 40 = some (.getfield 43, 3, 8, 102) := by decide +kernel
theorem c171_43 : gP 171 43 = some (.iconst 10, 2, 0, 0) := by decide +kernel
theorem c171_45 : gP 171 45 = some (.iload 1, 1, 0, 0) := by decide +kernel
theorem c171_46 : gP 171 46 = some (.imul, 1, 0, 0) := by decide +kernel
theorem c171_47 : gP 171 47 = some (.iload 2, 1, 0, 0) := by decide +kernel
theorem c171_48 : gP 171 48 = some (.iadd, 1, 0, 0) := by decide +kernel
theorem c171_49 : gP 171 49 = some (.iaload, 1, 0, 0) := by decide +kernel
theorem c171_50 : gP 171 50 = some (.goto 54, 3, 0, 0) := by decide +kernel
theorem c171_53 : gP 171 53 = some (.iconst 0, 1, 0, 0) := by decide +kernel
theorem c171_54 : gP 171 54 = some (.ireturn, 1, 0, 0) := by decide +kernel
theorem c172_0 : gP 172 0 = some (.aload 0, 1, 0, 0) := by decide +kernel
theorem c172_1 : gP 172 1 = some (.iload 1, 1, 0, 0) := by decide +kernel
theorem c172_2 : gP 172 2 = some (.invokeinterface 167 108, 3, 2, 1) := by decide +kernel
theorem c172_5 : gP 172 5 = some (.ifCond .ne 16, 3, 0, 0) := by decide +kernel
theorem c172_8 : gP 172 8 = some (.athrow, 89, 11, 87) := by decide +kernel
theorem c172_16 : gP 172 16 = some (.aload 0, 1, 0, 0) := by decide +kernel
theorem c172_17 : gP 172 17 = some (.getfield 2, 3, 7, 23) := by decide +kernel
theorem c172_20 : gP 172 20 = some (.getfield 2, 3, 2, 114) := by decide +kernel
theorem c172_23 : gP 172 23 = some (.iload 1, 1, 0, 0) := by decide +kernel
theorem c172_24 : gP 172 24 = some (.iaload, 1, 0, 0) := by decide +kernel
theorem c172_25 : gP 172 25 = some (.ireturn, 1, 0, 0) := by decide +kernel
theorem c173_0 : gP 173 0 = some (.aload 2, 1, 0, 0) := by decide +kernel
theorem c173_1 : gP 173 1 = some (.iconst 0, 1, 0, 0) := by decide +kernel
theorem c173_2 : gP 173 2 = some (.aload 0, 1, 0, 0) := by decide +kernel
theorem c173_3 : gP 173 3 = some (.iload 1, 1, 0, 0) := by decide +kernel
theorem c173_4 : gP 173 4 = some (.invokeinterface 172 38, 3, 2, 1) := by decide +kernel
theorem c173_7 : gP 173 7 = some (.i2l, 1, 0, 0) := by decide +kernel
theorem c173_8 : gP 173 8 = some (.lastore, 1, 0, 0) := by decide +kernel
theorem c173_9 : gP 173 9 = some (.goto 15, 3, 0, 0) := by decide +kernel
theorem c173_12 : gP 173 12 = some (.astore 3, 1, 0, 0) := by decide +kernel
theorem c173_13 : gP 173 13 = some (.iconst 1, 1, 0, 0) := by decide +kernel
theorem c173_14 : gP 173 14 = some (.ireturn, 1, 0, 0) := by decide +kernel
theorem c173_15 : gP 173 15 = some (.iconst 0, 1, 0, 0) := by decide +kernel
theorem c173_16 : gP 173 16 = some (.ireturn, 1, 0, 0) := by decide +kernel
theorem c174_0 : gP 174 0 = some (.aload 0, 1, 0, 0) := by decide +kernel
theorem c174_1 : gP 174 1 = some (.aload 0, 1, 0, 0) := by decide +kernel
theorem c174_2 : gP 174 2 = some (.iload 1, 1, 0, 0) := by decide +kernel
theorem c174_3 : gP 174 3 = some (.invokeinterface 170 378, 3, 2, 1) := by decide +kernel
theorem c174_6 : gP 174 6 = some (.invokeinterface 162 375, 3, 2, 1) := by decide +kernel
theorem c174_9 : gP 174 9 = some (.ifCond .eq 21, 3, 0, 0) := by decide +kernel
theorem c174_12 : gP 174 12 = some (.aload 0, 1, 0, 0) := by decide +kernel
theorem c174_13 : gP 174 13 = some (.getfield 44, 3, 8, 105) := by decide +kernel
theorem c174_16 : gP 174 16 = some (.iload 1, 1, 0, 0) := by decide +kernel
theorem c174_17 : gP 174 17 = some (.iaload, 1, 0, 0) := by decide +kernel
theorem c174_18 : gP 174 18 = some (.goto 22, 3, 0, 0) := by decide +kernel
theorem c174_21 : gP 174 21 = some (.iconst 0, 1, 0, 0) := by decide +kernel
theorem c174_22 : gP 174 22 = some (.ireturn, 1, 0, 0) := by decide +kernel
theorem c175_0 : gP 175 0 = some (.iconst 0, 1, 0, 0) := by decide +kernel
theorem c175_1 : gP 175 1 = some (.istore 2, 1, 0, 0) := by decide +kernel
theorem c175_2 : gP 175 2 = some (.iload 2, 1, 0, 0) := by decide +kernel
theorem c175_3 : gP 175 3 = some (.aload 0, 1, 0, 0) := by decide +kernel
theorem c175_4 : gP 175 4 = some (.getfield 4, 3, 2, 26) := by decide +kernel
theorem c175_7 : gP 175 7 = some (.getfield 14, 3, 6, 85) := by decide +kernel
theorem c175_10 : gP 175 10 = some (.if_icmp .ge 59, 3, 0, 0) := by decide +kernel
theorem c175_13 : gP 175 13 = some (.aload 0, 1, 0, 0) := by decide +kernel
theorem c175_14 : gP 175 14 = some (.getfield 0, 3, 2, 11) := by decide +kernel
theorem c175_17 : gP 175 17 = some (.aload 1, 1, 0, 0) := by decide +kernel
theorem c175_18 : gP 175 18 = some (.getfield 3, 3, 5, 100) := by decide +kernel
theorem c175_21 : gP 175 21 = some (.aaload, 1, 0, 0) := by decide +kernel
theorem c175_22 : gP 175 22 = some (.iload 2, 1, 0, 0) := by decide +kernel
theorem c175_23 : gP 175 23 = some (.iaload, 1, 0, 0) := by decide +kernel
theorem c175_24 : gP 175 24 = some (.iconst (-1), 1, 0, 0) := by decide +kernel
theorem c175_25 : gP 175 25 = some (.if_icmp .eq 53, 3, 0, 0) := by decide +kernel
theorem c175_28 : gP 175 28 = some (.aload 0, 1, 0, 0) := by decide +kernel
theorem c175_29 : gP 175 29 = some (.getfield 4, 3, 2, 26) := by decide +kernel
theorem c175_32 : gP 175 32 = some (.aload 0, 1, 0, 0) := by decide +kernel
theorem c175_33 : gP 175 33 = some (.getfield 4, 3, 2, 26) := by decide +kernel
theorem c175_36 : gP 175 36 = some (.getfield 7, 3, 6, 122) := by decide +kernel
theorem c175_39 : gP 175 39 = some (.iload 2, 1, 0, 0) := by decide +kernel
theorem c175_40 : gP 175 40 = some (.iaload, 1, 0, 0) := by decide +kernel
theorem c175_41 : gP 175 41 = some (.aload 1, 1, 0, 0) := by decide +kernel
theorem c175_42 : gP 175 42 = some (.getfield 7, 3, 5, 125) := by decide +kernel
theorem c175_45 : gP 175 45 = some (.invokeinterface 81 128, 3, 3, 1) := by decide +kernel
theorem c175_48 : gP 175 48 = some (.ifCond .ne 53, 3, 0, 0) := by decide +kernel
theorem c175_51 : gP 175 51 = some (.iconst 0, 1, 0, 0) := by decide +kernel
theorem c175_52 : gP 175 52 = some (.ireturn, 1, 1, 0) := by decide +kernel
theorem c175_53 : gP 175 53 = some (.iinc 2 1, 3, 0, 0) := by decide +kernel
theorem c175_56 : gP 175 56 = some (.goto 2, 3, 0, 0) := by decide +kernel
theorem c175_59 : gP 175 59 = some (.iconst 1, 1, 0, 0) := by decide +kernel
theorem c175_60 : gP 175 60 = some (.ireturn, 1, 1, 0) := by decide +kernel
theorem c176_0 : gP 176 0 = some (.iload 1, 1, 0, 0) := by decide +kernel
theorem c176_1 : gP 176 1 = some (.aload 0, 1, 0, 0) := by decide +kernel
theorem c176_2 : gP 176 2 = some (.getfield 4, 3, 7, 37) := by decide +kernel
theorem c176_5 : gP 176 5 = some (.getfield 13, 3, 6, 118) := by decide +kernel
theorem c176_8 : gP 176 8 = some (.invokeinterface 155 97, 3, 2, 0) := by decide +kernel
theorem c176_11 : gP 176 11 = some (.ifCond .ne 22, 3, 0, 0) := by decide +kernel
theorem c176_14 : gP 176 14 = some (.athrow, 89, 11, 87) := by decide +kernel
theorem c176_22 : gP 176 22 = some (.aload 0, 1, 0, 0) := by decide +kernel
theorem c176_23 : gP 176 23 = some (.getfield 2, 3, 7, 23) := by decide +kernel
theorem c176_26 : gP 176 26 = some (.aload 0, 1, 0, 0) := by decide +kernel
theorem c176_27 : gP 176 27 = some (.getfield 4, 3, 7, 37) := by decide +kernel
theorem c176_30 : gP 176 30 = some (.getfield 6, 3, 6, 121) := by decide +kernel
theorem c176_33 : gP 176 33 = some (.aload 0, 1, 0, 0) := by decide +kernel
theorem c176_34 : gP 176 34 = some (.getfield 4, 3, 7, 37) := by decide +kernel
theorem c176_37 : gP 176 37 = some (.getfield 8, 3, 6, 125) := by decide +kernel
theorem c176_40 : gP 176 40 = some (.iload 1, 1, 0, 0) := by decide +kernel
theorem c176_41 : gP 176 41 = some (.iaload, 1, 0, 0) := by decide +kernel
theorem c176_42 : gP 176 42 = some (.aaload, 1, 0, 0) := by decide +kernel
theorem c176_43 : gP 176 43 = some (.invokeinterface 175 128, 3, 2, 1) := by decide +kernel
theorem c176_46 : gP 176 46 = some (.ifCond .eq 53, 3, 0, 0) := by decide +kernel
theorem c176_49 : gP 176 49 = some (.iconst 1, 1, 0, 0) := by decide +kernel
theorem c176_50 : gP 176 50 = some (.goto 54, 3, 0, 0) := by decide +kernel
theorem c176_53 : gP 176 53 = some (.iconst 0, 1, 0, 0) := by decide +kernel
theorem c176_54 : gP 176 54 = some (.ireturn, 1, 0, 0) := by decide +kernel
theorem c177_0 : gP 177 0 = some (.aload 2, 1, 0, 0) := by decide +kernel
theorem c177_1 : gP 177 1 = some (.iconst 0, 1, 0, 0) := by decide +kernel
theorem c177_2 : gP 177 2 = some (.aload 0, 1, 0, 0) := by decide +kernel
theorem c177_3 : gP 177 3 = some (.iload 1, 1, 0, 0) := by decide +kernel
theorem c177_4 : gP 177 4 = some (.invokeinterface 176 41, 3, 2, 1) := by decide +kernel
theorem c177_7 : gP 177 7 = some (.i2l, 1, 0, 0) := by decide +kernel
theorem c177_8 : gP 177 8 = some (.lastore, 1, 0, 0) := by decide +kernel
theorem c177_9 : gP 177 9 = some (.goto 15, 3, 0, 0) := by decide +kernel
theorem c177_12 : gP 177 12 = some (.astore 3, 1, 0, 0) := by decide +kernel
theorem c177_13 : gP 177 13 = some (.iconst 1, 1, 0, 0) := by decide +kernel
theorem c177_14 : gP 177 14 = some (.ireturn, 1, 0, 0) := by decide +kernel
theorem c177_15 : gP 177 15 = some (.iconst 0, 1, 0, 0) := by decide +kernel
theorem c177_16 : gP 177 16 = some (.ireturn, 1, 0, 0) := by decide +kernel
theorem c178_0 : gP 178 0 = some (.aload 0, 1, 0, 0) := by decide +kernel
theorem c178_1 : gP 178 1 = some (.iload 1, 1, 0, 0) := by decide +kernel
theorem c178_2 : gP 178 2 = some (.iconst 0, 1, 0, 0) := by decide +kernel
theorem c178_3 : gP 178 3 = some (.aload 0, 1, 0, 0) := by decide +kernel
theorem c178_4 : gP 178 4 = some (.getfield 24, 3, 8, 44) := by decide +kernel
theorem c178_7 : gP 178 7 = some (.aload 0, 1, 0, 0) := by decide +kernel
theorem c178_8 : gP 178 8 = some (.getfield 18, 3, 8, 221) := by decide +kernel
theorem c178_11 : gP 178 11 = some (.iaload, 1, 0, 0) := by decide +kernel
theorem c178_12 : gP 178 12 = some (.iconst 1, 1, 0, 0) := by decide +kernel
theorem c178_13 : gP 178 13 = some (.isub, 1, 0, 0) := by decide +kernel
theorem c178_14 : gP 178 14 = some (.invokeinterface 22 126, 3, 3, 0) := by decide +kernel
theorem c178_17 : gP 178 17 = some (.invokeinterface 162 375, 3, 2, 1) := by decide +kernel
theorem c178_20 : gP 178 20 = some (.ifCond .ne 25, 3, 0, 0) := by decide +kernel
theorem c178_23 : gP 178 23 = some (.iconst 0, 1, 0, 0) := by decide +kernel
theorem c178_24 : gP 178 24 = some (.ireturn, 1, 0, 0) := by decide +kernel
theorem c178_25 : gP 178 25 = some (.aload 0, 1, 0, 0) := by decide +kernel
theorem c178_26 : gP 178 26 = some (.getfield 38, 3, 8, 87) := by decide +kernel
theorem c178_29 : gP 178 29 = some (.iconst 8, 2, 0, 0) := by decide +kernel
theorem c178_31 : gP 178 31 = some (.aload 0, 1, 0, 0) := by decide +kernel
theorem c178_32 : gP 178 32 = some (.getfield 18, 3, 8, 221) := by decide +kernel
theorem c178_35 : gP 178 35 = some (.imul, 1, 0, 0) := by decide +kernel
theorem c178_36 : gP 178 36 = some (.iload 1, 1, 0, 0) := by decide +kernel
theorem c178_37 : gP 178 37 = some (.iadd, 1, 0, 0) := by decide +kernel
theorem c178_38 : gP 178 38 = some (.iaload, 1, 0, 0) := by decide +kernel
theorem c178_39 : gP 178 39 = some (.istore 2, 1, 0, 0) := by decide +kernel
theorem c178_40 : gP 178 40 = some (.iconst 0, 1, 0, 0) := by decide +kernel
theorem c178_41 : gP 178 41 = some (.istore 3, 1, 0, 0) := by decide +kernel
theorem c178_42 : gP 178 42 = some (.iload 3, 1, 0, 0) := by decide +kernel
theorem c178_43 : gP 178 43 = some (.aload 0, 1, 0, 0) := by decide +kernel
theorem c178_44 : gP 178 44 = some (.getfield 25, 3, 8, 47) := by decide +kernel
theorem c178_47 : gP 178 47 = some (.aload 0, 1, 0, 0) := by decide +kernel
theorem c178_48 : gP 178 48 = some (.getfield 18, 3, 8, 221) := by decide +kernel
theorem c178_51 : gP 178 51 = some (.iaload, 1, 0, 0) := by decide +kernel
theorem c178_52 : gP 178 52 = some (.if_icmp .ge 116, 3, 0, 0) := by decide +kernel
theorem c178_55 : gP 178 55 = some (.aload 0, 1, 0, 0) := by decide +kernel
theorem c178_56 : gP 178 56 = some (.getfield 41, 3, 8, 96) := by decide +kernel
theorem c178_59 : gP 178 59 = some (.iconst 12, 2, 0, 0) := by decide +kernel
theorem c178_61 : gP 178 61 = some (.iload 2, 1, 0, 0) := by decide +kernel
theorem c178_62 : gP 178 62 = some (.imul, 1, 0, 0) := by decide +kernel
theorem c178_63 : gP 178 63 = some (.iload 3, 1, 0, 0) := by decide +kernel
theorem c178_64 : gP 178 64 = some (.iadd, 1, 0, 0) := by decide +kernel
theorem c178_65 : gP 178 65 = some (.iaload, 1, 0, 0) := by decide +kernel
theorem c178_66 : gP 178 66 = some (.ifCond .lt 110, 3, 0, 0) := by decide +kernel
theorem c178_69 : gP 178 69 = some (.aload 0, 1, 0, 0) := by decide +kernel
theorem c178_70 : gP 178 70 = some (.aload 0, 1, 0, 0) := by decide +kernel
theorem c178_71 : gP 178 71 = some (.getfield 18, 3, 8, 221) := by decide +kernel
theorem c178_74 : gP 178 74 = some (.aload 0, 1, 0, 0) := by decide +kernel
theorem c178_75 : gP 178 75 = some (.getfield 37, 3, 8, 84) := by decide +kernel
theorem c178_78 : gP 178 78 = some (.iconst 12, 2, 0, 0) := by decide +kernel
theorem c178_80 : gP 178 80 = some (.aload 0, 1, 0, 0) := by decide +kernel
theorem c178_81 : gP 178 81 = some (.getfield 18, 3, 8, 221) := by decide +kernel
theorem c178_84 : gP 178 84 = some (.imul, 1, 0, 0) := by decide +kernel
theorem c178_85 : gP 178 85 = some (.iload 3, 1, 0, 0) := by decide +kernel
theorem c178_86 : gP 178 86 = some (.iadd, 1, 0, 0) := by decide +kernel
theorem c178_87 : gP 178 87 = some (.iaload, 1, 0, 0) := by decide +kernel
theorem c178_88 : gP 178 88 = some (.aload 0, 1, 0, 0) := by decide +kernel
theorem c178_89 : gP 178 89 = some (.getfield 39, 3, 8, 90) := by decide +kernel
theorem c178_92 : gP 178 92 = some (.iconst 8, 2, 0, 0) := by decide +kernel
theorem c178_94 : gP 178 94 = some (.aload 0, 1, 0, 0) := by decide +kernel
theorem c178_95 : gP 178 95 = some (.getfield 18, 3, 8, 221) := by decide +kernel
theorem c178_98 : gP 178 98 = some (.imul, 1, 0, 0) := by decide +kernel
theorem c178_99 : gP 178 99 = some (.iload 1, 1, 0, 0) := by decide +kernel
theorem c178_100 : gP 178 100 = some (.iadd, 1, 0, 0) := by decide +kernel
theorem c178_101 : gP 178 101 = some (.iaload, 1, 0, 0) := by decide +kernel
theorem c178_102 : gP 178 102 = some (.invokeinterface 149 357, 3, 4, 1) := by decide +kernel
theorem c178_105 : gP 178 105 = some (.ifCond .ne 110, 3, 0, 0) := by decide +kernel
theorem c178_108 : gP 178 108 = some (.iconst 0, 1, 0, 0) := by decide +kernel
theorem c178_109 : gP 178 109 = some (.ireturn, 1, 0, 0) := by decide +kernel
theorem c178_110 : gP 178 110 = some (.iinc 3 1, 3, 0, 0) := by decide +kernel
theorem c178_113 : gP 178 113 = some (.goto 42, 3, 0, 0) := by decide +kernel
theorem c178_116 : gP 178 116 = some (.iconst 1, 1, 0, 0) := by decide +kernel
theorem c178_117 : gP 178 117 = some (.ireturn, 1, 0, 0) := by decide +kernel
theorem c179_0 : gP 179 0 = some (.iconst 0, 1, 0, 0) := by decide +kernel
theorem c179_1 : gP 179 1 = some (.istore 3, 1, 0, 0) := by decide +kernel
theorem c179_2 : gP 179 2 = some (.iload 3, 1, 0, 0) := by decide +kernel
theorem c179_3 : gP 179 3 = some (.aload 0, 1, 0, 0) := by decide +kernel
theorem c179_4 : gP 179 4 = some (.getfield 4, 3, 2, 26) := by decide +kernel
theorem c179_7 : gP 179 7 = some (.getfield 14, 3, 6, 85) := by decide +kernel
theorem c179_10 : gP 179 10 = some (.if_icmp .ge 45, 3, 0, 0) := by decide +kernel
theorem c179_13 : gP 179 13 = some (.aload 0, 1, 0, 0) := by decide +kernel
theorem c179_14 : gP 179 14 = some (.getfield 0, 3, 2, 11) := by decide +kernel
theorem c179_17 : gP 179 17 = some (.iload 1, 1, 0, 0) := by decide +kernel
theorem c179_18 : gP 179 18 = some (.aaload, 1, 0, 0) := by decide +kernel
theorem c179_19 : gP 179 19 = some (.iload 3, 1, 0, 0) := by decide +kernel
theorem c179_20 : gP 179 20 = some (.iaload, 1, 0, 0) := by decide +kernel
theorem c179_21 : gP 179 21 = some (.iconst (-1), 1, 0, 0) := by decide +kernel
theorem c179_22 : gP 179 22 = some (.if_icmp .eq 39, 3, 0, 0) := by decide +kernel
theorem c179_25 : gP 179 25 = some (.aload 0, 1, 0, 0) := by decide +kernel
theorem c179_26 : gP 179 26 = some (.getfield 0, 3, 2, 11) := by decide +kernel
theorem c179_29 : gP 179 29 = some (.iload 2, 1, 0, 0) := by decide +kernel
theorem c179_30 : gP 179 30 = some (.aaload, 1, 0, 0) := by decide +kernel
theorem c179_31 : gP 179 31 = some (.iload 3, 1, 0, 0) := by decide +kernel
theorem c179_32 : gP 179 32 = some (.iaload, 1, 0, 0) := by decide +kernel
theorem c179_33 : gP 179 33 = some (.iconst (-1), 1, 0, 0) := by decide +kernel
theorem c179_34 : gP 179 34 = some (.if_icmp .eq 39, 3, 0, 0) := by decide +kernel
theorem c179_37 : gP 179 37 = some (.iconst 1, 1, 0, 0) := by decide +kernel
theorem c179_38 : gP 179 38 = some (.ireturn, 1, 1, 0) := by decide +kernel
theorem c179_39 : gP 179 39 = some (.iinc 3 1, 3, 0, 0) := by decide +kernel
theorem c179_42 : gP 179 42 = some (.goto 2, 3, 0, 0) := by decide +kernel
theorem c179_45 : gP 179 45 = some (.iconst 0, 1, 0, 0) := by decide +kernel
theorem c179_46 : gP 179 46 = some (.ireturn, 1, 1, 0) := by decide +kernel
theorem c180_0 : gP 180 0 = some (.aload 0, 1, 0, 0) := by decide +kernel
theorem c180_1 : gP 180 1 = some (.iload 1, 1, 0, 0) := by decide +kernel
theorem c180_2 : gP 180 2 = some (.invokeinterface 156 80, 3, 2, 1) := by decide +kernel
theorem c180_5 : gP 180 5 = some (.ifCond .eq 16, 3, 0, 0) := by decide +kernel
theorem c180_8 : gP 180 8 = some (.aload 0, 1, 0, 0) := by decide +kernel
theorem c180_9 : gP 180 9 = some (.iload 2, 1, 0, 0) := by decide +kernel
theorem c180_10 : gP 180 10 = some (.invokeinterface 156 80, 3, 2, 1) := by decide +kernel
theorem c180_13 : gP 180 13 = some (.ifCond .ne 24, 3, 0, 0) := by decide +kernel
theorem c180_16 : gP 180 16 = some (.athrow, 89, 11, 87) := by decide +kernel
theorem c180_24 : gP 180 24 = some (.aload 0, 1, 0, 0) := by decide +kernel
theorem c180_25 : gP 180 25 = some (.getfield 2, 3, 7, 23) := by decide +kernel
theorem c180_28 : gP 180 28 = some (.iload 1, 1, 0, 0) := by decide +kernel
theorem c180_29 : gP 180 29 = some (.iload 2, 1, 0, 0) := by decide +kernel
theorem c180_30 : gP 180 30 = some (.invokeinterface 179 132, 3, 3, 1) := by decide +kernel
theorem c180_33 : gP 180 33 = some (.ifCond .eq 40, 3, 0, 0) := by decide +kernel
theorem c180_36 : gP 180 36 = some (.iconst 1, 1, 0, 0) := by decide +kernel
theorem c180_37 : gP 180 37 = some (.goto 41, 3, 0, 0) := by decide +kernel
theorem c180_40 : gP 180 40 = some (.iconst 0, 1, 0, 0) := by decide +kernel
theorem c180_41 : gP 180 41 = some (.ireturn, 1, 0, 0) := by decide +kernel
theorem c181_0 : gP 181 0 = some (.aload 3, 1, 0, 0) := by decide +kernel
theorem c181_1 : gP 181 1 = some (.iconst 0, 1, 0, 0) := by decide +kernel
theorem c181_2 : gP 181 2 = some (.aload 0, 1, 0, 0) := by decide +kernel
theorem c181_3 : gP 181 3 = some (.iload 1, 1, 0, 0) := by decide +kernel
theorem c181_4 : gP 181 4 = some (.iload 2, 1, 0, 0) := by decide +kernel
theorem c181_5 : gP 181 5 = some (.invokeinterface 180 44, 3, 3, 1) := by decide +kernel
theorem c181_8 : gP 181 8 = some (.i2l, 1, 0, 0) := by decide +kernel
theorem c181_9 : gP 181 9 = some (.lastore, 1, 0, 0) := by decide +kernel
theorem c181_10 : gP 181 10 = some (.goto 17, 3, 0, 0) := by decide +kernel
theorem c181_13 : gP 181 13 = some (.astore 4, 2, 0, 0) := by decide +kernel
theorem c181_15 : gP 181 15 = some (.iconst 1, 1, 0, 0) := by decide +kernel
theorem c181_16 : gP 181 16 = some (.ireturn, 1, 0, 0) := by decide +kernel
theorem c181_17 : gP 181 17 = some (.iconst 0, 1, 0, 0) := by decide +kernel
theorem c181_18 : gP 181 18 = some (.ireturn, 1, 0, 0) := by decide +kernel
theorem c182_0 : gP 182 0 = some (.aload 0, 1, 0, 0) := by decide +kernel
theorem c182_1 : gP 182 1 = some (.aload 0, 1, 0, 0) := by decide +kernel
theorem c182_2 : gP 182 2 = some (.iload 1, 1, 0, 0) := by decide +kernel
theorem c182_3 : gP 182 3 = some (.invokeinterface 160 369, 3, 2, 1) := by decide +kernel
theorem c182_6 : gP 182 6 = some (.ifCond .eq 21, 3, 0, 0) := by decide +kernel
theorem c182_9 : gP 182 9 = some (.aload 0, 1, 0, 0) := by decide +kernel
theorem c182_10 : gP 182 10 = some (.iload 2, 1, 0, 0) := by decide +kernel
theorem c182_11 : gP 182 11 = some (.invokeinterface 160 369, 3, 2, 1) := by decide +kernel
theorem c182_14 : gP 182 14 = some (.ifCond .eq 21, 3, 0, 0) := by decide +kernel
theorem c182_17 : gP 182 17 = some (.iconst 1, 1, 0, 0) := by decide +kernel
theorem c182_18 : gP 182 18 = some (.goto 22, 3, 0, 0) := by decide +kernel
theorem c182_21 : gP 182 21 = some (.iconst 0, 1, 0, 0) := by decide +kernel
theorem c182_22 : gP 182 22 = some (.invokeinterface 162 375, 3, 2, 1) := by decide +kernel
theorem c182_25 : gP 182 25 = some (.ifCond .ne 30, 3, 0, 0) := by decide +kernel
theorem c182_28 : gP 182 28 = some (.iconst 0, 1, 0, 0) := by decide +kernel
theorem c182_29 : gP 182 29 = some (.ireturn, 1, 0, 0) := by decide +kernel
theorem c182_30 : gP 182 30 = some (.iconst 0, 1, 0, 0) := by decide +kernel
theorem c182_31 : gP 182 31 = some (.istore 3, 1, 0, 0) := by decide +kernel
theorem c182_32 : gP 182 32 = some (.iload 3, 1, 0, 0) := by decide +kernel
theorem c182_33 : gP 182 33 = some (.aload 0, 1, 0, 0) := by decide +kernel
theorem c182_34 : gP 182 34 = some (.getfield 25, 3, 8, 47) := by decide +kernel
theorem c182_37 : gP 182 37 = some (.aload 0, 1, 0, 0) := by decide +kernel
theorem c182_38 : gP 182 38 = some (.getfield 18, 3, 8, 221) := by decide +kernel
theorem c182_41 : gP 182 41 = some (.iaload, 1, 0, 0) := by decide +kernel
theorem c182_42 : gP 182 42 = some (.if_icmp .ge 81, 3, 0, 0) := by decide +kernel
theorem c182_45 : gP 182 45 = some (.aload 0, 1, 0, 0) := by decide +kernel
theorem c182_46 : gP 182 46 = some (.getfield 41, 3, 8, 96) := by decide +kernel
theorem c182_49 : gP 182 49 = some (.iconst 12, 2, 0, 0) := by decide +kernel
theorem c182_51 : gP 182 51 = some (.iload 1, 1, 0, 0) := by decide +kernel
theorem c182_52 : gP 182 52 = some (.imul, 1, 0, 0) := by decide +kernel
theorem c182_53 : gP 182 53 = some (.iload 3, 1, 0, 0) := by decide +kernel
theorem c182_54 : gP 182 54 = some (.iadd, 1, 0, 0) := by decide +kernel
theorem c182_55 : gP 182 55 = some (.iaload, 1, 0, 0) := by decide +kernel
theorem c182_56 : gP 182 56 = some (.ifCond .lt 75, 3, 0, 0) := by decide +kernel
theorem c182_59 : gP 182 59 = some (.aload 0, 1, 0, 0) := by decide +kernel
theorem c182_60 : gP 182 60 = some (.getfield 41, 3, 8, 96) := by decide +kernel
theorem c182_63 : gP 182 63 = some (.iconst 12, 2, 0, 0) := by decide +kernel
theorem c182_65 : gP 182 65 = some (.iload 2, 1, 0, 0) := by decide +kernel
theorem c182_66 : gP 182 66 = some (.imul, 1, 0, 0) := by decide +kernel
theorem c182_67 : gP 182 67 = some (.iload 3, 1, 0, 0) := by decide +kernel
theorem c182_68 : gP 182 68 = some (.iadd, 1, 0, 0) := by decide +kernel
theorem c182_69 : gP 182 69 = some (.iaload, 1, 0, 0) := by decide +kernel
theorem c182_70 : gP 182 70 = some (.ifCond .lt 75, 3, 0, 0) := by decide +kernel
theorem c182_73 : gP 182 73 = some (.iconst 1, 1, 0, 0) := by decide +kernel
theorem c182_74 : gP 182 74 = some (.ireturn, 1, 0, 0) := by decide +kernel
theorem c182_75 : gP 182 75 = some (.iinc 3 1, 3, 0, 0) := by decide +kernel
theorem c182_78 : gP 182 78 = some (.goto 32, 3, 0, 0) := by decide +kernel
theorem c182_81 : gP 182 81 = some (.iconst 0, 1, 0, 0) := by decide +kernel
theorem c182_82 : gP 182 82 = some (.ireturn, 1, 0, 0) := by decide +kernel
theorem c183_0 : gP 183 0 = some (.aload 0, 1, 0, 0) := by decide +kernel
theorem c183_1 : gP 183 1 = some (.iload 1, 1, 0, 0) := by decide +kernel
theorem c183_2 : gP 183 2 = some (.invokeinterface 167 108, 3, 2, 1) := by decide +kernel
theorem c183_5 : gP 183 5 = some (.ifCond .ne 16, 3, 0, 0) := by decide +kernel
theorem c183_8 : gP 183 8 = some (.athrow, 89, 11, 87) := by decide +kernel
theorem c183_16 : gP 183 16 = some (.aload 0, 1, 0, 0) := by decide +kernel
theorem c183_17 : gP 183 17 = some (.getfield 4, 3, 7, 37) := by decide +kernel
theorem c183_20 : gP 183 20 = some (.getfield 5, 3, 6, 135) := by decide +kernel
theorem c183_23 : gP 183 23 = some (.iload 1, 1, 0, 0) := by decide +kernel
theorem c183_24 : gP 183 24 = some (.aaload, 1, 0, 0) := by decide +kernel
theorem c183_25 : gP 183 25 = some (.astore 3, 1, 0, 0) := by decide +kernel
theorem c183_26 : gP 183 26 = some (.iload 2, 1, 0, 0) := by decide +kernel
theorem c183_27 : gP 183 27 = some (.tableswitch 60 0 4 #[33, 38, 43, 49, 55], 33, 0, 0) := by decide +kernel
theorem c183_60 : gP 183 60 = some (.aload 3, 1, 0, 0) := by decide +kernel
theorem c183_61 : gP 183 61 = some (.getfield 2, 3, 4, 139) := by decide +kernel
theorem c183_64 : gP 183 64 = some (.ireturn, 1, 0, 0) := by decide +kernel
theorem c183_65 : gP 183 65 = some (.aload 3, 1, 0, 0) := by decide +kernel
theorem c183_66 : gP 183 66 = some (.invokeinterface 57 144, 3, 1, 1) := by decide +kernel
theorem c183_69 : gP 183 69 = some (.ireturn, 1, 0, 0) := by decide +kernel
theorem c183_70 : gP 183 70 = some (.aload 3, 1, 0, 0) := by decide +kernel
theorem c183_71 : gP 183 71 = some (.iconst 0, 1, 0, 0) := by decide +kernel
theorem c183_72 : gP 183 72 = some (.invokeinterface 87 147, 3, 2, 1) := by decide +kernel
theorem c183_75 : gP 183 75 = some (.ireturn, 1, 0, 0) := by decide +kernel
theorem c183_76 : gP 183 76 = some (.aload 3, 1, 0, 0) := by decide +kernel
theorem c183_77 : gP 183 77 = some (.iconst 1, 1, 0, 0) := by decide +kernel
theorem c183_78 : gP 183 78 = some (.invokeinterface 87 147, 3, 2, 1) := by decide +kernel
theorem c183_81 : gP 183 81 = some (.ireturn, 1, 0, 0) := by decide +kernel
theorem c183_82 : gP 183 82 = some (.aload 3, 1, 0, 0) := by decide +kernel
theorem c183_83 : gP 183 83 = some (.getfield 1, 3, 4, 151) := by decide +kernel
theorem c183_86 : gP 183 86 = some (.ireturn, 1, 0, 0) := by decide +kernel
theorem c183_87 : gP 183 87 = some (.athrow, 54, 9, 52) := by decide +kernel
theorem c184_0 : gP 184 0 = some (.aload 3, 1, 0, 0) := by decide +kernel
theorem c184_1 : gP 184 1 = some (.iconst 0, 1, 0, 0) := by decide +kernel
theorem c184_2 : gP 184 2 = some (.aload 0, 1, 0, 0) := by decide +kernel
theorem c184_3 : gP 184 3 = some (.iload 1, 1, 0, 0) := by decide +kernel
theorem c184_4 : gP 184 4 = some (.iload 2, 1, 0, 0) := by decide +kernel
theorem c184_5 : gP 184 5 = some (.invokeinterface 183 47, 3, 3, 1) := by decide +kernel
theorem c184_8 : gP 184 8 = some (.i2l, 1, 0, 0) := by decide +kernel
theorem c184_9 : gP 184 9 = some (.lastore, 1, 0, 0) := by decide +kernel
theorem c184_10 : gP 184 10 = some (.goto 21, 3, 0, 0) := by decide +kernel
theorem c184_13 : gP 184 13 = some (.astore 4, 2, 0, 0) := by decide +kernel
theorem c184_15 : gP 184 15 = some (.iconst 1, 1, 0, 0) := by decide +kernel
theorem c184_16 : gP 184 16 = some (.ireturn, 1, 0, 0) := by decide +kernel
theorem c184_17 : gP 184 17 = some (.astore 4, 2, 0, 0) := by decide +kernel
theorem c184_19 : gP 184 19 = some (.iconst 2, 1, 0, 0) := by decide +kernel
theorem c184_20 : gP 184 20 = some (.ireturn, 1, 0, 0) := by decide +kernel
theorem c184_21 : gP 184 21 = some (.iconst 0, 1, 0, 0) := by decide +kernel
theorem c184_22 : gP 184 22 = some (.ireturn, 1, 0, 0) := by decide +kernel
theorem c185_0 : gP 185 0 = some (.aload 0, 1, 0, 0) := by decide +kernel
theorem c185_1 : gP 185 1 = some (.aload 0, 1, 0, 0) := by decide +kernel
theorem c185_2 : gP 185 2 = some (.iload 1, 1, 0, 0) := by decide +kernel
theorem c185_3 : gP 185 3 = some (.invokeinterface 170 378, 3, 2, 1) := by decide +kernel
theorem c185_6 : gP 185 6 = some (.invokeinterface 162 375, 3, 2, 1) := by decide +kernel
theorem c185_9 : gP 185 9 = some (.ifCond .ne 14, 3, 0, 0) := by decide +kernel
theorem c185_12 : gP 185 12 = some (.iconst 0, 1, 0, 0) := by decide +kernel
theorem c185_13 : gP 185 13 = some (.ireturn, 1, 0, 0) := by decide +kernel
theorem c185_14 : gP 185 14 = some (.aload 0, 1, 0, 0) := by decide +kernel
theorem c185_15 : gP 185 15 = some (.iload 2, 1, 0, 0) := by decide +kernel
theorem c185_16 : gP 185 16 = some (.iconst 0, 1, 0, 0) := by decide +kernel
theorem c185_17 : gP 185 17 = some (.iconst 4, 1, 0, 0) := by decide +kernel
theorem c185_18 : gP 185 18 = some (.invokeinterface 22 126, 3, 3, 0) := by decide +kernel
theorem c185_21 : gP 185 21 = some (.iconst 2, 1, 0, 0) := by decide +kernel
theorem c185_22 : gP 185 22 = some (.invokeinterface 23 130, 3, 3, 1) := by decide +kernel
theorem c185_25 : gP 185 25 = some (.ifCond .ne 30, 3, 0, 0) := by decide +kernel
theorem c185_28 : gP 185 28 = some (.iconst 0, 1, 0, 0) := by decide +kernel
theorem c185_29 : gP 185 29 = some (.ireturn, 1, 0, 0) := by decide +kernel
theorem c185_30 : gP 185 30 = some (.iconst 10, 2, 0, 0) := by decide +kernel
theorem c185_32 : gP 185 32 = some (.aload 0, 1, 0, 0) := by decide +kernel
theorem c185_33 : gP 185 33 = some (.getfield 18, 3, 8, 221) := by decide +kernel
theorem c185_36 : gP 185 36 = some (.imul, 1, 0, 0) := by decide +kernel
theorem c185_37 : gP 185 37 = some (.iload 1, 1, 0, 0) := by decide +kernel
theorem c185_38 : gP 185 38 = some (.iadd, 1, 0, 0) := by decide +kernel
theorem c185_39 : gP 185 39 = some (.istore 3, 1, 0, 0) := by decide +kernel
theorem c185_40 : gP 185 40 = some (.iload 2, 1, 0, 0) := by decide +kernel
theorem c185_41 : gP 185 41 = some (.iconst 4, 1, 0, 0) := by decide +kernel
theorem c185_42 : gP 185 42 = some (.if_icmp .ne 52, 3, 0, 0) := by decide +kernel
theorem c185_45 : gP 185 45 = some (.aload 0, 1, 0, 0) := by decide +kernel
theorem c185_46 : gP 185 46 = some (.getfield 33, 3, 8, 72) := by decide +kernel
theorem c185_49 : gP 185 49 = some (.iload 3, 1, 0, 0) := by decide +kernel
theorem c185_50 : gP 185 50 = some (.iaload, 1, 0, 0) := by decide +kernel
theorem c185_51 : gP 185 51 = some (.ireturn, 1, 0, 0) := by decide +kernel
theorem c185_52 : gP 185 52 = some (.iload 2, 1, 0, 0) := by decide +kernel
theorem c185_53 : gP 185 53 = some (.iconst 2, 1, 0, 0) := by decide +kernel
theorem c185_54 : gP 185 54 = some (.isub, 1, 0, 0) := by decide +kernel
theorem c185_55 : gP 185 55 = some (.aload 0, 1, 0, 0) := by decide +kernel
theorem c185_56 : gP 185 56 = some (.getfield 34, 3, 8, 75) := by decide +kernel
theorem c185_59 : gP 185 59 = some (.iload 3, 1, 0, 0) := by decide +kernel
theorem c185_60 : gP 185 60 = some (.iaload, 1, 0, 0) := by decide +kernel
theorem c185_61 : gP 185 61 = some (.if_icmp .ge 75, 3, 0, 0) := by decide +kernel
theorem c185_64 : gP 185 64 = some (.aload 0, 1, 0, 0) := by decide +kernel
theorem c185_65 : gP 185 65 = some (.getfield 35, 3, 8, 78) := by decide +kernel
theorem c185_68 : gP 185 68 = some (.iload 3, 1, 0, 0) := by decide +kernel
theorem c185_69 : gP 185 69 = some (.iaload, 1, 0, 0) := by decide +kernel
theorem c185_70 : gP 185 70 = some (.iload 2, 1, 0, 0) := by decide +kernel
theorem c185_71 : gP 185 71 = some (.iadd, 1, 0, 0) := by decide +kernel
theorem c185_72 : gP 185 72 = some (.goto 76, 3, 0, 0) := by decide +kernel
theorem c185_75 : gP 185 75 = some (.iconst (-1), 1, 0, 0) := by decide +kernel
theorem c185_76 : gP 185 76 = some (.ireturn, 1, 0, 0) := by decide +kernel
theorem c186_0 : gP 186 0 = some (.aload 0, 1, 0, 0) := by decide +kernel
theorem c186_1 : gP 186 1 = some (.getfield 5, 3, 3, 39) := by decide +kernel
theorem c186_4 : gP 186 4 = some (.iconst 30, 2, 0, 0) := by decide +kernel
theorem c186_6 : gP 186 6 = some (.if_icmp .ne 17, 3, 0, 0) := by decide +kernel
theorem c186_9 : gP 186 9 = some (.athrow, 85, 10, 83) := by decide +kernel
theorem c186_17 : gP 186 17 = some (.aload 0, 1, 0, 0) := by decide +kernel
theorem c186_18 : gP 186 18 = some (.getfield 5, 3, 3, 39) := by decide +kernel
theorem c186_21 : gP 186 21 = some (.istore 2, 1, 0, 0) := by decide +kernel
theorem c186_22 : gP 186 22 = some (.aload 0, 1, 0, 0) := by decide +kernel
theorem c186_23 : gP 186 23 = some (.dup, 1, 0, 0) := by decide +kernel
theorem c186_24 : gP 186 24 = some (.getfield 5, 3, 3, 39) := by decide +kernel
theorem c186_27 : gP 186 27 = some (.iconst 1, 1, 0, 0) := by decide +kernel
theorem c186_28 : gP 186 28 = some (.iadd, 1, 0, 0) := by decide +kernel
theorem c186_29 : gP 186 29 = some (.putfield 5, 3, 3, 0) := by decide +kernel
theorem c186_32 : gP 186 32 = some (.aload 0, 1, 0, 0) := by decide +kernel
theorem c186_33 : gP 186 33 = some (.getfield 1, 3, 3, 16) := by decide +kernel
theorem c186_36 : gP 186 36 = some (.iload 2, 1, 0, 0) := by decide +kernel
theorem c186_37 : gP 186 37 = some (.iload 1, 1, 0, 0) := by decide +kernel
theorem c186_38 : gP 186 38 = some (.iastore, 1, 0, 0) := by decide +kernel
theorem c186_39 : gP 186 39 = some (.aload 0, 1, 0, 0) := by decide +kernel
theorem c186_40 : gP 186 40 = some (.getfield 2, 3, 3, 20) := by decide +kernel
theorem c186_43 : gP 186 43 = some (.iload 2, 1, 0, 0) := by decide +kernel
theorem c186_44 : gP 186 44 = some (.aaload, 1, 0, 0) := by decide +kernel
theorem c186_45 : gP 186 45 = some (.iconst (-1), 1, 0, 0) := by decide +kernel
theorem c186_46 : gP 186 46 = some (.invokeinterface 75 26, 3, 2, 0) := by decide +kernel
theorem c186_49 : gP 186 49 = some (.iload 2, 1, 0, 0) := by decide +kernel
theorem c186_50 : gP 186 50 = some (.ireturn, 1, 0, 0) := by decide +kernel
theorem c187_0 : gP 187 0 = some (.iload 1, 1, 0, 0) := by decide +kernel
theorem c187_1 : gP 187 1 = some (.iconst 4, 1, 0, 0) := by decide +kernel
theorem c187_2 : gP 187 2 = some (.if_icmp .lt 13, 3, 0, 0) := by decide +kernel
theorem c187_5 : gP 187 5 = some (.athrow, 85, 10, 83) := by decide +kernel
theorem c187_13 : gP 187 13 = some (.aload 0, 1, 0, 0) := by decide +kernel
theorem c187_14 : gP 187 14 = some (.getfield 3, 3, 3, 23) := by decide +kernel
theorem c187_17 : gP 187 17 = some (.iload 1, 1, 0, 0) := by decide +kernel
theorem c187_18 : gP 187 18 = some (.aaload, 1, 0, 0) := by decide +kernel
theorem c187_19 : gP 187 19 = some (.iconst (-1), 1, 0, 0) := by decide +kernel
theorem c187_20 : gP 187 20 = some (.invokeinterface 75 26, 3, 2, 0) := by decide +kernel
theorem c187_23 : gP 187 23 = some (.aload 0, 1, 0, 0) := by decide +kernel
theorem c187_24 : gP 187 24 = some (.getfield 3, 3, 3, 23) := by decide +kernel
theorem c187_27 : gP 187 27 = some (.iload 1, 1, 0, 0) := by decide +kernel
theorem c187_28 : gP 187 28 = some (.aaload, 1, 0, 0) := by decide +kernel
theorem c187_29 : gP 187 29 = some (.areturn, 1, 0, 0) := by decide +kernel
theorem c188_0 : gP 188 0 = some (.aload 1, 1, 0, 0) := by decide +kernel
theorem c188_1 : gP 188 1 = some (.iload 2, 1, 0, 0) := by decide +kernel
theorem c188_2 : gP 188 2 = some (.iload 3, 1, 0, 0) := by decide +kernel
theorem c188_3 : gP 188 3 = some (.iastore, 1, 0, 0) := by decide +kernel
theorem c188_4 : gP 188 4 = some (.iload 3, 1, 0, 0) := by decide +kernel
theorem c188_5 : gP 188 5 = some (.iconst (-1), 1, 0, 0) := by decide +kernel
theorem c188_6 : gP 188 6 = some (.if_icmp .eq 23, 3, 0, 0) := by decide +kernel
theorem c188_9 : gP 188 9 = some (.aload 0, 1, 0, 0) := by decide +kernel
theorem c188_10 : gP 188 10 = some (.getfield 0, 3, 3, 11) := by decide +kernel
theorem c188_13 : gP 188 13 = some (.iload 2, 1, 0, 0) := by decide +kernel
theorem c188_14 : gP 188 14 = some (.aaload, 1, 0, 0) := by decide +kernel
theorem c188_15 : gP 188 15 = some (.aload 0, 1, 0, 0) := by decide +kernel
theorem c188_16 : gP 188 16 = some (.getfield 1, 3, 3, 16) := by decide +kernel
theorem c188_19 : gP 188 19 = some (.iload 3, 1, 0, 0) := by decide +kernel
theorem c188_20 : gP 188 20 = some (.iaload, 1, 0, 0) := by decide +kernel
theorem c188_21 : gP 188 21 = some (.iconst 1, 1, 0, 0) := by decide +kernel
theorem c188_22 : gP 188 22 = some (.iastore, 1, 0, 0) := by decide +kernel
theorem c188_23 : gP 188 23 = some (.return_, 1, 0, 0) := by decide +kernel
theorem c189_0 : gP 189 0 = some (.aload 0, 1, 0, 0) := by decide +kernel
theorem c189_1 : gP 189 1 = some (.getfield 6, 3, 3, 43) := by decide +kernel
theorem c189_4 : gP 189 4 = some (.iconst 200, 3, 0, 0) := by decide +kernel
theorem c189_7 : gP 189 7 = some (.if_icmp .ne 18, 3, 0, 0) := by decide +kernel
theorem c189_10 : gP 189 10 = some (.athrow, 85, 10, 83) := by decide +kernel
theorem c189_18 : gP 189 18 = some (.aload 0, 1, 0, 0) := by decide +kernel
theorem c189_19 : gP 189 19 = some (.dup, 1, 0, 0) := by decide +kernel
theorem c189_20 : gP 189 20 = some (.getfield 6, 3, 3, 43) := by decide +kernel
theorem c189_23 : gP 189 23 = some (.iconst 1, 1, 0, 0) := by decide +kernel
theorem c189_24 : gP 189 24 = some (.iadd, 1, 0, 0) := by decide +kernel
theorem c189_25 : gP 189 25 = some (.putfield 6, 3, 3, 0) := by decide +kernel
theorem c189_28 : gP 189 28 = some (.return_, 1, 0, 0) := by decide +kernel
theorem c190_0 : gP 190 0 = some (.aload 0, 1, 0, 0) := by decide +kernel
theorem c190_1 : gP 190 1 = some (.getfield 4, 3, 3, 32) := by decide +kernel
theorem c190_4 : gP 190 4 = some (.getfield 6, 3, 6, 90) := by decide +kernel
theorem c190_7 : gP 190 7 = some (.iload 1, 1, 0, 0) := by decide +kernel
theorem c190_8 : gP 190 8 = some (.aaload, 1, 0, 0) := by decide +kernel
theorem c190_9 : gP 190 9 = some (.astore 3, 1, 0, 0) := by decide +kernel
theorem c190_10 : gP 190 10 = some (.iconst 0, 1, 0, 0) := by decide +kernel
theorem c190_11 : gP 190 11 = some (.istore 4, 2, 0, 0) := by decide +kernel
theorem c190_13 : gP 190 13 = some (.iload 4, 2, 0, 0) := by decide +kernel
theorem c190_15 : gP 190 15 = some (.iconst 200, 3, 0, 0) := by decide +kernel
theorem c190_18 : gP 190 18 = some (.if_icmp .gt 63, 3, 0, 0) := by decide +kernel
theorem c190_21 : gP 190 21 = some (.aload 0, 1, 0, 0) := by decide +kernel
theorem c190_22 : gP 190 22 = some (.getfield 3, 3, 3, 23) := by decide +kernel
theorem c190_25 : gP 190 25 = some (.iload 2, 1, 0, 0) := by decide +kernel
theorem c190_26 : gP 190 26 = some (.aaload, 1, 0, 0) := by decide +kernel
theorem c190_27 : gP 190 27 = some (.aload 3, 1, 0, 0) := by decide +kernel
theorem c190_28 : gP 190 28 = some (.getfield 3, 3, 5, 105) := by decide +kernel
theorem c190_31 : gP 190 31 = some (.iaload, 1, 0, 0) := by decide +kernel
theorem c190_32 : gP 190 32 = some (.iconst (-1), 1, 0, 0) := by decide +kernel
theorem c190_33 : gP 190 33 = some (.if_icmp .eq 63, 3, 0, 0) := by decide +kernel
theorem c190_36 : gP 190 36 = some (.aload 0, 1, 0, 0) := by decide +kernel
theorem c190_37 : gP 190 37 = some (.iload 1, 1, 0, 0) := by decide +kernel
theorem c190_38 : gP 190 38 = some (.iconst 1, 1, 0, 0) := by decide +kernel
theorem c190_39 : gP 190 39 = some (.iadd, 1, 0, 0) := by decide +kernel
theorem c190_40 : gP 190 40 = some (.aload 3, 1, 0, 0) := by decide +kernel
theorem c190_41 : gP 190 41 = some (.getfield 11, 3, 5, 108) := by decide +kernel
theorem c190_44 : gP 190 44 = some (.iload 2, 1, 0, 0) := by decide +kernel
theorem c190_45 : gP 190 45 = some (.invokeinterface 197 79, 3, 4, 1) := by decide +kernel
theorem c190_48 : gP 190 48 = some (.ifCond .eq 53, 3, 0, 0) := by decide +kernel
theorem c190_51 : gP 190 51 = some (.iconst 1, 1, 0, 0) := by decide +kernel
theorem c190_52 : gP 190 52 = some (.ireturn, 1, 1, 0) := by decide +kernel
theorem c190_53 : gP 190 53 = some (.aload 0, 1, 0, 0) := by decide +kernel
theorem c190_54 : gP 190 54 = some (.invokeinterface 189 99, 3, 1, 1) := by decide +kernel
theorem c190_57 : gP 190 57 = some (.iinc 4 1, 3, 0, 0) := by decide +kernel
theorem c190_60 : gP 190 60 = some (.goto 13, 3, 0, 0) := by decide +kernel
theorem c190_63 : gP 190 63 = some (.iconst 0, 1, 0, 0) := by decide +kernel
theorem c190_64 : gP 190 64 = some (.ireturn, 1, 1, 0) := by decide +kernel
theorem c191_0 : gP 191 0 = some (.iload 1, 1, 0, 0) := by decide +kernel
theorem c191_1 : gP 191 1 = some (.iconst (-1), 1, 0, 0) := by decide +kernel
theorem c191_2 : gP 191 2 = some (.if_icmp .ne 13, 3, 0, 0) := by decide +kernel
theorem c191_5 : gP 191 5 = some (.athrow, 140, 11, 138) := by decide +kernel
theorem c191_13 : gP 191 13 = some (.aload 0, 1, 0, 0) := by decide +kernel
theorem c191_14 : gP 191 14 = some (.getfield 4, 3, 3, 32) := by decide +kernel
theorem c191_17 : gP 191 17 = some (.getfield 7, 3, 6, 141) := by decide +kernel
theorem c191_20 : gP 191 20 = some (.aload 0, 1, 0, 0) := by decide +kernel
theorem c191_21 : gP 191 21 = some (.getfield 1, 3, 3, 16) := by decide +kernel
theorem c191_24 : gP 191 24 = some (.iload 1, 1, 0, 0) := by decide +kernel
theorem c191_25 : gP 191 25 = some (.iaload, 1, 0, 0) := by decide +kernel
theorem c191_26 : gP 191 26 = some (.iaload, 1, 0, 0) := by decide +kernel
theorem c191_27 : gP 191 27 = some (.ireturn, 1, 0, 0) := by decide +kernel
theorem c192_0 : gP 192 0 = some (.aload 0, 1, 0, 0) := by decide +kernel
theorem c192_1 : gP 192 1 = some (.getfield 4, 3, 3, 32) := by decide +kernel
theorem c192_4 : gP 192 4 = some (.aload 0, 1, 0, 0) := by decide +kernel
theorem c192_5 : gP 192 5 = some (.iload 1, 1, 0, 0) := by decide +kernel
theorem c192_6 : gP 192 6 = some (.invokeinterface 191 144, 3, 2, 1) := by decide +kernel
theorem c192_9 : gP 192 9 = some (.iload 2, 1, 0, 0) := by decide +kernel
theorem c192_10 : gP 192 10 = some (.invokeinterface 47 147, 3, 3, 1) := by decide +kernel
theorem c192_13 : gP 192 13 = some (.ifCond .ne 24, 3, 0, 0) := by decide +kernel
theorem c192_16 : gP 192 16 = some (.athrow, 152, 13, 150) := by decide +kernel
theorem c192_24 : gP 192 24 = some (.iload 1, 1, 0, 0) := by decide +kernel
theorem c192_25 : gP 192 25 = some (.ireturn, 1, 0, 0) := by decide +kernel
theorem c193_0 : gP 193 0 = some (.aload 0, 1, 0, 0) := by decide +kernel
theorem c193_1 : gP 193 1 = some (.getfield 3, 3, 3, 23) := by decide +kernel
theorem c193_4 : gP 193 4 = some (.iload 2, 1, 0, 0) := by decide +kernel
theorem c193_5 : gP 193 5 = some (.aaload, 1, 0, 0) := by decide +kernel
theorem c193_6 : gP 193 6 = some (.astore 3, 1, 0, 0) := by decide +kernel
theorem c193_7 : gP 193 7 = some (.aload 3, 1, 0, 0) := by decide +kernel
theorem c193_8 : gP 193 8 = some (.aload 1, 1, 0, 0) := by decide +kernel
theorem c193_9 : gP 193 9 = some (.getfield 3, 3, 5, 105) := by decide +kernel
theorem c193_12 : gP 193 12 = some (.iaload, 1, 0, 0) := by decide +kernel
theorem c193_13 : gP 193 13 = some (.istore 4, 2, 0, 0) := by decide +kernel
theorem c193_15 : gP 193 15 = some (.aload 0, 1, 0, 0) := by decide +kernel
theorem c193_16 : gP 193 16 = some (.getfield 4, 3, 3, 32) := by decide +kernel
theorem c193_19 : gP 193 19 = some (.aload 0, 1, 0, 0) := by decide +kernel
theorem c193_20 : gP 193 20 = some (.iload 4, 2, 0, 0) := by decide +kernel
theorem c193_22 : gP 193 22 = some (.invokeinterface 191 144, 3, 2, 1) := by decide +kernel
theorem c193_25 : gP 193 25 = some (.aload 1, 1, 0, 0) := by decide +kernel
theorem c193_26 : gP 193 26 = some (.getfield 4, 3, 5, 159) := by decide +kernel
theorem c193_29 : gP 193 29 = some (.aload 1, 1, 0, 0) := by decide +kernel
theorem c193_30 : gP 193 30 = some (.getfield 8, 3, 5, 162) := by decide +kernel
theorem c193_33 : gP 193 33 = some (.invokeinterface 72 165, 3, 4, 1) := by decide +kernel
theorem c193_36 : gP 193 36 = some (.istore 5, 2, 0, 0) := by decide +kernel
theorem c193_38 : gP 193 38 = some (.iload 5, 2, 0, 0) := by decide +kernel
theorem c193_40 : gP 193 40 = some (.iconst (-1), 1, 0, 0) := by decide +kernel
theorem c193_41 : gP 193 41 = some (.if_icmp .ne 52, 3, 0, 0) := by decide +kernel
theorem c193_44 : gP 193 44 = some (.athrow, 152, 13, 150) := by decide +kernel
theorem c193_52 : gP 193 52 = some (.aload 0, 1, 0, 0) := by decide +kernel
theorem c193_53 : gP 193 53 = some (.getfield 4, 3, 3, 32) := by decide +kernel
theorem c193_56 : gP 193 56 = some (.getfield 5, 3, 6, 50) := by decide +kernel
theorem c193_59 : gP 193 59 = some (.iload 5, 2, 0, 0) := by decide +kernel
theorem c193_61 : gP 193 61 = some (.aaload, 1, 0, 0) := by decide +kernel
theorem c193_62 : gP 193 62 = some (.astore 6, 2, 0, 0) := by decide +kernel
theorem c193_64 : gP 193 64 = some (.aload 0, 1, 0, 0) := by decide +kernel
theorem c193_65 : gP 193 65 = some (.iload 2, 1, 0, 0) := by decide +kernel
theorem c193_66 : gP 193 66 = some (.iconst 1, 1, 0, 0) := by decide +kernel
theorem c193_67 : gP 193 67 = some (.iadd, 1, 0, 0) := by decide +kernel
theorem c193_68 : gP 193 68 = some (.invokeinterface 187 59, 3, 2, 1) := by decide +kernel
theorem c193_71 : gP 193 71 = some (.astore 7, 2, 0, 0) := by decide +kernel
theorem c193_73 : gP 193 73 = some (.aload 0, 1, 0, 0) := by decide +kernel
theorem c193_74 : gP 193 74 = some (.aload 7, 2, 0, 0) := by decide +kernel
theorem c193_76 : gP 193 76 = some (.aload 6, 2, 0, 0) := by decide +kernel
theorem c193_78 : gP 193 78 = some (.invokeinterface 57 63, 3, 1, 1) := by decide +kernel
theorem c193_81 : gP 193 81 = some (.iload 4, 2, 0, 0) := by decide +kernel
theorem c193_83 : gP 193 83 = some (.invokeinterface 188 69, 3, 4, 1) := by decide +kernel
theorem c193_86 : gP 193 86 = some (.aload 1, 1, 0, 0) := by decide +kernel
theorem c193_87 : gP 193 87 = some (.getfield 8, 3, 5, 162) := by decide +kernel
theorem c193_90 : gP 193 90 = some (.ifCond .le 111, 3, 0, 0) := by decide +kernel
theorem c193_93 : gP 193 93 = some (.aload 0, 1, 0, 0) := by decide +kernel
theorem c193_94 : gP 193 94 = some (.aload 7, 2, 0, 0) := by decide +kernel
theorem c193_96 : gP 193 96 = some (.aload 6, 2, 0, 0) := by decide +kernel
theorem c193_98 : gP 193 98 = some (.iconst 0, 1, 0, 0) := by decide +kernel
theorem c193_99 : gP 193 99 = some (.invokeinterface 87 169, 3, 2, 1) := by decide +kernel
theorem c193_102 : gP 193 102 = some (.aload 3, 1, 0, 0) := by decide +kernel
theorem c193_103 : gP 193 103 = some (.aload 1, 1, 0, 0) := by decide +kernel
theorem c193_104 : gP 193 104 = some (.getfield 9, 3, 5, 172) := by decide +kernel
theorem c193_107 : gP 193 107 = some (.iaload, 1, 0, 0) := by decide +kernel
theorem c193_108 : gP 193 108 = some (.invokeinterface 188 69, 3, 4, 1) := by decide +kernel
theorem c193_111 : gP 193 111 = some (.aload 1, 1, 0, 0) := by decide +kernel
theorem c193_112 : gP 193 112 = some (.getfield 8, 3, 5, 162) := by decide +kernel
theorem c193_115 : gP 193 115 = some (.iconst 1, 1, 0, 0) := by decide +kernel
theorem c193_116 : gP 193 116 = some (.if_icmp .le 137, 3, 0, 0) := by decide +kernel
theorem c193_119 : gP 193 119 = some (.aload 0, 1, 0, 0) := by decide +kernel
theorem c193_120 : gP 193 120 = some (.aload 7, 2, 0, 0) := by decide +kernel
theorem c193_122 : gP 193 122 = some (.aload 6, 2, 0, 0) := by decide +kernel
theorem c193_124 : gP 193 124 = some (.iconst 1, 1, 0, 0) := by decide +kernel
theorem c193_125 : gP 193 125 = some (.invokeinterface 87 169, 3, 2, 1) := by decide +kernel
theorem c193_128 : gP 193 128 = some (.aload 3, 1, 0, 0) := by decide +kernel
theorem c193_129 : gP 193 129 = some (.aload 1, 1, 0, 0) := by decide +kernel
theorem c193_130 : gP 193 130 = some (.getfield 10, 3, 5, 175) := by decide +kernel
theorem c193_133 : gP 193 133 = some (.iaload, 1, 0, 0) := by decide +kernel
theorem c193_134 : gP 193 134 = some (.invokeinterface 188 69, 3, 4, 1) := by decide +kernel
theorem c193_137 : gP 193 137 = some (.aload 0, 1, 0, 0) := by decide +kernel
theorem c193_138 : gP 193 138 = some (.aload 6, 2, 0, 0) := by decide +kernel
theorem c193_140 : gP 193 140 = some (.getfield 4, 3, 4, 73) := by decide +kernel
theorem c193_143 : gP 193 143 = some (.aload 6, 2, 0, 0) := by decide +kernel
theorem c193_145 : gP 193 145 = some (.getfield 5, 3, 4, 76) := by decide +kernel
theorem c193_148 : gP 193 148 = some (.iload 2, 1, 0, 0) := by decide +kernel
theorem c193_149 : gP 193 149 = some (.iconst 1, 1, 0, 0) := by decide +kernel
theorem c193_150 : gP 193 150 = some (.iadd, 1, 0, 0) := by decide +kernel
theorem c193_151 : gP 193 151 = some (.invokeinterface 197 79, 3, 4, 1) := by decide +kernel
theorem c193_154 : gP 193 154 = some (.pop, 1, 0, 0) := by decide +kernel
theorem c193_155 : gP 193 155 = some (.aload 1, 1, 0, 0) := by decide +kernel
theorem c193_156 : gP 193 156 = some (.getfield 2, 3, 5, 114) := by decide +kernel
theorem c193_159 : gP 193 159 = some (.iconst (-1), 1, 0, 0) := by decide +kernel
theorem c193_160 : gP 193 160 = some (.if_icmp .eq 180, 3, 0, 0) := by decide +kernel
theorem c193_163 : gP 193 163 = some (.aload 0, 1, 0, 0) := by decide +kernel
theorem c193_164 : gP 193 164 = some (.aload 3, 1, 0, 0) := by decide +kernel
theorem c193_165 : gP 193 165 = some (.aload 1, 1, 0, 0) := by decide +kernel
theorem c193_166 : gP 193 166 = some (.getfield 2, 3, 5, 114) := by decide +kernel
theorem c193_169 : gP 193 169 = some (.aload 7, 2, 0, 0) := by decide +kernel
theorem c193_171 : gP 193 171 = some (.aload 6, 2, 0, 0) := by decide +kernel
theorem c193_173 : gP 193 173 = some (.getfield 2, 3, 4, 178) := by decide +kernel
theorem c193_176 : gP 193 176 = some (.iaload, 1, 0, 0) := by decide +kernel
theorem c193_177 : gP 193 177 = some (.invokeinterface 188 69, 3, 4, 1) := by decide +kernel
theorem c193_180 : gP 193 180 = some (.return_, 1, 0, 0) := by decide +kernel
theorem c194_0 : gP 194 0 = some (.iload 2, 1, 0, 0) := by decide +kernel
theorem c194_1 : gP 194 1 = some (.iconst (-1), 1, 0, 0) := by decide +kernel
theorem c194_2 : gP 194 2 = some (.if_icmp .eq 29, 3, 0, 0) := by decide +kernel
theorem c194_5 : gP 194 5 = some (.aload 0, 1, 0, 0) := by decide +kernel
theorem c194_6 : gP 194 6 = some (.getfield 4, 3, 3, 32) := by decide +kernel
theorem c194_9 : gP 194 9 = some (.aload 0, 1, 0, 0) := by decide +kernel
theorem c194_10 : gP 194 10 = some (.iload 2, 1, 0, 0) := by decide +kernel
theorem c194_11 : gP 194 11 = some (.invokeinterface 191 144, 3, 2, 1) := by decide +kernel
theorem c194_14 : gP 194 14 = some (.iload 1, 1, 0, 0) := by decide +kernel
theorem c194_15 : gP 194 15 = some (.invokeinterface 81 153, 3, 3, 1) := by decide +kernel
theorem c194_18 : gP 194 18 = some (.ifCond .ne 29, 3, 0, 0) := by decide +kernel
theorem c194_21 : gP 194 21 = some (.athrow, 158, 12, 156) := by decide +kernel
theorem c194_29 : gP 194 29 = some (.iload 2, 1, 0, 0) := by decide +kernel
theorem c194_30 : gP 194 30 = some (.ireturn, 1, 0, 0) := by decide +kernel
theorem c195_0 : gP 195 0 = some (.aload 1, 1, 0, 0) := by decide +kernel
theorem c195_1 : gP 195 1 = some (.getfield 0, 3, 5, 102) := by decide +kernel
theorem c195_4 : gP 195 4 = some (.tableswitch 92 5 9 #[36, 92, 45, 60, 67], 36, 0, 0) := by decide +kernel
theorem c195_40 : gP 195 40 = some (.aload 0, 1, 0, 0) := by decide +kernel
theorem c195_41 : gP 195 41 = some (.aload 1, 1, 0, 0) := by decide +kernel
theorem c195_42 : gP 195 42 = some (.getfield 6, 3, 5, 117) := by decide +kernel
theorem c195_45 : gP 195 45 = some (.invokeinterface 186 46, 3, 2, 1) := by decide +kernel
theorem c195_48 : gP 195 48 = some (.ireturn, 1, 0, 0) := by decide +kernel
theorem c195_49 : gP 195 49 = some (.aload 0, 1, 0, 0) := by decide +kernel
theorem c195_50 : gP 195 50 = some (.aload 1, 1, 0, 0) := by decide +kernel
theorem c195_51 : gP 195 51 = some (.getfield 7, 3, 5, 132) := by decide +kernel
theorem c195_54 : gP 195 54 = some (.aload 2, 1, 0, 0) := by decide +kernel
theorem c195_55 : gP 195 55 = some (.aload 1, 1, 0, 0) := by decide +kernel
theorem c195_56 : gP 195 56 = some (.getfield 3, 3, 5, 105) := by decide +kernel
theorem c195_59 : gP 195 59 = some (.iaload, 1, 0, 0) := by decide +kernel
theorem c195_60 : gP 195 60 = some (.invokeinterface 194 135, 3, 3, 1) := by decide +kernel
theorem c195_63 : gP 195 63 = some (.ireturn, 1, 0, 0) := by decide +kernel
theorem c195_64 : gP 195 64 = some (.aload 2, 1, 0, 0) := by decide +kernel
theorem c195_65 : gP 195 65 = some (.aload 1, 1, 0, 0) := by decide +kernel
theorem c195_66 : gP 195 66 = some (.getfield 3, 3, 5, 105) := by decide +kernel
theorem c195_69 : gP 195 69 = some (.iaload, 1, 0, 0) := by decide +kernel
theorem c195_70 : gP 195 70 = some (.ireturn, 1, 0, 0) := by decide +kernel
theorem c195_71 : gP 195 71 = some (.aload 0, 1, 0, 0) := by decide +kernel
theorem c195_72 : gP 195 72 = some (.getfield 2, 3, 3, 20) := by decide +kernel
theorem c195_75 : gP 195 75 = some (.aload 0, 1, 0, 0) := by decide +kernel
theorem c195_76 : gP 195 76 = some (.aload 2, 1, 0, 0) := by decide +kernel
theorem c195_77 : gP 195 77 = some (.aload 1, 1, 0, 0) := by decide +kernel
theorem c195_78 : gP 195 78 = some (.getfield 3, 3, 5, 105) := by decide +kernel
theorem c195_81 : gP 195 81 = some (.iaload, 1, 0, 0) := by decide +kernel
theorem c195_82 : gP 195 82 = some (.aload 1, 1, 0, 0) := by decide +kernel
theorem c195_83 : gP 195 83 = some (.getfield 6, 3, 5, 117) := by decide +kernel
theorem c195_86 : gP 195 86 = some (.invokeinterface 192 120, 3, 3, 1) := by decide +kernel
theorem c195_89 : gP 195 89 = some (.aaload, 1, 0, 0) := by decide +kernel
theorem c195_90 : gP 195 90 = some (.aload 1, 1, 0, 0) := by decide +kernel
theorem c195_91 : gP 195 91 = some (.getfield 6, 3, 5, 117) := by decide +kernel
theorem c195_94 : gP 195 94 = some (.iaload, 1, 0, 0) := by decide +kernel
theorem c195_95 : gP 195 95 = some (.ireturn, 1, 0, 0) := by decide +kernel
theorem c195_96 : gP 195 96 = some (.iconst (-1), 1, 0, 0) := by decide +kernel
theorem c195_97 : gP 195 97 = some (.ireturn, 1, 0, 0) := by decide +kernel
theorem c196_0 : gP 196 0 = some (.aload 0, 1, 0, 0) := by decide +kernel
theorem c196_1 : gP 196 1 = some (.invokeinterface 189 99, 3, 1, 1) := by decide +kernel
theorem c196_4 : gP 196 4 = some (.aload 0, 1, 0, 0) := by decide +kernel
theorem c196_5 : gP 196 5 = some (.getfield 4, 3, 3, 32) := by decide +kernel
theorem c196_8 : gP 196 8 = some (.getfield 6, 3, 6, 90) := by decide +kernel
theorem c196_11 : gP 196 11 = some (.iload 1, 1, 0, 0) := by decide +kernel
theorem c196_12 : gP 196 12 = some (.aaload, 1, 0, 0) := by decide +kernel
theorem c196_13 : gP 196 13 = some (.astore 3, 1, 0, 0) := by decide +kernel
theorem c196_14 : gP 196 14 = some (.aload 0, 1, 0, 0) := by decide +kernel
theorem c196_15 : gP 196 15 = some (.getfield 3, 3, 3, 23) := by decide +kernel
theorem c196_18 : gP 196 18 = some (.iload 2, 1, 0, 0) := by decide +kernel
theorem c196_19 : gP 196 19 = some (.aaload, 1, 0, 0) := by decide +kernel
theorem c196_20 : gP 196 20 = some (.astore 4, 2, 0, 0) := by decide +kernel
theorem c196_22 : gP 196 22 = some (.aload 3, 1, 0, 0) := by decide +kernel
theorem c196_23 : gP 196 23 = some (.getfield 0, 3, 5, 102) := by decide +kernel
theorem c196_26 : gP 196 26 = some (.tableswitch 142 0 4 #[34, 74, 81, 100, 134], 34, 0, 0) := by decide +kernel
theorem c196_60 : gP 196 60 = some (.aload 4, 2, 0, 0) := by decide +kernel
theorem c196_62 : gP 196 62 = some (.aload 3, 1, 0, 0) := by decide +kernel
theorem c196_63 : gP 196 63 = some (.getfield 3, 3, 5, 105) := by decide +kernel
theorem c196_66 : gP 196 66 = some (.iaload, 1, 0, 0) := by decide +kernel
theorem c196_67 : gP 196 67 = some (.iconst (-1), 1, 0, 0) := by decide +kernel
theorem c196_68 : gP 196 68 = some (.if_icmp .eq 86, 3, 0, 0) := by decide +kernel
theorem c196_71 : gP 196 71 = some (.aload 0, 1, 0, 0) := by decide +kernel
theorem c196_72 : gP 196 72 = some (.iload 1, 1, 0, 0) := by decide +kernel
theorem c196_73 : gP 196 73 = some (.iconst 1, 1, 0, 0) := by decide +kernel
theorem c196_74 : gP 196 74 = some (.iadd, 1, 0, 0) := by decide +kernel
theorem c196_75 : gP 196 75 = some (.aload 3, 1, 0, 0) := by decide +kernel
theorem c196_76 : gP 196 76 = some (.getfield 11, 3, 5, 108) := by decide +kernel
theorem c196_79 : gP 196 79 = some (.iload 2, 1, 0, 0) := by decide +kernel
theorem c196_80 : gP 196 80 = some (.invokeinterface 197 79, 3, 4, 1) := by decide +kernel
theorem c196_83 : gP 196 83 = some (.goto 99, 3, 0, 0) := by decide +kernel
theorem c196_86 : gP 196 86 = some (.aload 0, 1, 0, 0) := by decide +kernel
theorem c196_87 : gP 196 87 = some (.aload 3, 1, 0, 0) := by decide +kernel
theorem c196_88 : gP 196 88 = some (.getfield 11, 3, 5, 108) := by decide +kernel
theorem c196_91 : gP 196 91 = some (.aload 3, 1, 0, 0) := by decide +kernel
theorem c196_92 : gP 196 92 = some (.getfield 12, 3, 5, 94) := by decide +kernel
theorem c196_95 : gP 196 95 = some (.iload 2, 1, 0, 0) := by decide +kernel
theorem c196_96 : gP 196 96 = some (.invokeinterface 197 79, 3, 4, 1) := by decide +kernel
theorem c196_99 : gP 196 99 = some (.ireturn, 1, 1, 0) := by decide +kernel
theorem c196_100 : gP 196 100 = some (.aload 0, 1, 0, 0) := by decide +kernel
theorem c196_101 : gP 196 101 = some (.iload 1, 1, 0, 0) := by decide +kernel
theorem c196_102 : gP 196 102 = some (.iload 2, 1, 0, 0) := by decide +kernel
theorem c196_103 : gP 196 103 = some (.invokeinterface 190 111, 3, 3, 1) := by decide +kernel
theorem c196_106 : gP 196 106 = some (.ireturn, 1, 1, 0) := by decide +kernel
theorem c196_107 : gP 196 107 = some (.aload 0, 1, 0, 0) := by decide +kernel
theorem c196_108 : gP 196 108 = some (.aload 4, 2, 0, 0) := by decide +kernel
theorem c196_110 : gP 196 110 = some (.aload 3, 1, 0, 0) := by decide +kernel
theorem c196_111 : gP 196 111 = some (.getfield 2, 3, 5, 114) := by decide +kernel
theorem c196_114 : gP 196 114 = some (.aload 4, 2, 0, 0) := by decide +kernel
theorem c196_116 : gP 196 116 = some (.aload 3, 1, 0, 0) := by decide +kernel
theorem c196_117 : gP 196 117 = some (.getfield 3, 3, 5, 105) := by decide +kernel
theorem c196_120 : gP 196 120 = some (.iaload, 1, 0, 0) := by decide +kernel
theorem c196_121 : gP 196 121 = some (.invokeinterface 188 69, 3, 4, 1) := by decide +kernel
theorem c196_124 : gP 196 124 = some (.iconst 1, 1, 0, 0) := by decide +kernel
theorem c196_125 : gP 196 125 = some (.ireturn, 1, 1, 0) := by decide +kernel
theorem c196_126 : gP 196 126 = some (.aload 0, 1, 0, 0) := by decide +kernel
theorem c196_127 : gP 196 127 = some (.getfield 2, 3, 3, 20) := by decide +kernel
theorem c196_130 : gP 196 130 = some (.aload 0, 1, 0, 0) := by decide +kernel
theorem c196_131 : gP 196 131 = some (.aload 4, 2, 0, 0) := by decide +kernel
theorem c196_133 : gP 196 133 = some (.aload 3, 1, 0, 0) := by decide +kernel
theorem c196_134 : gP 196 134 = some (.getfield 2, 3, 5, 114) := by decide +kernel
theorem c196_137 : gP 196 137 = some (.iaload, 1, 0, 0) := by decide +kernel
theorem c196_138 : gP 196 138 = some (.aload 3, 1, 0, 0) := by decide +kernel
theorem c196_139 : gP 196 139 = some (.getfield 6, 3, 5, 117) := by decide +kernel
theorem c196_142 : gP 196 142 = some (.invokeinterface 192 120, 3, 3, 1) := by decide +kernel
theorem c196_145 : gP 196 145 = some (.aaload, 1, 0, 0) := by decide +kernel
theorem c196_146 : gP 196 146 = some (.aload 3, 1, 0, 0) := by decide +kernel
theorem c196_147 : gP 196 147 = some (.getfield 6, 3, 5, 117) := by decide +kernel
theorem c196_150 : gP 196 150 = some (.aload 4, 2, 0, 0) := by decide +kernel
theorem c196_152 : gP 196 152 = some (.aload 3, 1, 0, 0) := by decide +kernel
theorem c196_153 : gP 196 153 = some (.getfield 3, 3, 5, 105) := by decide +kernel
theorem c196_156 : gP 196 156 = some (.iaload, 1, 0, 0) := by decide +kernel
theorem c196_157 : gP 196 157 = some (.iastore, 1, 0, 0) := by decide +kernel
theorem c196_158 : gP 196 158 = some (.iconst 0, 1, 0, 0) := by decide +kernel
theorem c196_159 : gP 196 159 = some (.ireturn, 1, 1, 0) := by decide +kernel
theorem c196_160 : gP 196 160 = some (.aload 0, 1, 0, 0) := by decide +kernel
theorem c196_161 : gP 196 161 = some (.aload 3, 1, 0, 0) := by decide +kernel
theorem c196_162 : gP 196 162 = some (.iload 2, 1, 0, 0) := by decide +kernel
theorem c196_163 : gP 196 163 = some (.invokeinterface 193 124, 3, 3, 1) := by decide +kernel
theorem c196_166 : gP 196 166 = some (.iconst 0, 1, 0, 0) := by decide +kernel
theorem c196_167 : gP 196 167 = some (.ireturn, 1, 1, 0) := by decide +kernel
theorem c196_168 : gP 196 168 = some (.aload 0, 1, 0, 0) := by decide +kernel
theorem c196_169 : gP 196 169 = some (.aload 4, 2, 0, 0) := by decide +kernel
theorem c196_171 : gP 196 171 = some (.aload 3, 1, 0, 0) := by decide +kernel
theorem c196_172 : gP 196 172 = some (.getfield 2, 3, 5, 114) := by decide +kernel
theorem c196_175 : gP 196 175 = some (.aload 0, 1, 0, 0) := by decide +kernel
theorem c196_176 : gP 196 176 = some (.aload 3, 1, 0, 0) := by decide +kernel
theorem c196_177 : gP 196 177 = some (.aload 4, 2, 0, 0) := by decide +kernel
theorem c196_179 : gP 196 179 = some (.invokeinterface 195 128, 3, 3, 1) := by decide +kernel
theorem c196_182 : gP 196 182 = some (.invokeinterface 188 69, 3, 4, 1) := by decide +kernel
theorem c196_185 : gP 196 185 = some (.iconst 0, 1, 0, 0) := by decide +kernel
theorem c196_186 : gP 196 186 = some (.ireturn, 1, 1, 0) := by decide +kernel
theorem c197_0 : gP 197 0 = some (.iload 1, 1, 0, 0) := by decide +kernel
theorem c197_1 : gP 197 1 = some (.istore 4, 2, 0, 0) := by decide +kernel
theorem c197_3 : gP 197 3 = some (.iconst 0, 1, 0, 0) := by decide +kernel
theorem c197_4 : gP 197 4 = some (.istore 5, 2, 0, 0) := by decide +kernel
theorem c197_6 : gP 197 6 = some (.iload 5, 2, 0, 0) := by decide +kernel
theorem c197_8 : gP 197 8 = some (.iconst 40, 2, 0, 0) := by decide +kernel
theorem c197_10 : gP 197 10 = some (.if_icmp .ge 52, 3, 0, 0) := by decide +kernel
theorem c197_13 : gP 197 13 = some (.iload 4, 2, 0, 0) := by decide +kernel
theorem c197_15 : gP 197 15 = some (.iload 2, 1, 0, 0) := by decide +kernel
theorem c197_16 : gP 197 16 = some (.if_icmp .ge 52, 3, 0, 0) := by decide +kernel
theorem c197_19 : gP 197 19 = some (.aload 0, 1, 0, 0) := by decide +kernel
theorem c197_20 : gP 197 20 = some (.iload 4, 2, 0, 0) := by decide +kernel
theorem c197_22 : gP 197 22 = some (.iload 3, 1, 0, 0) := by decide +kernel
theorem c197_23 : gP 197 23 = some (.invokeinterface 196 86, 3, 3, 1) := by decide +kernel
theorem c197_26 : gP 197 26 = some (.ifCond .eq 31, 3, 0, 0) := by decide +kernel
theorem c197_29 : gP 197 29 = some (.iconst 1, 1, 0, 0) := by decide +kernel
theorem c197_30 : gP 197 30 = some (.ireturn, 1, 1, 0) := by decide +kernel
theorem c197_31 : gP 197 31 = some (.aload 0, 1, 0, 0) := by decide +kernel
theorem c197_32 : gP 197 32 = some (.getfield 4, 3, 3, 32) := by decide +kernel
theorem c197_35 : gP 197 35 = some (.getfield 6, 3, 6, 90) := by decide +kernel
theorem c197_38 : gP 197 38 = some (.iload 4, 2, 0, 0) := by decide +kernel
theorem c197_40 : gP 197 40 = some (.aaload, 1, 0, 0) := by decide +kernel
theorem c197_41 : gP 197 41 = some (.getfield 12, 3, 5, 94) := by decide +kernel
theorem c197_44 : gP 197 44 = some (.istore 4, 2, 0, 0) := by decide +kernel
theorem c197_46 : gP 197 46 = some (.iinc 5 1, 3, 0, 0) := by decide +kernel
theorem c197_49 : gP 197 49 = some (.goto 6, 3, 0, 0) := by decide +kernel
theorem c197_52 : gP 197 52 = some (.iconst 0, 1, 0, 0) := by decide +kernel
theorem c197_53 : gP 197 53 = some (.ireturn, 1, 1, 0) := by decide +kernel
theorem c198_0 : gP 198 0 = some (.aload 0, 1, 0, 0) := by decide +kernel
theorem c198_1 : gP 198 1 = some (.aload 1, 1, 0, 0) := by decide +kernel
theorem c198_2 : gP 198 2 = some (.putfield 4, 3, 3, 6) := by decide +kernel
theorem c198_5 : gP 198 5 = some (.aload 0, 1, 0, 0) := by decide +kernel
theorem c198_6 : gP 198 6 = some (.invokeinterface 92 36, 3, 1, 1) := by decide +kernel
theorem c198_9 : gP 198 9 = some (.aload 0, 1, 0, 0) := by decide +kernel
theorem c198_10 : gP 198 10 = some (.iconst 0, 1, 0, 0) := by decide +kernel
theorem c198_11 : gP 198 11 = some (.putfield 5, 3, 3, 0) := by decide +kernel
theorem c198_14 : gP 198 14 = some (.aload 0, 1, 0, 0) := by decide +kernel
theorem c198_15 : gP 198 15 = some (.iconst 0, 1, 0, 0) := by decide +kernel
theorem c198_16 : gP 198 16 = some (.putfield 6, 3, 3, 0) := by decide +kernel
theorem c198_19 : gP 198 19 = some (.aload 0, 1, 0, 0) := by decide +kernel
theorem c198_20 : gP 198 20 = some (.iconst 0, 1, 0, 0) := by decide +kernel
theorem c198_21 : gP 198 21 = some (.invokeinterface 186 46, 3, 2, 1) := by decide +kernel
theorem c198_24 : gP 198 24 = some (.istore 2, 1, 0, 0) := by decide +kernel
theorem c198_25 : gP 198 25 = some (.aload 0, 1, 0, 0) := by decide +kernel
theorem c198_26 : gP 198 26 = some (.getfield 4, 3, 3, 32) := by decide +kernel
theorem c198_29 : gP 198 29 = some (.getfield 5, 3, 6, 50) := by decide +kernel
theorem c198_32 : gP 198 32 = some (.aload 0, 1, 0, 0) := by decide +kernel
theorem c198_33 : gP 198 33 = some (.getfield 4, 3, 3, 32) := by decide +kernel
theorem c198_36 : gP 198 36 = some (.getfield 17, 3, 6, 56) := by decide +kernel
theorem c198_39 : gP 198 39 = some (.aaload, 1, 0, 0) := by decide +kernel
theorem c198_40 : gP 198 40 = some (.astore 3, 1, 0, 0) := by decide +kernel
theorem c198_41 : gP 198 41 = some (.aload 0, 1, 0, 0) := by decide +kernel
theorem c198_42 : gP 198 42 = some (.aload 0, 1, 0, 0) := by decide +kernel
theorem c198_43 : gP 198 43 = some (.iconst 0, 1, 0, 0) := by decide +kernel
theorem c198_44 : gP 198 44 = some (.invokeinterface 187 59, 3, 2, 1) := by decide +kernel
theorem c198_47 : gP 198 47 = some (.aload 3, 1, 0, 0) := by decide +kernel
theorem c198_48 : gP 198 48 = some (.invokeinterface 57 63, 3, 1, 1) := by decide +kernel
theorem c198_51 : gP 198 51 = some (.iload 2, 1, 0, 0) := by decide +kernel
theorem c198_52 : gP 198 52 = some (.invokeinterface 188 69, 3, 4, 1) := by decide +kernel
theorem c198_55 : gP 198 55 = some (.aload 0, 1, 0, 0) := by decide +kernel
theorem c198_56 : gP 198 56 = some (.aload 3, 1, 0, 0) := by decide +kernel
theorem c198_57 : gP 198 57 = some (.getfield 4, 3, 4, 73) := by decide +kernel
theorem c198_60 : gP 198 60 = some (.aload 3, 1, 0, 0) := by decide +kernel
theorem c198_61 : gP 198 61 = some (.getfield 5, 3, 4, 76) := by decide +kernel
theorem c198_64 : gP 198 64 = some (.iconst 0, 1, 0, 0) := by decide +kernel
theorem c198_65 : gP 198 65 = some (.invokeinterface 197 79, 3, 4, 1) := by decide +kernel
theorem c198_68 : gP 198 68 = some (.pop, 1, 0, 0) := by decide +kernel
theorem c198_69 : gP 198 69 = some (.return_, 1, 0, 0) := by decide +kernel
theorem c199_0 : gP 199 0 = some (.aload 0, 1, 0, 0) := by decide +kernel
theorem c199_1 : gP 199 1 = some (.getfield 4, 3, 7, 37) := by decide +kernel
theorem c199_4 : gP 199 4 = some (.getfield 17, 3, 6, 154) := by decide +kernel
theorem c199_7 : gP 199 7 = some (.iconst (-1), 1, 0, 0) := by decide +kernel
theorem c199_8 : gP 199 8 = some (.if_icmp .ne 19, 3, 0, 0) := by decide +kernel
theorem c199_11 : gP 199 11 = some (.athrow, 89, 11, 87) := by decide +kernel
theorem c199_19 : gP 199 19 = some (.aload 0, 1, 0, 0) := by decide +kernel
theorem c199_20 : gP 199 20 = some (.getfield 3, 3, 7, 30) := by decide +kernel
theorem c199_23 : gP 199 23 = some (.aload 0, 1, 0, 0) := by decide +kernel
theorem c199_24 : gP 199 24 = some (.getfield 4, 3, 7, 37) := by decide +kernel
theorem c199_27 : gP 199 27 = some (.invokeinterface 198 157, 3, 2, 1) := by decide +kernel
theorem c199_30 : gP 199 30 = some (.aload 0, 1, 0, 0) := by decide +kernel
theorem c199_31 : gP 199 31 = some (.getfield 3, 3, 7, 30) := by decide +kernel
theorem c199_34 : gP 199 34 = some (.getfield 6, 3, 3, 160) := by decide +kernel
theorem c199_37 : gP 199 37 = some (.ireturn, 1, 0, 0) := by decide +kernel
theorem c200_0 : gP 200 0 = some (.aload 1, 1, 0, 0) := by decide +kernel
theorem c200_1 : gP 200 1 = some (.iconst 0, 1, 0, 0) := by decide +kernel
theorem c200_2 : gP 200 2 = some (.aload 0, 1, 0, 0) := by decide +kernel
theorem c200_3 : gP 200 3 = some (.invokeinterface 199 50, 3, 1, 1) := by decide +kernel
theorem c200_6 : gP 200 6 = some (.i2l, 1, 0, 0) := by decide +kernel
theorem c200_7 : gP 200 7 = some (.lastore, 1, 0, 0) := by decide +kernel
theorem c200_8 : gP 200 8 = some (.goto 23, 3, 0, 0) := by decide +kernel
theorem c200_11 : gP 200 11 = some (.astore 2, 1, 0, 0) := by decide +kernel
theorem c200_12 : gP 200 12 = some (.iconst 1, 1, 0, 0) := by decide +kernel
theorem c200_13 : gP 200 13 = some (.ireturn, 1, 0, 0) := by decide +kernel
theorem c200_14 : gP 200 14 = some (.astore 2, 1, 0, 0) := by decide +kernel
theorem c200_15 : gP 200 15 = some (.iconst 2, 1, 0, 0) := by decide +kernel
theorem c200_16 : gP 200 16 = some (.ireturn, 1, 0, 0) := by decide +kernel
theorem c200_17 : gP 200 17 = some (.astore 2, 1, 0, 0) := by decide +kernel
theorem c200_18 : gP 200 18 = some (.iconst 3, 1, 0, 0) := by decide +kernel
theorem c200_19 : gP 200 19 = some (.ireturn, 1, 0, 0) := by decide +kernel
theorem c200_20 : gP 200 20 = some (.astore 2, 1, 0, 0) := by decide +kernel
theorem c200_21 : gP 200 21 = some (.iconst 4, 1, 0, 0) := by decide +kernel
theorem c200_22 : gP 200 22 = some (.ireturn, 1, 0, 0) := by decide +kernel
theorem c200_23 : gP 200 23 = some (.iconst 0, 1, 0, 0) := by decide +kernel
theorem c200_24 : gP 200 24 = some (.ireturn, 1, 0, 0) := by decide +kernel
theorem c201_0 : gP 201 0 = some (.aload 0, 1, 0, 0) := by decide +kernel
theorem c201_1 : gP 201 1 = some (.getfield 51, 3, 8, 326) := by decide +kernel
theorem c201_4 : gP 201 4 = some (.iconst 30, 2, 0, 0) := by decide +kernel
theorem c201_6 : gP 201 6 = some (.if_icmp .ne 16, 3, 0, 0) := by decide +kernel
theorem c201_9 : gP 201 9 = some (.aload 0, 1, 0, 0) := by decide +kernel
theorem c201_10 : gP 201 10 = some (.iconst 4, 1, 0, 0) := by decide +kernel
theorem c201_11 : gP 201 11 = some (.putfield 57, 3, 8, 0) := by decide +kernel
theorem c201_14 : gP 201 14 = some (.iconst 0, 1, 0, 0) := by decide +kernel
theorem c201_15 : gP 201 15 = some (.ireturn, 1, 0, 0) := by decide +kernel
theorem c201_16 : gP 201 16 = some (.aload 0, 1, 0, 0) := by decide +kernel
theorem c201_17 : gP 201 17 = some (.getfield 49, 3, 8, 111) := by decide +kernel
theorem c201_20 : gP 201 20 = some (.aload 0, 1, 0, 0) := by decide +kernel
theorem c201_21 : gP 201 21 = some (.getfield 51, 3, 8, 326) := by decide +kernel
theorem c201_24 : gP 201 24 = some (.iload 1, 1, 0, 0) := by decide +kernel
theorem c201_25 : gP 201 25 = some (.iastore, 1, 0, 0) := by decide +kernel
theorem c201_26 : gP 201 26 = some (.iconst 0, 1, 0, 0) := by decide +kernel
theorem c201_27 : gP 201 27 = some (.istore 2, 1, 0, 0) := by decide +kernel
theorem c201_28 : gP 201 28 = some (.iload 2, 1, 0, 0) := by decide +kernel
theorem c201_29 : gP 201 29 = some (.iconst 8, 2, 0, 0) := by decide +kernel
theorem c201_31 : gP 201 31 = some (.if_icmp .ge 55, 3, 0, 0) := by decide +kernel
theorem c201_34 : gP 201 34 = some (.aload 0, 1, 0, 0) := by decide +kernel
theorem c201_35 : gP 201 35 = some (.getfield 50, 3, 8, 114) := by decide +kernel
theorem c201_38 : gP 201 38 = some (.iconst 8, 2, 0, 0) := by decide +kernel
theorem c201_40 : gP 201 40 = some (.aload 0, 1, 0, 0) := by decide +kernel
theorem c201_41 : gP 201 41 = some (.getfield 51, 3, 8, 326) := by decide +kernel
theorem c201_44 : gP 201 44 = some (.imul, 1, 0, 0) := by decide +kernel
theorem c201_45 : gP 201 45 = some (.iload 2, 1, 0, 0) := by decide +kernel
theorem c201_46 : gP 201 46 = some (.iadd, 1, 0, 0) := by decide +kernel
theorem c201_47 : gP 201 47 = some (.iconst 0, 1, 0, 0) := by decide +kernel
theorem c201_48 : gP 201 48 = some (.iastore, 1, 0, 0) := by decide +kernel
theorem c201_49 : gP 201 49 = some (.iinc 2 1, 3, 0, 0) := by decide +kernel
theorem c201_52 : gP 201 52 = some (.goto 28, 3, 0, 0) := by decide +kernel
theorem c201_55 : gP 201 55 = some (.aload 0, 1, 0, 0) := by decide +kernel
theorem c201_56 : gP 201 56 = some (.dup, 1, 0, 0) := by decide +kernel
theorem c201_57 : gP 201 57 = some (.getfield 51, 3, 8, 326) := by decide +kernel
theorem c201_60 : gP 201 60 = some (.iconst 1, 1, 0, 0) := by decide +kernel
theorem c201_61 : gP 201 61 = some (.iadd, 1, 0, 0) := by decide +kernel
theorem c201_62 : gP 201 62 = some (.putfield 51, 3, 8, 0) := by decide +kernel
theorem c201_65 : gP 201 65 = some (.aload 0, 1, 0, 0) := by decide +kernel
theorem c201_66 : gP 201 66 = some (.getfield 51, 3, 8, 326) := by decide +kernel
theorem c201_69 : gP 201 69 = some (.ireturn, 1, 0, 0) := by decide +kernel
theorem c202_0 : gP 202 0 = some (.aload 0, 1, 0, 0) := by decide +kernel
theorem c202_1 : gP 202 1 = some (.getfield 52, 3, 8, 117) := by decide +kernel
theorem c202_4 : gP 202 4 = some (.iconst 48, 2, 0, 0) := by decide +kernel
theorem c202_6 : gP 202 6 = some (.aload 0, 1, 0, 0) := by decide +kernel
theorem c202_7 : gP 202 7 = some (.getfield 54, 3, 8, 381) := by decide +kernel
theorem c202_10 : gP 202 10 = some (.iconst 1, 1, 0, 0) := by decide +kernel
theorem c202_11 : gP 202 11 = some (.isub, 1, 0, 0) := by decide +kernel
theorem c202_12 : gP 202 12 = some (.imul, 1, 0, 0) := by decide +kernel
theorem c202_13 : gP 202 13 = some (.iload 1, 1, 0, 0) := by decide +kernel
theorem c202_14 : gP 202 14 = some (.iadd, 1, 0, 0) := by decide +kernel
theorem c202_15 : gP 202 15 = some (.iload 2, 1, 0, 0) := by decide +kernel
theorem c202_16 : gP 202 16 = some (.iastore, 1, 0, 0) := by decide +kernel
theorem c202_17 : gP 202 17 = some (.iload 2, 1, 0, 0) := by decide +kernel
theorem c202_18 : gP 202 18 = some (.ifCond .le 40, 3, 0, 0) := by decide +kernel
theorem c202_21 : gP 202 21 = some (.aload 0, 1, 0, 0) := by decide +kernel
theorem c202_22 : gP 202 22 = some (.getfield 48, 3, 8, 108) := by decide +kernel
theorem c202_25 : gP 202 25 = some (.iconst 12, 2, 0, 0) := by decide +kernel
theorem c202_27 : gP 202 27 = some (.iload 1, 1, 0, 0) := by decide +kernel
theorem c202_28 : gP 202 28 = some (.imul, 1, 0, 0) := by decide +kernel
theorem c202_29 : gP 202 29 = some (.aload 0, 1, 0, 0) := by decide +kernel
theorem c202_30 : gP 202 30 = some (.getfield 49, 3, 8, 111) := by decide +kernel
theorem c202_33 : gP 202 33 = some (.iload 2, 1, 0, 0) := by decide +kernel
theorem c202_34 : gP 202 34 = some (.iconst 1, 1, 0, 0) := by decide +kernel
theorem c202_35 : gP 202 35 = some (.isub, 1, 0, 0) := by decide +kernel
theorem c202_36 : gP 202 36 = some (.iaload, 1, 0, 0) := by decide +kernel
theorem c202_37 : gP 202 37 = some (.iadd, 1, 0, 0) := by decide +kernel
theorem c202_38 : gP 202 38 = some (.iconst 1, 1, 0, 0) := by decide +kernel
theorem c202_39 : gP 202 39 = some (.iastore, 1, 1, 0) := by decide +kernel
theorem c202_40 : gP 202 40 = some (.return_, 1, 0, 0) := by decide +kernel
theorem c203_0 : gP 203 0 = some (.aload 0, 1, 0, 0) := by decide +kernel
theorem c203_1 : gP 203 1 = some (.getfield 54, 3, 8, 381) := by decide +kernel
theorem c203_4 : gP 203 4 = some (.iconst 4, 1, 0, 0) := by decide +kernel
theorem c203_5 : gP 203 5 = some (.if_icmp .ne 14, 3, 0, 0) := by decide +kernel
theorem c203_8 : gP 203 8 = some (.aload 0, 1, 0, 0) := by decide +kernel
theorem c203_9 : gP 203 9 = some (.iconst 4, 1, 0, 0) := by decide +kernel
theorem c203_10 : gP 203 10 = some (.putfield 57, 3, 8, 0) := by decide +kernel
theorem c203_13 : gP 203 13 = some (.return_, 1, 0, 0) := by decide +kernel
theorem c203_14 : gP 203 14 = some (.aload 0, 1, 0, 0) := by decide +kernel
theorem c203_15 : gP 203 15 = some (.getfield 53, 3, 8, 120) := by decide +kernel
theorem c203_18 : gP 203 18 = some (.aload 0, 1, 0, 0) := by decide +kernel
theorem c203_19 : gP 203 19 = some (.getfield 54, 3, 8, 381) := by decide +kernel
theorem c203_22 : gP 203 22 = some (.iload 5, 2, 0, 0) := by decide +kernel
theorem c203_24 : gP 203 24 = some (.iastore, 1, 0, 0) := by decide +kernel
theorem c203_25 : gP 203 25 = some (.aload 0, 1, 0, 0) := by decide +kernel
theorem c203_26 : gP 203 26 = some (.dup, 1, 0, 0) := by decide +kernel
theorem c203_27 : gP 203 27 = some (.getfield 54, 3, 8, 381) := by decide +kernel
theorem c203_30 : gP 203 30 = some (.iconst 1, 1, 0, 0) := by decide +kernel
theorem c203_31 : gP 203 31 = some (.iadd, 1, 0, 0) := by decide +kernel
theorem c203_32 : gP 203 32 = some (.putfield 54, 3, 8, 0) := by decide +kernel
theorem c203_35 : gP 203 35 = some (.iconst 0, 1, 0, 0) := by decide +kernel
theorem c203_36 : gP 203 36 = some (.istore 6, 2, 0, 0) := by decide +kernel
theorem c203_38 : gP 203 38 = some (.iload 6, 2, 0, 0) := by decide +kernel
theorem c203_40 : gP 203 40 = some (.iconst 48, 2, 0, 0) := by decide +kernel
theorem c203_42 : gP 203 42 = some (.if_icmp .ge 69, 3, 0, 0) := by decide +kernel
theorem c203_45 : gP 203 45 = some (.aload 0, 1, 0, 0) := by decide +kernel
theorem c203_46 : gP 203 46 = some (.getfield 52, 3, 8, 117) := by decide +kernel
theorem c203_49 : gP 203 49 = some (.iconst 48, 2, 0, 0) := by decide +kernel
theorem c203_51 : gP 203 51 = some (.aload 0, 1, 0, 0) := by decide +kernel
theorem c203_52 : gP 203 52 = some (.getfield 54, 3, 8, 381) := by decide +kernel
theorem c203_55 : gP 203 55 = some (.iconst 1, 1, 0, 0) := by decide +kernel
theorem c203_56 : gP 203 56 = some (.isub, 1, 0, 0) := by decide +kernel
theorem c203_57 : gP 203 57 = some (.imul, 1, 0, 0) := by decide +kernel
theorem c203_58 : gP 203 58 = some (.iload 6, 2, 0, 0) := by decide +kernel
theorem c203_60 : gP 203 60 = some (.iadd, 1, 0, 0) := by decide +kernel
theorem c203_61 : gP 203 61 = some (.iconst 0, 1, 0, 0) := by decide +kernel
theorem c203_62 : gP 203 62 = some (.iastore, 1, 0, 0) := by decide +kernel
theorem c203_63 : gP 203 63 = some (.iinc 6 1, 3, 0, 0) := by decide +kernel
theorem c203_66 : gP 203 66 = some (.goto 38, 3, 0, 0) := by decide +kernel
theorem c203_69 : gP 203 69 = some (.aload 0, 1, 0, 0) := by decide +kernel
theorem c203_70 : gP 203 70 = some (.getfield 35, 3, 8, 78) := by decide +kernel
theorem c203_73 : gP 203 73 = some (.iconst 10, 2, 0, 0) := by decide +kernel
theorem c203_75 : gP 203 75 = some (.aload 0, 1, 0, 0) := by decide +kernel
theorem c203_76 : gP 203 76 = some (.getfield 18, 3, 8, 221) := by decide +kernel
theorem c203_79 : gP 203 79 = some (.imul, 1, 0, 0) := by decide +kernel
theorem c203_80 : gP 203 80 = some (.iload 1, 1, 0, 0) := by decide +kernel
theorem c203_81 : gP 203 81 = some (.iadd, 1, 0, 0) := by decide +kernel
theorem c203_82 : gP 203 82 = some (.iaload, 1, 0, 0) := by decide +kernel
theorem c203_83 : gP 203 83 = some (.istore 6, 2, 0, 0) := by decide +kernel
theorem c203_85 : gP 203 85 = some (.aload 0, 1, 0, 0) := by decide +kernel
theorem c203_86 : gP 203 86 = some (.iload 6, 2, 0, 0) := by decide +kernel
theorem c203_88 : gP 203 88 = some (.iconst 1, 1, 0, 0) := by decide +kernel
theorem c203_89 : gP 203 89 = some (.iadd, 1, 0, 0) := by decide +kernel
theorem c203_90 : gP 203 90 = some (.iload 2, 1, 0, 0) := by decide +kernel
theorem c203_91 : gP 203 91 = some (.invokeinterface 202 384, 3, 3, 1) := by decide +kernel
theorem c203_94 : gP 203 94 = some (.aload 0, 1, 0, 0) := by decide +kernel
theorem c203_95 : gP 203 95 = some (.getfield 34, 3, 8, 75) := by decide +kernel
theorem c203_98 : gP 203 98 = some (.iconst 10, 2, 0, 0) := by decide +kernel
theorem c203_100 : gP 203 100 = some (.aload 0, 1, 0, 0) := by decide +kernel
theorem c203_101 : gP 203 101 = some (.getfield 18, 3, 8, 221) := by decide +kernel
theorem c203_104 : gP 203 104 = some (.imul, 1, 0, 0) := by decide +kernel
theorem c203_105 : gP 203 105 = some (.iload 1, 1, 0, 0) := by decide +kernel
theorem c203_106 : gP 203 106 = some (.iadd, 1, 0, 0) := by decide +kernel
theorem c203_107 : gP 203 107 = some (.iaload, 1, 0, 0) := by decide +kernel
theorem c203_108 : gP 203 108 = some (.ifCond .le 120, 3, 0, 0) := by decide +kernel
theorem c203_111 : gP 203 111 = some (.aload 0, 1, 0, 0) := by decide +kernel
theorem c203_112 : gP 203 112 = some (.iload 6, 2, 0, 0) := by decide +kernel
theorem c203_114 : gP 203 114 = some (.iconst 2, 1, 0, 0) := by decide +kernel
theorem c203_115 : gP 203 115 = some (.iadd, 1, 0, 0) := by decide +kernel
theorem c203_116 : gP 203 116 = some (.iload 3, 1, 0, 0) := by decide +kernel
theorem c203_117 : gP 203 117 = some (.invokeinterface 202 384, 3, 3, 1) := by decide +kernel
theorem c203_120 : gP 203 120 = some (.aload 0, 1, 0, 0) := by decide +kernel
theorem c203_121 : gP 203 121 = some (.getfield 34, 3, 8, 75) := by decide +kernel
theorem c203_124 : gP 203 124 = some (.iconst 10, 2, 0, 0) := by decide +kernel
theorem c203_126 : gP 203 126 = some (.aload 0, 1, 0, 0) := by decide +kernel
theorem c203_127 : gP 203 127 = some (.getfield 18, 3, 8, 221) := by decide +kernel
theorem c203_130 : gP 203 130 = some (.imul, 1, 0, 0) := by decide +kernel
theorem c203_131 : gP 203 131 = some (.iload 1, 1, 0, 0) := by decide +kernel
theorem c203_132 : gP 203 132 = some (.iadd, 1, 0, 0) := by decide +kernel
theorem c203_133 : gP 203 133 = some (.iaload, 1, 0, 0) := by decide +kernel
theorem c203_134 : gP 203 134 = some (.iconst 1, 1, 0, 0) := by decide +kernel
theorem c203_135 : gP 203 135 = some (.if_icmp .le 148, 3, 0, 0) := by decide +kernel
theorem c203_138 : gP 203 138 = some (.aload 0, 1, 0, 0) := by decide +kernel
theorem c203_139 : gP 203 139 = some (.iload 6, 2, 0, 0) := by decide +kernel
theorem c203_141 : gP 203 141 = some (.iconst 3, 1, 0, 0) := by decide +kernel
theorem c203_142 : gP 203 142 = some (.iadd, 1, 0, 0) := by decide +kernel
theorem c203_143 : gP 203 143 = some (.iload 4, 2, 0, 0) := by decide +kernel
theorem c203_145 : gP 203 145 = some (.invokeinterface 202 384, 3, 3, 1) := by decide +kernel
theorem c203_148 : gP 203 148 = some (.aload 0, 1, 0, 0) := by decide +kernel
theorem c203_149 : gP 203 149 = some (.aload 0, 1, 0, 0) := by decide +kernel
theorem c203_150 : gP 203 150 = some (.getfield 36, 3, 8, 81) := by decide +kernel
theorem c203_153 : gP 203 153 = some (.iconst 10, 2, 0, 0) := by decide +kernel
theorem c203_155 : gP 203 155 = some (.aload 0, 1, 0, 0) := by decide +kernel
theorem c203_156 : gP 203 156 = some (.getfield 18, 3, 8, 221) := by decide +kernel
theorem c203_159 : gP 203 159 = some (.imul, 1, 0, 0) := by decide +kernel
theorem c203_160 : gP 203 160 = some (.iload 1, 1, 0, 0) := by decide +kernel
theorem c203_161 : gP 203 161 = some (.iadd, 1, 0, 0) := by decide +kernel
theorem c203_162 : gP 203 162 = some (.iaload, 1, 0, 0) := by decide +kernel
theorem c203_163 : gP 203 163 = some (.putfield 55, 3, 8, 0) := by decide +kernel
theorem c203_166 : gP 203 166 = some (.return_, 1, 0, 0) := by decide +kernel
theorem c204_0 : gP 204 0 = some (.iload 2, 1, 0, 0) := by decide +kernel
theorem c204_1 : gP 204 1 = some (.ifCond .le 36, 3, 0, 0) := by decide +kernel
theorem c204_4 : gP 204 4 = some (.aload 0, 1, 0, 0) := by decide +kernel
theorem c204_5 : gP 204 5 = some (.getfield 48, 3, 8, 108) := by decide +kernel
theorem c204_8 : gP 204 8 = some (.iconst 12, 2, 0, 0) := by decide +kernel
theorem c204_10 : gP 204 10 = some (.aload 0, 1, 0, 0) := by decide +kernel
theorem c204_11 : gP 204 11 = some (.getfield 35, 3, 8, 78) := by decide +kernel
theorem c204_14 : gP 204 14 = some (.iconst 10, 2, 0, 0) := by decide +kernel
theorem c204_16 : gP 204 16 = some (.aload 0, 1, 0, 0) := by decide +kernel
theorem c204_17 : gP 204 17 = some (.getfield 18, 3, 8, 221) := by decide +kernel
theorem c204_20 : gP 204 20 = some (.imul, 1, 0, 0) := by decide +kernel
theorem c204_21 : gP 204 21 = some (.iload 1, 1, 0, 0) := by decide +kernel
theorem c204_22 : gP 204 22 = some (.iadd, 1, 0, 0) := by decide +kernel
theorem c204_23 : gP 204 23 = some (.iaload, 1, 0, 0) := by decide +kernel
theorem c204_24 : gP 204 24 = some (.imul, 1, 0, 0) := by decide +kernel
theorem c204_25 : gP 204 25 = some (.aload 0, 1, 0, 0) := by decide +kernel
theorem c204_26 : gP 204 26 = some (.getfield 49, 3, 8, 111) := by decide +kernel
theorem c204_29 : gP 204 29 = some (.iload 2, 1, 0, 0) := by decide +kernel
theorem c204_30 : gP 204 30 = some (.iconst 1, 1, 0, 0) := by decide +kernel
theorem c204_31 : gP 204 31 = some (.isub, 1, 0, 0) := by decide +kernel
theorem c204_32 : gP 204 32 = some (.iaload, 1, 0, 0) := by decide +kernel
theorem c204_33 : gP 204 33 = some (.iadd, 1, 0, 0) := by decide +kernel
theorem c204_34 : gP 204 34 = some (.iconst 1, 1, 0, 0) := by decide +kernel
theorem c204_35 : gP 204 35 = some (.iastore, 1, 1, 0) := by decide +kernel
theorem c204_36 : gP 204 36 = some (.aload 0, 1, 0, 0) := by decide +kernel
theorem c204_37 : gP 204 37 = some (.dup, 1, 0, 0) := by decide +kernel
theorem c204_38 : gP 204 38 = some (.getfield 54, 3, 8, 381) := by decide +kernel
theorem c204_41 : gP 204 41 = some (.iconst 1, 1, 0, 0) := by decide +kernel
theorem c204_42 : gP 204 42 = some (.isub, 1, 0, 0) := by decide +kernel
theorem c204_43 : gP 204 43 = some (.putfield 54, 3, 8, 0) := by decide +kernel
theorem c204_46 : gP 204 46 = some (.aload 0, 1, 0, 0) := by decide +kernel
theorem c204_47 : gP 204 47 = some (.getfield 54, 3, 8, 381) := by decide +kernel
theorem c204_50 : gP 204 50 = some (.ifCond .ne 54, 3, 0, 0) := by decide +kernel
theorem c204_53 : gP 204 53 = some (.return_, 1, 0, 0) := by decide +kernel
theorem c204_54 : gP 204 54 = some (.iconst 1000, 3, 0, 0) := by decide +kernel
theorem c204_57 : gP 204 57 = some (.aload 0, 1, 0, 0) := by decide +kernel
theorem c204_58 : gP 204 58 = some (.getfield 18, 3, 8, 221) := by decide +kernel
theorem c204_61 : gP 204 61 = some (.imul, 1, 0, 0) := by decide +kernel
theorem c204_62 : gP 204 62 = some (.iconst 8, 2, 0, 0) := by decide +kernel
theorem c204_64 : gP 204 64 = some (.aload 0, 1, 0, 0) := by decide +kernel
theorem c204_65 : gP 204 65 = some (.getfield 53, 3, 8, 120) := by decide +kernel
theorem c204_68 : gP 204 68 = some (.aload 0, 1, 0, 0) := by decide +kernel
theorem c204_69 : gP 204 69 = some (.getfield 54, 3, 8, 381) := by decide +kernel
theorem c204_72 : gP 204 72 = some (.iaload, 1, 0, 0) := by decide +kernel
theorem c204_73 : gP 204 73 = some (.imul, 1, 0, 0) := by decide +kernel
theorem c204_74 : gP 204 74 = some (.iadd, 1, 0, 0) := by decide +kernel
theorem c204_75 : gP 204 75 = some (.istore 3, 1, 0, 0) := by decide +kernel
theorem c204_76 : gP 204 76 = some (.aload 0, 1, 0, 0) := by decide +kernel
theorem c204_77 : gP 204 77 = some (.getfield 40, 3, 8, 93) := by decide +kernel
theorem c204_80 : gP 204 80 = some (.iload 3, 1, 0, 0) := by decide +kernel
theorem c204_81 : gP 204 81 = some (.iconst 2, 1, 0, 0) := by decide +kernel
theorem c204_82 : gP 204 82 = some (.iadd, 1, 0, 0) := by decide +kernel
theorem c204_83 : gP 204 83 = some (.iaload, 1, 0, 0) := by decide +kernel
theorem c204_84 : gP 204 84 = some (.ifCond .lt 100, 3, 0, 0) := by decide +kernel
theorem c204_87 : gP 204 87 = some (.aload 0, 1, 0, 0) := by decide +kernel
theorem c204_88 : gP 204 88 = some (.aload 0, 1, 0, 0) := by decide +kernel
theorem c204_89 : gP 204 89 = some (.getfield 40, 3, 8, 93) := by decide +kernel
theorem c204_92 : gP 204 92 = some (.iload 3, 1, 0, 0) := by decide +kernel
theorem c204_93 : gP 204 93 = some (.iconst 2, 1, 0, 0) := by decide +kernel
theorem c204_94 : gP 204 94 = some (.iadd, 1, 0, 0) := by decide +kernel
theorem c204_95 : gP 204 95 = some (.iaload, 1, 0, 0) := by decide +kernel
theorem c204_96 : gP 204 96 = some (.iload 2, 1, 0, 0) := by decide +kernel
theorem c204_97 : gP 204 97 = some (.invokeinterface 202 384, 3, 3, 1) := by decide +kernel
theorem c204_100 : gP 204 100 = some (.aload 0, 1, 0, 0) := by decide +kernel
theorem c204_101 : gP 204 101 = some (.aload 0, 1, 0, 0) := by decide +kernel
theorem c204_102 : gP 204 102 = some (.getfield 53, 3, 8, 120) := by decide +kernel
theorem c204_105 : gP 204 105 = some (.aload 0, 1, 0, 0) := by decide +kernel
theorem c204_106 : gP 204 106 = some (.getfield 54, 3, 8, 381) := by decide +kernel
theorem c204_109 : gP 204 109 = some (.iaload, 1, 0, 0) := by decide +kernel
theorem c204_110 : gP 204 110 = some (.iconst 1, 1, 0, 0) := by decide +kernel
theorem c204_111 : gP 204 111 = some (.iadd, 1, 0, 0) := by decide +kernel
theorem c204_112 : gP 204 112 = some (.putfield 55, 3, 8, 0) := by decide +kernel
theorem c204_115 : gP 204 115 = some (.return_, 1, 0, 0) := by decide +kernel
theorem c205_0 : gP 205 0 = some (.aload 0, 1, 0, 0) := by decide +kernel
theorem c205_1 : gP 205 1 = some (.getfield 52, 3, 8, 117) := by decide +kernel
theorem c205_4 : gP 205 4 = some (.iconst 48, 2, 0, 0) := by decide +kernel
theorem c205_6 : gP 205 6 = some (.aload 0, 1, 0, 0) := by decide +kernel
theorem c205_7 : gP 205 7 = some (.getfield 54, 3, 8, 381) := by decide +kernel
theorem c205_10 : gP 205 10 = some (.iconst 1, 1, 0, 0) := by decide +kernel
theorem c205_11 : gP 205 11 = some (.isub, 1, 0, 0) := by decide +kernel
theorem c205_12 : gP 205 12 = some (.imul, 1, 0, 0) := by decide +kernel
theorem c205_13 : gP 205 13 = some (.iload 1, 1, 0, 0) := by decide +kernel
theorem c205_14 : gP 205 14 = some (.iadd, 1, 0, 0) := by decide +kernel
theorem c205_15 : gP 205 15 = some (.iaload, 1, 0, 0) := by decide +kernel
theorem c205_16 : gP 205 16 = some (.ireturn, 1, 0, 0) := by decide +kernel
theorem c206_0 : gP 206 0 = some (.aload 0, 1, 0, 0) := by decide +kernel
theorem c206_1 : gP 206 1 = some (.getfield 37, 3, 8, 84) := by decide +kernel
theorem c206_4 : gP 206 4 = some (.iconst 12, 2, 0, 0) := by decide +kernel
theorem c206_6 : gP 206 6 = some (.aload 0, 1, 0, 0) := by decide +kernel
theorem c206_7 : gP 206 7 = some (.getfield 18, 3, 8, 221) := by decide +kernel
theorem c206_10 : gP 206 10 = some (.imul, 1, 0, 0) := by decide +kernel
theorem c206_11 : gP 206 11 = some (.aload 0, 1, 0, 0) := by decide +kernel
theorem c206_12 : gP 206 12 = some (.getfield 49, 3, 8, 111) := by decide +kernel
theorem c206_15 : gP 206 15 = some (.iload 1, 1, 0, 0) := by decide +kernel
theorem c206_16 : gP 206 16 = some (.iconst 1, 1, 0, 0) := by decide +kernel
theorem c206_17 : gP 206 17 = some (.isub, 1, 0, 0) := by decide +kernel
theorem c206_18 : gP 206 18 = some (.iaload, 1, 0, 0) := by decide +kernel
theorem c206_19 : gP 206 19 = some (.iadd, 1, 0, 0) := by decide +kernel
theorem c206_20 : gP 206 20 = some (.iaload, 1, 0, 0) := by decide +kernel
theorem c206_21 : gP 206 21 = some (.ireturn, 1, 0, 0) := by decide +kernel
theorem c207_0 : gP 207 0 = some (.aload 0, 1, 0, 0) := by decide +kernel
theorem c207_1 : gP 207 1 = some (.aload 0, 1, 0, 0) := by decide +kernel
theorem c207_2 : gP 207 2 = some (.getfield 40, 3, 8, 93) := by decide +kernel
theorem c207_5 : gP 207 5 = some (.iload 1, 1, 0, 0) := by decide +kernel
theorem c207_6 : gP 207 6 = some (.iconst 3, 1, 0, 0) := by decide +kernel
theorem c207_7 : gP 207 7 = some (.iadd, 1, 0, 0) := by decide +kernel
theorem c207_8 : gP 207 8 = some (.iaload, 1, 0, 0) := by decide +kernel
theorem c207_9 : gP 207 9 = some (.invokeinterface 205 390, 3, 2, 1) := by decide +kernel
theorem c207_12 : gP 207 12 = some (.istore 2, 1, 0, 0) := by decide +kernel
theorem c207_13 : gP 207 13 = some (.aload 0, 1, 0, 0) := by decide +kernel
theorem c207_14 : gP 207 14 = some (.iload 2, 1, 0, 0) := by decide +kernel
theorem c207_15 : gP 207 15 = some (.ifCond .le 22, 3, 0, 0) := by decide +kernel
theorem c207_18 : gP 207 18 = some (.iconst 1, 1, 0, 0) := by decide +kernel
theorem c207_19 : gP 207 19 = some (.goto 23, 3, 0, 0) := by decide +kernel
theorem c207_22 : gP 207 22 = some (.iconst 0, 1, 0, 0) := by decide +kernel
theorem c207_23 : gP 207 23 = some (.iconst 1, 1, 0, 0) := by decide +kernel
theorem c207_24 : gP 207 24 = some (.invokeinterface 23 130, 3, 3, 1) := by decide +kernel
theorem c207_27 : gP 207 27 = some (.ifCond .ne 31, 3, 0, 0) := by decide +kernel
theorem c207_30 : gP 207 30 = some (.return_, 1, 0, 0) := by decide +kernel
theorem c207_31 : gP 207 31 = some (.aload 0, 1, 0, 0) := by decide +kernel
theorem c207_32 : gP 207 32 = some (.getfield 40, 3, 8, 93) := by decide +kernel
theorem c207_35 : gP 207 35 = some (.iload 1, 1, 0, 0) := by decide +kernel
theorem c207_36 : gP 207 36 = some (.iconst 5, 1, 0, 0) := by decide +kernel
theorem c207_37 : gP 207 37 = some (.iadd, 1, 0, 0) := by decide +kernel
theorem c207_38 : gP 207 38 = some (.iaload, 1, 0, 0) := by decide +kernel
theorem c207_39 : gP 207 39 = some (.iconst 16, 2, 0, 0) := by decide +kernel
theorem c207_41 : gP 207 41 = some (.irem, 1, 0, 0) := by decide +kernel
theorem c207_42 : gP 207 42 = some (.istore 3, 1, 0, 0) := by decide +kernel
theorem c207_43 : gP 207 43 = some (.aload 0, 1, 0, 0) := by decide +kernel
theorem c207_44 : gP 207 44 = some (.aload 0, 1, 0, 0) := by decide +kernel
theorem c207_45 : gP 207 45 = some (.getfield 18, 3, 8, 221) := by decide +kernel
theorem c207_48 : gP 207 48 = some (.aload 0, 1, 0, 0) := by decide +kernel
theorem c207_49 : gP 207 49 = some (.iload 2, 1, 0, 0) := by decide +kernel
theorem c207_50 : gP 207 50 = some (.invokeinterface 206 393, 3, 2, 1) := by decide +kernel
theorem c207_53 : gP 207 53 = some (.aload 0, 1, 0, 0) := by decide +kernel
theorem c207_54 : gP 207 54 = some (.getfield 40, 3, 8, 93) := by decide +kernel
theorem c207_57 : gP 207 57 = some (.iload 1, 1, 0, 0) := by decide +kernel
theorem c207_58 : gP 207 58 = some (.iconst 4, 1, 0, 0) := by decide +kernel
theorem c207_59 : gP 207 59 = some (.iadd, 1, 0, 0) := by decide +kernel
theorem c207_60 : gP 207 60 = some (.iaload, 1, 0, 0) := by decide +kernel
theorem c207_61 : gP 207 61 = some (.iload 3, 1, 0, 0) := by decide +kernel
theorem c207_62 : gP 207 62 = some (.invokeinterface 142 332, 3, 5, 1) := by decide +kernel
theorem c207_65 : gP 207 65 = some (.istore 4, 2, 0, 0) := by decide +kernel
theorem c207_67 : gP 207 67 = some (.aload 0, 1, 0, 0) := by decide +kernel
theorem c207_68 : gP 207 68 = some (.iload 4, 2, 0, 0) := by decide +kernel
theorem c207_70 : gP 207 70 = some (.ifCond .lt 77, 3, 0, 0) := by decide +kernel
theorem c207_73 : gP 207 73 = some (.iconst 1, 1, 0, 0) := by decide +kernel
theorem c207_74 : gP 207 74 = some (.goto 78, 3, 0, 0) := by decide +kernel
theorem c207_77 : gP 207 77 = some (.iconst 0, 1, 0, 0) := by decide +kernel
theorem c207_78 : gP 207 78 = some (.iconst 3, 1, 0, 0) := by decide +kernel
theorem c207_79 : gP 207 79 = some (.invokeinterface 23 130, 3, 3, 1) := by decide +kernel
theorem c207_82 : gP 207 82 = some (.ifCond .ne 86, 3, 0, 0) := by decide +kernel
theorem c207_85 : gP 207 85 = some (.return_, 1, 0, 0) := by decide +kernel
theorem c207_86 : gP 207 86 = some (.iload 3, 1, 0, 0) := by decide +kernel
theorem c207_87 : gP 207 87 = some (.ifCond .le 106, 3, 0, 0) := by decide +kernel
theorem c207_90 : gP 207 90 = some (.aload 0, 1, 0, 0) := by decide +kernel
theorem c207_91 : gP 207 91 = some (.aload 0, 1, 0, 0) := by decide +kernel
theorem c207_92 : gP 207 92 = some (.getfield 40, 3, 8, 93) := by decide +kernel
theorem c207_95 : gP 207 95 = some (.iload 1, 1, 0, 0) := by decide +kernel
theorem c207_96 : gP 207 96 = some (.iconst 6, 2, 0, 0) := by decide +kernel
theorem c207_98 : gP 207 98 = some (.iadd, 1, 0, 0) := by decide +kernel
theorem c207_99 : gP 207 99 = some (.iaload, 1, 0, 0) := by decide +kernel
theorem c207_100 : gP 207 100 = some (.invokeinterface 205 390, 3, 2, 1) := by decide +kernel
theorem c207_103 : gP 207 103 = some (.goto 107, 3, 0, 0) := by decide +kernel
theorem c207_106 : gP 207 106 = some (.iconst 0, 1, 0, 0) := by decide +kernel
theorem c207_107 : gP 207 107 = some (.istore 5, 2, 0, 0) := by decide +kernel
theorem c207_109 : gP 207 109 = some (.iload 3, 1, 0, 0) := by decide +kernel
theorem c207_110 : gP 207 110 = some (.iconst 1, 1, 0, 0) := by decide +kernel
theorem c207_111 : gP 207 111 = some (.if_icmp .le 130, 3, 0, 0) := by decide +kernel
theorem c207_114 : gP 207 114 = some (.aload 0, 1, 0, 0) := by decide +kernel
theorem c207_115 : gP 207 115 = some (.aload 0, 1, 0, 0) := by decide +kernel
theorem c207_116 : gP 207 116 = some (.getfield 40, 3, 8, 93) := by decide +kernel
theorem c207_119 : gP 207 119 = some (.iload 1, 1, 0, 0) := by decide +kernel
theorem c207_120 : gP 207 120 = some (.iconst 7, 2, 0, 0) := by decide +kernel
theorem c207_122 : gP 207 122 = some (.iadd, 1, 0, 0) := by decide +kernel
theorem c207_123 : gP 207 123 = some (.iaload, 1, 0, 0) := by decide +kernel
theorem c207_124 : gP 207 124 = some (.invokeinterface 205 390, 3, 2, 1) := by decide +kernel
theorem c207_127 : gP 207 127 = some (.goto 131, 3, 0, 0) := by decide +kernel
theorem c207_130 : gP 207 130 = some (.iconst 0, 1, 0, 0) := by decide +kernel
theorem c207_131 : gP 207 131 = some (.istore 6, 2, 0, 0) := by decide +kernel
theorem c207_133 : gP 207 133 = some (.aload 0, 1, 0, 0) := by decide +kernel
theorem c207_134 : gP 207 134 = some (.iload 4, 2, 0, 0) := by decide +kernel
theorem c207_136 : gP 207 136 = some (.iload 2, 1, 0, 0) := by decide +kernel
theorem c207_137 : gP 207 137 = some (.iload 5, 2, 0, 0) := by decide +kernel
theorem c207_139 : gP 207 139 = some (.iload 6, 2, 0, 0) := by decide +kernel
theorem c207_141 : gP 207 141 = some (.aload 0, 1, 0, 0) := by decide +kernel
theorem c207_142 : gP 207 142 = some (.getfield 55, 3, 8, 387) := by decide +kernel
theorem c207_145 : gP 207 145 = some (.invokeinterface 203 396, 3, 6, 1) := by decide +kernel
theorem c207_148 : gP 207 148 = some (.return_, 1, 0, 0) := by decide +kernel
theorem c208_0 : gP 208 0 = some (.aload 0, 1, 0, 0) := by decide +kernel
theorem c208_1 : gP 208 1 = some (.getfield 40, 3, 8, 93) := by decide +kernel
theorem c208_4 : gP 208 4 = some (.iload 1, 1, 0, 0) := by decide +kernel
theorem c208_5 : gP 208 5 = some (.iaload, 1, 0, 0) := by decide +kernel
theorem c208_6 : gP 208 6 = some (.iconst 4, 1, 0, 0) := by decide +kernel
theorem c208_7 : gP 208 7 = some (.if_icmp .ne 14, 3, 0, 0) := by decide +kernel
theorem c208_10 : gP 208 10 = some (.iconst 1, 1, 0, 0) := by decide +kernel
theorem c208_11 : gP 208 11 = some (.goto 15, 3, 0, 0) := by decide +kernel
theorem c208_14 : gP 208 14 = some (.iconst 0, 1, 0, 0) := by decide +kernel
theorem c208_15 : gP 208 15 = some (.istore 2, 1, 0, 0) := by decide +kernel
theorem c208_16 : gP 208 16 = some (.aload 0, 1, 0, 0) := by decide +kernel
theorem c208_17 : gP 208 17 = some (.iload 2, 1, 0, 0) := by decide +kernel
theorem c208_18 : gP 208 18 = some (.ifCond .eq 32, 3, 0, 0) := by decide +kernel
theorem c208_21 : gP 208 21 = some (.aload 0, 1, 0, 0) := by decide +kernel
theorem c208_22 : gP 208 22 = some (.getfield 40, 3, 8, 93) := by decide +kernel
theorem c208_25 : gP 208 25 = some (.iload 1, 1, 0, 0) := by decide +kernel
theorem c208_26 : gP 208 26 = some (.iconst 3, 1, 0, 0) := by decide +kernel
theorem c208_27 : gP 208 27 = some (.iadd, 1, 0, 0) := by decide +kernel
theorem c208_28 : gP 208 28 = some (.iaload, 1, 0, 0) := by decide +kernel
theorem c208_29 : gP 208 29 = some (.goto 40, 3, 0, 0) := by decide +kernel
theorem c208_32 : gP 208 32 = some (.aload 0, 1, 0, 0) := by decide +kernel
theorem c208_33 : gP 208 33 = some (.getfield 40, 3, 8, 93) := by decide +kernel
theorem c208_36 : gP 208 36 = some (.iload 1, 1, 0, 0) := by decide +kernel
theorem c208_37 : gP 208 37 = some (.iconst 2, 1, 0, 0) := by decide +kernel
theorem c208_38 : gP 208 38 = some (.iadd, 1, 0, 0) := by decide +kernel
theorem c208_39 : gP 208 39 = some (.iaload, 1, 0, 0) := by decide +kernel
theorem c208_40 : gP 208 40 = some (.invokeinterface 205 390, 3, 2, 1) := by decide +kernel
theorem c208_43 : gP 208 43 = some (.istore 3, 1, 0, 0) := by decide +kernel
theorem c208_44 : gP 208 44 = some (.aload 0, 1, 0, 0) := by decide +kernel
theorem c208_45 : gP 208 45 = some (.iload 3, 1, 0, 0) := by decide +kernel
theorem c208_46 : gP 208 46 = some (.ifCond .le 53, 3, 0, 0) := by decide +kernel
theorem c208_49 : gP 208 49 = some (.iconst 1, 1, 0, 0) := by decide +kernel
theorem c208_50 : gP 208 50 = some (.goto 54, 3, 0, 0) := by decide +kernel
theorem c208_53 : gP 208 53 = some (.iconst 0, 1, 0, 0) := by decide +kernel
theorem c208_54 : gP 208 54 = some (.iconst 1, 1, 0, 0) := by decide +kernel
theorem c208_55 : gP 208 55 = some (.invokeinterface 23 130, 3, 3, 1) := by decide +kernel
theorem c208_58 : gP 208 58 = some (.ifCond .eq 90, 3, 0, 0) := by decide +kernel
theorem c208_61 : gP 208 61 = some (.aload 0, 1, 0, 0) := by decide +kernel
theorem c208_62 : gP 208 62 = some (.aload 0, 1, 0, 0) := by decide +kernel
theorem c208_63 : gP 208 63 = some (.aload 0, 1, 0, 0) := by decide +kernel
theorem c208_64 : gP 208 64 = some (.getfield 18, 3, 8, 221) := by decide +kernel
theorem c208_67 : gP 208 67 = some (.aload 0, 1, 0, 0) := by decide +kernel
theorem c208_68 : gP 208 68 = some (.iload 3, 1, 0, 0) := by decide +kernel
theorem c208_69 : gP 208 69 = some (.invokeinterface 206 393, 3, 2, 1) := by decide +kernel
theorem c208_72 : gP 208 72 = some (.aload 0, 1, 0, 0) := by decide +kernel
theorem c208_73 : gP 208 73 = some (.getfield 40, 3, 8, 93) := by decide +kernel
theorem c208_76 : gP 208 76 = some (.iload 1, 1, 0, 0) := by decide +kernel
theorem c208_77 : gP 208 77 = some (.iconst 4, 1, 0, 0) := by decide +kernel
theorem c208_78 : gP 208 78 = some (.iadd, 1, 0, 0) := by decide +kernel
theorem c208_79 : gP 208 79 = some (.iaload, 1, 0, 0) := by decide +kernel
theorem c208_80 : gP 208 80 = some (.invokeinterface 121 244, 3, 4, 1) := by decide +kernel
theorem c208_83 : gP 208 83 = some (.iconst 3, 1, 0, 0) := by decide +kernel
theorem c208_84 : gP 208 84 = some (.invokeinterface 23 130, 3, 3, 1) := by decide +kernel
theorem c208_87 : gP 208 87 = some (.ifCond .ne 91, 3, 0, 0) := by decide +kernel
theorem c208_90 : gP 208 90 = some (.return_, 1, 0, 0) := by decide +kernel
theorem c208_91 : gP 208 91 = some (.iconst 8, 2, 0, 0) := by decide +kernel
theorem c208_93 : gP 208 93 = some (.iload 3, 1, 0, 0) := by decide +kernel
theorem c208_94 : gP 208 94 = some (.iconst 1, 1, 0, 0) := by decide +kernel
theorem c208_95 : gP 208 95 = some (.isub, 1, 0, 0) := by decide +kernel
theorem c208_96 : gP 208 96 = some (.imul, 1, 0, 0) := by decide +kernel
theorem c208_97 : gP 208 97 = some (.aload 0, 1, 0, 0) := by decide +kernel
theorem c208_98 : gP 208 98 = some (.getfield 40, 3, 8, 93) := by decide +kernel
theorem c208_101 : gP 208 101 = some (.iload 1, 1, 0, 0) := by decide +kernel
theorem c208_102 : gP 208 102 = some (.iconst 4, 1, 0, 0) := by decide +kernel
theorem c208_103 : gP 208 103 = some (.iadd, 1, 0, 0) := by decide +kernel
theorem c208_104 : gP 208 104 = some (.iaload, 1, 0, 0) := by decide +kernel
theorem c208_105 : gP 208 105 = some (.iadd, 1, 0, 0) := by decide +kernel
theorem c208_106 : gP 208 106 = some (.istore 4, 2, 0, 0) := by decide +kernel
theorem c208_108 : gP 208 108 = some (.iload 2, 1, 0, 0) := by decide +kernel
theorem c208_109 : gP 208 109 = some (.ifCond .eq 134, 3, 0, 0) := by decide +kernel
theorem c208_112 : gP 208 112 = some (.aload 0, 1, 0, 0) := by decide +kernel
theorem c208_113 : gP 208 113 = some (.aload 0, 1, 0, 0) := by decide +kernel
theorem c208_114 : gP 208 114 = some (.getfield 40, 3, 8, 93) := by decide +kernel
theorem c208_117 : gP 208 117 = some (.iload 1, 1, 0, 0) := by decide +kernel
theorem c208_118 : gP 208 118 = some (.iconst 2, 1, 0, 0) := by decide +kernel
theorem c208_119 : gP 208 119 = some (.iadd, 1, 0, 0) := by decide +kernel
theorem c208_120 : gP 208 120 = some (.iaload, 1, 0, 0) := by decide +kernel
theorem c208_121 : gP 208 121 = some (.aload 0, 1, 0, 0) := by decide +kernel
theorem c208_122 : gP 208 122 = some (.getfield 50, 3, 8, 114) := by decide +kernel
theorem c208_125 : gP 208 125 = some (.iload 4, 2, 0, 0) := by decide +kernel
theorem c208_127 : gP 208 127 = some (.iaload, 1, 0, 0) := by decide +kernel
theorem c208_128 : gP 208 128 = some (.invokeinterface 202 384, 3, 3, 1) := by decide +kernel
theorem c208_131 : gP 208 131 = some (.goto 153, 3, 0, 0) := by decide +kernel
theorem c208_134 : gP 208 134 = some (.aload 0, 1, 0, 0) := by decide +kernel
theorem c208_135 : gP 208 135 = some (.getfield 50, 3, 8, 114) := by decide +kernel
theorem c208_138 : gP 208 138 = some (.iload 4, 2, 0, 0) := by decide +kernel
theorem c208_140 : gP 208 140 = some (.aload 0, 1, 0, 0) := by decide +kernel
theorem c208_141 : gP 208 141 = some (.aload 0, 1, 0, 0) := by decide +kernel
theorem c208_142 : gP 208 142 = some (.getfield 40, 3, 8, 93) := by decide +kernel
theorem c208_145 : gP 208 145 = some (.iload 1, 1, 0, 0) := by decide +kernel
theorem c208_146 : gP 208 146 = some (.iconst 3, 1, 0, 0) := by decide +kernel
theorem c208_147 : gP 208 147 = some (.iadd, 1, 0, 0) := by decide +kernel
theorem c208_148 : gP 208 148 = some (.iaload, 1, 0, 0) := by decide +kernel
theorem c208_149 : gP 208 149 = some (.invokeinterface 205 390, 3, 2, 1) := by decide +kernel
theorem c208_152 : gP 208 152 = some (.iastore, 1, 0, 0) := by decide +kernel
theorem c208_153 : gP 208 153 = some (.return_, 1, 0, 0) := by decide +kernel
theorem c209_0 : gP 209 0 = some (.aload 0, 1, 0, 0) := by decide +kernel
theorem c209_1 : gP 209 1 = some (.getfield 40, 3, 8, 93) := by decide +kernel
theorem c209_4 : gP 209 4 = some (.iload 1, 1, 0, 0) := by decide +kernel
theorem c209_5 : gP 209 5 = some (.iaload, 1, 0, 0) := by decide +kernel
theorem c209_6 : gP 209 6 = some (.istore 2, 1, 0, 0) := by decide +kernel
theorem c209_7 : gP 209 7 = some (.aload 0, 1, 0, 0) := by decide +kernel
theorem c209_8 : gP 209 8 = some (.getfield 40, 3, 8, 93) := by decide +kernel
theorem c209_11 : gP 209 11 = some (.iload 1, 1, 0, 0) := by decide +kernel
theorem c209_12 : gP 209 12 = some (.iconst 2, 1, 0, 0) := by decide +kernel
theorem c209_13 : gP 209 13 = some (.iadd, 1, 0, 0) := by decide +kernel
theorem c209_14 : gP 209 14 = some (.iaload, 1, 0, 0) := by decide +kernel
theorem c209_15 : gP 209 15 = some (.istore 3, 1, 0, 0) := by decide +kernel
theorem c209_16 : gP 209 16 = some (.iload 2, 1, 0, 0) := by decide +kernel
theorem c209_17 : gP 209 17 = some (.iconst 8, 2, 0, 0) := by decide +kernel
theorem c209_19 : gP 209 19 = some (.if_icmp .ne 31, 3, 0, 0) := by decide +kernel
theorem c209_22 : gP 209 22 = some (.aload 0, 1, 0, 0) := by decide +kernel
theorem c209_23 : gP 209 23 = some (.iload 3, 1, 0, 0) := by decide +kernel
theorem c209_24 : gP 209 24 = some (.iconst 0, 1, 0, 0) := by decide +kernel
theorem c209_25 : gP 209 25 = some (.invokeinterface 202 384, 3, 3, 1) := by decide +kernel
theorem c209_28 : gP 209 28 = some (.goto 191, 3, 0, 0) := by decide +kernel
theorem c209_31 : gP 209 31 = some (.iload 2, 1, 0, 0) := by decide +kernel
theorem c209_32 : gP 209 32 = some (.iconst 2, 1, 0, 0) := by decide +kernel
theorem c209_33 : gP 209 33 = some (.if_icmp .ne 56, 3, 0, 0) := by decide +kernel
theorem c209_36 : gP 209 36 = some (.aload 0, 1, 0, 0) := by decide +kernel
theorem c209_37 : gP 209 37 = some (.iload 3, 1, 0, 0) := by decide +kernel
theorem c209_38 : gP 209 38 = some (.aload 0, 1, 0, 0) := by decide +kernel
theorem c209_39 : gP 209 39 = some (.aload 0, 1, 0, 0) := by decide +kernel
theorem c209_40 : gP 209 40 = some (.getfield 40, 3, 8, 93) := by decide +kernel
theorem c209_43 : gP 209 43 = some (.iload 1, 1, 0, 0) := by decide +kernel
theorem c209_44 : gP 209 44 = some (.iconst 3, 1, 0, 0) := by decide +kernel
theorem c209_45 : gP 209 45 = some (.iadd, 1, 0, 0) := by decide +kernel
theorem c209_46 : gP 209 46 = some (.iaload, 1, 0, 0) := by decide +kernel
theorem c209_47 : gP 209 47 = some (.invokeinterface 205 390, 3, 2, 1) := by decide +kernel
theorem c209_50 : gP 209 50 = some (.invokeinterface 202 384, 3, 3, 1) := by decide +kernel
theorem c209_53 : gP 209 53 = some (.goto 191, 3, 0, 0) := by decide +kernel
theorem c209_56 : gP 209 56 = some (.iload 2, 1, 0, 0) := by decide +kernel
theorem c209_57 : gP 209 57 = some (.iconst 4, 1, 0, 0) := by decide +kernel
theorem c209_58 : gP 209 58 = some (.if_icmp .eq 66, 3, 0, 0) := by decide +kernel
theorem c209_61 : gP 209 61 = some (.iload 2, 1, 0, 0) := by decide +kernel
theorem c209_62 : gP 209 62 = some (.iconst 5, 1, 0, 0) := by decide +kernel
theorem c209_63 : gP 209 63 = some (.if_icmp .ne 74, 3, 0, 0) := by decide +kernel
theorem c209_66 : gP 209 66 = some (.aload 0, 1, 0, 0) := by decide +kernel
theorem c209_67 : gP 209 67 = some (.iload 1, 1, 0, 0) := by decide +kernel
theorem c209_68 : gP 209 68 = some (.invokeinterface 208 400, 3, 2, 1) := by decide +kernel
theorem c209_71 : gP 209 71 = some (.goto 191, 3, 0, 0) := by decide +kernel
theorem c209_74 : gP 209 74 = some (.iload 2, 1, 0, 0) := by decide +kernel
theorem c209_75 : gP 209 75 = some (.iconst 1, 1, 0, 0) := by decide +kernel
theorem c209_76 : gP 209 76 = some (.if_icmp .ne 110, 3, 0, 0) := by decide +kernel
theorem c209_79 : gP 209 79 = some (.aload 0, 1, 0, 0) := by decide +kernel
theorem c209_80 : gP 209 80 = some (.aload 0, 1, 0, 0) := by decide +kernel
theorem c209_81 : gP 209 81 = some (.getfield 40, 3, 8, 93) := by decide +kernel
theorem c209_84 : gP 209 84 = some (.iload 1, 1, 0, 0) := by decide +kernel
theorem c209_85 : gP 209 85 = some (.iconst 3, 1, 0, 0) := by decide +kernel
theorem c209_86 : gP 209 86 = some (.iadd, 1, 0, 0) := by decide +kernel
theorem c209_87 : gP 209 87 = some (.iaload, 1, 0, 0) := by decide +kernel
theorem c209_88 : gP 209 88 = some (.invokeinterface 201 403, 3, 2, 1) := by decide +kernel
theorem c209_91 : gP 209 91 = some (.istore 4, 2, 0, 0) := by decide +kernel
theorem c209_93 : gP 209 93 = some (.aload 0, 1, 0, 0) := by decide +kernel
theorem c209_94 : gP 209 94 = some (.getfield 57, 3, 8, 123) := by decide +kernel
theorem c209_97 : gP 209 97 = some (.ifCond .ne 107, 3, 0, 0) := by decide +kernel
theorem c209_100 : gP 209 100 = some (.aload 0, 1, 0, 0) := by decide +kernel
theorem c209_101 : gP 209 101 = some (.iload 3, 1, 0, 0) := by decide +kernel
theorem c209_102 : gP 209 102 = some (.iload 4, 2, 0, 0) := by decide +kernel
theorem c209_104 : gP 209 104 = some (.invokeinterface 202 384, 3, 3, 1) := by decide +kernel
theorem c209_107 : gP 209 107 = some (.goto 191, 3, 0, 0) := by decide +kernel
theorem c209_110 : gP 209 110 = some (.aload 0, 1, 0, 0) := by decide +kernel
theorem c209_111 : gP 209 111 = some (.aload 0, 1, 0, 0) := by decide +kernel
theorem c209_112 : gP 209 112 = some (.getfield 40, 3, 8, 93) := by decide +kernel
theorem c209_115 : gP 209 115 = some (.iload 1, 1, 0, 0) := by decide +kernel
theorem c209_116 : gP 209 116 = some (.iconst 3, 1, 0, 0) := by decide +kernel
theorem c209_117 : gP 209 117 = some (.iadd, 1, 0, 0) := by decide +kernel
theorem c209_118 : gP 209 118 = some (.iaload, 1, 0, 0) := by decide +kernel
theorem c209_119 : gP 209 119 = some (.invokeinterface 205 390, 3, 2, 1) := by decide +kernel
theorem c209_122 : gP 209 122 = some (.istore 4, 2, 0, 0) := by decide +kernel
theorem c209_124 : gP 209 124 = some (.iload 4, 2, 0, 0) := by decide +kernel
theorem c209_126 : gP 209 126 = some (.ifCond .eq 167, 3, 0, 0) := by decide +kernel
theorem c209_129 : gP 209 129 = some (.aload 0, 1, 0, 0) := by decide +kernel
theorem c209_130 : gP 209 130 = some (.aload 0, 1, 0, 0) := by decide +kernel
theorem c209_131 : gP 209 131 = some (.getfield 18, 3, 8, 221) := by decide +kernel
theorem c209_134 : gP 209 134 = some (.aload 0, 1, 0, 0) := by decide +kernel
theorem c209_135 : gP 209 135 = some (.iload 4, 2, 0, 0) := by decide +kernel
theorem c209_137 : gP 209 137 = some (.invokeinterface 206 393, 3, 2, 1) := by decide +kernel
theorem c209_140 : gP 209 140 = some (.aload 0, 1, 0, 0) := by decide +kernel
theorem c209_141 : gP 209 141 = some (.getfield 39, 3, 8, 90) := by decide +kernel
theorem c209_144 : gP 209 144 = some (.iconst 8, 2, 0, 0) := by decide +kernel
theorem c209_146 : gP 209 146 = some (.aload 0, 1, 0, 0) := by decide +kernel
theorem c209_147 : gP 209 147 = some (.getfield 18, 3, 8, 221) := by decide +kernel
theorem c209_150 : gP 209 150 = some (.imul, 1, 0, 0) := by decide +kernel
theorem c209_151 : gP 209 151 = some (.aload 0, 1, 0, 0) := by decide +kernel
theorem c209_152 : gP 209 152 = some (.getfield 40, 3, 8, 93) := by decide +kernel
theorem c209_155 : gP 209 155 = some (.iload 1, 1, 0, 0) := by decide +kernel
theorem c209_156 : gP 209 156 = some (.iconst 4, 1, 0, 0) := by decide +kernel
theorem c209_157 : gP 209 157 = some (.iadd, 1, 0, 0) := by decide +kernel
theorem c209_158 : gP 209 158 = some (.iaload, 1, 0, 0) := by decide +kernel
theorem c209_159 : gP 209 159 = some (.iadd, 1, 0, 0) := by decide +kernel
theorem c209_160 : gP 209 160 = some (.iaload, 1, 0, 0) := by decide +kernel
theorem c209_161 : gP 209 161 = some (.invokeinterface 149 357, 3, 4, 1) := by decide +kernel
theorem c209_164 : gP 209 164 = some (.ifCond .eq 171, 3, 0, 0) := by decide +kernel
theorem c209_167 : gP 209 167 = some (.iconst 1, 1, 0, 0) := by decide +kernel
theorem c209_168 : gP 209 168 = some (.goto 172, 3, 0, 0) := by decide +kernel
theorem c209_171 : gP 209 171 = some (.iconst 0, 1, 0, 0) := by decide +kernel
theorem c209_172 : gP 209 172 = some (.istore 5, 2, 0, 0) := by decide +kernel
theorem c209_174 : gP 209 174 = some (.aload 0, 1, 0, 0) := by decide +kernel
theorem c209_175 : gP 209 175 = some (.iload 5, 2, 0, 0) := by decide +kernel
theorem c209_177 : gP 209 177 = some (.iconst 2, 1, 0, 0) := by decide +kernel
theorem c209_178 : gP 209 178 = some (.invokeinterface 23 130, 3, 3, 1) := by decide +kernel
theorem c209_181 : gP 209 181 = some (.ifCond .eq 191, 3, 0, 0) := by decide +kernel
theorem c209_184 : gP 209 184 = some (.aload 0, 1, 0, 0) := by decide +kernel
theorem c209_185 : gP 209 185 = some (.iload 3, 1, 0, 0) := by decide +kernel
theorem c209_186 : gP 209 186 = some (.iload 4, 2, 0, 0) := by decide +kernel
theorem c209_188 : gP 209 188 = some (.invokeinterface 202 384, 3, 3, 1) := by decide +kernel
theorem c209_191 : gP 209 191 = some (.return_, 1, 0, 0) := by decide +kernel
theorem c210_0 : gP 210 0 = some (.iconst 1000, 3, 0, 0) := by decide +kernel
theorem c210_3 : gP 210 3 = some (.aload 0, 1, 0, 0) := by decide +kernel
theorem c210_4 : gP 210 4 = some (.getfield 18, 3, 8, 221) := by decide +kernel
theorem c210_7 : gP 210 7 = some (.imul, 1, 0, 0) := by decide +kernel
theorem c210_8 : gP 210 8 = some (.iconst 8, 2, 0, 0) := by decide +kernel
theorem c210_10 : gP 210 10 = some (.aload 0, 1, 0, 0) := by decide +kernel
theorem c210_11 : gP 210 11 = some (.getfield 55, 3, 8, 387) := by decide +kernel
theorem c210_14 : gP 210 14 = some (.imul, 1, 0, 0) := by decide +kernel
theorem c210_15 : gP 210 15 = some (.iadd, 1, 0, 0) := by decide +kernel
theorem c210_16 : gP 210 16 = some (.istore 1, 1, 0, 0) := by decide +kernel
theorem c210_17 : gP 210 17 = some (.aload 0, 1, 0, 0) := by decide +kernel
theorem c210_18 : gP 210 18 = some (.getfield 40, 3, 8, 93) := by decide +kernel
theorem c210_21 : gP 210 21 = some (.iload 1, 1, 0, 0) := by decide +kernel
theorem c210_22 : gP 210 22 = some (.iaload, 1, 0, 0) := by decide +kernel
theorem c210_23 : gP 210 23 = some (.istore 2, 1, 0, 0) := by decide +kernel
theorem c210_24 : gP 210 24 = some (.iload 2, 1, 0, 0) := by decide +kernel
theorem c210_25 : gP 210 25 = some (.iconst 11, 2, 0, 0) := by decide +kernel
theorem c210_27 : gP 210 27 = some (.if_icmp .ge 40, 3, 0, 0) := by decide +kernel
theorem c210_30 : gP 210 30 = some (.aload 0, 1, 0, 0) := by decide +kernel
theorem c210_31 : gP 210 31 = some (.dup, 1, 0, 0) := by decide +kernel
theorem c210_32 : gP 210 32 = some (.getfield 56, 3, 8, 406) := by decide +kernel
theorem c210_35 : gP 210 35 = some (.iconst 1, 1, 0, 0) := by decide +kernel
theorem c210_36 : gP 210 36 = some (.iadd, 1, 0, 0) := by decide +kernel
theorem c210_37 : gP 210 37 = some (.putfield 56, 3, 8, 0) := by decide +kernel
theorem c210_40 : gP 210 40 = some (.aload 0, 1, 0, 0) := by decide +kernel
theorem c210_41 : gP 210 41 = some (.getfield 56, 3, 8, 406) := by decide +kernel
theorem c210_44 : gP 210 44 = some (.iconst 200, 3, 0, 0) := by decide +kernel
theorem c210_47 : gP 210 47 = some (.if_icmp .le 58, 3, 0, 0) := by decide +kernel
theorem c210_50 : gP 210 50 = some (.aload 0, 1, 0, 0) := by decide +kernel
theorem c210_51 : gP 210 51 = some (.iconst 4, 1, 0, 0) := by decide +kernel
theorem c210_52 : gP 210 52 = some (.putfield 57, 3, 8, 0) := by decide +kernel
theorem c210_55 : gP 210 55 = some (.goto 214, 3, 0, 0) := by decide +kernel
theorem c210_58 : gP 210 58 = some (.iload 2, 1, 0, 0) := by decide +kernel
theorem c210_59 : gP 210 59 = some (.iconst 11, 2, 0, 0) := by decide +kernel
theorem c210_61 : gP 210 61 = some (.if_icmp .ne 79, 3, 0, 0) := by decide +kernel
theorem c210_64 : gP 210 64 = some (.aload 0, 1, 0, 0) := by decide +kernel
theorem c210_65 : gP 210 65 = some (.aload 0, 1, 0, 0) := by decide +kernel
theorem c210_66 : gP 210 66 = some (.getfield 40, 3, 8, 93) := by decide +kernel
theorem c210_69 : gP 210 69 = some (.iload 1, 1, 0, 0) := by decide +kernel
theorem c210_70 : gP 210 70 = some (.iconst 3, 1, 0, 0) := by decide +kernel
theorem c210_71 : gP 210 71 = some (.iadd, 1, 0, 0) := by decide +kernel
theorem c210_72 : gP 210 72 = some (.iaload, 1, 0, 0) := by decide +kernel
theorem c210_73 : gP 210 73 = some (.putfield 55, 3, 8, 0) := by decide +kernel
theorem c210_76 : gP 210 76 = some (.goto 214, 3, 0, 0) := by decide +kernel
theorem c210_79 : gP 210 79 = some (.iload 2, 1, 0, 0) := by decide +kernel
theorem c210_80 : gP 210 80 = some (.iconst 12, 2, 0, 0) := by decide +kernel
theorem c210_82 : gP 210 82 = some (.if_icmp .ne 101, 3, 0, 0) := by decide +kernel
theorem c210_85 : gP 210 85 = some (.aload 0, 1, 0, 0) := by decide +kernel
theorem c210_86 : gP 210 86 = some (.aload 0, 1, 0, 0) := by decide +kernel
theorem c210_87 : gP 210 87 = some (.getfield 40, 3, 8, 93) := by decide +kernel
theorem c210_90 : gP 210 90 = some (.iload 1, 1, 0, 0) := by decide +kernel
theorem c210_91 : gP 210 91 = some (.iconst 1, 1, 0, 0) := by decide +kernel
theorem c210_92 : gP 210 92 = some (.iadd, 1, 0, 0) := by decide +kernel
theorem c210_93 : gP 210 93 = some (.iaload, 1, 0, 0) := by decide +kernel
theorem c210_94 : gP 210 94 = some (.iconst 0, 1, 0, 0) := by decide +kernel
theorem c210_95 : gP 210 95 = some (.invokeinterface 204 409, 3, 3, 1) := by decide +kernel
theorem c210_98 : gP 210 98 = some (.goto 214, 3, 0, 0) := by decide +kernel
theorem c210_101 : gP 210 101 = some (.iload 2, 1, 0, 0) := by decide +kernel
theorem c210_102 : gP 210 102 = some (.iconst 6, 2, 0, 0) := by decide +kernel
theorem c210_104 : gP 210 104 = some (.if_icmp .ne 134, 3, 0, 0) := by decide +kernel
theorem c210_107 : gP 210 107 = some (.aload 0, 1, 0, 0) := by decide +kernel
theorem c210_108 : gP 210 108 = some (.aload 0, 1, 0, 0) := by decide +kernel
theorem c210_109 : gP 210 109 = some (.getfield 40, 3, 8, 93) := by decide +kernel
theorem c210_112 : gP 210 112 = some (.iload 1, 1, 0, 0) := by decide +kernel
theorem c210_113 : gP 210 113 = some (.iconst 1, 1, 0, 0) := by decide +kernel
theorem c210_114 : gP 210 114 = some (.iadd, 1, 0, 0) := by decide +kernel
theorem c210_115 : gP 210 115 = some (.iaload, 1, 0, 0) := by decide +kernel
theorem c210_116 : gP 210 116 = some (.aload 0, 1, 0, 0) := by decide +kernel
theorem c210_117 : gP 210 117 = some (.aload 0, 1, 0, 0) := by decide +kernel
theorem c210_118 : gP 210 118 = some (.getfield 40, 3, 8, 93) := by decide +kernel
theorem c210_121 : gP 210 121 = some (.iload 1, 1, 0, 0) := by decide +kernel
theorem c210_122 : gP 210 122 = some (.iconst 2, 1, 0, 0) := by decide +kernel
theorem c210_123 : gP 210 123 = some (.iadd, 1, 0, 0) := by decide +kernel
theorem c210_124 : gP 210 124 = some (.iaload, 1, 0, 0) := by decide +kernel
theorem c210_125 : gP 210 125 = some (.invokeinterface 205 390, 3, 2, 1) := by decide +kernel
theorem c210_128 : gP 210 128 = some (.invokeinterface 204 409, 3, 3, 1) := by decide +kernel
theorem c210_131 : gP 210 131 = some (.goto 214, 3, 0, 0) := by decide +kernel
theorem c210_134 : gP 210 134 = some (.iload 2, 1, 0, 0) := by decide +kernel
theorem c210_135 : gP 210 135 = some (.iconst 9, 2, 0, 0) := by decide +kernel
theorem c210_137 : gP 210 137 = some (.if_icmp .eq 146, 3, 0, 0) := by decide +kernel
theorem c210_140 : gP 210 140 = some (.iload 2, 1, 0, 0) := by decide +kernel
theorem c210_141 : gP 210 141 = some (.iconst 10, 2, 0, 0) := by decide +kernel
theorem c210_143 : gP 210 143 = some (.if_icmp .ne 185, 3, 0, 0) := by decide +kernel
theorem c210_146 : gP 210 146 = some (.aload 0, 1, 0, 0) := by decide +kernel
theorem c210_147 : gP 210 147 = some (.aload 0, 1, 0, 0) := by decide +kernel
theorem c210_148 : gP 210 148 = some (.aload 0, 1, 0, 0) := by decide +kernel
theorem c210_149 : gP 210 149 = some (.getfield 40, 3, 8, 93) := by decide +kernel
theorem c210_152 : gP 210 152 = some (.iload 1, 1, 0, 0) := by decide +kernel
theorem c210_153 : gP 210 153 = some (.iconst 2, 1, 0, 0) := by decide +kernel
theorem c210_154 : gP 210 154 = some (.iadd, 1, 0, 0) := by decide +kernel
theorem c210_155 : gP 210 155 = some (.iaload, 1, 0, 0) := by decide +kernel
theorem c210_156 : gP 210 156 = some (.invokeinterface 205 390, 3, 2, 1) := by decide +kernel
theorem c210_159 : gP 210 159 = some (.ifCond .le 171, 3, 0, 0) := by decide +kernel
theorem c210_162 : gP 210 162 = some (.aload 0, 1, 0, 0) := by decide +kernel
theorem c210_163 : gP 210 163 = some (.getfield 55, 3, 8, 387) := by decide +kernel
theorem c210_166 : gP 210 166 = some (.iconst 1, 1, 0, 0) := by decide +kernel
theorem c210_167 : gP 210 167 = some (.iadd, 1, 0, 0) := by decide +kernel
theorem c210_168 : gP 210 168 = some (.goto 179, 3, 0, 0) := by decide +kernel
theorem c210_171 : gP 210 171 = some (.aload 0, 1, 0, 0) := by decide +kernel
theorem c210_172 : gP 210 172 = some (.getfield 40, 3, 8, 93) := by decide +kernel
theorem c210_175 : gP 210 175 = some (.iload 1, 1, 0, 0) := by decide +kernel
theorem c210_176 : gP 210 176 = some (.iconst 3, 1, 0, 0) := by decide +kernel
theorem c210_177 : gP 210 177 = some (.iadd, 1, 0, 0) := by decide +kernel
theorem c210_178 : gP 210 178 = some (.iaload, 1, 0, 0) := by decide +kernel
theorem c210_179 : gP 210 179 = some (.putfield 55, 3, 8, 0) := by decide +kernel
theorem c210_182 : gP 210 182 = some (.goto 214, 3, 0, 0) := by decide +kernel
theorem c210_185 : gP 210 185 = some (.iload 2, 1, 0, 0) := by decide +kernel
theorem c210_186 : gP 210 186 = some (.iconst 7, 2, 0, 0) := by decide +kernel
theorem c210_188 : gP 210 188 = some (.if_icmp .ne 199, 3, 0, 0) := by decide +kernel
theorem c210_191 : gP 210 191 = some (.aload 0, 1, 0, 0) := by decide +kernel
theorem c210_192 : gP 210 192 = some (.iload 1, 1, 0, 0) := by decide +kernel
theorem c210_193 : gP 210 193 = some (.invokeinterface 207 412, 3, 2, 1) := by decide +kernel
theorem c210_196 : gP 210 196 = some (.goto 214, 3, 0, 0) := by decide +kernel
theorem c210_199 : gP 210 199 = some (.aload 0, 1, 0, 0) := by decide +kernel
theorem c210_200 : gP 210 200 = some (.iload 1, 1, 0, 0) := by decide +kernel
theorem c210_201 : gP 210 201 = some (.invokeinterface 209 415, 3, 2, 1) := by decide +kernel
theorem c210_204 : gP 210 204 = some (.aload 0, 1, 0, 0) := by decide +kernel
theorem c210_205 : gP 210 205 = some (.dup, 1, 0, 0) := by decide +kernel
theorem c210_206 : gP 210 206 = some (.getfield 55, 3, 8, 387) := by decide +kernel
theorem c210_209 : gP 210 209 = some (.iconst 1, 1, 0, 0) := by decide +kernel
theorem c210_210 : gP 210 210 = some (.iadd, 1, 0, 0) := by decide +kernel
theorem c210_211 : gP 210 211 = some (.putfield 55, 3, 8, 0) := by decide +kernel
theorem c210_214 : gP 210 214 = some (.return_, 1, 0, 0) := by decide +kernel
theorem c211_0 : gP 211 0 = some (.aload 0, 1, 0, 0) := by decide +kernel
theorem c211_1 : gP 211 1 = some (.aload 0, 1, 0, 0) := by decide +kernel
theorem c211_2 : gP 211 2 = some (.getfield 19, 3, 8, 322) := by decide +kernel
theorem c211_5 : gP 211 5 = some (.ifCond .eq 19, 3, 0, 0) := by decide +kernel
theorem c211_8 : gP 211 8 = some (.aload 0, 1, 0, 0) := by decide +kernel
theorem c211_9 : gP 211 9 = some (.invokeinterface 143 363, 3, 1, 1) := by decide +kernel
theorem c211_12 : gP 211 12 = some (.ifCond .lt 19, 3, 0, 0) := by decide +kernel
theorem c211_15 : gP 211 15 = some (.iconst 1, 1, 0, 0) := by decide +kernel
theorem c211_16 : gP 211 16 = some (.goto 20, 3, 0, 0) := by decide +kernel
theorem c211_19 : gP 211 19 = some (.iconst 0, 1, 0, 0) := by decide +kernel
theorem c211_20 : gP 211 20 = some (.invokeinterface 162 375, 3, 2, 1) := by decide +kernel
theorem c211_23 : gP 211 23 = some (.ifCond .ne 28, 3, 0, 0) := by decide +kernel
theorem c211_26 : gP 211 26 = some (.iconst 0, 1, 0, 0) := by decide +kernel
theorem c211_27 : gP 211 27 = some (.ireturn, 1, 0, 0) := by decide +kernel
theorem c211_28 : gP 211 28 = some (.iconst 0, 1, 0, 0) := by decide +kernel
theorem c211_29 : gP 211 29 = some (.istore 1, 1, 0, 0) := by decide +kernel
theorem c211_30 : gP 211 30 = some (.iload 1, 1, 0, 0) := by decide +kernel
theorem c211_31 : gP 211 31 = some (.iconst 576, 3, 0, 0) := by decide +kernel
theorem c211_34 : gP 211 34 = some (.if_icmp .ge 50, 3, 0, 0) := by decide +kernel
theorem c211_37 : gP 211 37 = some (.aload 0, 1, 0, 0) := by decide +kernel
theorem c211_38 : gP 211 38 = some (.getfield 48, 3, 8, 108) := by decide +kernel
theorem c211_41 : gP 211 41 = some (.iload 1, 1, 0, 0) := by decide +kernel
theorem c211_42 : gP 211 42 = some (.iconst 0, 1, 0, 0) := by decide +kernel
theorem c211_43 : gP 211 43 = some (.iastore, 1, 1, 0) := by decide +kernel
theorem c211_44 : gP 211 44 = some (.iinc 1 1, 3, 0, 0) := by decide +kernel
theorem c211_47 : gP 211 47 = some (.goto 30, 3, 0, 0) := by decide +kernel
theorem c211_50 : gP 211 50 = some (.aload 0, 1, 0, 0) := by decide +kernel
theorem c211_51 : gP 211 51 = some (.iconst 0, 1, 0, 0) := by decide +kernel
theorem c211_52 : gP 211 52 = some (.putfield 51, 3, 8, 0) := by decide +kernel
theorem c211_55 : gP 211 55 = some (.aload 0, 1, 0, 0) := by decide +kernel
theorem c211_56 : gP 211 56 = some (.iconst 0, 1, 0, 0) := by decide +kernel
theorem c211_57 : gP 211 57 = some (.putfield 54, 3, 8, 0) := by decide +kernel
theorem c211_60 : gP 211 60 = some (.aload 0, 1, 0, 0) := by decide +kernel
theorem c211_61 : gP 211 61 = some (.iconst 0, 1, 0, 0) := by decide +kernel
theorem c211_62 : gP 211 62 = some (.putfield 56, 3, 8, 0) := by decide +kernel
theorem c211_65 : gP 211 65 = some (.aload 0, 1, 0, 0) := by decide +kernel
theorem c211_66 : gP 211 66 = some (.iconst 0, 1, 0, 0) := by decide +kernel
theorem c211_67 : gP 211 67 = some (.invokeinterface 201 403, 3, 2, 1) := by decide +kernel
theorem c211_70 : gP 211 70 = some (.istore 1, 1, 0, 0) := by decide +kernel
theorem c211_71 : gP 211 71 = some (.aload 0, 1, 0, 0) := by decide +kernel
theorem c211_72 : gP 211 72 = some (.aload 0, 1, 0, 0) := by decide +kernel
theorem c211_73 : gP 211 73 = some (.invokeinterface 143 363, 3, 1, 1) := by decide +kernel
theorem c211_76 : gP 211 76 = some (.iload 1, 1, 0, 0) := by decide +kernel
theorem c211_77 : gP 211 77 = some (.iconst 0, 1, 0, 0) := by decide +kernel
theorem c211_78 : gP 211 78 = some (.iconst 0, 1, 0, 0) := by decide +kernel
theorem c211_79 : gP 211 79 = some (.iconst 0, 1, 0, 0) := by decide +kernel
theorem c211_80 : gP 211 80 = some (.invokeinterface 203 396, 3, 6, 1) := by decide +kernel
theorem c211_83 : gP 211 83 = some (.aload 0, 1, 0, 0) := by decide +kernel
theorem c211_84 : gP 211 84 = some (.getfield 57, 3, 8, 123) := by decide +kernel
theorem c211_87 : gP 211 87 = some (.ifCond .ne 104, 3, 0, 0) := by decide +kernel
theorem c211_90 : gP 211 90 = some (.aload 0, 1, 0, 0) := by decide +kernel
theorem c211_91 : gP 211 91 = some (.getfield 54, 3, 8, 381) := by decide +kernel
theorem c211_94 : gP 211 94 = some (.ifCond .le 104, 3, 0, 0) := by decide +kernel
theorem c211_97 : gP 211 97 = some (.aload 0, 1, 0, 0) := by decide +kernel
theorem c211_98 : gP 211 98 = some (.invokeinterface 210 418, 3, 1, 1) := by decide +kernel
theorem c211_101 : gP 211 101 = some (.goto 83, 3, 0, 0) := by decide +kernel
theorem c211_104 : gP 211 104 = some (.aload 0, 1, 0, 0) := by decide +kernel
theorem c211_105 : gP 211 105 = some (.getfield 57, 3, 8, 123) := by decide +kernel
theorem c211_108 : gP 211 108 = some (.ifCond .ne 118, 3, 0, 0) := by decide +kernel
theorem c211_111 : gP 211 111 = some (.aload 0, 1, 0, 0) := by decide +kernel
theorem c211_112 : gP 211 112 = some (.getfield 56, 3, 8, 406) := by decide +kernel
theorem c211_115 : gP 211 115 = some (.goto 119, 3, 0, 0) := by decide +kernel
theorem c211_118 : gP 211 118 = some (.iconst 0, 1, 0, 0) := by decide +kernel
theorem c211_119 : gP 211 119 = some (.ireturn, 1, 0, 0) := by decide +kernel
theorem c212_0 : gP 212 0 = some (.aload 0, 1, 0, 0) := by decide +kernel
theorem c212_1 : gP 212 1 = some (.iload 1, 1, 0, 0) := by decide +kernel
theorem c212_2 : gP 212 2 = some (.invokeinterface 156 80, 3, 2, 1) := by decide +kernel
theorem c212_5 : gP 212 5 = some (.ifCond .eq 16, 3, 0, 0) := by decide +kernel
theorem c212_8 : gP 212 8 = some (.aload 0, 1, 0, 0) := by decide +kernel
theorem c212_9 : gP 212 9 = some (.iload 2, 1, 0, 0) := by decide +kernel
theorem c212_10 : gP 212 10 = some (.invokeinterface 157 84, 3, 2, 1) := by decide +kernel
theorem c212_13 : gP 212 13 = some (.ifCond .ne 24, 3, 0, 0) := by decide +kernel
theorem c212_16 : gP 212 16 = some (.athrow, 89, 11, 87) := by decide +kernel
theorem c212_24 : gP 212 24 = some (.aload 0, 1, 0, 0) := by decide +kernel
theorem c212_25 : gP 212 25 = some (.getfield 3, 3, 7, 30) := by decide +kernel
theorem c212_28 : gP 212 28 = some (.getfield 0, 3, 3, 163) := by decide +kernel
theorem c212_31 : gP 212 31 = some (.iload 1, 1, 0, 0) := by decide +kernel
theorem c212_32 : gP 212 32 = some (.aaload, 1, 0, 0) := by decide +kernel
theorem c212_33 : gP 212 33 = some (.iload 2, 1, 0, 0) := by decide +kernel
theorem c212_34 : gP 212 34 = some (.iaload, 1, 0, 0) := by decide +kernel
theorem c212_35 : gP 212 35 = some (.ireturn, 1, 0, 0) := by decide +kernel
theorem c213_0 : gP 213 0 = some (.aload 3, 1, 0, 0) := by decide +kernel
theorem c213_1 : gP 213 1 = some (.iconst 0, 1, 0, 0) := by decide +kernel
theorem c213_2 : gP 213 2 = some (.aload 0, 1, 0, 0) := by decide +kernel
theorem c213_3 : gP 213 3 = some (.iload 1, 1, 0, 0) := by decide +kernel
theorem c213_4 : gP 213 4 = some (.iload 2, 1, 0, 0) := by decide +kernel
theorem c213_5 : gP 213 5 = some (.invokeinterface 212 57, 3, 3, 1) := by decide +kernel
theorem c213_8 : gP 213 8 = some (.i2l, 1, 0, 0) := by decide +kernel
theorem c213_9 : gP 213 9 = some (.lastore, 1, 0, 0) := by decide +kernel
theorem c213_10 : gP 213 10 = some (.goto 17, 3, 0, 0) := by decide +kernel
theorem c213_13 : gP 213 13 = some (.astore 4, 2, 0, 0) := by decide +kernel
theorem c213_15 : gP 213 15 = some (.iconst 1, 1, 0, 0) := by decide +kernel
theorem c213_16 : gP 213 16 = some (.ireturn, 1, 0, 0) := by decide +kernel
theorem c213_17 : gP 213 17 = some (.iconst 0, 1, 0, 0) := by decide +kernel
theorem c213_18 : gP 213 18 = some (.ireturn, 1, 0, 0) := by decide +kernel
theorem c214_0 : gP 214 0 = some (.aload 0, 1, 0, 0) := by decide +kernel
theorem c214_1 : gP 214 1 = some (.aload 0, 1, 0, 0) := by decide +kernel
theorem c214_2 : gP 214 2 = some (.iload 1, 1, 0, 0) := by decide +kernel
theorem c214_3 : gP 214 3 = some (.invokeinterface 160 369, 3, 2, 1) := by decide +kernel
theorem c214_6 : gP 214 6 = some (.ifCond .eq 21, 3, 0, 0) := by decide +kernel
theorem c214_9 : gP 214 9 = some (.aload 0, 1, 0, 0) := by decide +kernel
theorem c214_10 : gP 214 10 = some (.iload 2, 1, 0, 0) := by decide +kernel
theorem c214_11 : gP 214 11 = some (.invokeinterface 161 372, 3, 2, 1) := by decide +kernel
theorem c214_14 : gP 214 14 = some (.ifCond .eq 21, 3, 0, 0) := by decide +kernel
theorem c214_17 : gP 214 17 = some (.iconst 1, 1, 0, 0) := by decide +kernel
theorem c214_18 : gP 214 18 = some (.goto 22, 3, 0, 0) := by decide +kernel
theorem c214_21 : gP 214 21 = some (.iconst 0, 1, 0, 0) := by decide +kernel
theorem c214_22 : gP 214 22 = some (.invokeinterface 162 375, 3, 2, 1) := by decide +kernel
theorem c214_25 : gP 214 25 = some (.ifCond .eq 46, 3, 0, 0) := by decide +kernel
theorem c214_28 : gP 214 28 = some (.aload 0, 1, 0, 0) := by decide +kernel
theorem c214_29 : gP 214 29 = some (.getfield 48, 3, 8, 108) := by decide +kernel
theorem c214_32 : gP 214 32 = some (.iconst 12, 2, 0, 0) := by decide +kernel
theorem c214_34 : gP 214 34 = some (.iload 1, 1, 0, 0) := by decide +kernel
theorem c214_35 : gP 214 35 = some (.imul, 1, 0, 0) := by decide +kernel
theorem c214_36 : gP 214 36 = some (.iload 2, 1, 0, 0) := by decide +kernel
theorem c214_37 : gP 214 37 = some (.iadd, 1, 0, 0) := by decide +kernel
theorem c214_38 : gP 214 38 = some (.iaload, 1, 1, 0) := by decide +kernel
theorem c214_39 : gP 214 39 = some (.ifCond .eq 46, 3, 0, 0) := by decide +kernel
theorem c214_42 : gP 214 42 = some (.iconst 1, 1, 0, 0) := by decide +kernel
theorem c214_43 : gP 214 43 = some (.goto 47, 3, 0, 0) := by decide +kernel
theorem c214_46 : gP 214 46 = some (.iconst 0, 1, 0, 0) := by decide +kernel
theorem c214_47 : gP 214 47 = some (.ireturn, 1, 0, 0) := by decide +kernel
theorem c215_0 : gP 215 0 = some (.iload 1, 1, 0, 0) := by decide +kernel
theorem c215_1 : gP 215 1 = some (.tableswitch 132 0 9 #[55, 63, 71, 79, 87, 95, 103, 111, 119, 127], 55, 0, 0) := by decide +kernel
theorem c215_56 : gP 215 56 = some (.aload 0, 1, 0, 0) := by decide +kernel
theorem c215_57 : gP 215 57 = some (.getfield 4, 3, 7, 37) := by decide +kernel
theorem c215_60 : gP 215 60 = some (.getfield 9, 3, 6, 166) := by decide +kernel
theorem c215_63 : gP 215 63 = some (.ireturn, 1, 0, 0) := by decide +kernel
theorem c215_64 : gP 215 64 = some (.aload 0, 1, 0, 0) := by decide +kernel
theorem c215_65 : gP 215 65 = some (.getfield 4, 3, 7, 37) := by decide +kernel
theorem c215_68 : gP 215 68 = some (.getfield 10, 3, 6, 169) := by decide +kernel
theorem c215_71 : gP 215 71 = some (.ireturn, 1, 0, 0) := by decide +kernel
theorem c215_72 : gP 215 72 = some (.aload 0, 1, 0, 0) := by decide +kernel
theorem c215_73 : gP 215 73 = some (.getfield 4, 3, 7, 37) := by decide +kernel
theorem c215_76 : gP 215 76 = some (.getfield 11, 3, 6, 94) := by decide +kernel
theorem c215_79 : gP 215 79 = some (.ireturn, 1, 0, 0) := by decide +kernel
theorem c215_80 : gP 215 80 = some (.aload 0, 1, 0, 0) := by decide +kernel
theorem c215_81 : gP 215 81 = some (.getfield 4, 3, 7, 37) := by decide +kernel
theorem c215_84 : gP 215 84 = some (.getfield 12, 3, 6, 105) := by decide +kernel
theorem c215_87 : gP 215 87 = some (.ireturn, 1, 0, 0) := by decide +kernel
theorem c215_88 : gP 215 88 = some (.aload 0, 1, 0, 0) := by decide +kernel
theorem c215_89 : gP 215 89 = some (.getfield 4, 3, 7, 37) := by decide +kernel
theorem c215_92 : gP 215 92 = some (.getfield 13, 3, 6, 118) := by decide +kernel
theorem c215_95 : gP 215 95 = some (.ireturn, 1, 0, 0) := by decide +kernel
theorem c215_96 : gP 215 96 = some (.aload 0, 1, 0, 0) := by decide +kernel
theorem c215_97 : gP 215 97 = some (.getfield 4, 3, 7, 37) := by decide +kernel
theorem c215_100 : gP 215 100 = some (.getfield 14, 3, 6, 172) := by decide +kernel
theorem c215_103 : gP 215 103 = some (.ireturn, 1, 0, 0) := by decide +kernel
theorem c215_104 : gP 215 104 = some (.aload 0, 1, 0, 0) := by decide +kernel
theorem c215_105 : gP 215 105 = some (.getfield 4, 3, 7, 37) := by decide +kernel
theorem c215_108 : gP 215 108 = some (.getfield 15, 3, 6, 175) := by decide +kernel
theorem c215_111 : gP 215 111 = some (.ireturn, 1, 0, 0) := by decide +kernel
theorem c215_112 : gP 215 112 = some (.aload 0, 1, 0, 0) := by decide +kernel
theorem c215_113 : gP 215 113 = some (.getfield 2, 3, 7, 23) := by decide +kernel
theorem c215_116 : gP 215 116 = some (.getfield 6, 3, 2, 178) := by decide +kernel
theorem c215_119 : gP 215 119 = some (.ireturn, 1, 0, 0) := by decide +kernel
theorem c215_120 : gP 215 120 = some (.aload 0, 1, 0, 0) := by decide +kernel
theorem c215_121 : gP 215 121 = some (.getfield 3, 3, 7, 30) := by decide +kernel
theorem c215_124 : gP 215 124 = some (.getfield 5, 3, 3, 181) := by decide +kernel
theorem c215_127 : gP 215 127 = some (.ireturn, 1, 0, 0) := by decide +kernel
theorem c215_128 : gP 215 128 = some (.aload 0, 1, 0, 0) := by decide +kernel
theorem c215_129 : gP 215 129 = some (.getfield 6, 3, 7, 55) := by decide +kernel
theorem c215_132 : gP 215 132 = some (.ireturn, 1, 0, 0) := by decide +kernel
theorem c215_133 : gP 215 133 = some (.athrow, 54, 9, 52) := by decide +kernel
theorem c216_0 : gP 216 0 = some (.aload 2, 1, 0, 0) := by decide +kernel
theorem c216_1 : gP 216 1 = some (.iconst 0, 1, 0, 0) := by decide +kernel
theorem c216_2 : gP 216 2 = some (.aload 0, 1, 0, 0) := by decide +kernel
theorem c216_3 : gP 216 3 = some (.iload 1, 1, 0, 0) := by decide +kernel
theorem c216_4 : gP 216 4 = some (.invokeinterface 215 60, 3, 2, 1) := by decide +kernel
theorem c216_7 : gP 216 7 = some (.i2l, 1, 0, 0) := by decide +kernel
theorem c216_8 : gP 216 8 = some (.lastore, 1, 0, 0) := by decide +kernel
theorem c216_9 : gP 216 9 = some (.goto 15, 3, 0, 0) := by decide +kernel
theorem c216_12 : gP 216 12 = some (.astore 3, 1, 0, 0) := by decide +kernel
theorem c216_13 : gP 216 13 = some (.iconst 1, 1, 0, 0) := by decide +kernel
theorem c216_14 : gP 216 14 = some (.ireturn, 1, 0, 0) := by decide +kernel
theorem c216_15 : gP 216 15 = some (.iconst 0, 1, 0, 0) := by decide +kernel
theorem c216_16 : gP 216 16 = some (.ireturn, 1, 0, 0) := by decide +kernel
theorem c217_0 : gP 217 0 = some (.aload 0, 1, 0, 0) := by decide +kernel
theorem c217_1 : gP 217 1 = some (.iload 1, 1, 0, 0) := by decide +kernel
theorem c217_2 : gP 217 2 = some (.iconst 0, 1, 0, 0) := by decide +kernel
theorem c217_3 : gP 217 3 = some (.iconst 9, 2, 0, 0) := by decide +kernel
theorem c217_5 : gP 217 5 = some (.invokeinterface 22 126, 3, 3, 0) := by decide +kernel
theorem c217_8 : gP 217 8 = some (.iconst 1, 1, 0, 0) := by decide +kernel
theorem c217_9 : gP 217 9 = some (.invokeinterface 23 130, 3, 3, 1) := by decide +kernel
theorem c217_12 : gP 217 12 = some (.ifCond .ne 17, 3, 0, 0) := by decide +kernel
theorem c217_15 : gP 217 15 = some (.iconst 0, 1, 0, 0) := by decide +kernel
theorem c217_16 : gP 217 16 = some (.ireturn, 1, 0, 0) := by decide +kernel
theorem c217_17 : gP 217 17 = some (.iload 1, 1, 0, 0) := by decide +kernel
theorem c217_18 : gP 217 18 = some (.iconst 9, 2, 0, 0) := by decide +kernel
theorem c217_20 : gP 217 20 = some (.if_icmp .ne 28, 3, 0, 0) := by decide +kernel
theorem c217_23 : gP 217 23 = some (.aload 0, 1, 0, 0) := by decide +kernel
theorem c217_24 : gP 217 24 = some (.getfield 1, 3, 8, 138) := by decide +kernel
theorem c217_27 : gP 217 27 = some (.ireturn, 1, 0, 0) := by decide +kernel
theorem c217_28 : gP 217 28 = some (.aload 0, 1, 0, 0) := by decide +kernel
theorem c217_29 : gP 217 29 = some (.getfield 19, 3, 8, 322) := by decide +kernel
theorem c217_32 : gP 217 32 = some (.ifCond .ne 37, 3, 0, 0) := by decide +kernel
theorem c217_35 : gP 217 35 = some (.iconst 0, 1, 0, 0) := by decide +kernel
theorem c217_36 : gP 217 36 = some (.ireturn, 1, 0, 0) := by decide +kernel
theorem c217_37 : gP 217 37 = some (.iload 1, 1, 0, 0) := by decide +kernel
theorem c217_38 : gP 217 38 = some (.iconst 4, 1, 0, 0) := by decide +kernel
theorem c217_39 : gP 217 39 = some (.if_icmp .ge 102, 3, 0, 0) := by decide +kernel
theorem c217_42 : gP 217 42 = some (.iload 1, 1, 0, 0) := by decide +kernel
theorem c217_43 : gP 217 43 = some (.ifCond .ne 58, 3, 0, 0) := by decide +kernel
theorem c217_46 : gP 217 46 = some (.aload 0, 1, 0, 0) := by decide +kernel
theorem c217_47 : gP 217 47 = some (.getfield 20, 3, 8, 32) := by decide +kernel
theorem c217_50 : gP 217 50 = some (.aload 0, 1, 0, 0) := by decide +kernel
theorem c217_51 : gP 217 51 = some (.getfield 18, 3, 8, 221) := by decide +kernel
theorem c217_54 : gP 217 54 = some (.iaload, 1, 0, 0) := by decide +kernel
theorem c217_55 : gP 217 55 = some (.goto 101, 3, 0, 0) := by decide +kernel
theorem c217_58 : gP 217 58 = some (.iload 1, 1, 0, 0) := by decide +kernel
theorem c217_59 : gP 217 59 = some (.iconst 1, 1, 0, 0) := by decide +kernel
theorem c217_60 : gP 217 60 = some (.if_icmp .ne 75, 3, 0, 0) := by decide +kernel
theorem c217_63 : gP 217 63 = some (.aload 0, 1, 0, 0) := by decide +kernel
theorem c217_64 : gP 217 64 = some (.getfield 21, 3, 8, 35) := by decide +kernel
theorem c217_67 : gP 217 67 = some (.aload 0, 1, 0, 0) := by decide +kernel
theorem c217_68 : gP 217 68 = some (.getfield 18, 3, 8, 221) := by decide +kernel
theorem c217_71 : gP 217 71 = some (.iaload, 1, 0, 0) := by decide +kernel
theorem c217_72 : gP 217 72 = some (.goto 101, 3, 0, 0) := by decide +kernel
theorem c217_75 : gP 217 75 = some (.iload 1, 1, 0, 0) := by decide +kernel
theorem c217_76 : gP 217 76 = some (.iconst 2, 1, 0, 0) := by decide +kernel
theorem c217_77 : gP 217 77 = some (.if_icmp .ne 92, 3, 0, 0) := by decide +kernel
theorem c217_80 : gP 217 80 = some (.aload 0, 1, 0, 0) := by decide +kernel
theorem c217_81 : gP 217 81 = some (.getfield 22, 3, 8, 38) := by decide +kernel
theorem c217_84 : gP 217 84 = some (.aload 0, 1, 0, 0) := by decide +kernel
theorem c217_85 : gP 217 85 = some (.getfield 18, 3, 8, 221) := by decide +kernel
theorem c217_88 : gP 217 88 = some (.iaload, 1, 0, 0) := by decide +kernel
theorem c217_89 : gP 217 89 = some (.goto 101, 3, 0, 0) := by decide +kernel
theorem c217_92 : gP 217 92 = some (.aload 0, 1, 0, 0) := by decide +kernel
theorem c217_93 : gP 217 93 = some (.getfield 23, 3, 8, 41) := by decide +kernel
theorem c217_96 : gP 217 96 = some (.aload 0, 1, 0, 0) := by decide +kernel
theorem c217_97 : gP 217 97 = some (.getfield 18, 3, 8, 221) := by decide +kernel
theorem c217_100 : gP 217 100 = some (.iaload, 1, 0, 0) := by decide +kernel
theorem c217_101 : gP 217 101 = some (.ireturn, 1, 0, 0) := by decide +kernel
theorem c217_102 : gP 217 102 = some (.iload 1, 1, 0, 0) := by decide +kernel
theorem c217_103 : gP 217 103 = some (.iconst 4, 1, 0, 0) := by decide +kernel
theorem c217_104 : gP 217 104 = some (.if_icmp .ne 119, 3, 0, 0) := by decide +kernel
theorem c217_107 : gP 217 107 = some (.aload 0, 1, 0, 0) := by decide +kernel
theorem c217_108 : gP 217 108 = some (.getfield 24, 3, 8, 44) := by decide +kernel
theorem c217_111 : gP 217 111 = some (.aload 0, 1, 0, 0) := by decide +kernel
theorem c217_112 : gP 217 112 = some (.getfield 18, 3, 8, 221) := by decide +kernel
theorem c217_115 : gP 217 115 = some (.iaload, 1, 0, 0) := by decide +kernel
theorem c217_116 : gP 217 116 = some (.goto 171, 3, 0, 0) := by decide +kernel
theorem c217_119 : gP 217 119 = some (.iload 1, 1, 0, 0) := by decide +kernel
theorem c217_120 : gP 217 120 = some (.iconst 5, 1, 0, 0) := by decide +kernel
theorem c217_121 : gP 217 121 = some (.if_icmp .ne 136, 3, 0, 0) := by decide +kernel
theorem c217_124 : gP 217 124 = some (.aload 0, 1, 0, 0) := by decide +kernel
theorem c217_125 : gP 217 125 = some (.getfield 25, 3, 8, 47) := by decide +kernel
theorem c217_128 : gP 217 128 = some (.aload 0, 1, 0, 0) := by decide +kernel
theorem c217_129 : gP 217 129 = some (.getfield 18, 3, 8, 221) := by decide +kernel
theorem c217_132 : gP 217 132 = some (.iaload, 1, 0, 0) := by decide +kernel
theorem c217_133 : gP 217 133 = some (.goto 171, 3, 0, 0) := by decide +kernel
theorem c217_136 : gP 217 136 = some (.iload 1, 1, 0, 0) := by decide +kernel
theorem c217_137 : gP 217 137 = some (.iconst 6, 2, 0, 0) := by decide +kernel
theorem c217_139 : gP 217 139 = some (.if_icmp .ne 154, 3, 0, 0) := by decide +kernel
theorem c217_142 : gP 217 142 = some (.aload 0, 1, 0, 0) := by decide +kernel
theorem c217_143 : gP 217 143 = some (.getfield 26, 3, 8, 50) := by decide +kernel
theorem c217_146 : gP 217 146 = some (.aload 0, 1, 0, 0) := by decide +kernel
theorem c217_147 : gP 217 147 = some (.getfield 18, 3, 8, 221) := by decide +kernel
theorem c217_150 : gP 217 150 = some (.iaload, 1, 0, 0) := by decide +kernel
theorem c217_151 : gP 217 151 = some (.goto 171, 3, 0, 0) := by decide +kernel
theorem c217_154 : gP 217 154 = some (.iload 1, 1, 0, 0) := by decide +kernel
theorem c217_155 : gP 217 155 = some (.iconst 7, 2, 0, 0) := by decide +kernel
theorem c217_157 : gP 217 157 = some (.if_icmp .ne 167, 3, 0, 0) := by decide +kernel
theorem c217_160 : gP 217 160 = some (.aload 0, 1, 0, 0) := by decide +kernel
theorem c217_161 : gP 217 161 = some (.getfield 47, 3, 8, 360) := by decide +kernel
theorem c217_164 : gP 217 164 = some (.goto 171, 3, 0, 0) := by decide +kernel
theorem c217_167 : gP 217 167 = some (.aload 0, 1, 0, 0) := by decide +kernel
theorem c217_168 : gP 217 168 = some (.getfield 51, 3, 8, 326) := by decide +kernel
theorem c217_171 : gP 217 171 = some (.ireturn, 1, 0, 0) := by decide +kernel
theorem kf0_1 : yfld gSh 414 0 1 7 = some (.inr (.inl 2)) := by decide +kernel
theorem kf0_2 : yfld gSh 414 0 2 7 = some (.inr (.inl 8)) := by decide +kernel
theorem kf0_3 : yfld gSh 414 0 3 7 = some (.inr (.inl 169)) := by decide +kernel
theorem kf0_4 : yfld gSh 414 0 4 7 = some (.inr (.inr [256, 316])) := by decide +kernel
theorem kf0_5 : yfld gSh 414 0 5 7 = some (.inr (.inr [256, 316])) := by decide +kernel
theorem kf0_7 : yfld gSh 414 0 7 7 = some (.inl 0) := by decide +kernel
theorem kf2_0 : yfld gSh 414 2 0 1 = some (.inr (.inl 3)) := by decide +kernel
theorem kf2_1 : yfld gSh 414 2 1 1 = some (.inr (.inr [256, 316])) := by decide +kernel
theorem kf2_2 : yfld gSh 414 2 2 1 = some (.inl 0) := by decide +kernel
theorem kf2_3 : yfld gSh 414 2 3 1 = some (.inl 1) := by decide +kernel
theorem kf2_4 : yfld gSh 414 2 4 1 = some (.inl 0) := by decide +kernel
theorem kf3_0 : yfld gSh 414 3 0 0 = some (.inr (.inl 4)) := by decide +kernel
theorem kf3_1 : yfld gSh 414 3 1 0 = some (.inr (.inl 5)) := by decide +kernel
theorem kf3_2 : yfld gSh 414 3 2 0 = some (.inr (.inl 6)) := by decide +kernel
theorem kf3_3 : yfld gSh 414 3 3 0 = some (.inr (.inl 7)) := by decide +kernel
theorem kf3_4 : yfld gSh 414 3 4 0 = some (.inl 0) := by decide +kernel
theorem kf8_0 : yfld gSh 414 8 0 2 = some (.inr (.inl 9)) := by decide +kernel
theorem kf8_1 : yfld gSh 414 8 1 2 = some (.inr (.inl 58)) := by decide +kernel
theorem kf8_2 : yfld gSh 414 8 2 2 = some (.inr (.inl 71)) := by decide +kernel
theorem kf8_3 : yfld gSh 414 8 3 2 = some (.inr (.inl 72)) := by decide +kernel
theorem kf8_4 : yfld gSh 414 8 4 2 = some (.inr (.inr [256, 316])) := by decide +kernel
theorem kf8_5 : yfld gSh 414 8 5 2 = some (.inl 0) := by decide +kernel
theorem kf8_6 : yfld gSh 414 8 6 2 = some (.inl 0) := by decide +kernel
theorem kf169_0 : yfld gSh 414 169 0 3 = some (.inr (.inl 170)) := by decide +kernel
theorem kf169_1 : yfld gSh 414 169 1 3 = some (.inr (.inl 219)) := by decide +kernel
theorem kf169_2 : yfld gSh 414 169 2 3 = some (.inr (.inl 220)) := by decide +kernel
theorem kf169_3 : yfld gSh 414 169 3 3 = some (.inr (.inl 251)) := by decide +kernel
theorem kf169_4 : yfld gSh 414 169 4 3 = some (.inr (.inr [256, 316])) := by decide +kernel
theorem kf169_5 : yfld gSh 414 169 5 3 = some (.inl 0) := by decide +kernel
theorem kf169_6 : yfld gSh 414 169 6 3 = some (.inl 0) := by decide +kernel
theorem kf256_0 : yfld gSh 414 256 0 6 = some (.inr (.inl 257)) := by decide +kernel
theorem kf256_1 : yfld gSh 414 256 1 6 = some (.inr (.inl 258)) := by decide +kernel
theorem kf256_2 : yfld gSh 414 256 2 6 = some (.inr (.inl 259)) := by decide +kernel
theorem kf256_3 : yfld gSh 414 256 3 6 = some (.inr (.inl 260)) := by decide +kernel
theorem kf256_4 : yfld gSh 414 256 4 6 = some (.inr (.inl 261)) := by decide +kernel
theorem kf256_5 : yfld gSh 414 256 5 6 = some (.inr (.inl 262)) := by decide +kernel
theorem kf256_6 : yfld gSh 414 256 6 6 = some (.inr (.inl 263)) := by decide +kernel
theorem kf256_7 : yfld gSh 414 256 7 6 = some (.inr (.inl 264)) := by decide +kernel
theorem kf256_8 : yfld gSh 414 256 8 6 = some (.inr (.inl 265)) := by decide +kernel
theorem kf256_9 : yfld gSh 414 256 9 6 = some (.inl 0) := by decide +kernel
theorem kf256_10 : yfld gSh 414 256 10 6 = some (.inl 0) := by decide +kernel
theorem kf256_11 : yfld gSh 414 256 11 6 = some (.inl 0) := by decide +kernel
theorem kf256_12 : yfld gSh 414 256 12 6 = some (.inl 0) := by decide +kernel
theorem kf256_13 : yfld gSh 414 256 13 6 = some (.inl 0) := by decide +kernel
theorem kf256_14 : yfld gSh 414 256 14 6 = some (.inl 0) := by decide +kernel
theorem kf256_15 : yfld gSh 414 256 15 6 = some (.inl 0) := by decide +kernel
theorem kf256_16 : yfld gSh 414 256 16 6 = some (.inl 0) := by decide +kernel
theorem kf256_17 : yfld gSh 414 256 17 6 = some (.inl 0) := by decide +kernel
theorem kf316_0 : yfld gSh 414 316 0 6 = some (.inr (.inl 317)) := by decide +kernel
theorem kf316_1 : yfld gSh 414 316 1 6 = some (.inr (.inl 318)) := by decide +kernel
theorem kf316_2 : yfld gSh 414 316 2 6 = some (.inr (.inl 319)) := by decide +kernel
theorem kf316_3 : yfld gSh 414 316 3 6 = some (.inr (.inl 320)) := by decide +kernel
theorem kf316_4 : yfld gSh 414 316 4 6 = some (.inr (.inl 321)) := by decide +kernel
theorem kf316_5 : yfld gSh 414 316 5 6 = some (.inr (.inl 322)) := by decide +kernel
theorem kf316_6 : yfld gSh 414 316 6 6 = some (.inr (.inl 323)) := by decide +kernel
theorem kf316_7 : yfld gSh 414 316 7 6 = some (.inr (.inl 324)) := by decide +kernel
theorem kf316_8 : yfld gSh 414 316 8 6 = some (.inr (.inl 325)) := by decide +kernel
theorem kf316_9 : yfld gSh 414 316 9 6 = some (.inl 0) := by decide +kernel
theorem kf316_10 : yfld gSh 414 316 10 6 = some (.inl 0) := by decide +kernel
theorem kf316_11 : yfld gSh 414 316 11 6 = some (.inl 0) := by decide +kernel
theorem kf316_12 : yfld gSh 414 316 12 6 = some (.inl 0) := by decide +kernel
theorem kf316_13 : yfld gSh 414 316 13 6 = some (.inl 0) := by decide +kernel
theorem kf316_14 : yfld gSh 414 316 14 6 = some (.inl 0) := by decide +kernel
theorem kf316_15 : yfld gSh 414 316 15 6 = some (.inl 0) := by decide +kernel
theorem kf316_16 : yfld gSh 414 316 16 6 = some (.inl 0) := by decide +kernel
theorem kf316_17 : yfld gSh 414 316 17 6 = some (.inl 0) := by decide +kernel
theorem kf376_2 : yfld gSh 414 376 2 8 = some (.inl 0) := by decide +kernel
theorem kf376_3 : yfld gSh 414 376 3 8 = some (.inl 0) := by decide +kernel
theorem kf376_4 : yfld gSh 414 376 4 8 = some (.inl 0) := by decide +kernel
theorem kf376_5 : yfld gSh 414 376 5 8 = some (.inl 0) := by decide +kernel
theorem kf376_6 : yfld gSh 414 376 6 8 = some (.inl 0) := by decide +kernel
theorem kf376_7 : yfld gSh 414 376 7 8 = some (.inl 0) := by decide +kernel
theorem kf376_8 : yfld gSh 414 376 8 8 = some (.inl 0) := by decide +kernel
theorem kf376_9 : yfld gSh 414 376 9 8 = some (.inl 0) := by decide +kernel
theorem kf376_10 : yfld gSh 414 376 10 8 = some (.inl 0) := by decide +kernel
theorem kf376_11 : yfld gSh 414 376 11 8 = some (.inr (.inl 378)) := by decide +kernel
theorem kf376_12 : yfld gSh 414 376 12 8 = some (.inr (.inl 379)) := by decide +kernel
theorem kf376_13 : yfld gSh 414 376 13 8 = some (.inr (.inl 380)) := by decide +kernel
theorem kf376_14 : yfld gSh 414 376 14 8 = some (.inl 0) := by decide +kernel
theorem kf376_15 : yfld gSh 414 376 15 8 = some (.inr (.inl 381)) := by decide +kernel
theorem kf376_16 : yfld gSh 414 376 16 8 = some (.inr (.inl 382)) := by decide +kernel
theorem kf376_17 : yfld gSh 414 376 17 8 = some (.inl 0) := by decide +kernel
theorem kf376_18 : yfld gSh 414 376 18 8 = some (.inl 0) := by decide +kernel
theorem kf376_19 : yfld gSh 414 376 19 8 = some (.inl 1) := by decide +kernel
theorem kf376_20 : yfld gSh 414 376 20 8 = some (.inr (.inl 383)) := by decide +kernel
theorem kf376_21 : yfld gSh 414 376 21 8 = some (.inr (.inl 384)) := by decide +kernel
theorem kf376_22 : yfld gSh 414 376 22 8 = some (.inr (.inl 385)) := by decide +kernel
theorem kf376_23 : yfld gSh 414 376 23 8 = some (.inr (.inl 386)) := by decide +kernel
theorem kf376_24 : yfld gSh 414 376 24 8 = some (.inr (.inl 387)) := by decide +kernel
theorem kf376_25 : yfld gSh 414 376 25 8 = some (.inr (.inl 388)) := by decide +kernel
theorem kf376_26 : yfld gSh 414 376 26 8 = some (.inr (.inl 389)) := by decide +kernel
theorem kf376_27 : yfld gSh 414 376 27 8 = some (.inr (.inl 390)) := by decide +kernel
theorem kf376_28 : yfld gSh 414 376 28 8 = some (.inr (.inl 391)) := by decide +kernel
theorem kf376_29 : yfld gSh 414 376 29 8 = some (.inr (.inl 392)) := by decide +kernel
theorem kf376_30 : yfld gSh 414 376 30 8 = some (.inr (.inl 393)) := by decide +kernel
theorem kf376_31 : yfld gSh 414 376 31 8 = some (.inr (.inl 394)) := by decide +kernel
theorem kf376_32 : yfld gSh 414 376 32 8 = some (.inr (.inl 395)) := by decide +kernel
theorem kf376_33 : yfld gSh 414 376 33 8 = some (.inr (.inl 396)) := by decide +kernel
theorem kf376_34 : yfld gSh 414 376 34 8 = some (.inr (.inl 397)) := by decide +kernel
theorem kf376_35 : yfld gSh 414 376 35 8 = some (.inr (.inl 398)) := by decide +kernel
theorem kf376_36 : yfld gSh 414 376 36 8 = some (.inr (.inl 399)) := by decide +kernel
theorem kf376_37 : yfld gSh 414 376 37 8 = some (.inr (.inl 400)) := by decide +kernel
theorem kf376_38 : yfld gSh 414 376 38 8 = some (.inr (.inl 401)) := by decide +kernel
theorem kf376_39 : yfld gSh 414 376 39 8 = some (.inr (.inl 402)) := by decide +kernel
theorem kf376_40 : yfld gSh 414 376 40 8 = some (.inr (.inl 403)) := by decide +kernel
theorem kf376_41 : yfld gSh 414 376 41 8 = some (.inr (.inl 404)) := by decide +kernel
theorem kf376_42 : yfld gSh 414 376 42 8 = some (.inr (.inl 405)) := by decide +kernel
theorem kf376_43 : yfld gSh 414 376 43 8 = some (.inr (.inl 406)) := by decide +kernel
theorem kf376_44 : yfld gSh 414 376 44 8 = some (.inr (.inl 407)) := by decide +kernel
theorem kf376_45 : yfld gSh 414 376 45 8 = some (.inl 0) := by decide +kernel
theorem kf376_46 : yfld gSh 414 376 46 8 = some (.inl 1) := by decide +kernel
theorem kf376_47 : yfld gSh 414 376 47 8 = some (.inl 0) := by decide +kernel
theorem kf376_48 : yfld gSh 414 376 48 8 = some (.inr (.inl 408)) := by decide +kernel
theorem kf376_49 : yfld gSh 414 376 49 8 = some (.inr (.inl 409)) := by decide +kernel
theorem kf376_50 : yfld gSh 414 376 50 8 = some (.inr (.inl 410)) := by decide +kernel
theorem kf376_51 : yfld gSh 414 376 51 8 = some (.inl 0) := by decide +kernel
theorem kf376_52 : yfld gSh 414 376 52 8 = some (.inr (.inl 411)) := by decide +kernel
theorem kf376_53 : yfld gSh 414 376 53 8 = some (.inr (.inl 412)) := by decide +kernel
theorem kf376_54 : yfld gSh 414 376 54 8 = some (.inl 0) := by decide +kernel
theorem kf376_55 : yfld gSh 414 376 55 8 = some (.inl 0) := by decide +kernel
theorem kf376_56 : yfld gSh 414 376 56 8 = some (.inl 0) := by decide +kernel
theorem ka4 : yarr gSh 414 4 = some (0, 11) := by decide +kernel
theorem ka5 : yarr gSh 414 5 = some (0, 321) := by decide +kernel
theorem ka6 : yarr gSh 414 6 = some (0, 321) := by decide +kernel
theorem ka7 : yarr gSh 414 7 = some (0, 321) := by decide +kernel
theorem ka71 : yarr gSh 414 71 = some (0, 10) := by decide +kernel
theorem ka219 : yarr gSh 414 219 = some (0, 30) := by decide +kernel
theorem ka257 : yarr gSh 414 257 = some (0, 6) := by decide +kernel
theorem ka258 : yarr gSh 414 258 = some (0, 6) := by decide +kernel
theorem ka259 : yarr gSh 414 259 = some (0, 6) := by decide +kernel
theorem ka260 : yarr gSh 414 260 = some (0, 8) := by decide +kernel
theorem ka261 : yarr gSh 414 261 = some (0, 48) := by decide +kernel
theorem ka264 : yarr gSh 414 264 = some (0, 12) := by decide +kernel
theorem ka265 : yarr gSh 414 265 = some (0, 8) := by decide +kernel
theorem ka317 : yarr gSh 414 317 = some (0, 6) := by decide +kernel
theorem ka318 : yarr gSh 414 318 = some (0, 6) := by decide +kernel
theorem ka319 : yarr gSh 414 319 = some (0, 6) := by decide +kernel
theorem ka320 : yarr gSh 414 320 = some (0, 8) := by decide +kernel
theorem ka321 : yarr gSh 414 321 = some (0, 48) := by decide +kernel
theorem ka324 : yarr gSh 414 324 = some (0, 12) := by decide +kernel
theorem ka325 : yarr gSh 414 325 = some (0, 8) := by decide +kernel
theorem ka378 : yarr gSh 414 378 = some (0, 4) := by decide +kernel
theorem ka379 : yarr gSh 414 379 = some (0, 4) := by decide +kernel
theorem ka380 : yarr gSh 414 380 = some (0, 48) := by decide +kernel
theorem ka381 : yarr gSh 414 381 = some (0, 20) := by decide +kernel
theorem ka382 : yarr gSh 414 382 = some (0, 20) := by decide +kernel
theorem ka383 : yarr gSh 414 383 = some (0, 2) := by decide +kernel
theorem ka384 : yarr gSh 414 384 = some (0, 2) := by decide +kernel
theorem ka385 : yarr gSh 414 385 = some (0, 2) := by decide +kernel
theorem ka386 : yarr gSh 414 386 = some (0, 2) := by decide +kernel
theorem ka387 : yarr gSh 414 387 = some (0, 2) := by decide +kernel
theorem ka388 : yarr gSh 414 388 = some (0, 2) := by decide +kernel
theorem ka389 : yarr gSh 414 389 = some (0, 2) := by decide +kernel
theorem ka390 : yarr gSh 414 390 = some (0, 2) := by decide +kernel
theorem ka391 : yarr gSh 414 391 = some (0, 12) := by decide +kernel
theorem ka392 : yarr gSh 414 392 = some (0, 12) := by decide +kernel
theorem ka393 : yarr gSh 414 393 = some (1, 96) := by decide +kernel
theorem ka394 : yarr gSh 414 394 = some (0, 16) := by decide +kernel
theorem ka395 : yarr gSh 414 395 = some (0, 20) := by decide +kernel
theorem ka396 : yarr gSh 414 396 = some (0, 20) := by decide +kernel
theorem ka397 : yarr gSh 414 397 = some (0, 20) := by decide +kernel
theorem ka398 : yarr gSh 414 398 = some (0, 20) := by decide +kernel
theorem ka399 : yarr gSh 414 399 = some (0, 20) := by decide +kernel
theorem ka400 : yarr gSh 414 400 = some (0, 24) := by decide +kernel
theorem ka401 : yarr gSh 414 401 = some (0, 16) := by decide +kernel
theorem ka402 : yarr gSh 414 402 = some (0, 16) := by decide +kernel
theorem ka403 : yarr gSh 414 403 = some (0, 2000) := by decide +kernel
theorem ka404 : yarr gSh 414 404 = some (0, 576) := by decide +kernel
theorem ka405 : yarr gSh 414 405 = some (0, 1152) := by decide +kernel
theorem ka406 : yarr gSh 414 406 = some (0, 120) := by decide +kernel
theorem ka407 : yarr gSh 414 407 = some (0, 10) := by decide +kernel
theorem ka408 : yarr gSh 414 408 = some (1, 576) := by decide +kernel
theorem ka409 : yarr gSh 414 409 = some (0, 30) := by decide +kernel
theorem ka410 : yarr gSh 414 410 = some (0, 240) := by decide +kernel
theorem ka411 : yarr gSh 414 411 = some (0, 192) := by decide +kernel
theorem ka412 : yarr gSh 414 412 = some (0, 4) := by decide +kernel
theorem kr9 : yrow gSh 414 9 = some (48, 10) := by decide +kernel
theorem kr58 : yrow gSh 414 58 = some (12, 59) := by decide +kernel
theorem kr72 : yrow gSh 414 72 = some (96, 73) := by decide +kernel
theorem kr170 : yrow gSh 414 170 = some (48, 171) := by decide +kernel
theorem kr220 : yrow gSh 414 220 = some (30, 221) := by decide +kernel
theorem kr251 : yrow gSh 414 251 = some (4, 252) := by decide +kernel
theorem kr262 : yrow gSh 414 262 = some (10, 266) := by decide +kernel
theorem kr263 : yrow gSh 414 263 = some (40, 276) := by decide +kernel
theorem kr322 : yrow gSh 414 322 = some (10, 326) := by decide +kernel
theorem kr323 : yrow gSh 414 323 = some (40, 336) := by decide +kernel
theorem ko2 : yobj gSh 414 2 = some 1 := by decide +kernel
theorem ko3 : yobj gSh 414 3 = some 0 := by decide +kernel
theorem ko8 : yobj gSh 414 8 = some 2 := by decide +kernel
theorem ko169 : yobj gSh 414 169 = some 3 := by decide +kernel
theorem ko256 : yobj gSh 414 256 = some 6 := by decide +kernel
theorem ko316 : yobj gSh 414 316 = some 6 := by decide +kernel
theorem km0 : gMc 0 = some 1000 := by decide +kernel
theorem km1 : gMc 1 = some 1000 := by decide +kernel
theorem km2 : gMc 2 = some 1000 := by decide +kernel
theorem km3 : gMc 3 = none := by decide +kernel
theorem km4 : gMc 4 = none := by decide +kernel
theorem km5 : gMc 5 = none := by decide +kernel
theorem km6 : gMc 6 = some 1000 := by decide +kernel
theorem km7 : gMc 7 = none := by decide +kernel
theorem km8 : gMc 8 = none := by decide +kernel
theorem km21 : gMc 21 = none := by decide +kernel
theorem km25 : gMc 25 = some 8 := by decide +kernel
theorem km26 : gMc 26 = some 8 := by decide +kernel
theorem km27 : gMc 27 = some 7 := by decide +kernel
theorem km28 : gMc 28 = none := by decide +kernel
theorem km29 : gMc 29 = some 8 := by decide +kernel
theorem km30 : gMc 30 = some 6 := by decide +kernel
theorem km31 : gMc 31 = none := by decide +kernel
theorem km32 : gMc 32 = some 0 := by decide +kernel
theorem km33 : gMc 33 = some 0 := by decide +kernel
theorem km34 : gMc 34 = none := by decide +kernel
theorem km35 : gMc 35 = some 0 := by decide +kernel
theorem km36 : gMc 36 = some 0 := by decide +kernel
theorem km37 : gMc 37 = some 1 := by decide +kernel
theorem km38 : gMc 38 = some 1 := by decide +kernel
theorem km39 : gMc 39 = some 1 := by decide +kernel
theorem km40 : gMc 40 = none := by decide +kernel
theorem km41 : gMc 41 = some 6 := by decide +kernel
theorem km42 : gMc 42 = some 6 := by decide +kernel
theorem km43 : gMc 43 = some 1 := by decide +kernel
theorem km44 : gMc 44 = some 6 := by decide +kernel
theorem km45 : gMc 45 = some 1 := by decide +kernel
theorem km46 : gMc 46 = some 6 := by decide +kernel
theorem km47 : gMc 47 = some 6 := by decide +kernel
theorem km48 : gMc 48 = some 6 := by decide +kernel
theorem km49 : gMc 49 = some 1 := by decide +kernel
theorem km50 : gMc 50 = some 6 := by decide +kernel
theorem km51 : gMc 51 = some 6 := by decide +kernel
theorem km52 : gMc 52 = some 6 := by decide +kernel
theorem km53 : gMc 53 = some 6 := by decide +kernel
theorem km54 : gMc 54 = some 1 := by decide +kernel
theorem km55 : gMc 55 = some 1 := by decide +kernel
theorem km56 : gMc 56 = some 6 := by decide +kernel
theorem km57 : gMc 57 = some 4 := by decide +kernel
theorem km58 : gMc 58 = some 1 := by decide +kernel
theorem km59 : gMc 59 = some 1 := by decide +kernel
theorem km60 : gMc 60 = some 1 := by decide +kernel
theorem km61 : gMc 61 = some 6 := by decide +kernel
theorem km62 : gMc 62 = some 1 := by decide +kernel
theorem km63 : gMc 63 = some 6 := by decide +kernel
theorem km64 : gMc 64 = some 1 := by decide +kernel
theorem km65 : gMc 65 = some 6 := by decide +kernel
theorem km66 : gMc 66 = some 1 := by decide +kernel
theorem km67 : gMc 67 = some 1 := by decide +kernel
theorem km68 : gMc 68 = some 1 := by decide +kernel
theorem km69 : gMc 69 = some 1 := by decide +kernel
theorem km70 : gMc 70 = some 1 := by decide +kernel
theorem km71 : gMc 71 = some 1 := by decide +kernel
theorem km72 : gMc 72 = some 6 := by decide +kernel
theorem km73 : gMc 73 = some 6 := by decide +kernel
theorem km74 : gMc 74 = some 1 := by decide +kernel
theorem km75 : gMc 75 = none := by decide +kernel
theorem km76 : gMc 76 = none := by decide +kernel
theorem km77 : gMc 77 = some 2 := by decide +kernel
theorem km78 : gMc 78 = some 2 := by decide +kernel
theorem km79 : gMc 79 = some 2 := by decide +kernel
theorem km80 : gMc 80 = some 2 := by decide +kernel
theorem km81 : gMc 81 = some 6 := by decide +kernel
theorem km82 : gMc 82 = some 2 := by decide +kernel
theorem km83 : gMc 83 = some 2 := by decide +kernel
theorem km84 : gMc 84 = some 2 := by decide +kernel
theorem km85 : gMc 85 = some 2 := by decide +kernel
theorem km86 : gMc 86 = some 2 := by decide +kernel
theorem km87 : gMc 87 = some 4 := by decide +kernel
theorem km88 : gMc 88 = some 2 := by decide +kernel
theorem km89 : gMc 89 = some 2 := by decide +kernel
theorem km90 : gMc 90 = some 2 := by decide +kernel
theorem km91 : gMc 91 = some 2 := by decide +kernel
theorem km92 : gMc 92 = some 3 := by decide +kernel
theorem km93 : gMc 93 = some 2 := by decide +kernel
theorem km94 : gMc 94 = some 7 := by decide +kernel
theorem km95 : gMc 95 = none := by decide +kernel
theorem km96 : gMc 96 = some 8 := by decide +kernel
theorem km97 : gMc 97 = none := by decide +kernel
theorem km98 : gMc 98 = none := by decide +kernel
theorem km99 : gMc 99 = some 8 := by decide +kernel
theorem km100 : gMc 100 = none := by decide +kernel
theorem km101 : gMc 101 = none := by decide +kernel
theorem km102 : gMc 102 = some 8 := by decide +kernel
theorem km103 : gMc 103 = some 8 := by decide +kernel
theorem km104 : gMc 104 = some 8 := by decide +kernel
theorem km105 : gMc 105 = some 8 := by decide +kernel
theorem km106 : gMc 106 = some 8 := by decide +kernel
theorem km107 : gMc 107 = some 8 := by decide +kernel
theorem km108 : gMc 108 = some 8 := by decide +kernel
theorem km109 : gMc 109 = some 8 := by decide +kernel
theorem km110 : gMc 110 = some 8 := by decide +kernel
theorem km111 : gMc 111 = some 8 := by decide +kernel
theorem km112 : gMc 112 = some 8 := by decide +kernel
theorem km113 : gMc 113 = some 8 := by decide +kernel
theorem km114 : gMc 114 = some 8 := by decide +kernel
theorem km115 : gMc 115 = some 8 := by decide +kernel
theorem km116 : gMc 116 = some 8 := by decide +kernel
theorem km117 : gMc 117 = some 8 := by decide +kernel
theorem km118 : gMc 118 = some 8 := by decide +kernel
theorem km119 : gMc 119 = some 8 := by decide +kernel
theorem km120 : gMc 120 = some 8 := by decide +kernel
theorem km121 : gMc 121 = some 8 := by decide +kernel
theorem km122 : gMc 122 = some 8 := by decide +kernel
theorem km123 : gMc 123 = some 8 := by decide +kernel
theorem km124 : gMc 124 = some 8 := by decide +kernel
theorem km125 : gMc 125 = some 8 := by decide +kernel
theorem km126 : gMc 126 = some 8 := by decide +kernel
theorem km127 : gMc 127 = some 8 := by decide +kernel
theorem km128 : gMc 128 = some 8 := by decide +kernel
theorem km129 : gMc 129 = some 8 := by decide +kernel
theorem km130 : gMc 130 = some 8 := by decide +kernel
theorem km131 : gMc 131 = some 8 := by decide +kernel
theorem km132 : gMc 132 = some 8 := by decide +kernel
theorem km133 : gMc 133 = some 8 := by decide +kernel
theorem km134 : gMc 134 = some 8 := by decide +kernel
theorem km135 : gMc 135 = some 8 := by decide +kernel
theorem km136 : gMc 136 = some 8 := by decide +kernel
theorem km137 : gMc 137 = some 8 := by decide +kernel
theorem km138 : gMc 138 = some 8 := by decide +kernel
theorem km139 : gMc 139 = some 8 := by decide +kernel
theorem km140 : gMc 140 = some 8 := by decide +kernel
theorem km141 : gMc 141 = some 8 := by decide +kernel
theorem km142 : gMc 142 = some 8 := by decide +kernel
theorem km143 : gMc 143 = some 8 := by decide +kernel
theorem km144 : gMc 144 = some 8 := by decide +kernel
theorem km145 : gMc 145 = some 8 := by decide +kernel
theorem km146 : gMc 146 = some 8 := by decide +kernel
theorem km147 : gMc 147 = some 8 := by decide +kernel
theorem km148 : gMc 148 = some 8 := by decide +kernel
theorem km149 : gMc 149 = some 8 := by decide +kernel
theorem km150 : gMc 150 = some 8 := by decide +kernel
theorem km151 : gMc 151 = some 8 := by decide +kernel
theorem km152 : gMc 152 = some 8 := by decide +kernel
theorem km153 : gMc 153 = some 7 := by decide +kernel
theorem km154 : gMc 154 = some 8 := by decide +kernel
theorem km155 : gMc 155 = none := by decide +kernel
theorem km156 : gMc 156 = some 7 := by decide +kernel
theorem km157 : gMc 157 = some 7 := by decide +kernel
theorem km158 : gMc 158 = some 7 := by decide +kernel
theorem km159 : gMc 159 = none := by decide +kernel
theorem km160 : gMc 160 = some 8 := by decide +kernel
theorem km161 : gMc 161 = some 8 := by decide +kernel
theorem km162 : gMc 162 = some 8 := by decide +kernel
theorem km163 : gMc 163 = some 8 := by decide +kernel
theorem km164 : gMc 164 = some 7 := by decide +kernel
theorem km165 : gMc 165 = none := by decide +kernel
theorem km166 : gMc 166 = some 8 := by decide +kernel
theorem km167 : gMc 167 = some 7 := by decide +kernel
theorem km168 : gMc 168 = some 7 := by decide +kernel
theorem km169 : gMc 169 = none := by decide +kernel
theorem km170 : gMc 170 = some 8 := by decide +kernel
theorem km171 : gMc 171 = some 8 := by decide +kernel
theorem km172 : gMc 172 = some 7 := by decide +kernel
theorem km173 : gMc 173 = none := by decide +kernel
theorem km174 : gMc 174 = some 8 := by decide +kernel
theorem km175 : gMc 175 = some 2 := by decide +kernel
theorem km176 : gMc 176 = some 7 := by decide +kernel
theorem km177 : gMc 177 = none := by decide +kernel
theorem km178 : gMc 178 = some 8 := by decide +kernel
theorem km179 : gMc 179 = some 2 := by decide +kernel
theorem km180 : gMc 180 = some 7 := by decide +kernel
theorem km181 : gMc 181 = none := by decide +kernel
theorem km182 : gMc 182 = some 8 := by decide +kernel
theorem km183 : gMc 183 = some 7 := by decide +kernel
theorem km184 : gMc 184 = none := by decide +kernel
theorem km185 : gMc 185 = some 8 := by decide +kernel
theorem km186 : gMc 186 = some 3 := by decide +kernel
theorem km187 : gMc 187 = some 3 := by decide +kernel
theorem km188 : gMc 188 = some 3 := by decide +kernel
theorem km189 : gMc 189 = some 3 := by decide +kernel
theorem km190 : gMc 190 = some 3 := by decide +kernel
theorem km191 : gMc 191 = some 3 := by decide +kernel
theorem km192 : gMc 192 = some 3 := by decide +kernel
theorem km193 : gMc 193 = some 3 := by decide +kernel
theorem km194 : gMc 194 = some 3 := by decide +kernel
theorem km195 : gMc 195 = some 3 := by decide +kernel
theorem km196 : gMc 196 = some 3 := by decide +kernel
theorem km197 : gMc 197 = some 3 := by decide +kernel
theorem km198 : gMc 198 = some 3 := by decide +kernel
theorem km199 : gMc 199 = some 7 := by decide +kernel
theorem km200 : gMc 200 = none := by decide +kernel
theorem km201 : gMc 201 = some 8 := by decide +kernel
theorem km202 : gMc 202 = some 8 := by decide +kernel
theorem km203 : gMc 203 = some 8 := by decide +kernel
theorem km204 : gMc 204 = some 8 := by decide +kernel
theorem km205 : gMc 205 = some 8 := by decide +kernel
theorem km206 : gMc 206 = some 8 := by decide +kernel
theorem km207 : gMc 207 = some 8 := by decide +kernel
theorem km208 : gMc 208 = some 8 := by decide +kernel
theorem km209 : gMc 209 = some 8 := by decide +kernel
theorem km210 : gMc 210 = some 8 := by decide +kernel
theorem km211 : gMc 211 = some 8 := by decide +kernel
theorem km212 : gMc 212 = some 7 := by decide +kernel
theorem km213 : gMc 213 = none := by decide +kernel
theorem km214 : gMc 214 = some 8 := by decide +kernel
theorem km215 : gMc 215 = some 7 := by decide +kernel
theorem km216 : gMc 216 = none := by decide +kernel
theorem km217 : gMc 217 = some 8 := by decide +kernel
theorem kn0 : gMx 0 = 1 := by decide +kernel
theorem kn1 : gMx 1 = 1 := by decide +kernel
theorem kn2 : gMx 2 = 1 := by decide +kernel
theorem kn3 : gMx 3 = 3 := by decide +kernel
theorem kn4 : gMx 4 = 2 := by decide +kernel
theorem kn5 : gMx 5 = 2 := by decide +kernel
theorem kn6 : gMx 6 = 2 := by decide +kernel
theorem kn7 : gMx 7 = 2 := by decide +kernel
theorem kn8 : gMx 8 = 3 := by decide +kernel
theorem kn26 : gMx 26 = 1 := by decide +kernel
theorem kn27 : gMx 27 = 2 := by decide +kernel
theorem kn28 : gMx 28 = 4 := by decide +kernel
theorem kn29 : gMx 29 = 2 := by decide +kernel
theorem kn30 : gMx 30 = 1 := by decide +kernel
theorem kn31 : gMx 31 = 1 := by decide +kernel
theorem kn32 : gMx 32 = 3 := by decide +kernel
theorem kn33 : gMx 33 = 5 := by decide +kernel
theorem kn34 : gMx 34 = 1 := by decide +kernel
theorem kn35 : gMx 35 = 3 := by decide +kernel
theorem kn36 : gMx 36 = 7 := by decide +kernel
theorem kn37 : gMx 37 = 2 := by decide +kernel
theorem kn38 : gMx 38 = 1 := by decide +kernel
theorem kn39 : gMx 39 = 1 := by decide +kernel
theorem kn40 : gMx 40 = 4 := by decide +kernel
theorem kn41 : gMx 41 = 2 := by decide +kernel
theorem kn42 : gMx 42 = 2 := by decide +kernel
theorem kn43 : gMx 43 = 1 := by decide +kernel
theorem kn44 : gMx 44 = 4 := by decide +kernel
theorem kn45 : gMx 45 = 1 := by decide +kernel
theorem kn46 : gMx 46 = 2 := by decide +kernel
theorem kn47 : gMx 47 = 3 := by decide +kernel
theorem kn48 : gMx 48 = 4 := by decide +kernel
theorem kn49 : gMx 49 = 1 := by decide +kernel
theorem kn50 : gMx 50 = 4 := by decide +kernel
theorem kn51 : gMx 51 = 4 := by decide +kernel
theorem kn52 : gMx 52 = 3 := by decide +kernel
theorem kn53 : gMx 53 = 3 := by decide +kernel
theorem kn54 : gMx 54 = 1 := by decide +kernel
theorem kn55 : gMx 55 = 1 := by decide +kernel
theorem kn56 : gMx 56 = 2 := by decide +kernel
theorem kn57 : gMx 57 = 1 := by decide +kernel
theorem kn58 : gMx 58 = 2 := by decide +kernel
theorem kn59 : gMx 59 = 3 := by decide +kernel
theorem kn60 : gMx 60 = 2 := by decide +kernel
theorem kn61 : gMx 61 = 2 := by decide +kernel
theorem kn62 : gMx 62 = 3 := by decide +kernel
theorem kn63 : gMx 63 = 2 := by decide +kernel
theorem kn64 : gMx 64 = 2 := by decide +kernel
theorem kn65 : gMx 65 = 2 := by decide +kernel
theorem kn66 : gMx 66 = 2 := by decide +kernel
theorem kn67 : gMx 67 = 2 := by decide +kernel
theorem kn68 : gMx 68 = 5 := by decide +kernel
theorem kn69 : gMx 69 = 5 := by decide +kernel
theorem kn70 : gMx 70 = 3 := by decide +kernel
theorem kn71 : gMx 71 = 1 := by decide +kernel
theorem kn72 : gMx 72 = 7 := by decide +kernel
theorem kn73 : gMx 73 = 3 := by decide +kernel
theorem kn74 : gMx 74 = 6 := by decide +kernel
theorem kn75 : gMx 75 = 4 := by decide +kernel
theorem kn76 : gMx 76 = 2 := by decide +kernel
theorem kn77 : gMx 77 = 1 := by decide +kernel
theorem kn78 : gMx 78 = 2 := by decide +kernel
theorem kn79 : gMx 79 = 3 := by decide +kernel
theorem kn80 : gMx 80 = 4 := by decide +kernel
theorem kn81 : gMx 81 = 5 := by decide +kernel
theorem kn82 : gMx 82 = 3 := by decide +kernel
theorem kn83 : gMx 83 = 3 := by decide +kernel
theorem kn84 : gMx 84 = 3 := by decide +kernel
theorem kn85 : gMx 85 = 3 := by decide +kernel
theorem kn86 : gMx 86 = 4 := by decide +kernel
theorem kn87 : gMx 87 = 2 := by decide +kernel
theorem kn88 : gMx 88 = 3 := by decide +kernel
theorem kn89 : gMx 89 = 3 := by decide +kernel
theorem kn90 : gMx 90 = 2 := by decide +kernel
theorem kn91 : gMx 91 = 4 := by decide +kernel
theorem kn92 : gMx 92 = 2 := by decide +kernel
theorem kn93 : gMx 93 = 4 := by decide +kernel
theorem kn94 : gMx 94 = 2 := by decide +kernel
theorem kn95 : gMx 95 = 3 := by decide +kernel
theorem kn96 : gMx 96 = 1 := by decide +kernel
theorem kn97 : gMx 97 = 1 := by decide +kernel
theorem kn98 : gMx 98 = 1 := by decide +kernel
theorem kn99 : gMx 99 = 4 := by decide +kernel
theorem kn100 : gMx 100 = 2 := by decide +kernel
theorem kn101 : gMx 101 = 6 := by decide +kernel
theorem kn102 : gMx 102 = 2 := by decide +kernel
theorem kn103 : gMx 103 = 1 := by decide +kernel
theorem kn104 : gMx 104 = 1 := by decide +kernel
theorem kn105 : gMx 105 = 2 := by decide +kernel
theorem kn106 : gMx 106 = 1 := by decide +kernel
theorem kn107 : gMx 107 = 1 := by decide +kernel
theorem kn108 : gMx 108 = 1 := by decide +kernel
theorem kn109 : gMx 109 = 1 := by decide +kernel
theorem kn110 : gMx 110 = 1 := by decide +kernel
theorem kn111 : gMx 111 = 1 := by decide +kernel
theorem kn112 : gMx 112 = 1 := by decide +kernel
theorem kn113 : gMx 113 = 1 := by decide +kernel
theorem kn114 : gMx 114 = 1 := by decide +kernel
theorem kn115 : gMx 115 = 1 := by decide +kernel
theorem kn116 : gMx 116 = 4 := by decide +kernel
theorem kn117 : gMx 117 = 2 := by decide +kernel
theorem kn118 : gMx 118 = 2 := by decide +kernel
theorem kn119 : gMx 119 = 6 := by decide +kernel
theorem kn120 : gMx 120 = 4 := by decide +kernel
theorem kn121 : gMx 121 = 5 := by decide +kernel
theorem kn122 : gMx 122 = 6 := by decide +kernel
theorem kn123 : gMx 123 = 7 := by decide +kernel
theorem kn124 : gMx 124 = 3 := by decide +kernel
theorem kn125 : gMx 125 = 7 := by decide +kernel
theorem kn126 : gMx 126 = 7 := by decide +kernel
theorem kn127 : gMx 127 = 7 := by decide +kernel
theorem kn128 : gMx 128 = 2 := by decide +kernel
theorem kn129 : gMx 129 = 3 := by decide +kernel
theorem kn130 : gMx 130 = 4 := by decide +kernel
theorem kn131 : gMx 131 = 3 := by decide +kernel
theorem kn132 : gMx 132 = 11 := by decide +kernel
theorem kn133 : gMx 133 = 5 := by decide +kernel
theorem kn134 : gMx 134 = 2 := by decide +kernel
theorem kn135 : gMx 135 = 4 := by decide +kernel
theorem kn136 : gMx 136 = 5 := by decide +kernel
theorem kn137 : gMx 137 = 5 := by decide +kernel
theorem kn138 : gMx 138 = 3 := by decide +kernel
theorem kn139 : gMx 139 = 2 := by decide +kernel
theorem kn140 : gMx 140 = 1 := by decide +kernel
theorem kn141 : gMx 141 = 4 := by decide +kernel
theorem kn142 : gMx 142 = 6 := by decide +kernel
theorem kn143 : gMx 143 = 1 := by decide +kernel
theorem kn144 : gMx 144 = 2 := by decide +kernel
theorem kn145 : gMx 145 = 3 := by decide +kernel
theorem kn146 : gMx 146 = 4 := by decide +kernel
theorem kn147 : gMx 147 = 8 := by decide +kernel
theorem kn148 : gMx 148 = 8 := by decide +kernel
theorem kn149 : gMx 149 = 5 := by decide +kernel
theorem kn150 : gMx 150 = 6 := by decide +kernel
theorem kn151 : gMx 151 = 4 := by decide +kernel
theorem kn152 : gMx 152 = 4 := by decide +kernel
theorem kn153 : gMx 153 = 1 := by decide +kernel
theorem kn154 : gMx 154 = 1 := by decide +kernel
theorem kn155 : gMx 155 = 2 := by decide +kernel
theorem kn156 : gMx 156 = 2 := by decide +kernel
theorem kn157 : gMx 157 = 2 := by decide +kernel
theorem kn158 : gMx 158 = 3 := by decide +kernel
theorem kn159 : gMx 159 = 5 := by decide +kernel
theorem kn160 : gMx 160 = 2 := by decide +kernel
theorem kn161 : gMx 161 = 2 := by decide +kernel
theorem kn162 : gMx 162 = 2 := by decide +kernel
theorem kn163 : gMx 163 = 3 := by decide +kernel
theorem kn164 : gMx 164 = 4 := by decide +kernel
theorem kn165 : gMx 165 = 6 := by decide +kernel
theorem kn166 : gMx 166 = 4 := by decide +kernel
theorem kn167 : gMx 167 = 2 := by decide +kernel
theorem kn168 : gMx 168 = 3 := by decide +kernel
theorem kn169 : gMx 169 = 5 := by decide +kernel
theorem kn170 : gMx 170 = 2 := by decide +kernel
theorem kn171 : gMx 171 = 3 := by decide +kernel
theorem kn172 : gMx 172 = 2 := by decide +kernel
theorem kn173 : gMx 173 = 4 := by decide +kernel
theorem kn174 : gMx 174 = 2 := by decide +kernel
theorem kn175 : gMx 175 = 3 := by decide +kernel
theorem kn176 : gMx 176 = 2 := by decide +kernel
theorem kn177 : gMx 177 = 4 := by decide +kernel
theorem kn178 : gMx 178 = 4 := by decide +kernel
theorem kn179 : gMx 179 = 4 := by decide +kernel
theorem kn180 : gMx 180 = 3 := by decide +kernel
theorem kn181 : gMx 181 = 5 := by decide +kernel
theorem kn182 : gMx 182 = 4 := by decide +kernel
theorem kn183 : gMx 183 = 4 := by decide +kernel
theorem kn184 : gMx 184 = 5 := by decide +kernel
theorem kn185 : gMx 185 = 4 := by decide +kernel
theorem kn186 : gMx 186 = 3 := by decide +kernel
theorem kn187 : gMx 187 = 2 := by decide +kernel
theorem kn188 : gMx 188 = 4 := by decide +kernel
theorem kn189 : gMx 189 = 1 := by decide +kernel
theorem kn190 : gMx 190 = 5 := by decide +kernel
theorem kn191 : gMx 191 = 2 := by decide +kernel
theorem kn192 : gMx 192 = 3 := by decide +kernel
theorem kn193 : gMx 193 = 8 := by decide +kernel
theorem kn194 : gMx 194 = 3 := by decide +kernel
theorem kn195 : gMx 195 = 3 := by decide +kernel
theorem kn196 : gMx 196 = 5 := by decide +kernel
theorem kn197 : gMx 197 = 6 := by decide +kernel
theorem kn198 : gMx 198 = 4 := by decide +kernel
theorem kn199 : gMx 199 = 1 := by decide +kernel
theorem kn200 : gMx 200 = 3 := by decide +kernel
theorem kn201 : gMx 201 = 3 := by decide +kernel
theorem kn202 : gMx 202 = 3 := by decide +kernel
theorem kn203 : gMx 203 = 7 := by decide +kernel
theorem kn204 : gMx 204 = 4 := by decide +kernel
theorem kn205 : gMx 205 = 2 := by decide +kernel
theorem kn206 : gMx 206 = 2 := by decide +kernel
theorem kn207 : gMx 207 = 7 := by decide +kernel
theorem kn208 : gMx 208 = 5 := by decide +kernel
theorem kn209 : gMx 209 = 6 := by decide +kernel
theorem kn210 : gMx 210 = 3 := by decide +kernel
theorem kn211 : gMx 211 = 2 := by decide +kernel
theorem kn212 : gMx 212 = 3 := by decide +kernel
theorem kn213 : gMx 213 = 5 := by decide +kernel
theorem kn214 : gMx 214 = 3 := by decide +kernel
theorem kn215 : gMx 215 = 2 := by decide +kernel
theorem kn216 : gMx 216 = 4 := by decide +kernel
theorem kn217 : gMx 217 = 2 := by decide +kernel

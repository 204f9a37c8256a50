/-! ROWS OF THE CODE, places of the cells: printed by wip/whole/gen78.py; the kernel looks each up -/
theorem c18_0 : gP 18 0 = some (.lload 0, 1, 0, 0) := by decide +kernel
theorem c18_1 : gP 18 1 = some (.iconst 8, 2, 0, 0) := by decide +kernel
theorem c18_3 : gP 18 3 = some (.iload 2, 1, 0, 0) := by decide +kernel
theorem c18_4 : gP 18 4 = some (.imul, 1, 0, 0) := by decide +kernel
theorem c18_5 : gP 18 5 = some (.lushr, 1, 0, 0) := by decide +kernel
theorem c18_6 : gP 18 6 = some (.l2i, 1, 0, 0) := by decide +kernel
theorem c18_7 : gP 18 7 = some (.iconst 255, 3, 0, 0) := by decide +kernel
theorem c18_10 : gP 18 10 = some (.iand, 1, 0, 0) := by decide +kernel
theorem c18_11 : gP 18 11 = some (.ireturn, 1, 0, 0) := by decide +kernel
theorem c19_0 : gP 19 0 = some (.iconst 0, 1, 0, 0) := by decide +kernel
theorem c19_1 : gP 19 1 = some (.istore 3, 1, 0, 0) := by decide +kernel
theorem c19_2 : gP 19 2 = some (.iload 3, 1, 0, 0) := by decide +kernel
theorem c19_3 : gP 19 3 = some (.iload 2, 1, 0, 0) := by decide +kernel
theorem c19_4 : gP 19 4 = some (.if_icmp .ge 36, 3, 0, 0) := by decide +kernel
theorem c19_7 : gP 19 7 = some (.lload 0, 1, 0, 0) := by decide +kernel
theorem c19_8 : gP 19 8 = some (.iload 3, 1, 0, 0) := by decide +kernel
theorem c19_9 : gP 19 9 = some (.invokeinterface 18 61, 3, 2, 0) := by decide +kernel
theorem c19_12 : gP 19 12 = some (.istore 4, 2, 0, 0) := by decide +kernel
theorem c19_14 : gP 19 14 = some (.iload 4, 2, 0, 0) := by decide +kernel
theorem c19_16 : gP 19 16 = some (.iconst 32, 2, 0, 0) := by decide +kernel
theorem c19_18 : gP 19 18 = some (.if_icmp .lt 28, 3, 0, 0) := by decide +kernel
theorem c19_21 : gP 19 21 = some (.iload 4, 2, 0, 0) := by decide +kernel
theorem c19_23 : gP 19 23 = some (.iconst 126, 2, 0, 0) := by decide +kernel
theorem c19_25 : gP 19 25 = some (.if_icmp .le 30, 3, 0, 0) := by decide +kernel
theorem c19_28 : gP 19 28 = some (.iconst 0, 1, 0, 0) := by decide +kernel
theorem c19_29 : gP 19 29 = some (.ireturn, 1, 1, 0) := by decide +kernel
theorem c19_30 : gP 19 30 = some (.iinc 3 1, 3, 0, 0) := by decide +kernel
theorem c19_33 : gP 19 33 = some (.goto 2, 3, 0, 0) := by decide +kernel
theorem c19_36 : gP 19 36 = some (.iconst 1, 1, 0, 0) := by decide +kernel
theorem c19_37 : gP 19 37 = some (.ireturn, 1, 1, 0) := by decide +kernel
theorem c20_0 : gP 20 0 = some (.iload 3, 1, 0, 0) := by decide +kernel
theorem c20_1 : gP 20 1 = some (.iconst 1, 1, 0, 0) := by decide +kernel
theorem c20_2 : gP 20 2 = some (.if_icmp .lt 19, 3, 0, 0) := by decide +kernel
theorem c20_5 : gP 20 5 = some (.iload 3, 1, 0, 0) := by decide +kernel
theorem c20_6 : gP 20 6 = some (.iconst 8, 2, 0, 0) := by decide +kernel
theorem c20_8 : gP 20 8 = some (.if_icmp .gt 19, 3, 0, 0) := by decide +kernel
theorem c20_11 : gP 20 11 = some (.lload 1, 1, 0, 0) := by decide +kernel
theorem c20_12 : gP 20 12 = some (.iload 3, 1, 0, 0) := by decide +kernel
theorem c20_13 : gP 20 13 = some (.invokeinterface 19 48, 3, 2, 0) := by decide +kernel
theorem c20_16 : gP 20 16 = some (.ifCond .ne 27, 3, 0, 0) := by decide +kernel
theorem c20_19 : gP 20 19 = some (.athrow, 54, 9, 52) := by decide +kernel
theorem c20_27 : gP 20 27 = some (.aload 0, 1, 0, 0) := by decide +kernel
theorem c20_28 : gP 20 28 = some (.getfield 6, 3, 7, 55) := by decide +kernel
theorem c20_31 : gP 20 31 = some (.iload 3, 1, 0, 0) := by decide +kernel
theorem c20_32 : gP 20 32 = some (.iadd, 1, 0, 0) := by decide +kernel
theorem c20_33 : gP 20 33 = some (.iconst 320, 3, 0, 0) := by decide +kernel
theorem c20_36 : gP 20 36 = some (.if_icmp .le 47, 3, 0, 0) := by decide +kernel
theorem c20_39 : gP 20 39 = some (.athrow, 60, 10, 58) := by decide +kernel
theorem c20_47 : gP 20 47 = some (.iconst 1, 1, 0, 0) := by decide +kernel
theorem c20_48 : gP 20 48 = some (.istore 4, 2, 0, 0) := by decide +kernel
theorem c20_50 : gP 20 50 = some (.iload 4, 2, 0, 0) := by decide +kernel
theorem c20_52 : gP 20 52 = some (.iload 3, 1, 0, 0) := by decide +kernel
theorem c20_53 : gP 20 53 = some (.if_icmp .gt 90, 3, 0, 0) := by decide +kernel
theorem c20_56 : gP 20 56 = some (.aload 0, 1, 0, 0) := by decide +kernel
theorem c20_57 : gP 20 57 = some (.getfield 0, 3, 7, 9) := by decide +kernel
theorem c20_60 : gP 20 60 = some (.aload 0, 1, 0, 0) := by decide +kernel
theorem c20_61 : gP 20 61 = some (.getfield 6, 3, 7, 55) := by decide +kernel
theorem c20_64 : gP 20 64 = some (.lload 1, 1, 0, 0) := by decide +kernel
theorem c20_65 : gP 20 65 = some (.iload 3, 1, 0, 0) := by decide +kernel
theorem c20_66 : gP 20 66 = some (.iload 4, 2, 0, 0) := by decide +kernel
theorem c20_68 : gP 20 68 = some (.isub, 1, 0, 0) := by decide +kernel
theorem c20_69 : gP 20 69 = some (.invokeinterface 18 61, 3, 2, 0) := by decide +kernel
theorem c20_72 : gP 20 72 = some (.i2c, 1, 0, 0) := by decide +kernel
theorem c20_73 : gP 20 73 = some (.iastore, 1, 3, 0) := by decide +kernel
theorem c20_74 : gP 20 74 = some (.aload 0, 1, 0, 0) := by decide +kernel
theorem c20_75 : gP 20 75 = some (.dup, 1, 0, 0) := by decide +kernel
theorem c20_76 : gP 20 76 = some (.getfield 6, 3, 7, 55) := by decide +kernel
theorem c20_79 : gP 20 79 = some (.iconst 1, 1, 0, 0) := by decide +kernel
theorem c20_80 : gP 20 80 = some (.iadd, 1, 0, 0) := by decide +kernel
theorem c20_81 : gP 20 81 = some (.putfield 6, 3, 7, 0) := by decide +kernel
theorem c20_84 : gP 20 84 = some (.iinc 4 1, 3, 0, 0) := by decide +kernel
theorem c20_87 : gP 20 87 = some (.goto 50, 3, 0, 0) := by decide +kernel
theorem c20_90 : gP 20 90 = some (.aload 0, 1, 0, 0) := by decide +kernel
theorem c20_91 : gP 20 91 = some (.getfield 6, 3, 7, 55) := by decide +kernel
theorem c20_94 : gP 20 94 = some (.ireturn, 1, 0, 0) := by decide +kernel
theorem c21_0 : gP 21 0 = some (.aload 4, 2, 0, 0) := by decide +kernel
theorem c21_2 : gP 21 2 = some (.iconst 0, 1, 0, 0) := by decide +kernel
theorem c21_3 : gP 21 3 = some (.aload 0, 1, 0, 0) := by decide +kernel
theorem c21_4 : gP 21 4 = some (.lload 1, 1, 0, 0) := by decide +kernel
theorem c21_5 : gP 21 5 = some (.iload 3, 1, 0, 0) := by decide +kernel
theorem c21_6 : gP 21 6 = some (.invokeinterface 20 7, 3, 3, 1) := by decide +kernel
theorem c21_9 : gP 21 9 = some (.i2l, 1, 0, 0) := by decide +kernel
theorem c21_10 : gP 21 10 = some (.lastore, 1, 0, 0) := by decide +kernel
theorem c21_11 : gP 21 11 = some (.goto 22, 3, 0, 0) := by decide +kernel
theorem c21_14 : gP 21 14 = some (.astore 5, 2, 0, 0) := by decide +kernel
theorem c21_16 : gP 21 16 = some (.iconst 1, 1, 0, 0) := by decide +kernel
theorem c21_17 : gP 21 17 = some (.ireturn, 1, 0, 0) := by decide +kernel
theorem c21_18 : gP 21 18 = some (.astore 5, 2, 0, 0) := by decide +kernel
theorem c21_20 : gP 21 20 = some (.iconst 2, 1, 0, 0) := by decide +kernel
theorem c21_21 : gP 21 21 = some (.ireturn, 1, 0, 0) := by decide +kernel
theorem c21_22 : gP 21 22 = some (.iconst 0, 1, 0, 0) := by decide +kernel
theorem c21_23 : gP 21 23 = some (.ireturn, 1, 0, 0) := by decide +kernel
theorem c22_0 : gP 22 0 = some (.iload 0, 1, 0, 0) := by decide +kernel
theorem c22_1 : gP 22 1 = some (.iload 1, 1, 0, 0) := by decide +kernel
theorem c22_2 : gP 22 2 = some (.if_icmp .lt 14, 3, 0, 0) := by decide +kernel
theorem c22_5 : gP 22 5 = some (.iload 0, 1, 0, 0) := by decide +kernel
theorem c22_6 : gP 22 6 = some (.iload 2, 1, 0, 0) := by decide +kernel
theorem c22_7 : gP 22 7 = some (.if_icmp .gt 14, 3, 0, 0) := by decide +kernel
theorem c22_10 : gP 22 10 = some (.iconst 1, 1, 0, 0) := by decide +kernel
theorem c22_11 : gP 22 11 = some (.goto 15, 3, 0, 0) := by decide +kernel
theorem c22_14 : gP 22 14 = some (.iconst 0, 1, 0, 0) := by decide +kernel
theorem c22_15 : gP 22 15 = some (.ireturn, 1, 1, 0) := by decide +kernel
theorem c23_0 : gP 23 0 = some (.aload 0, 1, 0, 0) := by decide +kernel
theorem c23_1 : gP 23 1 = some (.iload 1, 1, 0, 0) := by decide +kernel
theorem c23_2 : gP 23 2 = some (.ifCond .eq 9, 3, 0, 0) := by decide +kernel
theorem c23_5 : gP 23 5 = some (.iconst 0, 1, 0, 0) := by decide +kernel
theorem c23_6 : gP 23 6 = some (.goto 10, 3, 0, 0) := by decide +kernel
theorem c23_9 : gP 23 9 = some (.iload 2, 1, 0, 0) := by decide +kernel
theorem c23_10 : gP 23 10 = some (.putfield 57, 3, 8, 0) := by decide +kernel
theorem c23_13 : gP 23 13 = some (.iload 1, 1, 0, 0) := by decide +kernel
theorem c23_14 : gP 23 14 = some (.ireturn, 1, 1, 0) := by decide +kernel
theorem c24_0 : gP 24 0 = some (.aload 0, 1, 0, 0) := by decide +kernel
theorem c24_1 : gP 24 1 = some (.iload 1, 1, 0, 0) := by decide +kernel
theorem c24_2 : gP 24 2 = some (.putfield 57, 3, 8, 0) := by decide +kernel
theorem c24_5 : gP 24 5 = some (.iconst 0, 1, 0, 0) := by decide +kernel
theorem c24_6 : gP 24 6 = some (.ireturn, 1, 0, 0) := by decide +kernel
theorem c25_0 : gP 25 0 = some (.aload 0, 1, 0, 0) := by decide +kernel
theorem c25_1 : gP 25 1 = some (.iload 3, 1, 0, 0) := by decide +kernel
theorem c25_2 : gP 25 2 = some (.iconst 1, 1, 0, 0) := by decide +kernel
theorem c25_3 : gP 25 3 = some (.iconst 8, 2, 0, 0) := by decide +kernel
theorem c25_5 : gP 25 5 = some (.invokeinterface 22 126, 3, 3, 0) := by decide +kernel
theorem c25_8 : gP 25 8 = some (.iconst 1, 1, 0, 0) := by decide +kernel
theorem c25_9 : gP 25 9 = some (.invokeinterface 23 130, 3, 3, 1) := by decide +kernel
theorem c25_12 : gP 25 12 = some (.ifCond .ne 17, 3, 0, 0) := by decide +kernel
theorem c25_15 : gP 25 15 = some (.iconst 0, 1, 0, 0) := by decide +kernel
theorem c25_16 : gP 25 16 = some (.ireturn, 1, 0, 0) := by decide +kernel
theorem c25_17 : gP 25 17 = some (.iconst 0, 1, 0, 0) := by decide +kernel
theorem c25_18 : gP 25 18 = some (.istore 4, 2, 0, 0) := by decide +kernel
theorem c25_20 : gP 25 20 = some (.iload 4, 2, 0, 0) := by decide +kernel
theorem c25_22 : gP 25 22 = some (.iload 3, 1, 0, 0) := by decide +kernel
theorem c25_23 : gP 25 23 = some (.if_icmp .ge 60, 3, 0, 0) := by decide +kernel
theorem c25_26 : gP 25 26 = some (.lload 1, 1, 0, 0) := by decide +kernel
theorem c25_27 : gP 25 27 = some (.iconst 8, 2, 0, 0) := by decide +kernel
theorem c25_29 : gP 25 29 = some (.iload 4, 2, 0, 0) := by decide +kernel
theorem c25_31 : gP 25 31 = some (.imul, 1, 0, 0) := by decide +kernel
theorem c25_32 : gP 25 32 = some (.lshr, 1, 0, 0) := by decide +kernel
theorem c25_33 : gP 25 33 = some (.l2i, 1, 0, 0) := by decide +kernel
theorem c25_34 : gP 25 34 = some (.iconst 255, 3, 0, 0) := by decide +kernel
theorem c25_37 : gP 25 37 = some (.iand, 1, 0, 0) := by decide +kernel
theorem c25_38 : gP 25 38 = some (.iconst 32, 2, 0, 0) := by decide +kernel
theorem c25_40 : gP 25 40 = some (.iconst 126, 2, 0, 0) := by decide +kernel
theorem c25_42 : gP 25 42 = some (.invokeinterface 22 126, 3, 3, 0) := by decide +kernel
theorem c25_45 : gP 25 45 = some (.ifCond .ne 54, 3, 0, 0) := by decide +kernel
theorem c25_48 : gP 25 48 = some (.aload 0, 1, 0, 0) := by decide +kernel
theorem c25_49 : gP 25 49 = some (.iconst 1, 1, 0, 0) := by decide +kernel
theorem c25_50 : gP 25 50 = some (.invokeinterface 24 134, 3, 2, 1) := by decide +kernel
theorem c25_53 : gP 25 53 = some (.ireturn, 1, 0, 0) := by decide +kernel
theorem c25_54 : gP 25 54 = some (.iinc 4 1, 3, 0, 0) := by decide +kernel
theorem c25_57 : gP 25 57 = some (.goto 20, 3, 0, 0) := by decide +kernel
theorem c25_60 : gP 25 60 = some (.aload 0, 1, 0, 0) := by decide +kernel
theorem c25_61 : gP 25 61 = some (.aload 0, 1, 0, 0) := by decide +kernel
theorem c25_62 : gP 25 62 = some (.getfield 1, 3, 8, 138) := by decide +kernel
theorem c25_65 : gP 25 65 = some (.iload 3, 1, 0, 0) := by decide +kernel
theorem c25_66 : gP 25 66 = some (.iadd, 1, 0, 0) := by decide +kernel
theorem c25_67 : gP 25 67 = some (.iconst 320, 3, 0, 0) := by decide +kernel
theorem c25_70 : gP 25 70 = some (.if_icmp .gt 77, 3, 0, 0) := by decide +kernel
theorem c25_73 : gP 25 73 = some (.iconst 1, 1, 0, 0) := by decide +kernel
theorem c25_74 : gP 25 74 = some (.goto 78, 3, 0, 0) := by decide +kernel
theorem c25_77 : gP 25 77 = some (.iconst 0, 1, 0, 0) := by decide +kernel
theorem c25_78 : gP 25 78 = some (.iconst 2, 1, 0, 0) := by decide +kernel
theorem c25_79 : gP 25 79 = some (.invokeinterface 23 130, 3, 3, 1) := by decide +kernel
theorem c25_82 : gP 25 82 = some (.ifCond .ne 87, 3, 0, 0) := by decide +kernel
theorem c25_85 : gP 25 85 = some (.iconst 0, 1, 0, 0) := by decide +kernel
theorem c25_86 : gP 25 86 = some (.ireturn, 1, 0, 0) := by decide +kernel
theorem c25_87 : gP 25 87 = some (.iload 3, 1, 0, 0) := by decide +kernel
theorem c25_88 : gP 25 88 = some (.iconst 1, 1, 0, 0) := by decide +kernel
theorem c25_89 : gP 25 89 = some (.isub, 1, 0, 0) := by decide +kernel
theorem c25_90 : gP 25 90 = some (.istore 4, 2, 0, 0) := by decide +kernel
theorem c25_92 : gP 25 92 = some (.iload 4, 2, 0, 0) := by decide +kernel
theorem c25_94 : gP 25 94 = some (.ifCond .lt 134, 3, 0, 0) := by decide +kernel
theorem c25_97 : gP 25 97 = some (.aload 0, 1, 0, 0) := by decide +kernel
theorem c25_98 : gP 25 98 = some (.getfield 0, 3, 8, 7) := by decide +kernel
theorem c25_101 : gP 25 101 = some (.aload 0, 1, 0, 0) := by decide +kernel
theorem c25_102 : gP 25 102 = some (.getfield 1, 3, 8, 138) := by decide +kernel
theorem c25_105 : gP 25 105 = some (.lload 1, 1, 0, 0) := by decide +kernel
theorem c25_106 : gP 25 106 = some (.iconst 8, 2, 0, 0) := by decide +kernel
theorem c25_108 : gP 25 108 = some (.iload 4, 2, 0, 0) := by decide +kernel
theorem c25_110 : gP 25 110 = some (.imul, 1, 0, 0) := by decide +kernel
theorem c25_111 : gP 25 111 = some (.lshr, 1, 0, 0) := by decide +kernel
theorem c25_112 : gP 25 112 = some (.l2i, 1, 0, 0) := by decide +kernel
theorem c25_113 : gP 25 113 = some (.iconst 255, 3, 0, 0) := by decide +kernel
theorem c25_116 : gP 25 116 = some (.iand, 1, 0, 0) := by decide +kernel
theorem c25_117 : gP 25 117 = some (.iastore, 1, 0, 0) := by decide +kernel
theorem c25_118 : gP 25 118 = some (.aload 0, 1, 0, 0) := by decide +kernel
theorem c25_119 : gP 25 119 = some (.dup, 1, 0, 0) := by decide +kernel
theorem c25_120 : gP 25 120 = some (.getfield 1, 3, 8, 138) := by decide +kernel
theorem c25_123 : gP 25 123 = some (.iconst 1, 1, 0, 0) := by decide +kernel
theorem c25_124 : gP 25 124 = some (.iadd, 1, 0, 0) := by decide +kernel
theorem c25_125 : gP 25 125 = some (.putfield 1, 3, 8, 0) := by decide +kernel
theorem c25_128 : gP 25 128 = some (.iinc 4 (-1), 3, 0, 0) := by decide +kernel
theorem c25_131 : gP 25 131 = some (.goto 92, 3, 0, 0) := by decide +kernel
theorem c25_134 : gP 25 134 = some (.aload 0, 1, 0, 0) := by decide +kernel
theorem c25_135 : gP 25 135 = some (.getfield 1, 3, 8, 138) := by decide +kernel
theorem c25_138 : gP 25 138 = some (.ireturn, 1, 0, 0) := by decide +kernel
theorem c26_0 : gP 26 0 = some (.aload 0, 1, 0, 0) := by decide +kernel
theorem c26_1 : gP 26 1 = some (.getfield 57, 3, 8, 123) := by decide +kernel
theorem c26_4 : gP 26 4 = some (.ireturn, 1, 0, 0) := by decide +kernel
theorem c27_0 : gP 27 0 = some (.iload 1, 1, 0, 0) := by decide +kernel
theorem c27_1 : gP 27 1 = some (.ifCond .lt 12, 3, 0, 0) := by decide +kernel
theorem c27_4 : gP 27 4 = some (.iload 1, 1, 0, 0) := by decide +kernel
theorem c27_5 : gP 27 5 = some (.aload 0, 1, 0, 0) := by decide +kernel
theorem c27_6 : gP 27 6 = some (.getfield 6, 3, 7, 55) := by decide +kernel
theorem c27_9 : gP 27 9 = some (.if_icmp .le 20, 3, 0, 0) := by decide +kernel
theorem c27_12 : gP 27 12 = some (.athrow, 54, 9, 52) := by decide +kernel
theorem c27_20 : gP 27 20 = some (.aload 0, 1, 0, 0) := by decide +kernel
theorem c27_21 : gP 27 21 = some (.dup, 1, 0, 0) := by decide +kernel
theorem c27_22 : gP 27 22 = some (.getfield 6, 3, 7, 55) := by decide +kernel
theorem c27_25 : gP 27 25 = some (.iload 1, 1, 0, 0) := by decide +kernel
theorem c27_26 : gP 27 26 = some (.isub, 1, 0, 0) := by decide +kernel
theorem c27_27 : gP 27 27 = some (.putfield 6, 3, 7, 0) := by decide +kernel
theorem c27_30 : gP 27 30 = some (.aload 0, 1, 0, 0) := by decide +kernel
theorem c27_31 : gP 27 31 = some (.getfield 6, 3, 7, 55) := by decide +kernel
theorem c27_34 : gP 27 34 = some (.ireturn, 1, 0, 0) := by decide +kernel
theorem c28_0 : gP 28 0 = some (.aload 2, 1, 0, 0) := by decide +kernel
theorem c28_1 : gP 28 1 = some (.iconst 0, 1, 0, 0) := by decide +kernel
theorem c28_2 : gP 28 2 = some (.aload 0, 1, 0, 0) := by decide +kernel
theorem c28_3 : gP 28 3 = some (.iload 1, 1, 0, 0) := by decide +kernel
theorem c28_4 : gP 28 4 = some (.invokeinterface 27 17, 3, 2, 1) := by decide +kernel
theorem c28_7 : gP 28 7 = some (.i2l, 1, 0, 0) := by decide +kernel
theorem c28_8 : gP 28 8 = some (.lastore, 1, 0, 0) := by decide +kernel
theorem c28_9 : gP 28 9 = some (.goto 15, 3, 0, 0) := by decide +kernel
theorem c28_12 : gP 28 12 = some (.astore 3, 1, 0, 0) := by decide +kernel
theorem c28_13 : gP 28 13 = some (.iconst 1, 1, 0, 0) := by decide +kernel
theorem c28_14 : gP 28 14 = some (.ireturn, 1, 0, 0) := by decide +kernel
theorem c28_15 : gP 28 15 = some (.iconst 0, 1, 0, 0) := by decide +kernel
theorem c28_16 : gP 28 16 = some (.ireturn, 1, 0, 0) := by decide +kernel
theorem c29_0 : gP 29 0 = some (.aload 0, 1, 0, 0) := by decide +kernel
theorem c29_1 : gP 29 1 = some (.iload 1, 1, 0, 0) := by decide +kernel
theorem c29_2 : gP 29 2 = some (.iconst 0, 1, 0, 0) := by decide +kernel
theorem c29_3 : gP 29 3 = some (.aload 0, 1, 0, 0) := by decide +kernel
theorem c29_4 : gP 29 4 = some (.getfield 1, 3, 8, 138) := by decide +kernel
theorem c29_7 : gP 29 7 = some (.invokeinterface 22 126, 3, 3, 0) := by decide +kernel
theorem c29_10 : gP 29 10 = some (.iconst 1, 1, 0, 0) := by decide +kernel
theorem c29_11 : gP 29 11 = some (.invokeinterface 23 130, 3, 3, 1) := by decide +kernel
theorem c29_14 : gP 29 14 = some (.ifCond .ne 19, 3, 0, 0) := by decide +kernel
theorem c29_17 : gP 29 17 = some (.iconst 0, 1, 0, 0) := by decide +kernel
theorem c29_18 : gP 29 18 = some (.ireturn, 1, 0, 0) := by decide +kernel
theorem c29_19 : gP 29 19 = some (.aload 0, 1, 0, 0) := by decide +kernel
theorem c29_20 : gP 29 20 = some (.dup, 1, 0, 0) := by decide +kernel
theorem c29_21 : gP 29 21 = some (.getfield 1, 3, 8, 138) := by decide +kernel
theorem c29_24 : gP 29 24 = some (.iload 1, 1, 0, 0) := by decide +kernel
theorem c29_25 : gP 29 25 = some (.isub, 1, 0, 0) := by decide +kernel
theorem c29_26 : gP 29 26 = some (.putfield 1, 3, 8, 0) := by decide +kernel
theorem c29_29 : gP 29 29 = some (.aload 0, 1, 0, 0) := by decide +kernel
theorem c29_30 : gP 29 30 = some (.getfield 1, 3, 8, 138) := by decide +kernel
theorem c29_33 : gP 29 33 = some (.ireturn, 1, 0, 0) := by decide +kernel
theorem c30_0 : gP 30 0 = some (.aload 0, 1, 0, 0) := by decide +kernel
theorem c30_1 : gP 30 1 = some (.iconst 0, 1, 0, 0) := by decide +kernel
theorem c30_2 : gP 30 2 = some (.putfield 9, 3, 6, 0) := by decide +kernel
theorem c30_5 : gP 30 5 = some (.aload 0, 1, 0, 0) := by decide +kernel
theorem c30_6 : gP 30 6 = some (.iconst 0, 1, 0, 0) := by decide +kernel
theorem c30_7 : gP 30 7 = some (.putfield 10, 3, 6, 0) := by decide +kernel
theorem c30_10 : gP 30 10 = some (.aload 0, 1, 0, 0) := by decide +kernel
theorem c30_11 : gP 30 11 = some (.iconst 0, 1, 0, 0) := by decide +kernel
theorem c30_12 : gP 30 12 = some (.putfield 11, 3, 6, 0) := by decide +kernel
theorem c30_15 : gP 30 15 = some (.aload 0, 1, 0, 0) := by decide +kernel
theorem c30_16 : gP 30 16 = some (.iconst 0, 1, 0, 0) := by decide +kernel
theorem c30_17 : gP 30 17 = some (.putfield 12, 3, 6, 0) := by decide +kernel
theorem c30_20 : gP 30 20 = some (.aload 0, 1, 0, 0) := by decide +kernel
theorem c30_21 : gP 30 21 = some (.iconst 0, 1, 0, 0) := by decide +kernel
theorem c30_22 : gP 30 22 = some (.putfield 13, 3, 6, 0) := by decide +kernel
theorem c30_25 : gP 30 25 = some (.aload 0, 1, 0, 0) := by decide +kernel
theorem c30_26 : gP 30 26 = some (.iconst 1, 1, 0, 0) := by decide +kernel
theorem c30_27 : gP 30 27 = some (.putfield 14, 3, 6, 0) := by decide +kernel
theorem c30_30 : gP 30 30 = some (.aload 0, 1, 0, 0) := by decide +kernel
theorem c30_31 : gP 30 31 = some (.iconst 0, 1, 0, 0) := by decide +kernel
theorem c30_32 : gP 30 32 = some (.putfield 15, 3, 6, 0) := by decide +kernel
theorem c30_35 : gP 30 35 = some (.aload 0, 1, 0, 0) := by decide +kernel
theorem c30_36 : gP 30 36 = some (.iconst 0, 1, 0, 0) := by decide +kernel
theorem c30_37 : gP 30 37 = some (.putfield 16, 3, 6, 0) := by decide +kernel
theorem c30_40 : gP 30 40 = some (.return_, 1, 0, 0) := by decide +kernel
theorem c32_0 : gP 32 0 = some (.aload 0, 1, 0, 0) := by decide +kernel
theorem c32_1 : gP 32 1 = some (.getfield 1, 3, 0, 39) := by decide +kernel
theorem c32_4 : gP 32 4 = some (.aload 0, 1, 0, 0) := by decide +kernel
theorem c32_5 : gP 32 5 = some (.getfield 4, 3, 0, 62) := by decide +kernel
theorem c32_8 : gP 32 8 = some (.iload 1, 1, 0, 0) := by decide +kernel
theorem c32_9 : gP 32 9 = some (.iastore, 1, 0, 0) := by decide +kernel
theorem c32_10 : gP 32 10 = some (.aload 0, 1, 0, 0) := by decide +kernel
theorem c32_11 : gP 32 11 = some (.getfield 2, 3, 0, 42) := by decide +kernel
theorem c32_14 : gP 32 14 = some (.aload 0, 1, 0, 0) := by decide +kernel
theorem c32_15 : gP 32 15 = some (.getfield 4, 3, 0, 62) := by decide +kernel
theorem c32_18 : gP 32 18 = some (.iload 2, 1, 0, 0) := by decide +kernel
theorem c32_19 : gP 32 19 = some (.iastore, 1, 0, 0) := by decide +kernel
theorem c32_20 : gP 32 20 = some (.aload 0, 1, 0, 0) := by decide +kernel
theorem c32_21 : gP 32 21 = some (.getfield 3, 3, 0, 45) := by decide +kernel
theorem c32_24 : gP 32 24 = some (.aload 0, 1, 0, 0) := by decide +kernel
theorem c32_25 : gP 32 25 = some (.getfield 4, 3, 0, 62) := by decide +kernel
theorem c32_28 : gP 32 28 = some (.iconst 0, 1, 0, 0) := by decide +kernel
theorem c32_29 : gP 32 29 = some (.iastore, 1, 0, 0) := by decide +kernel
theorem c32_30 : gP 32 30 = some (.aload 0, 1, 0, 0) := by decide +kernel
theorem c32_31 : gP 32 31 = some (.dup, 1, 0, 0) := by decide +kernel
theorem c32_32 : gP 32 32 = some (.getfield 4, 3, 0, 62) := by decide +kernel
theorem c32_35 : gP 32 35 = some (.iconst 1, 1, 0, 0) := by decide +kernel
theorem c32_36 : gP 32 36 = some (.iadd, 1, 0, 0) := by decide +kernel
theorem c32_37 : gP 32 37 = some (.putfield 4, 3, 0, 0) := by decide +kernel
theorem c32_40 : gP 32 40 = some (.return_, 1, 0, 0) := by decide +kernel
theorem c35_0 : gP 35 0 = some (.iconst 0, 1, 0, 0) := by decide +kernel
theorem c35_1 : gP 35 1 = some (.istore 1, 1, 0, 0) := by decide +kernel
theorem c35_2 : gP 35 2 = some (.iload 1, 1, 0, 0) := by decide +kernel
theorem c35_3 : gP 35 3 = some (.aload 0, 1, 0, 0) := by decide +kernel
theorem c35_4 : gP 35 4 = some (.getfield 4, 3, 0, 62) := by decide +kernel
theorem c35_7 : gP 35 7 = some (.if_icmp .ge 66, 3, 0, 0) := by decide +kernel
theorem c35_10 : gP 35 10 = some (.iconst 1, 1, 0, 0) := by decide +kernel
theorem c35_11 : gP 35 11 = some (.istore 2, 1, 0, 0) := by decide +kernel
theorem c35_12 : gP 35 12 = some (.iload 2, 1, 0, 0) := by decide +kernel
theorem c35_13 : gP 35 13 = some (.aload 0, 1, 0, 0) := by decide +kernel
theorem c35_14 : gP 35 14 = some (.getfield 0, 3, 0, 35) := by decide +kernel
theorem c35_17 : gP 35 17 = some (.arraylength, 1, 0, 0) := by decide +kernel
theorem c35_18 : gP 35 18 = some (.if_icmp .ge 60, 3, 0, 0) := by decide +kernel
theorem c35_21 : gP 35 21 = some (.aload 0, 1, 0, 0) := by decide +kernel
theorem c35_22 : gP 35 22 = some (.getfield 1, 3, 0, 39) := by decide +kernel
theorem c35_25 : gP 35 25 = some (.iload 1, 1, 0, 0) := by decide +kernel
theorem c35_26 : gP 35 26 = some (.iaload, 1, 0, 0) := by decide +kernel
theorem c35_27 : gP 35 27 = some (.iconst 11, 2, 0, 0) := by decide +kernel
theorem c35_29 : gP 35 29 = some (.if_icmp .ne 60, 3, 0, 0) := by decide +kernel
theorem c35_60 : gP 35 60 = some (.iinc 1 1, 3, 0, 0) := by decide +kernel
theorem c35_63 : gP 35 63 = some (.goto 2, 3, 0, 0) := by decide +kernel
theorem c35_66 : gP 35 66 = some (.return_, 1, 0, 0) := by decide +kernel
theorem c36_0 : gP 36 0 = some (.aload 0, 1, 0, 0) := by decide +kernel
theorem c36_1 : gP 36 1 = some (.iconst 0, 1, 0, 0) := by decide +kernel
theorem c36_2 : gP 36 2 = some (.putfield 4, 3, 0, 0) := by decide +kernel
theorem c36_5 : gP 36 5 = some (.iconst 0, 1, 0, 0) := by decide +kernel
theorem c36_6 : gP 36 6 = some (.istore 3, 1, 0, 0) := by decide +kernel
theorem c36_7 : gP 36 7 = some (.iconst 0, 1, 0, 0) := by decide +kernel
theorem c36_8 : gP 36 8 = some (.istore 4, 2, 0, 0) := by decide +kernel
theorem c36_10 : gP 36 10 = some (.iconst 0, 1, 0, 0) := by decide +kernel
theorem c36_11 : gP 36 11 = some (.istore 5, 2, 0, 0) := by decide +kernel
theorem c36_13 : gP 36 13 = some (.iload 5, 2, 0, 0) := by decide +kernel
theorem c36_15 : gP 36 15 = some (.iload 2, 1, 0, 0) := by decide +kernel
theorem c36_16 : gP 36 16 = some (.if_icmp .ge 102, 3, 0, 0) := by decide +kernel
theorem c36_102 : gP 36 102 = some (.aload 0, 1, 0, 0) := by decide +kernel
theorem c36_103 : gP 36 103 = some (.iconst 0, 1, 0, 0) := by decide +kernel
theorem c36_104 : gP 36 104 = some (.iload 3, 1, 0, 0) := by decide +kernel
theorem c36_105 : gP 36 105 = some (.invokeinterface 32 77, 3, 3, 1) := by decide +kernel
theorem c36_108 : gP 36 108 = some (.aload 0, 1, 0, 0) := by decide +kernel
theorem c36_109 : gP 36 109 = some (.invokeinterface 35 81, 3, 1, 1) := by decide +kernel
theorem c36_112 : gP 36 112 = some (.return_, 1, 0, 0) := by decide +kernel
theorem c37_0 : gP 37 0 = some (.aload 0, 1, 0, 0) := by decide +kernel
theorem c37_1 : gP 37 1 = some (.getfield 0, 3, 1, 12) := by decide +kernel
theorem c37_4 : gP 37 4 = some (.getfield 1, 3, 0, 65) := by decide +kernel
theorem c37_7 : gP 37 7 = some (.aload 0, 1, 0, 0) := by decide +kernel
theorem c37_8 : gP 37 8 = some (.getfield 2, 3, 1, 31) := by decide +kernel
theorem c37_11 : gP 37 11 = some (.iaload, 1, 0, 0) := by decide +kernel
theorem c37_12 : gP 37 12 = some (.iload 1, 1, 0, 0) := by decide +kernel
theorem c37_13 : gP 37 13 = some (.if_icmp .eq 34, 3, 0, 0) := by decide +kernel
theorem c37_16 : gP 37 16 = some (.aload 0, 1, 0, 0) := by decide +kernel
theorem c37_17 : gP 37 17 = some (.aload 0, 1, 0, 0) := by decide +kernel
theorem c37_18 : gP 37 18 = some (.getfield 0, 3, 1, 12) := by decide +kernel
theorem c37_21 : gP 37 21 = some (.getfield 2, 3, 0, 71) := by decide +kernel
theorem c37_24 : gP 37 24 = some (.aload 0, 1, 0, 0) := by decide +kernel
theorem c37_25 : gP 37 25 = some (.getfield 2, 3, 1, 31) := by decide +kernel
theorem c37_28 : gP 37 28 = some (.iaload, 1, 0, 0) := by decide +kernel
theorem c37_29 : gP 37 29 = some (.putfield 4, 3, 1, 0) := by decide +kernel
theorem c37_32 : gP 37 32 = some (.iconst 0, 1, 0, 0) := by decide +kernel
theorem c37_33 : gP 37 33 = some (.ireturn, 1, 1, 0) := by decide +kernel
theorem c45_0 : gP 45 0 = some (.aload 0, 1, 0, 0) := by decide +kernel
theorem c45_1 : gP 45 1 = some (.iconst 1, 1, 0, 0) := by decide +kernel
theorem c45_2 : gP 45 2 = some (.invokeinterface 37 74, 3, 2, 1) := by decide +kernel
theorem c45_5 : gP 45 5 = some (.ifCond .ne 10, 3, 0, 0) := by decide +kernel
theorem c45_8 : gP 45 8 = some (.iconst 0, 1, 0, 0) := by decide +kernel
theorem c45_9 : gP 45 9 = some (.ireturn, 1, 1, 0) := by decide +kernel
theorem c74_0 : gP 74 0 = some (.aload 0, 1, 0, 0) := by decide +kernel
theorem c74_1 : gP 74 1 = some (.aload 3, 1, 0, 0) := by decide +kernel
theorem c74_2 : gP 74 2 = some (.putfield 1, 3, 1, 6) := by decide +kernel
theorem c74_5 : gP 74 5 = some (.aload 0, 1, 0, 0) := by decide +kernel
theorem c74_6 : gP 74 6 = some (.getfield 1, 3, 1, 18) := by decide +kernel
theorem c74_9 : gP 74 9 = some (.invokeinterface 30 22, 3, 1, 1) := by decide +kernel
theorem c74_12 : gP 74 12 = some (.aload 0, 1, 0, 0) := by decide +kernel
theorem c74_13 : gP 74 13 = some (.getfield 0, 3, 1, 12) := by decide +kernel
theorem c74_16 : gP 74 16 = some (.aload 1, 1, 0, 0) := by decide +kernel
theorem c74_17 : gP 74 17 = some (.iload 2, 1, 0, 0) := by decide +kernel
theorem c74_18 : gP 74 18 = some (.invokeinterface 36 27, 3, 3, 1) := by decide +kernel
theorem c74_21 : gP 74 21 = some (.aload 0, 1, 0, 0) := by decide +kernel
theorem c74_22 : gP 74 22 = some (.iconst 0, 1, 0, 0) := by decide +kernel
theorem c74_23 : gP 74 23 = some (.putfield 2, 3, 1, 0) := by decide +kernel
theorem c74_26 : gP 74 26 = some (.aload 0, 1, 0, 0) := by decide +kernel
theorem c74_27 : gP 74 27 = some (.iconst 0, 1, 0, 0) := by decide +kernel
theorem c74_28 : gP 74 28 = some (.putfield 3, 3, 1, 1) := by decide +kernel
theorem c74_31 : gP 74 31 = some (.aload 0, 1, 0, 0) := by decide +kernel
theorem c74_32 : gP 74 32 = some (.invokeinterface 45 39, 3, 1, 1) := by decide +kernel
theorem c74_35 : gP 74 35 = some (.istore 4, 2, 0, 0) := by decide +kernel
theorem c74_37 : gP 74 37 = some (.iconst 0, 1, 0, 0) := by decide +kernel
theorem c74_38 : gP 74 38 = some (.istore 5, 2, 0, 0) := by decide +kernel
theorem c74_40 : gP 74 40 = some (.iload 5, 2, 0, 0) := by decide +kernel
theorem c74_42 : gP 74 42 = some (.iconst 320, 3, 0, 0) := by decide +kernel
theorem c74_45 : gP 74 45 = some (.if_icmp .ge 139, 3, 0, 0) := by decide +kernel
theorem c74_48 : gP 74 48 = some (.iload 4, 2, 0, 0) := by decide +kernel
theorem c74_50 : gP 74 50 = some (.ifCond .eq 139, 3, 0, 0) := by decide +kernel
theorem c74_139 : gP 74 139 = some (.iload 4, 2, 0, 0) := by decide +kernel
theorem c74_141 : gP 74 141 = some (.ifCond .eq 154, 3, 0, 0) := by decide +kernel
theorem c74_154 : gP 74 154 = some (.aload 0, 1, 0, 0) := by decide +kernel
theorem c74_155 : gP 74 155 = some (.getfield 4, 3, 1, 62) := by decide +kernel
theorem c74_158 : gP 74 158 = some (.ireturn, 1, 0, 0) := by decide +kernel
theorem c94_0 : gP 94 0 = some (.aload 0, 1, 0, 0) := by decide +kernel
theorem c94_1 : gP 94 1 = some (.aload 0, 1, 0, 0) := by decide +kernel
theorem c94_2 : gP 94 2 = some (.getfield 1, 3, 7, 16) := by decide +kernel
theorem c94_5 : gP 94 5 = some (.aload 0, 1, 0, 0) := by decide +kernel
theorem c94_6 : gP 94 6 = some (.getfield 0, 3, 7, 9) := by decide +kernel
theorem c94_9 : gP 94 9 = some (.aload 0, 1, 0, 0) := by decide +kernel
theorem c94_10 : gP 94 10 = some (.getfield 6, 3, 7, 55) := by decide +kernel
theorem c94_13 : gP 94 13 = some (.aload 0, 1, 0, 0) := by decide +kernel
theorem c94_14 : gP 94 14 = some (.getfield 5, 3, 7, 41) := by decide +kernel
theorem c94_17 : gP 94 17 = some (.invokeinterface 74 65, 3, 4, 1) := by decide +kernel
theorem c94_20 : gP 94 20 = some (.putfield 7, 3, 7, 0) := by decide +kernel
theorem c94_23 : gP 94 23 = some (.aload 0, 1, 0, 0) := by decide +kernel
theorem c94_24 : gP 94 24 = some (.getfield 7, 3, 7, 44) := by decide +kernel
theorem c94_27 : gP 94 27 = some (.iconst (-1), 1, 0, 0) := by decide +kernel
theorem c94_28 : gP 94 28 = some (.if_icmp .eq 39, 3, 0, 0) := by decide +kernel
theorem c94_31 : gP 94 31 = some (.athrow, 54, 9, 52) := by decide +kernel
theorem c95_0 : gP 95 0 = some (.aload 1, 1, 0, 0) := by decide +kernel
theorem c95_1 : gP 95 1 = some (.iconst 0, 1, 0, 0) := by decide +kernel
theorem c95_2 : gP 95 2 = some (.aload 0, 1, 0, 0) := by decide +kernel
theorem c95_3 : gP 95 3 = some (.invokeinterface 94 21, 3, 1, 1) := by decide +kernel
theorem c95_11 : gP 95 11 = some (.astore 2, 1, 0, 0) := by decide +kernel
theorem c95_12 : gP 95 12 = some (.iconst 1, 1, 0, 0) := by decide +kernel
theorem c95_13 : gP 95 13 = some (.ireturn, 1, 0, 0) := by decide +kernel
theorem c96_0 : gP 96 0 = some (.iconst 1, 1, 0, 0) := by decide +kernel
theorem c96_1 : gP 96 1 = some (.aload 0, 1, 0, 0) := by decide +kernel
theorem c96_2 : gP 96 2 = some (.getfield 18, 3, 8, 221) := by decide +kernel
theorem c96_5 : gP 96 5 = some (.isub, 1, 0, 0) := by decide +kernel
theorem c96_6 : gP 96 6 = some (.ireturn, 1, 0, 0) := by decide +kernel
theorem c99_0 : gP 99 0 = some (.aload 0, 1, 0, 0) := by decide +kernel
theorem c99_1 : gP 99 1 = some (.aload 0, 1, 0, 0) := by decide +kernel
theorem c99_2 : gP 99 2 = some (.getfield 6, 3, 8, 141) := by decide +kernel
theorem c99_5 : gP 99 5 = some (.putfield 7, 3, 8, 0) := by decide +kernel
theorem c99_8 : gP 99 8 = some (.aload 0, 1, 0, 0) := by decide +kernel
theorem c99_9 : gP 99 9 = some (.getfield 6, 3, 8, 141) := by decide +kernel
theorem c99_12 : gP 99 12 = some (.istore 1, 1, 0, 0) := by decide +kernel
theorem c99_13 : gP 99 13 = some (.iload 1, 1, 0, 0) := by decide +kernel
theorem c99_14 : gP 99 14 = some (.aload 0, 1, 0, 0) := by decide +kernel
theorem c99_15 : gP 99 15 = some (.getfield 1, 3, 8, 138) := by decide +kernel
theorem c99_18 : gP 99 18 = some (.if_icmp .ge 38, 3, 0, 0) := by decide +kernel
theorem c99_38 : gP 99 38 = some (.aload 0, 1, 0, 0) := by decide +kernel
theorem c99_39 : gP 99 39 = some (.iload 1, 1, 0, 0) := by decide +kernel
theorem c99_40 : gP 99 40 = some (.putfield 5, 3, 8, 0) := by decide +kernel
theorem c99_43 : gP 99 43 = some (.iload 1, 1, 0, 0) := by decide +kernel
theorem c99_44 : gP 99 44 = some (.aload 0, 1, 0, 0) := by decide +kernel
theorem c99_45 : gP 99 45 = some (.getfield 1, 3, 8, 138) := by decide +kernel
theorem c99_48 : gP 99 48 = some (.if_icmp .ne 57, 3, 0, 0) := by decide +kernel
theorem c99_51 : gP 99 51 = some (.aload 0, 1, 0, 0) := by decide +kernel
theorem c99_52 : gP 99 52 = some (.iconst 0, 1, 0, 0) := by decide +kernel
theorem c99_53 : gP 99 53 = some (.putfield 3, 3, 8, 0) := by decide +kernel
theorem c99_56 : gP 99 56 = some (.return_, 1, 0, 0) := by decide +kernel
theorem c100_0 : gP 100 0 = some (.iload 1, 1, 0, 0) := by decide +kernel
theorem c100_1 : gP 100 1 = some (.ifCond .ne 8, 3, 0, 0) := by decide +kernel
theorem c100_4 : gP 100 4 = some (.iload 0, 1, 0, 0) := by decide +kernel
theorem c100_5 : gP 100 5 = some (.goto 19, 3, 0, 0) := by decide +kernel
theorem c100_8 : gP 100 8 = some (.iconst 27, 2, 0, 0) := by decide +kernel
theorem c100_10 : gP 100 10 = some (.iload 0, 1, 0, 0) := by decide +kernel
theorem c100_11 : gP 100 11 = some (.imul, 1, 0, 0) := by decide +kernel
theorem c100_12 : gP 100 12 = some (.iload 1, 1, 0, 0) := by decide +kernel
theorem c100_13 : gP 100 13 = some (.iadd, 1, 0, 0) := by decide +kernel
theorem c100_14 : gP 100 14 = some (.iconst 97, 2, 0, 0) := by decide +kernel
theorem c100_16 : gP 100 16 = some (.isub, 1, 0, 0) := by decide +kernel
theorem c100_17 : gP 100 17 = some (.iconst 1, 1, 0, 0) := by decide +kernel
theorem c100_18 : gP 100 18 = some (.iadd, 1, 0, 0) := by decide +kernel
theorem c100_19 : gP 100 19 = some (.ireturn, 1, 0, 0) := by decide +kernel
theorem c101_0 : gP 101 0 = some (.iconst 0, 1, 0, 0) := by decide +kernel
theorem c101_1 : gP 101 1 = some (.iload 0, 1, 0, 0) := by decide +kernel
theorem c101_2 : gP 101 2 = some (.invokeinterface 100 163, 3, 2, 0) := by decide +kernel
theorem c101_5 : gP 101 5 = some (.iload 1, 1, 0, 0) := by decide +kernel
theorem c101_6 : gP 101 6 = some (.invokeinterface 100 163, 3, 2, 0) := by decide +kernel
theorem c101_9 : gP 101 9 = some (.iload 2, 1, 0, 0) := by decide +kernel
theorem c101_10 : gP 101 10 = some (.invokeinterface 100 163, 3, 2, 0) := by decide +kernel
theorem c101_13 : gP 101 13 = some (.iload 3, 1, 0, 0) := by decide +kernel
theorem c101_14 : gP 101 14 = some (.invokeinterface 100 163, 3, 2, 0) := by decide +kernel
theorem c101_17 : gP 101 17 = some (.iload 4, 2, 0, 0) := by decide +kernel
theorem c101_19 : gP 101 19 = some (.invokeinterface 100 163, 3, 2, 0) := by decide +kernel
theorem c101_22 : gP 101 22 = some (.iload 5, 2, 0, 0) := by decide +kernel
theorem c101_24 : gP 101 24 = some (.invokeinterface 100 163, 3, 2, 0) := by decide +kernel
theorem c101_27 : gP 101 27 = some (.ireturn, 1, 0, 0) := by decide +kernel
theorem c102_0 : gP 102 0 = some (.aload 0, 1, 0, 0) := by decide +kernel
theorem c102_1 : gP 102 1 = some (.getfield 3, 3, 8, 150) := by decide +kernel
theorem c102_4 : gP 102 4 = some (.iconst 1, 1, 0, 0) := by decide +kernel
theorem c102_5 : gP 102 5 = some (.if_icmp .ne 20, 3, 0, 0) := by decide +kernel
theorem c102_20 : gP 102 20 = some (.iconst 0, 1, 0, 0) := by decide +kernel
theorem c102_21 : gP 102 21 = some (.ireturn, 1, 1, 0) := by decide +kernel
theorem c103_0 : gP 103 0 = some (.aload 0, 1, 0, 0) := by decide +kernel
theorem c103_1 : gP 103 1 = some (.iconst 99, 2, 0, 0) := by decide +kernel
theorem c103_3 : gP 103 3 = some (.iconst 108, 2, 0, 0) := by decide +kernel
theorem c103_5 : gP 103 5 = some (.iconst 97, 2, 0, 0) := by decide +kernel
theorem c103_7 : gP 103 7 = some (.iconst 115, 2, 0, 0) := by decide +kernel
theorem c103_9 : gP 103 9 = some (.iconst 115, 2, 0, 0) := by decide +kernel
theorem c103_11 : gP 103 11 = some (.iconst 0, 1, 0, 0) := by decide +kernel
theorem c103_12 : gP 103 12 = some (.invokeinterface 101 167, 3, 6, 0) := by decide +kernel
theorem c103_15 : gP 103 15 = some (.invokeinterface 102 171, 3, 2, 1) := by decide +kernel
theorem c103_18 : gP 103 18 = some (.ireturn, 1, 1, 0) := by decide +kernel
theorem c104_0 : gP 104 0 = some (.aload 0, 1, 0, 0) := by decide +kernel
theorem c104_1 : gP 104 1 = some (.getfield 8, 3, 8, 205) := by decide +kernel
theorem c104_4 : gP 104 4 = some (.ifCond .ge 29, 3, 0, 0) := by decide +kernel
theorem c104_7 : gP 104 7 = some (.aload 0, 1, 0, 0) := by decide +kernel
theorem c104_8 : gP 104 8 = some (.aload 0, 1, 0, 0) := by decide +kernel
theorem c104_9 : gP 104 9 = some (.getfield 3, 3, 8, 150) := by decide +kernel
theorem c104_12 : gP 104 12 = some (.ifCond .ne 22, 3, 0, 0) := by decide +kernel
theorem c104_15 : gP 104 15 = some (.aload 0, 1, 0, 0) := by decide +kernel
theorem c104_16 : gP 104 16 = some (.getfield 7, 3, 8, 144) := by decide +kernel
theorem c104_19 : gP 104 19 = some (.goto 26, 3, 0, 0) := by decide +kernel
theorem c104_26 : gP 104 26 = some (.putfield 8, 3, 8, 0) := by decide +kernel
theorem c104_29 : gP 104 29 = some (.return_, 1, 0, 0) := by decide +kernel
theorem c105_0 : gP 105 0 = some (.iload 1, 1, 0, 0) := by decide +kernel
theorem c105_1 : gP 105 1 = some (.ifCond .ne 8, 3, 0, 0) := by decide +kernel
theorem c105_4 : gP 105 4 = some (.aload 0, 1, 0, 0) := by decide +kernel
theorem c105_5 : gP 105 5 = some (.invokeinterface 104 208, 3, 1, 1) := by decide +kernel
theorem c105_8 : gP 105 8 = some (.aload 0, 1, 0, 0) := by decide +kernel
theorem c105_9 : gP 105 9 = some (.getfield 8, 3, 8, 205) := by decide +kernel
theorem c105_12 : gP 105 12 = some (.ifCond .lt 17, 3, 0, 0) := by decide +kernel
theorem c105_15 : gP 105 15 = some (.iconst 0, 1, 0, 0) := by decide +kernel
theorem c105_16 : gP 105 16 = some (.ireturn, 1, 1, 0) := by decide +kernel
theorem c119_0 : gP 119 0 = some (.aload 0, 1, 0, 0) := by decide +kernel
theorem c119_1 : gP 119 1 = some (.invokeinterface 96 228, 3, 1, 1) := by decide +kernel
theorem c119_4 : gP 119 4 = some (.istore 1, 1, 0, 0) := by decide +kernel
theorem c119_5 : gP 119 5 = some (.aload 0, 1, 0, 0) := by decide +kernel
theorem c119_6 : gP 119 6 = some (.aload 0, 1, 0, 0) := by decide +kernel
theorem c119_7 : gP 119 7 = some (.invokeinterface 103 174, 3, 1, 1) := by decide +kernel
theorem c119_10 : gP 119 10 = some (.invokeinterface 105 217, 3, 2, 1) := by decide +kernel
theorem c119_13 : gP 119 13 = some (.ifCond .ne 17, 3, 0, 0) := by decide +kernel
theorem c119_16 : gP 119 16 = some (.return_, 1, 0, 0) := by decide +kernel
theorem c140_0 : gP 140 0 = some (.aload 0, 1, 0, 0) := by decide +kernel
theorem c140_1 : gP 140 1 = some (.invokeinterface 119 304, 3, 1, 1) := by decide +kernel
theorem c140_4 : gP 140 4 = some (.aload 0, 1, 0, 0) := by decide +kernel
theorem c140_5 : gP 140 5 = some (.getfield 8, 3, 8, 205) := by decide +kernel
theorem c140_8 : gP 140 8 = some (.ifCond .ge 66, 3, 0, 0) := by decide +kernel
theorem c140_66 : gP 140 66 = some (.aload 0, 1, 0, 0) := by decide +kernel
theorem c140_67 : gP 140 67 = some (.getfield 8, 3, 8, 205) := by decide +kernel
theorem c140_70 : gP 140 70 = some (.ifCond .ge 77, 3, 0, 0) := by decide +kernel
theorem c140_77 : gP 140 77 = some (.return_, 1, 0, 0) := by decide +kernel
theorem c152_0 : gP 152 0 = some (.aload 0, 1, 0, 0) := by decide +kernel
theorem c152_1 : gP 152 1 = some (.invokeinterface 96 228, 3, 1, 1) := by decide +kernel
theorem c152_4 : gP 152 4 = some (.istore 1, 1, 0, 0) := by decide +kernel
theorem c152_5 : gP 152 5 = some (.aload 0, 1, 0, 0) := by decide +kernel
theorem c152_6 : gP 152 6 = some (.getfield 20, 3, 8, 32) := by decide +kernel
theorem c152_9 : gP 152 9 = some (.iload 1, 1, 0, 0) := by decide +kernel
theorem c152_10 : gP 152 10 = some (.iconst 0, 1, 0, 0) := by decide +kernel
theorem c152_11 : gP 152 11 = some (.iastore, 1, 0, 0) := by decide +kernel
theorem c152_12 : gP 152 12 = some (.aload 0, 1, 0, 0) := by decide +kernel
theorem c152_13 : gP 152 13 = some (.getfield 21, 3, 8, 35) := by decide +kernel
theorem c152_16 : gP 152 16 = some (.iload 1, 1, 0, 0) := by decide +kernel
theorem c152_17 : gP 152 17 = some (.iconst 0, 1, 0, 0) := by decide +kernel
theorem c152_18 : gP 152 18 = some (.iastore, 1, 0, 0) := by decide +kernel
theorem c152_19 : gP 152 19 = some (.aload 0, 1, 0, 0) := by decide +kernel
theorem c152_20 : gP 152 20 = some (.getfield 22, 3, 8, 38) := by decide +kernel
theorem c152_23 : gP 152 23 = some (.iload 1, 1, 0, 0) := by decide +kernel
theorem c152_24 : gP 152 24 = some (.iconst 0, 1, 0, 0) := by decide +kernel
theorem c152_25 : gP 152 25 = some (.iastore, 1, 0, 0) := by decide +kernel
theorem c152_26 : gP 152 26 = some (.aload 0, 1, 0, 0) := by decide +kernel
theorem c152_27 : gP 152 27 = some (.getfield 23, 3, 8, 41) := by decide +kernel
theorem c152_30 : gP 152 30 = some (.iload 1, 1, 0, 0) := by decide +kernel
theorem c152_31 : gP 152 31 = some (.iconst 0, 1, 0, 0) := by decide +kernel
theorem c152_32 : gP 152 32 = some (.iastore, 1, 0, 0) := by decide +kernel
theorem c152_33 : gP 152 33 = some (.aload 0, 1, 0, 0) := by decide +kernel
theorem c152_34 : gP 152 34 = some (.getfield 24, 3, 8, 44) := by decide +kernel
theorem c152_37 : gP 152 37 = some (.iload 1, 1, 0, 0) := by decide +kernel
theorem c152_38 : gP 152 38 = some (.iconst 0, 1, 0, 0) := by decide +kernel
theorem c152_39 : gP 152 39 = some (.iastore, 1, 0, 0) := by decide +kernel
theorem c152_40 : gP 152 40 = some (.aload 0, 1, 0, 0) := by decide +kernel
theorem c152_41 : gP 152 41 = some (.getfield 25, 3, 8, 47) := by decide +kernel
theorem c152_44 : gP 152 44 = some (.iload 1, 1, 0, 0) := by decide +kernel
theorem c152_45 : gP 152 45 = some (.iconst 1, 1, 0, 0) := by decide +kernel
theorem c152_46 : gP 152 46 = some (.iastore, 1, 0, 0) := by decide +kernel
theorem c152_47 : gP 152 47 = some (.aload 0, 1, 0, 0) := by decide +kernel
theorem c152_48 : gP 152 48 = some (.getfield 26, 3, 8, 50) := by decide +kernel
theorem c152_51 : gP 152 51 = some (.iload 1, 1, 0, 0) := by decide +kernel
theorem c152_52 : gP 152 52 = some (.iconst 0, 1, 0, 0) := by decide +kernel
theorem c152_53 : gP 152 53 = some (.iastore, 1, 0, 0) := by decide +kernel
theorem c152_54 : gP 152 54 = some (.aload 0, 1, 0, 0) := by decide +kernel
theorem c152_55 : gP 152 55 = some (.getfield 27, 3, 8, 53) := by decide +kernel
theorem c152_58 : gP 152 58 = some (.iload 1, 1, 0, 0) := by decide +kernel
theorem c152_59 : gP 152 59 = some (.iconst 0, 1, 0, 0) := by decide +kernel
theorem c152_60 : gP 152 60 = some (.iastore, 1, 0, 0) := by decide +kernel
theorem c152_61 : gP 152 61 = some (.aload 0, 1, 0, 0) := by decide +kernel
theorem c152_62 : gP 152 62 = some (.getfield 37, 3, 8, 84) := by decide +kernel
theorem c152_65 : gP 152 65 = some (.iconst 12, 2, 0, 0) := by decide +kernel
theorem c152_67 : gP 152 67 = some (.iload 1, 1, 0, 0) := by decide +kernel
theorem c152_68 : gP 152 68 = some (.imul, 1, 0, 0) := by decide +kernel
theorem c152_69 : gP 152 69 = some (.iconst 0, 1, 0, 0) := by decide +kernel
theorem c152_70 : gP 152 70 = some (.iastore, 1, 0, 0) := by decide +kernel
theorem c152_71 : gP 152 71 = some (.aload 0, 1, 0, 0) := by decide +kernel
theorem c152_72 : gP 152 72 = some (.iconst 0, 1, 0, 0) := by decide +kernel
theorem c152_73 : gP 152 73 = some (.putfield 9, 3, 8, 0) := by decide +kernel
theorem c152_76 : gP 152 76 = some (.aload 0, 1, 0, 0) := by decide +kernel
theorem c152_77 : gP 152 77 = some (.iconst 0, 1, 0, 0) := by decide +kernel
theorem c152_78 : gP 152 78 = some (.putfield 17, 3, 8, 0) := by decide +kernel
theorem c152_81 : gP 152 81 = some (.aload 0, 1, 0, 0) := by decide +kernel
theorem c152_82 : gP 152 82 = some (.iconst 0, 1, 0, 0) := by decide +kernel
theorem c152_83 : gP 152 83 = some (.putfield 6, 3, 8, 0) := by decide +kernel
theorem c152_86 : gP 152 86 = some (.aload 0, 1, 0, 0) := by decide +kernel
theorem c152_87 : gP 152 87 = some (.iconst (-1), 1, 0, 0) := by decide +kernel
theorem c152_88 : gP 152 88 = some (.putfield 8, 3, 8, 0) := by decide +kernel
theorem c152_91 : gP 152 91 = some (.aload 0, 1, 0, 0) := by decide +kernel
theorem c152_92 : gP 152 92 = some (.invokeinterface 99 211, 3, 1, 1) := by decide +kernel
theorem c152_95 : gP 152 95 = some (.aload 0, 1, 0, 0) := by decide +kernel
theorem c152_96 : gP 152 96 = some (.invokeinterface 140 316, 3, 1, 1) := by decide +kernel
theorem c152_99 : gP 152 99 = some (.aload 0, 1, 0, 0) := by decide +kernel
theorem c152_100 : gP 152 100 = some (.getfield 8, 3, 8, 205) := by decide +kernel
theorem c152_103 : gP 152 103 = some (.ifCond .ge 120, 3, 0, 0) := by decide +kernel
theorem c152_120 : gP 152 120 = some (.aload 0, 1, 0, 0) := by decide +kernel
theorem c152_121 : gP 152 121 = some (.getfield 8, 3, 8, 205) := by decide +kernel
theorem c152_124 : gP 152 124 = some (.ifCond .ge 132, 3, 0, 0) := by decide +kernel
theorem c152_132 : gP 152 132 = some (.aload 0, 1, 0, 0) := by decide +kernel
theorem c152_133 : gP 152 133 = some (.aload 0, 1, 0, 0) := by decide +kernel
theorem c152_134 : gP 152 134 = some (.getfield 8, 3, 8, 205) := by decide +kernel
theorem c152_137 : gP 152 137 = some (.putfield 2, 3, 8, 0) := by decide +kernel
theorem c152_140 : gP 152 140 = some (.aload 0, 1, 0, 0) := by decide +kernel
theorem c152_141 : gP 152 141 = some (.aload 0, 1, 0, 0) := by decide +kernel
theorem c152_142 : gP 152 142 = some (.getfield 8, 3, 8, 205) := by decide +kernel
theorem c152_145 : gP 152 145 = some (.ifCond .ge 152, 3, 0, 0) := by decide +kernel
theorem c152_152 : gP 152 152 = some (.iconst 0, 1, 0, 0) := by decide +kernel
theorem c152_153 : gP 152 153 = some (.iconst 1, 1, 0, 0) := by decide +kernel
theorem c152_154 : gP 152 154 = some (.invokeinterface 23 130, 3, 3, 1) := by decide +kernel
theorem c152_157 : gP 152 157 = some (.ifCond .ne 162, 3, 0, 0) := by decide +kernel
theorem c152_160 : gP 152 160 = some (.iconst 0, 1, 0, 0) := by decide +kernel
theorem c152_161 : gP 152 161 = some (.ireturn, 1, 0, 0) := by decide +kernel
theorem c153_0 : gP 153 0 = some (.aload 0, 1, 0, 0) := by decide +kernel
theorem c153_1 : gP 153 1 = some (.getfield 7, 3, 7, 44) := by decide +kernel
theorem c153_4 : gP 153 4 = some (.ireturn, 1, 0, 0) := by decide +kernel
theorem c154_0 : gP 154 0 = some (.aload 0, 1, 0, 0) := by decide +kernel
theorem c154_1 : gP 154 1 = some (.iconst 0, 1, 0, 0) := by decide +kernel
theorem c154_2 : gP 154 2 = some (.putfield 57, 3, 8, 0) := by decide +kernel
theorem c154_5 : gP 154 5 = some (.aload 0, 1, 0, 0) := by decide +kernel
theorem c154_6 : gP 154 6 = some (.getfield 2, 3, 8, 13) := by decide +kernel
theorem c154_9 : gP 154 9 = some (.ireturn, 1, 0, 0) := by decide +kernel
theorem c155_0 : gP 155 0 = some (.iload 0, 1, 0, 0) := by decide +kernel
theorem c155_1 : gP 155 1 = some (.ifCond .lt 13, 3, 0, 0) := by decide +kernel
theorem c155_4 : gP 155 4 = some (.iload 0, 1, 0, 0) := by decide +kernel
theorem c155_5 : gP 155 5 = some (.iload 1, 1, 0, 0) := by decide +kernel
theorem c155_6 : gP 155 6 = some (.if_icmp .ge 13, 3, 0, 0) := by decide +kernel
theorem c155_13 : gP 155 13 = some (.iconst 0, 1, 0, 0) := by decide +kernel
theorem c155_14 : gP 155 14 = some (.ireturn, 1, 1, 0) := by decide +kernel
theorem c156_0 : gP 156 0 = some (.iload 1, 1, 0, 0) := by decide +kernel
theorem c156_1 : gP 156 1 = some (.aload 0, 1, 0, 0) := by decide +kernel
theorem c156_2 : gP 156 2 = some (.getfield 4, 3, 7, 37) := by decide +kernel
theorem c156_5 : gP 156 5 = some (.getfield 15, 3, 6, 175) := by decide +kernel
theorem c156_8 : gP 156 8 = some (.invokeinterface 155 97, 3, 2, 0) := by decide +kernel
theorem c156_11 : gP 156 11 = some (.ireturn, 1, 1, 0) := by decide +kernel
theorem c157_0 : gP 157 0 = some (.iload 1, 1, 0, 0) := by decide +kernel
theorem c157_1 : gP 157 1 = some (.aload 0, 1, 0, 0) := by decide +kernel
theorem c157_2 : gP 157 2 = some (.getfield 4, 3, 7, 37) := by decide +kernel
theorem c157_5 : gP 157 5 = some (.getfield 14, 3, 6, 172) := by decide +kernel
theorem c157_8 : gP 157 8 = some (.invokeinterface 155 97, 3, 2, 0) := by decide +kernel
theorem c157_11 : gP 157 11 = some (.ireturn, 1, 1, 0) := by decide +kernel
theorem c158_0 : gP 158 0 = some (.aload 0, 1, 0, 0) := by decide +kernel
theorem c158_1 : gP 158 1 = some (.iload 1, 1, 0, 0) := by decide +kernel
theorem c158_2 : gP 158 2 = some (.invokeinterface 156 80, 3, 2, 1) := by decide +kernel
theorem c158_5 : gP 158 5 = some (.ifCond .eq 16, 3, 0, 0) := by decide +kernel
theorem c158_16 : gP 158 16 = some (.athrow, 89, 11, 87) := by decide +kernel
theorem c159_0 : gP 159 0 = some (.aload 3, 1, 0, 0) := by decide +kernel
theorem c159_1 : gP 159 1 = some (.iconst 0, 1, 0, 0) := by decide +kernel
theorem c159_2 : gP 159 2 = some (.aload 0, 1, 0, 0) := by decide +kernel
theorem c159_3 : gP 159 3 = some (.iload 1, 1, 0, 0) := by decide +kernel
theorem c159_4 : gP 159 4 = some (.iload 2, 1, 0, 0) := by decide +kernel
theorem c159_5 : gP 159 5 = some (.invokeinterface 158 25, 3, 3, 1) := by decide +kernel
theorem c159_13 : gP 159 13 = some (.astore 4, 2, 0, 0) := by decide +kernel
theorem c159_15 : gP 159 15 = some (.iconst 1, 1, 0, 0) := by decide +kernel
theorem c159_16 : gP 159 16 = some (.ireturn, 1, 0, 0) := by decide +kernel
theorem c160_0 : gP 160 0 = some (.aload 0, 1, 0, 0) := by decide +kernel
theorem c160_1 : gP 160 1 = some (.getfield 19, 3, 8, 322) := by decide +kernel
theorem c160_4 : gP 160 4 = some (.ifCond .eq 30, 3, 0, 0) := by decide +kernel
theorem c160_30 : gP 160 30 = some (.iconst 0, 1, 0, 0) := by decide +kernel
theorem c160_31 : gP 160 31 = some (.ireturn, 1, 1, 0) := by decide +kernel
theorem c161_0 : gP 161 0 = some (.aload 0, 1, 0, 0) := by decide +kernel
theorem c161_1 : gP 161 1 = some (.getfield 19, 3, 8, 322) := by decide +kernel
theorem c161_4 : gP 161 4 = some (.ifCond .eq 30, 3, 0, 0) := by decide +kernel
theorem c161_30 : gP 161 30 = some (.iconst 0, 1, 0, 0) := by decide +kernel
theorem c161_31 : gP 161 31 = some (.ireturn, 1, 1, 0) := by decide +kernel
theorem c162_0 : gP 162 0 = some (.aload 0, 1, 0, 0) := by decide +kernel
theorem c162_1 : gP 162 1 = some (.aload 0, 1, 0, 0) := by decide +kernel
theorem c162_2 : gP 162 2 = some (.getfield 19, 3, 8, 322) := by decide +kernel
theorem c162_5 : gP 162 5 = some (.ifCond .eq 16, 3, 0, 0) := by decide +kernel
theorem c162_16 : gP 162 16 = some (.iconst 0, 1, 0, 0) := by decide +kernel
theorem c162_17 : gP 162 17 = some (.iconst 1, 1, 0, 0) := by decide +kernel
theorem c162_18 : gP 162 18 = some (.invokeinterface 23 130, 3, 3, 1) := by decide +kernel
theorem c162_21 : gP 162 21 = some (.ireturn, 1, 1, 0) := by decide +kernel
theorem c163_0 : gP 163 0 = some (.aload 0, 1, 0, 0) := by decide +kernel
theorem c163_1 : gP 163 1 = some (.aload 0, 1, 0, 0) := by decide +kernel
theorem c163_2 : gP 163 2 = some (.iload 1, 1, 0, 0) := by decide +kernel
theorem c163_3 : gP 163 3 = some (.invokeinterface 160 369, 3, 2, 1) := by decide +kernel
theorem c163_6 : gP 163 6 = some (.ifCond .eq 21, 3, 0, 0) := by decide +kernel
theorem c163_21 : gP 163 21 = some (.iconst 0, 1, 0, 0) := by decide +kernel
theorem c163_22 : gP 163 22 = some (.invokeinterface 162 375, 3, 2, 1) := by decide +kernel
theorem c163_25 : gP 163 25 = some (.ifCond .eq 42, 3, 0, 0) := by decide +kernel
theorem c163_42 : gP 163 42 = some (.iconst 0, 1, 0, 0) := by decide +kernel
theorem c163_43 : gP 163 43 = some (.ireturn, 1, 0, 0) := by decide +kernel
theorem c164_0 : gP 164 0 = some (.aload 0, 1, 0, 0) := by decide +kernel
theorem c164_1 : gP 164 1 = some (.iload 1, 1, 0, 0) := by decide +kernel
theorem c164_2 : gP 164 2 = some (.invokeinterface 157 84, 3, 2, 1) := by decide +kernel
theorem c164_5 : gP 164 5 = some (.ifCond .eq 30, 3, 0, 0) := by decide +kernel
theorem c164_30 : gP 164 30 = some (.athrow, 89, 11, 87) := by decide +kernel
theorem c165_0 : gP 165 0 = some (.aload 4, 2, 0, 0) := by decide +kernel
theorem c165_2 : gP 165 2 = some (.iconst 0, 1, 0, 0) := by decide +kernel
theorem c165_3 : gP 165 3 = some (.aload 0, 1, 0, 0) := by decide +kernel
theorem c165_4 : gP 165 4 = some (.iload 1, 1, 0, 0) := by decide +kernel
theorem c165_5 : gP 165 5 = some (.iload 2, 1, 0, 0) := by decide +kernel
theorem c165_6 : gP 165 6 = some (.iload 3, 1, 0, 0) := by decide +kernel
theorem c165_7 : gP 165 7 = some (.invokeinterface 164 31, 3, 4, 1) := by decide +kernel
theorem c165_15 : gP 165 15 = some (.astore 5, 2, 0, 0) := by decide +kernel
theorem c165_17 : gP 165 17 = some (.iconst 1, 1, 0, 0) := by decide +kernel
theorem c165_18 : gP 165 18 = some (.ireturn, 1, 0, 0) := by decide +kernel
theorem c166_0 : gP 166 0 = some (.aload 0, 1, 0, 0) := by decide +kernel
theorem c166_1 : gP 166 1 = some (.aload 0, 1, 0, 0) := by decide +kernel
theorem c166_2 : gP 166 2 = some (.iload 1, 1, 0, 0) := by decide +kernel
theorem c166_3 : gP 166 3 = some (.invokeinterface 161 372, 3, 2, 1) := by decide +kernel
theorem c166_6 : gP 166 6 = some (.ifCond .eq 40, 3, 0, 0) := by decide +kernel
theorem c166_40 : gP 166 40 = some (.iconst 0, 1, 0, 0) := by decide +kernel
theorem c166_41 : gP 166 41 = some (.invokeinterface 162 375, 3, 2, 1) := by decide +kernel
theorem c166_44 : gP 166 44 = some (.ifCond .eq 66, 3, 0, 0) := by decide +kernel
theorem c166_66 : gP 166 66 = some (.iconst 0, 1, 0, 0) := by decide +kernel
theorem c166_67 : gP 166 67 = some (.ireturn, 1, 0, 0) := by decide +kernel
theorem c167_0 : gP 167 0 = some (.iload 1, 1, 0, 0) := by decide +kernel
theorem c167_1 : gP 167 1 = some (.aload 0, 1, 0, 0) := by decide +kernel
theorem c167_2 : gP 167 2 = some (.getfield 4, 3, 7, 37) := by decide +kernel
theorem c167_5 : gP 167 5 = some (.getfield 10, 3, 6, 169) := by decide +kernel
theorem c167_8 : gP 167 8 = some (.invokeinterface 155 97, 3, 2, 0) := by decide +kernel
theorem c167_11 : gP 167 11 = some (.ireturn, 1, 1, 0) := by decide +kernel
theorem c168_0 : gP 168 0 = some (.iload 1, 1, 0, 0) := by decide +kernel
theorem c168_1 : gP 168 1 = some (.aload 0, 1, 0, 0) := by decide +kernel
theorem c168_2 : gP 168 2 = some (.getfield 4, 3, 7, 37) := by decide +kernel
theorem c168_5 : gP 168 5 = some (.getfield 12, 3, 6, 105) := by decide +kernel
theorem c168_8 : gP 168 8 = some (.invokeinterface 155 97, 3, 2, 0) := by decide +kernel
theorem c168_11 : gP 168 11 = some (.ifCond .eq 22, 3, 0, 0) := by decide +kernel
theorem c168_22 : gP 168 22 = some (.athrow, 89, 11, 87) := by decide +kernel
theorem c169_0 : gP 169 0 = some (.aload 3, 1, 0, 0) := by decide +kernel
theorem c169_1 : gP 169 1 = some (.iconst 0, 1, 0, 0) := by decide +kernel
theorem c169_2 : gP 169 2 = some (.aload 0, 1, 0, 0) := by decide +kernel
theorem c169_3 : gP 169 3 = some (.iload 1, 1, 0, 0) := by decide +kernel
theorem c169_4 : gP 169 4 = some (.iload 2, 1, 0, 0) := by decide +kernel
theorem c169_5 : gP 169 5 = some (.invokeinterface 168 35, 3, 3, 1) := by decide +kernel
theorem c169_13 : gP 169 13 = some (.astore 4, 2, 0, 0) := by decide +kernel
theorem c169_15 : gP 169 15 = some (.iconst 1, 1, 0, 0) := by decide +kernel
theorem c169_16 : gP 169 16 = some (.ireturn, 1, 0, 0) := by decide +kernel
theorem c170_0 : gP 170 0 = some (.aload 0, 1, 0, 0) := by decide +kernel
theorem c170_1 : gP 170 1 = some (.getfield 19, 3, 8, 322) := by decide +kernel
theorem c170_4 : gP 170 4 = some (.ifCond .eq 30, 3, 0, 0) := by decide +kernel
theorem c170_30 : gP 170 30 = some (.iconst 0, 1, 0, 0) := by decide +kernel
theorem c170_31 : gP 170 31 = some (.ireturn, 1, 1, 0) := by decide +kernel
theorem c171_0 : gP 171 0 = some (.aload 0, 1, 0, 0) := by decide +kernel
theorem c171_1 : gP 171 1 = some (.aload 0, 1, 0, 0) := by decide +kernel
theorem c171_2 : gP 171 2 = some (.iload 2, 1, 0, 0) := by decide +kernel
theorem c171_3 : gP 171 3 = some (.invokeinterface 170 378, 3, 2, 1) := by decide +kernel
theorem c171_6 : gP 171 6 = some (.ifCond .eq 32, 3, 0, 0) := by decide +kernel
theorem c171_32 : gP 171 32 = some (.iconst 0, 1, 0, 0) := by decide +kernel
theorem c171_33 : gP 171 33 = some (.invokeinterface 162 375, 3, 2, 1) := by decide +kernel
theorem c171_36 : gP 171 36 = some (.ifCond .eq 53, 3, 0, 0) := by decide +kernel
theorem c171_53 : gP 171 53 = some (.iconst 0, 1, 0, 0) := by decide +kernel
theorem c171_54 : gP 171 54 = some (.ireturn, 1, 0, 0) := by decide +kernel
theorem c172_0 : gP 172 0 = some (.aload 0, 1, 0, 0) := by decide +kernel
theorem c172_1 : gP 172 1 = some (.iload 1, 1, 0, 0) := by decide +kernel
theorem c172_2 : gP 172 2 = some (.invokeinterface 167 108, 3, 2, 1) := by decide +kernel
theorem c172_5 : gP 172 5 = some (.ifCond .ne 16, 3, 0, 0) := by decide +kernel
theorem c172_8 : gP 172 8 = some (.athrow, 89, 11, 87) := by decide +kernel
theorem c173_0 : gP 173 0 = some (.aload 2, 1, 0, 0) := by decide +kernel
theorem c173_1 : gP 173 1 = some (.iconst 0, 1, 0, 0) := by decide +kernel
theorem c173_2 : gP 173 2 = some (.aload 0, 1, 0, 0) := by decide +kernel
theorem c173_3 : gP 173 3 = some (.iload 1, 1, 0, 0) := by decide +kernel
theorem c173_4 : gP 173 4 = some (.invokeinterface 172 38, 3, 2, 1) := by decide +kernel
theorem c173_12 : gP 173 12 = some (.astore 3, 1, 0, 0) := by decide +kernel
theorem c173_13 : gP 173 13 = some (.iconst 1, 1, 0, 0) := by decide +kernel
theorem c173_14 : gP 173 14 = some (.ireturn, 1, 0, 0) := by decide +kernel
theorem c174_0 : gP 174 0 = some (.aload 0, 1, 0, 0) := by decide +kernel
theorem c174_1 : gP 174 1 = some (.aload 0, 1, 0, 0) := by decide +kernel
theorem c174_2 : gP 174 2 = some (.iload 1, 1, 0, 0) := by decide +kernel
theorem c174_3 : gP 174 3 = some (.invokeinterface 170 378, 3, 2, 1) := by decide +kernel
theorem c174_6 : gP 174 6 = some (.invokeinterface 162 375, 3, 2, 1) := by decide +kernel
theorem c174_9 : gP 174 9 = some (.ifCond .eq 21, 3, 0, 0) := by decide +kernel
theorem c174_21 : gP 174 21 = some (.iconst 0, 1, 0, 0) := by decide +kernel
theorem c174_22 : gP 174 22 = some (.ireturn, 1, 0, 0) := by decide +kernel
theorem c176_0 : gP 176 0 = some (.iload 1, 1, 0, 0) := by decide +kernel
theorem c176_1 : gP 176 1 = some (.aload 0, 1, 0, 0) := by decide +kernel
theorem c176_2 : gP 176 2 = some (.getfield 4, 3, 7, 37) := by decide +kernel
theorem c176_5 : gP 176 5 = some (.getfield 13, 3, 6, 118) := by decide +kernel
theorem c176_8 : gP 176 8 = some (.invokeinterface 155 97, 3, 2, 0) := by decide +kernel
theorem c176_11 : gP 176 11 = some (.ifCond .ne 22, 3, 0, 0) := by decide +kernel
theorem c176_14 : gP 176 14 = some (.athrow, 89, 11, 87) := by decide +kernel
theorem c177_0 : gP 177 0 = some (.aload 2, 1, 0, 0) := by decide +kernel
theorem c177_1 : gP 177 1 = some (.iconst 0, 1, 0, 0) := by decide +kernel
theorem c177_2 : gP 177 2 = some (.aload 0, 1, 0, 0) := by decide +kernel
theorem c177_3 : gP 177 3 = some (.iload 1, 1, 0, 0) := by decide +kernel
theorem c177_4 : gP 177 4 = some (.invokeinterface 176 41, 3, 2, 1) := by decide +kernel
theorem c177_12 : gP 177 12 = some (.astore 3, 1, 0, 0) := by decide +kernel
theorem c177_13 : gP 177 13 = some (.iconst 1, 1, 0, 0) := by decide +kernel
theorem c177_14 : gP 177 14 = some (.ireturn, 1, 0, 0) := by decide +kernel
theorem c178_0 : gP 178 0 = some (.aload 0, 1, 0, 0) := by decide +kernel
theorem c178_1 : gP 178 1 = some (.iload 1, 1, 0, 0) := by decide +kernel
theorem c178_2 : gP 178 2 = some (.iconst 0, 1, 0, 0) := by decide +kernel
theorem c178_3 : gP 178 3 = some (.aload 0, 1, 0, 0) := by decide +kernel
theorem c178_4 : gP 178 4 = some (.getfield 24, 3, 8, 44) := by decide +kernel
theorem c178_7 : gP 178 7 = some (.aload 0, 1, 0, 0) := by decide +kernel
theorem c178_8 : gP 178 8 = some (.getfield 18, 3, 8, 221) := by decide +kernel
theorem c178_11 : gP 178 11 = some (.iaload, 1, 0, 0) := by decide +kernel
theorem c178_12 : gP 178 12 = some (.iconst 1, 1, 0, 0) := by decide +kernel
theorem c178_13 : gP 178 13 = some (.isub, 1, 0, 0) := by decide +kernel
theorem c178_14 : gP 178 14 = some (.invokeinterface 22 126, 3, 3, 0) := by decide +kernel
theorem c178_17 : gP 178 17 = some (.invokeinterface 162 375, 3, 2, 1) := by decide +kernel
theorem c178_20 : gP 178 20 = some (.ifCond .ne 25, 3, 0, 0) := by decide +kernel
theorem c178_23 : gP 178 23 = some (.iconst 0, 1, 0, 0) := by decide +kernel
theorem c178_24 : gP 178 24 = some (.ireturn, 1, 0, 0) := by decide +kernel
theorem c180_0 : gP 180 0 = some (.aload 0, 1, 0, 0) := by decide +kernel
theorem c180_1 : gP 180 1 = some (.iload 1, 1, 0, 0) := by decide +kernel
theorem c180_2 : gP 180 2 = some (.invokeinterface 156 80, 3, 2, 1) := by decide +kernel
theorem c180_5 : gP 180 5 = some (.ifCond .eq 16, 3, 0, 0) := by decide +kernel
theorem c180_16 : gP 180 16 = some (.athrow, 89, 11, 87) := by decide +kernel
theorem c181_0 : gP 181 0 = some (.aload 3, 1, 0, 0) := by decide +kernel
theorem c181_1 : gP 181 1 = some (.iconst 0, 1, 0, 0) := by decide +kernel
theorem c181_2 : gP 181 2 = some (.aload 0, 1, 0, 0) := by decide +kernel
theorem c181_3 : gP 181 3 = some (.iload 1, 1, 0, 0) := by decide +kernel
theorem c181_4 : gP 181 4 = some (.iload 2, 1, 0, 0) := by decide +kernel
theorem c181_5 : gP 181 5 = some (.invokeinterface 180 44, 3, 3, 1) := by decide +kernel
theorem c181_13 : gP 181 13 = some (.astore 4, 2, 0, 0) := by decide +kernel
theorem c181_15 : gP 181 15 = some (.iconst 1, 1, 0, 0) := by decide +kernel
theorem c181_16 : gP 181 16 = some (.ireturn, 1, 0, 0) := by decide +kernel
theorem c182_0 : gP 182 0 = some (.aload 0, 1, 0, 0) := by decide +kernel
theorem c182_1 : gP 182 1 = some (.aload 0, 1, 0, 0) := by decide +kernel
theorem c182_2 : gP 182 2 = some (.iload 1, 1, 0, 0) := by decide +kernel
theorem c182_3 : gP 182 3 = some (.invokeinterface 160 369, 3, 2, 1) := by decide +kernel
theorem c182_6 : gP 182 6 = some (.ifCond .eq 21, 3, 0, 0) := by decide +kernel
theorem c182_21 : gP 182 21 = some (.iconst 0, 1, 0, 0) := by decide +kernel
theorem c182_22 : gP 182 22 = some (.invokeinterface 162 375, 3, 2, 1) := by decide +kernel
theorem c182_25 : gP 182 25 = some (.ifCond .ne 30, 3, 0, 0) := by decide +kernel
theorem c182_28 : gP 182 28 = some (.iconst 0, 1, 0, 0) := by decide +kernel
theorem c182_29 : gP 182 29 = some (.ireturn, 1, 0, 0) := by decide +kernel
theorem c183_0 : gP 183 0 = some (.aload 0, 1, 0, 0) := by decide +kernel
theorem c183_1 : gP 183 1 = some (.iload 1, 1, 0, 0) := by decide +kernel
theorem c183_2 : gP 183 2 = some (.invokeinterface 167 108, 3, 2, 1) := by decide +kernel
theorem c183_5 : gP 183 5 = some (.ifCond .ne 16, 3, 0, 0) := by decide +kernel
theorem c183_8 : gP 183 8 = some (.athrow, 89, 11, 87) := by decide +kernel
theorem c184_0 : gP 184 0 = some (.aload 3, 1, 0, 0) := by decide +kernel
theorem c184_1 : gP 184 1 = some (.iconst 0, 1, 0, 0) := by decide +kernel
theorem c184_2 : gP 184 2 = some (.aload 0, 1, 0, 0) := by decide +kernel
theorem c184_3 : gP 184 3 = some (.iload 1, 1, 0, 0) := by decide +kernel
theorem c184_4 : gP 184 4 = some (.iload 2, 1, 0, 0) := by decide +kernel
theorem c184_5 : gP 184 5 = some (.invokeinterface 183 47, 3, 3, 1) := by decide +kernel
theorem c184_13 : gP 184 13 = some (.astore 4, 2, 0, 0) := by decide +kernel
theorem c184_15 : gP 184 15 = some (.iconst 1, 1, 0, 0) := by decide +kernel
theorem c184_16 : gP 184 16 = some (.ireturn, 1, 0, 0) := by decide +kernel
theorem c185_0 : gP 185 0 = some (.aload 0, 1, 0, 0) := by decide +kernel
theorem c185_1 : gP 185 1 = some (.aload 0, 1, 0, 0) := by decide +kernel
theorem c185_2 : gP 185 2 = some (.iload 1, 1, 0, 0) := by decide +kernel
theorem c185_3 : gP 185 3 = some (.invokeinterface 170 378, 3, 2, 1) := by decide +kernel
theorem c185_6 : gP 185 6 = some (.invokeinterface 162 375, 3, 2, 1) := by decide +kernel
theorem c185_9 : gP 185 9 = some (.ifCond .ne 14, 3, 0, 0) := by decide +kernel
theorem c185_12 : gP 185 12 = some (.iconst 0, 1, 0, 0) := by decide +kernel
theorem c185_13 : gP 185 13 = some (.ireturn, 1, 0, 0) := by decide +kernel
theorem c199_0 : gP 199 0 = some (.aload 0, 1, 0, 0) := by decide +kernel
theorem c199_1 : gP 199 1 = some (.getfield 4, 3, 7, 37) := by decide +kernel
theorem c199_4 : gP 199 4 = some (.getfield 17, 3, 6, 154) := by decide +kernel
theorem c199_7 : gP 199 7 = some (.iconst (-1), 1, 0, 0) := by decide +kernel
theorem c199_8 : gP 199 8 = some (.if_icmp .ne 19, 3, 0, 0) := by decide +kernel
theorem c199_11 : gP 199 11 = some (.athrow, 89, 11, 87) := by decide +kernel
theorem c200_0 : gP 200 0 = some (.aload 1, 1, 0, 0) := by decide +kernel
theorem c200_1 : gP 200 1 = some (.iconst 0, 1, 0, 0) := by decide +kernel
theorem c200_2 : gP 200 2 = some (.aload 0, 1, 0, 0) := by decide +kernel
theorem c200_3 : gP 200 3 = some (.invokeinterface 199 50, 3, 1, 1) := by decide +kernel
theorem c200_11 : gP 200 11 = some (.astore 2, 1, 0, 0) := by decide +kernel
theorem c200_12 : gP 200 12 = some (.iconst 1, 1, 0, 0) := by decide +kernel
theorem c200_13 : gP 200 13 = some (.ireturn, 1, 0, 0) := by decide +kernel
theorem c211_0 : gP 211 0 = some (.aload 0, 1, 0, 0) := by decide +kernel
theorem c211_1 : gP 211 1 = some (.aload 0, 1, 0, 0) := by decide +kernel
theorem c211_2 : gP 211 2 = some (.getfield 19, 3, 8, 322) := by decide +kernel
theorem c211_5 : gP 211 5 = some (.ifCond .eq 19, 3, 0, 0) := by decide +kernel
theorem c211_19 : gP 211 19 = some (.iconst 0, 1, 0, 0) := by decide +kernel
theorem c211_20 : gP 211 20 = some (.invokeinterface 162 375, 3, 2, 1) := by decide +kernel
theorem c211_23 : gP 211 23 = some (.ifCond .ne 28, 3, 0, 0) := by decide +kernel
theorem c211_26 : gP 211 26 = some (.iconst 0, 1, 0, 0) := by decide +kernel
theorem c211_27 : gP 211 27 = some (.ireturn, 1, 0, 0) := by decide +kernel
theorem c212_0 : gP 212 0 = some (.aload 0, 1, 0, 0) := by decide +kernel
theorem c212_1 : gP 212 1 = some (.iload 1, 1, 0, 0) := by decide +kernel
theorem c212_2 : gP 212 2 = some (.invokeinterface 156 80, 3, 2, 1) := by decide +kernel
theorem c212_5 : gP 212 5 = some (.ifCond .eq 16, 3, 0, 0) := by decide +kernel
theorem c212_16 : gP 212 16 = some (.athrow, 89, 11, 87) := by decide +kernel
theorem c213_0 : gP 213 0 = some (.aload 3, 1, 0, 0) := by decide +kernel
theorem c213_1 : gP 213 1 = some (.iconst 0, 1, 0, 0) := by decide +kernel
theorem c213_2 : gP 213 2 = some (.aload 0, 1, 0, 0) := by decide +kernel
theorem c213_3 : gP 213 3 = some (.iload 1, 1, 0, 0) := by decide +kernel
theorem c213_4 : gP 213 4 = some (.iload 2, 1, 0, 0) := by decide +kernel
theorem c213_5 : gP 213 5 = some (.invokeinterface 212 57, 3, 3, 1) := by decide +kernel
theorem c213_13 : gP 213 13 = some (.astore 4, 2, 0, 0) := by decide +kernel
theorem c213_15 : gP 213 15 = some (.iconst 1, 1, 0, 0) := by decide +kernel
theorem c213_16 : gP 213 16 = some (.ireturn, 1, 0, 0) := by decide +kernel
theorem c214_0 : gP 214 0 = some (.aload 0, 1, 0, 0) := by decide +kernel
theorem c214_1 : gP 214 1 = some (.aload 0, 1, 0, 0) := by decide +kernel
theorem c214_2 : gP 214 2 = some (.iload 1, 1, 0, 0) := by decide +kernel
theorem c214_3 : gP 214 3 = some (.invokeinterface 160 369, 3, 2, 1) := by decide +kernel
theorem c214_6 : gP 214 6 = some (.ifCond .eq 21, 3, 0, 0) := by decide +kernel
theorem c214_21 : gP 214 21 = some (.iconst 0, 1, 0, 0) := by decide +kernel
theorem c214_22 : gP 214 22 = some (.invokeinterface 162 375, 3, 2, 1) := by decide +kernel
theorem c214_25 : gP 214 25 = some (.ifCond .eq 46, 3, 0, 0) := by decide +kernel
theorem c214_46 : gP 214 46 = some (.iconst 0, 1, 0, 0) := by decide +kernel
theorem c214_47 : gP 214 47 = some (.ireturn, 1, 0, 0) := by decide +kernel
theorem c215_0 : gP 215 0 = some (.iload 1, 1, 0, 0) := by decide +kernel
theorem c215_1 : gP 215 1 = some (.tableswitch 132 0 9 #[55, 63, 71, 79, 87, 95, 103, 111, 119, 127], 55, 0, 0) := by decide +kernel
theorem c215_56 : gP 215 56 = some (.aload 0, 1, 0, 0) := by decide +kernel
theorem c215_57 : gP 215 57 = some (.getfield 4, 3, 7, 37) := by decide +kernel
theorem c215_60 : gP 215 60 = some (.getfield 9, 3, 6, 166) := by decide +kernel
theorem c215_63 : gP 215 63 = some (.ireturn, 1, 0, 0) := by decide +kernel
theorem c215_64 : gP 215 64 = some (.aload 0, 1, 0, 0) := by decide +kernel
theorem c215_65 : gP 215 65 = some (.getfield 4, 3, 7, 37) := by decide +kernel
theorem c215_68 : gP 215 68 = some (.getfield 10, 3, 6, 169) := by decide +kernel
theorem c215_71 : gP 215 71 = some (.ireturn, 1, 0, 0) := by decide +kernel
theorem c215_72 : gP 215 72 = some (.aload 0, 1, 0, 0) := by decide +kernel
theorem c215_73 : gP 215 73 = some (.getfield 4, 3, 7, 37) := by decide +kernel
theorem c215_76 : gP 215 76 = some (.getfield 11, 3, 6, 94) := by decide +kernel
theorem c215_79 : gP 215 79 = some (.ireturn, 1, 0, 0) := by decide +kernel
theorem c215_80 : gP 215 80 = some (.aload 0, 1, 0, 0) := by decide +kernel
theorem c215_81 : gP 215 81 = some (.getfield 4, 3, 7, 37) := by decide +kernel
theorem c215_84 : gP 215 84 = some (.getfield 12, 3, 6, 105) := by decide +kernel
theorem c215_87 : gP 215 87 = some (.ireturn, 1, 0, 0) := by decide +kernel
theorem c215_88 : gP 215 88 = some (.aload 0, 1, 0, 0) := by decide +kernel
theorem c215_89 : gP 215 89 = some (.getfield 4, 3, 7, 37) := by decide +kernel
theorem c215_92 : gP 215 92 = some (.getfield 13, 3, 6, 118) := by decide +kernel
theorem c215_95 : gP 215 95 = some (.ireturn, 1, 0, 0) := by decide +kernel
theorem c215_96 : gP 215 96 = some (.aload 0, 1, 0, 0) := by decide +kernel
theorem c215_97 : gP 215 97 = some (.getfield 4, 3, 7, 37) := by decide +kernel
theorem c215_100 : gP 215 100 = some (.getfield 14, 3, 6, 172) := by decide +kernel
theorem c215_103 : gP 215 103 = some (.ireturn, 1, 0, 0) := by decide +kernel
theorem c215_104 : gP 215 104 = some (.aload 0, 1, 0, 0) := by decide +kernel
theorem c215_105 : gP 215 105 = some (.getfield 4, 3, 7, 37) := by decide +kernel
theorem c215_108 : gP 215 108 = some (.getfield 15, 3, 6, 175) := by decide +kernel
theorem c215_111 : gP 215 111 = some (.ireturn, 1, 0, 0) := by decide +kernel
theorem c215_112 : gP 215 112 = some (.aload 0, 1, 0, 0) := by decide +kernel
theorem c215_113 : gP 215 113 = some (.getfield 2, 3, 7, 23) := by decide +kernel
theorem c215_116 : gP 215 116 = some (.getfield 6, 3, 2, 178) := by decide +kernel
theorem c215_119 : gP 215 119 = some (.ireturn, 1, 0, 0) := by decide +kernel
theorem c215_120 : gP 215 120 = some (.aload 0, 1, 0, 0) := by decide +kernel
theorem c215_121 : gP 215 121 = some (.getfield 3, 3, 7, 30) := by decide +kernel
theorem c215_124 : gP 215 124 = some (.getfield 5, 3, 3, 181) := by decide +kernel
theorem c215_127 : gP 215 127 = some (.ireturn, 1, 0, 0) := by decide +kernel
theorem c215_128 : gP 215 128 = some (.aload 0, 1, 0, 0) := by decide +kernel
theorem c215_129 : gP 215 129 = some (.getfield 6, 3, 7, 55) := by decide +kernel
theorem c215_132 : gP 215 132 = some (.ireturn, 1, 0, 0) := by decide +kernel
theorem c215_133 : gP 215 133 = some (.athrow, 54, 9, 52) := by decide +kernel
theorem c216_0 : gP 216 0 = some (.aload 2, 1, 0, 0) := by decide +kernel
theorem c216_1 : gP 216 1 = some (.iconst 0, 1, 0, 0) := by decide +kernel
theorem c216_2 : gP 216 2 = some (.aload 0, 1, 0, 0) := by decide +kernel
theorem c216_3 : gP 216 3 = some (.iload 1, 1, 0, 0) := by decide +kernel
theorem c216_4 : gP 216 4 = some (.invokeinterface 215 60, 3, 2, 1) := by decide +kernel
theorem c216_7 : gP 216 7 = some (.i2l, 1, 0, 0) := by decide +kernel
theorem c216_8 : gP 216 8 = some (.lastore, 1, 0, 0) := by decide +kernel
theorem c216_9 : gP 216 9 = some (.goto 15, 3, 0, 0) := by decide +kernel
theorem c216_12 : gP 216 12 = some (.astore 3, 1, 0, 0) := by decide +kernel
theorem c216_13 : gP 216 13 = some (.iconst 1, 1, 0, 0) := by decide +kernel
theorem c216_14 : gP 216 14 = some (.ireturn, 1, 0, 0) := by decide +kernel
theorem c216_15 : gP 216 15 = some (.iconst 0, 1, 0, 0) := by decide +kernel
theorem c216_16 : gP 216 16 = some (.ireturn, 1, 0, 0) := by decide +kernel
theorem c217_0 : gP 217 0 = some (.aload 0, 1, 0, 0) := by decide +kernel
theorem c217_1 : gP 217 1 = some (.iload 1, 1, 0, 0) := by decide +kernel
theorem c217_2 : gP 217 2 = some (.iconst 0, 1, 0, 0) := by decide +kernel
theorem c217_3 : gP 217 3 = some (.iconst 9, 2, 0, 0) := by decide +kernel
theorem c217_5 : gP 217 5 = some (.invokeinterface 22 126, 3, 3, 0) := by decide +kernel
theorem c217_8 : gP 217 8 = some (.iconst 1, 1, 0, 0) := by decide +kernel
theorem c217_9 : gP 217 9 = some (.invokeinterface 23 130, 3, 3, 1) := by decide +kernel
theorem c217_12 : gP 217 12 = some (.ifCond .ne 17, 3, 0, 0) := by decide +kernel
theorem c217_15 : gP 217 15 = some (.iconst 0, 1, 0, 0) := by decide +kernel
theorem c217_16 : gP 217 16 = some (.ireturn, 1, 0, 0) := by decide +kernel
theorem c217_17 : gP 217 17 = some (.iload 1, 1, 0, 0) := by decide +kernel
theorem c217_18 : gP 217 18 = some (.iconst 9, 2, 0, 0) := by decide +kernel
theorem c217_20 : gP 217 20 = some (.if_icmp .ne 28, 3, 0, 0) := by decide +kernel
theorem c217_23 : gP 217 23 = some (.aload 0, 1, 0, 0) := by decide +kernel
theorem c217_24 : gP 217 24 = some (.getfield 1, 3, 8, 138) := by decide +kernel
theorem c217_27 : gP 217 27 = some (.ireturn, 1, 0, 0) := by decide +kernel
theorem c217_28 : gP 217 28 = some (.aload 0, 1, 0, 0) := by decide +kernel
theorem c217_29 : gP 217 29 = some (.getfield 19, 3, 8, 322) := by decide +kernel
theorem c217_32 : gP 217 32 = some (.ifCond .ne 37, 3, 0, 0) := by decide +kernel
theorem c217_35 : gP 217 35 = some (.iconst 0, 1, 0, 0) := by decide +kernel
theorem c217_36 : gP 217 36 = some (.ireturn, 1, 0, 0) := by decide +kernel
theorem c218_0 : gP 218 0 = some (.new 7, 3, 8, 0) := by decide +kernel
theorem c218_3 : gP 218 3 = some (.dup, 1, 0, 0) := by decide +kernel
theorem c218_4 : gP 218 4 = some (.invokeinterface 16 63, 3, 1, 2) := by decide +kernel
theorem c218_7 : gP 218 7 = some (.astore 1, 1, 0, 0) := by decide +kernel
theorem c218_8 : gP 218 8 = some (.new 8, 3, 64, 0) := by decide +kernel
theorem c218_11 : gP 218 11 = some (.dup, 1, 0, 0) := by decide +kernel
theorem c218_12 : gP 218 12 = some (.invokeinterface 17 66, 3, 1, 2) := by decide +kernel
theorem c218_15 : gP 218 15 = some (.astore 2, 1, 0, 0) := by decide +kernel
theorem c218_16 : gP 218 16 = some (.iconst 1, 1, 0, 0) := by decide +kernel
theorem c218_17 : gP 218 17 = some (.newarray .long, 2, 5, 0) := by decide +kernel
theorem c218_19 : gP 218 19 = some (.astore 3, 1, 0, 0) := by decide +kernel
theorem c218_20 : gP 218 20 = some (.iconst 0, 1, 0, 0) := by decide +kernel
theorem c218_21 : gP 218 21 = some (.istore 4, 2, 0, 0) := by decide +kernel
theorem c218_23 : gP 218 23 = some (.iload 4, 2, 0, 0) := by decide +kernel
theorem c218_25 : gP 218 25 = some (.aload 0, 1, 0, 0) := by decide +kernel
theorem c218_26 : gP 218 26 = some (.arraylength, 1, 0, 0) := by decide +kernel
theorem c218_27 : gP 218 27 = some (.iconst 4, 1, 0, 0) := by decide +kernel
theorem c218_28 : gP 218 28 = some (.isub, 1, 0, 0) := by decide +kernel
theorem c218_29 : gP 218 29 = some (.if_icmp .gt 959, 3, 0, 0) := by decide +kernel
theorem c218_32 : gP 218 32 = some (.aload 0, 1, 0, 0) := by decide +kernel
theorem c218_33 : gP 218 33 = some (.iload 4, 2, 0, 0) := by decide +kernel
theorem c218_35 : gP 218 35 = some (.iaload, 1, 0, 0) := by decide +kernel
theorem c218_36 : gP 218 36 = some (.iconst 15, 2, 0, 0) := by decide +kernel
theorem c218_38 : gP 218 38 = some (.iand, 1, 0, 0) := by decide +kernel
theorem c218_39 : gP 218 39 = some (.tableswitch 914 0 13 #[69, 169, 225, 269, 282, 350, 430, 498, 554, 610, 678, 746, 790, 858], 69, 0, 0) := by decide +kernel
theorem c218_108 : gP 218 108 = some (.aload 1, 1, 0, 0) := by decide +kernel
theorem c218_109 : gP 218 109 = some (.aload 0, 1, 0, 0) := by decide +kernel
theorem c218_110 : gP 218 110 = some (.iload 4, 2, 0, 0) := by decide +kernel
theorem c218_112 : gP 218 112 = some (.iconst 1, 1, 0, 0) := by decide +kernel
theorem c218_113 : gP 218 113 = some (.iadd, 1, 0, 0) := by decide +kernel
theorem c218_114 : gP 218 114 = some (.iaload, 1, 0, 0) := by decide +kernel
theorem c218_115 : gP 218 115 = some (.i2l, 1, 0, 0) := by decide +kernel
theorem c218_116 : gP 218 116 = some (.iconst 32, 2, 0, 0) := by decide +kernel
theorem c218_118 : gP 218 118 = some (.lshl, 1, 0, 0) := by decide +kernel
theorem c218_119 : gP 218 119 = some (.aload 0, 1, 0, 0) := by decide +kernel
theorem c218_120 : gP 218 120 = some (.iload 4, 2, 0, 0) := by decide +kernel
theorem c218_122 : gP 218 122 = some (.iconst 2, 1, 0, 0) := by decide +kernel
theorem c218_123 : gP 218 123 = some (.iadd, 1, 0, 0) := by decide +kernel
theorem c218_124 : gP 218 124 = some (.iaload, 1, 0, 0) := by decide +kernel
theorem c218_125 : gP 218 125 = some (.i2l, 1, 0, 0) := by decide +kernel
theorem c218_126 : gP 218 126 = some (.goto_w 4294967295, 3, 67, 0) := by decide +kernel
theorem c218_129 : gP 218 129 = some (.land, 1, 0, 0) := by decide +kernel
theorem c218_130 : gP 218 130 = some (.lor, 1, 0, 0) := by decide +kernel
theorem c218_131 : gP 218 131 = some (.aload 0, 1, 0, 0) := by decide +kernel
theorem c218_132 : gP 218 132 = some (.iload 4, 2, 0, 0) := by decide +kernel
theorem c218_134 : gP 218 134 = some (.iconst 3, 1, 0, 0) := by decide +kernel
theorem c218_135 : gP 218 135 = some (.iadd, 1, 0, 0) := by decide +kernel
theorem c218_136 : gP 218 136 = some (.iaload, 1, 0, 0) := by decide +kernel
theorem c218_137 : gP 218 137 = some (.aload 3, 1, 0, 0) := by decide +kernel
theorem c218_138 : gP 218 138 = some (.invokeinterface 21 69, 3, 4, 0) := by decide +kernel
theorem c218_141 : gP 218 141 = some (.istore 5, 2, 0, 0) := by decide +kernel
theorem c218_143 : gP 218 143 = some (.aload 2, 1, 0, 0) := by decide +kernel
theorem c218_144 : gP 218 144 = some (.aload 0, 1, 0, 0) := by decide +kernel
theorem c218_145 : gP 218 145 = some (.iload 4, 2, 0, 0) := by decide +kernel
theorem c218_147 : gP 218 147 = some (.iconst 1, 1, 0, 0) := by decide +kernel
theorem c218_148 : gP 218 148 = some (.iadd, 1, 0, 0) := by decide +kernel
theorem c218_149 : gP 218 149 = some (.iaload, 1, 0, 0) := by decide +kernel
theorem c218_150 : gP 218 150 = some (.i2l, 1, 0, 0) := by decide +kernel
theorem c218_151 : gP 218 151 = some (.iconst 32, 2, 0, 0) := by decide +kernel
theorem c218_153 : gP 218 153 = some (.lshl, 1, 0, 0) := by decide +kernel
theorem c218_154 : gP 218 154 = some (.aload 0, 1, 0, 0) := by decide +kernel
theorem c218_155 : gP 218 155 = some (.iload 4, 2, 0, 0) := by decide +kernel
theorem c218_157 : gP 218 157 = some (.iconst 2, 1, 0, 0) := by decide +kernel
theorem c218_158 : gP 218 158 = some (.iadd, 1, 0, 0) := by decide +kernel
theorem c218_159 : gP 218 159 = some (.iaload, 1, 0, 0) := by decide +kernel
theorem c218_160 : gP 218 160 = some (.i2l, 1, 0, 0) := by decide +kernel
theorem c218_161 : gP 218 161 = some (.goto_w 4294967295, 3, 67, 0) := by decide +kernel
theorem c218_164 : gP 218 164 = some (.land, 1, 0, 0) := by decide +kernel
theorem c218_165 : gP 218 165 = some (.lor, 1, 0, 0) := by decide +kernel
theorem c218_166 : gP 218 166 = some (.aload 0, 1, 0, 0) := by decide +kernel
theorem c218_167 : gP 218 167 = some (.iload 4, 2, 0, 0) := by decide +kernel
theorem c218_169 : gP 218 169 = some (.iconst 3, 1, 0, 0) := by decide +kernel
theorem c218_170 : gP 218 170 = some (.iadd, 1, 0, 0) := by decide +kernel
theorem c218_171 : gP 218 171 = some (.iaload, 1, 0, 0) := by decide +kernel
theorem c218_172 : gP 218 172 = some (.invokeinterface 25 74, 3, 3, 1) := by decide +kernel
theorem c218_175 : gP 218 175 = some (.istore 6, 2, 0, 0) := by decide +kernel
theorem c218_177 : gP 218 177 = some (.aload 2, 1, 0, 0) := by decide +kernel
theorem c218_178 : gP 218 178 = some (.invokeinterface 26 75, 3, 1, 1) := by decide +kernel
theorem c218_181 : gP 218 181 = some (.iload 5, 2, 0, 0) := by decide +kernel
theorem c218_183 : gP 218 183 = some (.if_icmp .eq 188, 3, 0, 0) := by decide +kernel
theorem c218_188 : gP 218 188 = some (.iload 5, 2, 0, 0) := by decide +kernel
theorem c218_190 : gP 218 190 = some (.ifCond .ne 205, 3, 0, 0) := by decide +kernel
theorem c218_193 : gP 218 193 = some (.aload 3, 1, 0, 0) := by decide +kernel
theorem c218_194 : gP 218 194 = some (.iconst 0, 1, 0, 0) := by decide +kernel
theorem c218_195 : gP 218 195 = some (.laload, 1, 0, 0) := by decide +kernel
theorem c218_196 : gP 218 196 = some (.iload 6, 2, 0, 0) := by decide +kernel
theorem c218_198 : gP 218 198 = some (.i2l, 1, 0, 0) := by decide +kernel
theorem c218_199 : gP 218 199 = some (.lcmp, 1, 0, 0) := by decide +kernel
theorem c218_200 : gP 218 200 = some (.ifCond .eq 205, 3, 0, 0) := by decide +kernel
theorem c218_205 : gP 218 205 = some (.goto 953, 3, 0, 0) := by decide +kernel
theorem c218_208 : gP 218 208 = some (.aload 1, 1, 0, 0) := by decide +kernel
theorem c218_209 : gP 218 209 = some (.aload 0, 1, 0, 0) := by decide +kernel
theorem c218_210 : gP 218 210 = some (.iload 4, 2, 0, 0) := by decide +kernel
theorem c218_212 : gP 218 212 = some (.iconst 1, 1, 0, 0) := by decide +kernel
theorem c218_213 : gP 218 213 = some (.iadd, 1, 0, 0) := by decide +kernel
theorem c218_214 : gP 218 214 = some (.iaload, 1, 0, 0) := by decide +kernel
theorem c218_215 : gP 218 215 = some (.aload 3, 1, 0, 0) := by decide +kernel
theorem c218_216 : gP 218 216 = some (.invokeinterface 28 78, 3, 3, 0) := by decide +kernel
theorem c218_219 : gP 218 219 = some (.istore 5, 2, 0, 0) := by decide +kernel
theorem c218_221 : gP 218 221 = some (.aload 2, 1, 0, 0) := by decide +kernel
theorem c218_222 : gP 218 222 = some (.aload 0, 1, 0, 0) := by decide +kernel
theorem c218_223 : gP 218 223 = some (.iload 4, 2, 0, 0) := by decide +kernel
theorem c218_225 : gP 218 225 = some (.iconst 1, 1, 0, 0) := by decide +kernel
theorem c218_226 : gP 218 226 = some (.iadd, 1, 0, 0) := by decide +kernel
theorem c218_227 : gP 218 227 = some (.iaload, 1, 0, 0) := by decide +kernel
theorem c218_228 : gP 218 228 = some (.invokeinterface 29 81, 3, 2, 1) := by decide +kernel
theorem c218_231 : gP 218 231 = some (.istore 6, 2, 0, 0) := by decide +kernel
theorem c218_233 : gP 218 233 = some (.aload 2, 1, 0, 0) := by decide +kernel
theorem c218_234 : gP 218 234 = some (.invokeinterface 26 75, 3, 1, 1) := by decide +kernel
theorem c218_237 : gP 218 237 = some (.iload 5, 2, 0, 0) := by decide +kernel
theorem c218_239 : gP 218 239 = some (.if_icmp .eq 244, 3, 0, 0) := by decide +kernel
theorem c218_244 : gP 218 244 = some (.iload 5, 2, 0, 0) := by decide +kernel
theorem c218_246 : gP 218 246 = some (.ifCond .ne 261, 3, 0, 0) := by decide +kernel
theorem c218_249 : gP 218 249 = some (.aload 3, 1, 0, 0) := by decide +kernel
theorem c218_250 : gP 218 250 = some (.iconst 0, 1, 0, 0) := by decide +kernel
theorem c218_251 : gP 218 251 = some (.laload, 1, 0, 0) := by decide +kernel
theorem c218_252 : gP 218 252 = some (.iload 6, 2, 0, 0) := by decide +kernel
theorem c218_254 : gP 218 254 = some (.i2l, 1, 0, 0) := by decide +kernel
theorem c218_255 : gP 218 255 = some (.lcmp, 1, 0, 0) := by decide +kernel
theorem c218_256 : gP 218 256 = some (.ifCond .eq 261, 3, 0, 0) := by decide +kernel
theorem c218_261 : gP 218 261 = some (.goto 953, 3, 0, 0) := by decide +kernel
theorem c218_264 : gP 218 264 = some (.aload 1, 1, 0, 0) := by decide +kernel
theorem c218_265 : gP 218 265 = some (.aload 3, 1, 0, 0) := by decide +kernel
theorem c218_266 : gP 218 266 = some (.invokeinterface 95 82, 3, 2, 0) := by decide +kernel
theorem c218_269 : gP 218 269 = some (.istore 5, 2, 0, 0) := by decide +kernel
theorem c218_271 : gP 218 271 = some (.aload 2, 1, 0, 0) := by decide +kernel
theorem c218_272 : gP 218 272 = some (.invokeinterface 152 85, 3, 1, 1) := by decide +kernel
theorem c218_275 : gP 218 275 = some (.istore 6, 2, 0, 0) := by decide +kernel
theorem c218_277 : gP 218 277 = some (.aload 2, 1, 0, 0) := by decide +kernel
theorem c218_278 : gP 218 278 = some (.invokeinterface 26 75, 3, 1, 1) := by decide +kernel
theorem c218_281 : gP 218 281 = some (.iload 5, 2, 0, 0) := by decide +kernel
theorem c218_283 : gP 218 283 = some (.if_icmp .eq 288, 3, 0, 0) := by decide +kernel
theorem c218_288 : gP 218 288 = some (.iload 5, 2, 0, 0) := by decide +kernel
theorem c218_290 : gP 218 290 = some (.ifCond .ne 305, 3, 0, 0) := by decide +kernel
theorem c218_305 : gP 218 305 = some (.goto 953, 3, 0, 0) := by decide +kernel
theorem c218_308 : gP 218 308 = some (.aload 1, 1, 0, 0) := by decide +kernel
theorem c218_309 : gP 218 309 = some (.invokeinterface 153 86, 3, 1, 1) := by decide +kernel
theorem c218_312 : gP 218 312 = some (.aload 2, 1, 0, 0) := by decide +kernel
theorem c218_313 : gP 218 313 = some (.invokeinterface 154 89, 3, 1, 1) := by decide +kernel
theorem c218_316 : gP 218 316 = some (.if_icmp .eq 953, 3, 0, 0) := by decide +kernel
theorem c218_321 : gP 218 321 = some (.aload 1, 1, 0, 0) := by decide +kernel
theorem c218_322 : gP 218 322 = some (.aload 0, 1, 0, 0) := by decide +kernel
theorem c218_323 : gP 218 323 = some (.iload 4, 2, 0, 0) := by decide +kernel
theorem c218_325 : gP 218 325 = some (.iconst 1, 1, 0, 0) := by decide +kernel
theorem c218_326 : gP 218 326 = some (.iadd, 1, 0, 0) := by decide +kernel
theorem c218_327 : gP 218 327 = some (.iaload, 1, 0, 0) := by decide +kernel
theorem c218_328 : gP 218 328 = some (.aload 0, 1, 0, 0) := by decide +kernel
theorem c218_329 : gP 218 329 = some (.iload 4, 2, 0, 0) := by decide +kernel
theorem c218_331 : gP 218 331 = some (.iconst 2, 1, 0, 0) := by decide +kernel
theorem c218_332 : gP 218 332 = some (.iadd, 1, 0, 0) := by decide +kernel
theorem c218_333 : gP 218 333 = some (.iaload, 1, 0, 0) := by decide +kernel
theorem c218_334 : gP 218 334 = some (.aload 3, 1, 0, 0) := by decide +kernel
theorem c218_335 : gP 218 335 = some (.invokeinterface 159 90, 3, 4, 0) := by decide +kernel
theorem c218_338 : gP 218 338 = some (.istore 5, 2, 0, 0) := by decide +kernel
theorem c218_340 : gP 218 340 = some (.aload 2, 1, 0, 0) := by decide +kernel
theorem c218_341 : gP 218 341 = some (.aload 0, 1, 0, 0) := by decide +kernel
theorem c218_342 : gP 218 342 = some (.iload 4, 2, 0, 0) := by decide +kernel
theorem c218_344 : gP 218 344 = some (.iconst 1, 1, 0, 0) := by decide +kernel
theorem c218_345 : gP 218 345 = some (.iadd, 1, 0, 0) := by decide +kernel
theorem c218_346 : gP 218 346 = some (.iaload, 1, 0, 0) := by decide +kernel
theorem c218_347 : gP 218 347 = some (.aload 0, 1, 0, 0) := by decide +kernel
theorem c218_348 : gP 218 348 = some (.iload 4, 2, 0, 0) := by decide +kernel
theorem c218_350 : gP 218 350 = some (.iconst 2, 1, 0, 0) := by decide +kernel
theorem c218_351 : gP 218 351 = some (.iadd, 1, 0, 0) := by decide +kernel
theorem c218_352 : gP 218 352 = some (.iaload, 1, 0, 0) := by decide +kernel
theorem c218_353 : gP 218 353 = some (.invokeinterface 163 93, 3, 3, 1) := by decide +kernel
theorem c218_356 : gP 218 356 = some (.istore 6, 2, 0, 0) := by decide +kernel
theorem c218_358 : gP 218 358 = some (.aload 2, 1, 0, 0) := by decide +kernel
theorem c218_359 : gP 218 359 = some (.invokeinterface 26 75, 3, 1, 1) := by decide +kernel
theorem c218_362 : gP 218 362 = some (.iload 5, 2, 0, 0) := by decide +kernel
theorem c218_364 : gP 218 364 = some (.if_icmp .eq 369, 3, 0, 0) := by decide +kernel
theorem c218_369 : gP 218 369 = some (.iload 5, 2, 0, 0) := by decide +kernel
theorem c218_371 : gP 218 371 = some (.ifCond .ne 386, 3, 0, 0) := by decide +kernel
theorem c218_386 : gP 218 386 = some (.goto 953, 3, 0, 0) := by decide +kernel
theorem c218_389 : gP 218 389 = some (.aload 1, 1, 0, 0) := by decide +kernel
theorem c218_390 : gP 218 390 = some (.aload 0, 1, 0, 0) := by decide +kernel
theorem c218_391 : gP 218 391 = some (.iload 4, 2, 0, 0) := by decide +kernel
theorem c218_393 : gP 218 393 = some (.iconst 1, 1, 0, 0) := by decide +kernel
theorem c218_394 : gP 218 394 = some (.iadd, 1, 0, 0) := by decide +kernel
theorem c218_395 : gP 218 395 = some (.iaload, 1, 0, 0) := by decide +kernel
theorem c218_396 : gP 218 396 = some (.aload 0, 1, 0, 0) := by decide +kernel
theorem c218_397 : gP 218 397 = some (.iload 4, 2, 0, 0) := by decide +kernel
theorem c218_399 : gP 218 399 = some (.iconst 2, 1, 0, 0) := by decide +kernel
theorem c218_400 : gP 218 400 = some (.iadd, 1, 0, 0) := by decide +kernel
theorem c218_401 : gP 218 401 = some (.iaload, 1, 0, 0) := by decide +kernel
theorem c218_402 : gP 218 402 = some (.aload 0, 1, 0, 0) := by decide +kernel
theorem c218_403 : gP 218 403 = some (.iload 4, 2, 0, 0) := by decide +kernel
theorem c218_405 : gP 218 405 = some (.iconst 3, 1, 0, 0) := by decide +kernel
theorem c218_406 : gP 218 406 = some (.iadd, 1, 0, 0) := by decide +kernel
theorem c218_407 : gP 218 407 = some (.iaload, 1, 0, 0) := by decide +kernel
theorem c218_408 : gP 218 408 = some (.aload 3, 1, 0, 0) := by decide +kernel
theorem c218_409 : gP 218 409 = some (.invokeinterface 165 94, 3, 5, 0) := by decide +kernel
theorem c218_412 : gP 218 412 = some (.istore 5, 2, 0, 0) := by decide +kernel
theorem c218_414 : gP 218 414 = some (.aload 2, 1, 0, 0) := by decide +kernel
theorem c218_415 : gP 218 415 = some (.aload 0, 1, 0, 0) := by decide +kernel
theorem c218_416 : gP 218 416 = some (.iload 4, 2, 0, 0) := by decide +kernel
theorem c218_418 : gP 218 418 = some (.iconst 1, 1, 0, 0) := by decide +kernel
theorem c218_419 : gP 218 419 = some (.iadd, 1, 0, 0) := by decide +kernel
theorem c218_420 : gP 218 420 = some (.iaload, 1, 0, 0) := by decide +kernel
theorem c218_421 : gP 218 421 = some (.aload 0, 1, 0, 0) := by decide +kernel
theorem c218_422 : gP 218 422 = some (.iload 4, 2, 0, 0) := by decide +kernel
theorem c218_424 : gP 218 424 = some (.iconst 2, 1, 0, 0) := by decide +kernel
theorem c218_425 : gP 218 425 = some (.iadd, 1, 0, 0) := by decide +kernel
theorem c218_426 : gP 218 426 = some (.iaload, 1, 0, 0) := by decide +kernel
theorem c218_427 : gP 218 427 = some (.aload 0, 1, 0, 0) := by decide +kernel
theorem c218_428 : gP 218 428 = some (.iload 4, 2, 0, 0) := by decide +kernel
theorem c218_430 : gP 218 430 = some (.iconst 3, 1, 0, 0) := by decide +kernel
theorem c218_431 : gP 218 431 = some (.iadd, 1, 0, 0) := by decide +kernel
theorem c218_432 : gP 218 432 = some (.iaload, 1, 0, 0) := by decide +kernel
theorem c218_433 : gP 218 433 = some (.invokeinterface 166 97, 3, 4, 1) := by decide +kernel
theorem c218_436 : gP 218 436 = some (.istore 6, 2, 0, 0) := by decide +kernel
theorem c218_438 : gP 218 438 = some (.aload 2, 1, 0, 0) := by decide +kernel
theorem c218_439 : gP 218 439 = some (.invokeinterface 26 75, 3, 1, 1) := by decide +kernel
theorem c218_442 : gP 218 442 = some (.iload 5, 2, 0, 0) := by decide +kernel
theorem c218_444 : gP 218 444 = some (.if_icmp .eq 449, 3, 0, 0) := by decide +kernel
theorem c218_449 : gP 218 449 = some (.iload 5, 2, 0, 0) := by decide +kernel
theorem c218_451 : gP 218 451 = some (.ifCond .ne 466, 3, 0, 0) := by decide +kernel
theorem c218_466 : gP 218 466 = some (.goto 953, 3, 0, 0) := by decide +kernel
theorem c218_469 : gP 218 469 = some (.aload 1, 1, 0, 0) := by decide +kernel
theorem c218_470 : gP 218 470 = some (.aload 0, 1, 0, 0) := by decide +kernel
theorem c218_471 : gP 218 471 = some (.iload 4, 2, 0, 0) := by decide +kernel
theorem c218_473 : gP 218 473 = some (.iconst 1, 1, 0, 0) := by decide +kernel
theorem c218_474 : gP 218 474 = some (.iadd, 1, 0, 0) := by decide +kernel
theorem c218_475 : gP 218 475 = some (.iaload, 1, 0, 0) := by decide +kernel
theorem c218_476 : gP 218 476 = some (.aload 0, 1, 0, 0) := by decide +kernel
theorem c218_477 : gP 218 477 = some (.iload 4, 2, 0, 0) := by decide +kernel
theorem c218_479 : gP 218 479 = some (.iconst 2, 1, 0, 0) := by decide +kernel
theorem c218_480 : gP 218 480 = some (.iadd, 1, 0, 0) := by decide +kernel
theorem c218_481 : gP 218 481 = some (.iaload, 1, 0, 0) := by decide +kernel
theorem c218_482 : gP 218 482 = some (.aload 3, 1, 0, 0) := by decide +kernel
theorem c218_483 : gP 218 483 = some (.invokeinterface 169 98, 3, 4, 0) := by decide +kernel
theorem c218_486 : gP 218 486 = some (.istore 5, 2, 0, 0) := by decide +kernel
theorem c218_488 : gP 218 488 = some (.aload 2, 1, 0, 0) := by decide +kernel
theorem c218_489 : gP 218 489 = some (.aload 0, 1, 0, 0) := by decide +kernel
theorem c218_490 : gP 218 490 = some (.iload 4, 2, 0, 0) := by decide +kernel
theorem c218_492 : gP 218 492 = some (.iconst 1, 1, 0, 0) := by decide +kernel
theorem c218_493 : gP 218 493 = some (.iadd, 1, 0, 0) := by decide +kernel
theorem c218_494 : gP 218 494 = some (.iaload, 1, 0, 0) := by decide +kernel
theorem c218_495 : gP 218 495 = some (.aload 0, 1, 0, 0) := by decide +kernel
theorem c218_496 : gP 218 496 = some (.iload 4, 2, 0, 0) := by decide +kernel
theorem c218_498 : gP 218 498 = some (.iconst 2, 1, 0, 0) := by decide +kernel
theorem c218_499 : gP 218 499 = some (.iadd, 1, 0, 0) := by decide +kernel
theorem c218_500 : gP 218 500 = some (.iaload, 1, 0, 0) := by decide +kernel
theorem c218_501 : gP 218 501 = some (.invokeinterface 171 100, 3, 3, 1) := by decide +kernel
theorem c218_504 : gP 218 504 = some (.istore 6, 2, 0, 0) := by decide +kernel
theorem c218_506 : gP 218 506 = some (.aload 2, 1, 0, 0) := by decide +kernel
theorem c218_507 : gP 218 507 = some (.invokeinterface 26 75, 3, 1, 1) := by decide +kernel
theorem c218_510 : gP 218 510 = some (.iload 5, 2, 0, 0) := by decide +kernel
theorem c218_512 : gP 218 512 = some (.if_icmp .eq 517, 3, 0, 0) := by decide +kernel
theorem c218_517 : gP 218 517 = some (.iload 5, 2, 0, 0) := by decide +kernel
theorem c218_519 : gP 218 519 = some (.ifCond .ne 534, 3, 0, 0) := by decide +kernel
theorem c218_534 : gP 218 534 = some (.goto 953, 3, 0, 0) := by decide +kernel
theorem c218_537 : gP 218 537 = some (.aload 1, 1, 0, 0) := by decide +kernel
theorem c218_538 : gP 218 538 = some (.aload 0, 1, 0, 0) := by decide +kernel
theorem c218_539 : gP 218 539 = some (.iload 4, 2, 0, 0) := by decide +kernel
theorem c218_541 : gP 218 541 = some (.iconst 1, 1, 0, 0) := by decide +kernel
theorem c218_542 : gP 218 542 = some (.iadd, 1, 0, 0) := by decide +kernel
theorem c218_543 : gP 218 543 = some (.iaload, 1, 0, 0) := by decide +kernel
theorem c218_544 : gP 218 544 = some (.aload 3, 1, 0, 0) := by decide +kernel
theorem c218_545 : gP 218 545 = some (.invokeinterface 173 101, 3, 3, 0) := by decide +kernel
theorem c218_548 : gP 218 548 = some (.istore 5, 2, 0, 0) := by decide +kernel
theorem c218_550 : gP 218 550 = some (.aload 2, 1, 0, 0) := by decide +kernel
theorem c218_551 : gP 218 551 = some (.aload 0, 1, 0, 0) := by decide +kernel
theorem c218_552 : gP 218 552 = some (.iload 4, 2, 0, 0) := by decide +kernel
theorem c218_554 : gP 218 554 = some (.iconst 1, 1, 0, 0) := by decide +kernel
theorem c218_555 : gP 218 555 = some (.iadd, 1, 0, 0) := by decide +kernel
theorem c218_556 : gP 218 556 = some (.iaload, 1, 0, 0) := by decide +kernel
theorem c218_557 : gP 218 557 = some (.invokeinterface 174 103, 3, 2, 1) := by decide +kernel
theorem c218_560 : gP 218 560 = some (.istore 6, 2, 0, 0) := by decide +kernel
theorem c218_562 : gP 218 562 = some (.aload 2, 1, 0, 0) := by decide +kernel
theorem c218_563 : gP 218 563 = some (.invokeinterface 26 75, 3, 1, 1) := by decide +kernel
theorem c218_566 : gP 218 566 = some (.iload 5, 2, 0, 0) := by decide +kernel
theorem c218_568 : gP 218 568 = some (.if_icmp .eq 573, 3, 0, 0) := by decide +kernel
theorem c218_573 : gP 218 573 = some (.iload 5, 2, 0, 0) := by decide +kernel
theorem c218_575 : gP 218 575 = some (.ifCond .ne 590, 3, 0, 0) := by decide +kernel
theorem c218_590 : gP 218 590 = some (.goto 953, 3, 0, 0) := by decide +kernel
theorem c218_593 : gP 218 593 = some (.aload 1, 1, 0, 0) := by decide +kernel
theorem c218_594 : gP 218 594 = some (.aload 0, 1, 0, 0) := by decide +kernel
theorem c218_595 : gP 218 595 = some (.iload 4, 2, 0, 0) := by decide +kernel
theorem c218_597 : gP 218 597 = some (.iconst 1, 1, 0, 0) := by decide +kernel
theorem c218_598 : gP 218 598 = some (.iadd, 1, 0, 0) := by decide +kernel
theorem c218_599 : gP 218 599 = some (.iaload, 1, 0, 0) := by decide +kernel
theorem c218_600 : gP 218 600 = some (.aload 3, 1, 0, 0) := by decide +kernel
theorem c218_601 : gP 218 601 = some (.invokeinterface 177 104, 3, 3, 0) := by decide +kernel
theorem c218_604 : gP 218 604 = some (.istore 5, 2, 0, 0) := by decide +kernel
theorem c218_606 : gP 218 606 = some (.aload 2, 1, 0, 0) := by decide +kernel
theorem c218_607 : gP 218 607 = some (.aload 0, 1, 0, 0) := by decide +kernel
theorem c218_608 : gP 218 608 = some (.iload 4, 2, 0, 0) := by decide +kernel
theorem c218_610 : gP 218 610 = some (.iconst 1, 1, 0, 0) := by decide +kernel
theorem c218_611 : gP 218 611 = some (.iadd, 1, 0, 0) := by decide +kernel
theorem c218_612 : gP 218 612 = some (.iaload, 1, 0, 0) := by decide +kernel
theorem c218_613 : gP 218 613 = some (.invokeinterface 178 106, 3, 2, 1) := by decide +kernel
theorem c218_616 : gP 218 616 = some (.istore 6, 2, 0, 0) := by decide +kernel
theorem c218_618 : gP 218 618 = some (.aload 2, 1, 0, 0) := by decide +kernel
theorem c218_619 : gP 218 619 = some (.invokeinterface 26 75, 3, 1, 1) := by decide +kernel
theorem c218_622 : gP 218 622 = some (.iload 5, 2, 0, 0) := by decide +kernel
theorem c218_624 : gP 218 624 = some (.if_icmp .eq 629, 3, 0, 0) := by decide +kernel
theorem c218_629 : gP 218 629 = some (.iload 5, 2, 0, 0) := by decide +kernel
theorem c218_631 : gP 218 631 = some (.ifCond .ne 646, 3, 0, 0) := by decide +kernel
theorem c218_646 : gP 218 646 = some (.goto 953, 3, 0, 0) := by decide +kernel
theorem c218_649 : gP 218 649 = some (.aload 1, 1, 0, 0) := by decide +kernel
theorem c218_650 : gP 218 650 = some (.aload 0, 1, 0, 0) := by decide +kernel
theorem c218_651 : gP 218 651 = some (.iload 4, 2, 0, 0) := by decide +kernel
theorem c218_653 : gP 218 653 = some (.iconst 1, 1, 0, 0) := by decide +kernel
theorem c218_654 : gP 218 654 = some (.iadd, 1, 0, 0) := by decide +kernel
theorem c218_655 : gP 218 655 = some (.iaload, 1, 0, 0) := by decide +kernel
theorem c218_656 : gP 218 656 = some (.aload 0, 1, 0, 0) := by decide +kernel
theorem c218_657 : gP 218 657 = some (.iload 4, 2, 0, 0) := by decide +kernel
theorem c218_659 : gP 218 659 = some (.iconst 2, 1, 0, 0) := by decide +kernel
theorem c218_660 : gP 218 660 = some (.iadd, 1, 0, 0) := by decide +kernel
theorem c218_661 : gP 218 661 = some (.iaload, 1, 0, 0) := by decide +kernel
theorem c218_662 : gP 218 662 = some (.aload 3, 1, 0, 0) := by decide +kernel
theorem c218_663 : gP 218 663 = some (.invokeinterface 181 107, 3, 4, 0) := by decide +kernel
theorem c218_666 : gP 218 666 = some (.istore 5, 2, 0, 0) := by decide +kernel
theorem c218_668 : gP 218 668 = some (.aload 2, 1, 0, 0) := by decide +kernel
theorem c218_669 : gP 218 669 = some (.aload 0, 1, 0, 0) := by decide +kernel
theorem c218_670 : gP 218 670 = some (.iload 4, 2, 0, 0) := by decide +kernel
theorem c218_672 : gP 218 672 = some (.iconst 1, 1, 0, 0) := by decide +kernel
theorem c218_673 : gP 218 673 = some (.iadd, 1, 0, 0) := by decide +kernel
theorem c218_674 : gP 218 674 = some (.iaload, 1, 0, 0) := by decide +kernel
theorem c218_675 : gP 218 675 = some (.aload 0, 1, 0, 0) := by decide +kernel
theorem c218_676 : gP 218 676 = some (.iload 4, 2, 0, 0) := by decide +kernel
theorem c218_678 : gP 218 678 = some (.iconst 2, 1, 0, 0) := by decide +kernel
theorem c218_679 : gP 218 679 = some (.iadd, 1, 0, 0) := by decide +kernel
theorem c218_680 : gP 218 680 = some (.iaload, 1, 0, 0) := by decide +kernel
theorem c218_681 : gP 218 681 = some (.invokeinterface 182 109, 3, 3, 1) := by decide +kernel
theorem c218_684 : gP 218 684 = some (.istore 6, 2, 0, 0) := by decide +kernel
theorem c218_686 : gP 218 686 = some (.aload 2, 1, 0, 0) := by decide +kernel
theorem c218_687 : gP 218 687 = some (.invokeinterface 26 75, 3, 1, 1) := by decide +kernel
theorem c218_690 : gP 218 690 = some (.iload 5, 2, 0, 0) := by decide +kernel
theorem c218_692 : gP 218 692 = some (.if_icmp .eq 697, 3, 0, 0) := by decide +kernel
theorem c218_697 : gP 218 697 = some (.iload 5, 2, 0, 0) := by decide +kernel
theorem c218_699 : gP 218 699 = some (.ifCond .ne 714, 3, 0, 0) := by decide +kernel
theorem c218_714 : gP 218 714 = some (.goto 953, 3, 0, 0) := by decide +kernel
theorem c218_717 : gP 218 717 = some (.aload 1, 1, 0, 0) := by decide +kernel
theorem c218_718 : gP 218 718 = some (.aload 0, 1, 0, 0) := by decide +kernel
theorem c218_719 : gP 218 719 = some (.iload 4, 2, 0, 0) := by decide +kernel
theorem c218_721 : gP 218 721 = some (.iconst 1, 1, 0, 0) := by decide +kernel
theorem c218_722 : gP 218 722 = some (.iadd, 1, 0, 0) := by decide +kernel
theorem c218_723 : gP 218 723 = some (.iaload, 1, 0, 0) := by decide +kernel
theorem c218_724 : gP 218 724 = some (.aload 0, 1, 0, 0) := by decide +kernel
theorem c218_725 : gP 218 725 = some (.iload 4, 2, 0, 0) := by decide +kernel
theorem c218_727 : gP 218 727 = some (.iconst 2, 1, 0, 0) := by decide +kernel
theorem c218_728 : gP 218 728 = some (.iadd, 1, 0, 0) := by decide +kernel
theorem c218_729 : gP 218 729 = some (.iaload, 1, 0, 0) := by decide +kernel
theorem c218_730 : gP 218 730 = some (.aload 3, 1, 0, 0) := by decide +kernel
theorem c218_731 : gP 218 731 = some (.invokeinterface 184 110, 3, 4, 0) := by decide +kernel
theorem c218_734 : gP 218 734 = some (.istore 5, 2, 0, 0) := by decide +kernel
theorem c218_736 : gP 218 736 = some (.aload 2, 1, 0, 0) := by decide +kernel
theorem c218_737 : gP 218 737 = some (.aload 0, 1, 0, 0) := by decide +kernel
theorem c218_738 : gP 218 738 = some (.iload 4, 2, 0, 0) := by decide +kernel
theorem c218_740 : gP 218 740 = some (.iconst 1, 1, 0, 0) := by decide +kernel
theorem c218_741 : gP 218 741 = some (.iadd, 1, 0, 0) := by decide +kernel
theorem c218_742 : gP 218 742 = some (.iaload, 1, 0, 0) := by decide +kernel
theorem c218_743 : gP 218 743 = some (.aload 0, 1, 0, 0) := by decide +kernel
theorem c218_744 : gP 218 744 = some (.iload 4, 2, 0, 0) := by decide +kernel
theorem c218_746 : gP 218 746 = some (.iconst 2, 1, 0, 0) := by decide +kernel
theorem c218_747 : gP 218 747 = some (.iadd, 1, 0, 0) := by decide +kernel
theorem c218_748 : gP 218 748 = some (.iaload, 1, 0, 0) := by decide +kernel
theorem c218_749 : gP 218 749 = some (.invokeinterface 185 112, 3, 3, 1) := by decide +kernel
theorem c218_752 : gP 218 752 = some (.istore 6, 2, 0, 0) := by decide +kernel
theorem c218_754 : gP 218 754 = some (.aload 2, 1, 0, 0) := by decide +kernel
theorem c218_755 : gP 218 755 = some (.invokeinterface 26 75, 3, 1, 1) := by decide +kernel
theorem c218_758 : gP 218 758 = some (.iload 5, 2, 0, 0) := by decide +kernel
theorem c218_760 : gP 218 760 = some (.if_icmp .eq 765, 3, 0, 0) := by decide +kernel
theorem c218_765 : gP 218 765 = some (.iload 5, 2, 0, 0) := by decide +kernel
theorem c218_767 : gP 218 767 = some (.ifCond .ne 782, 3, 0, 0) := by decide +kernel
theorem c218_782 : gP 218 782 = some (.goto 953, 3, 0, 0) := by decide +kernel
theorem c218_785 : gP 218 785 = some (.aload 1, 1, 0, 0) := by decide +kernel
theorem c218_786 : gP 218 786 = some (.aload 3, 1, 0, 0) := by decide +kernel
theorem c218_787 : gP 218 787 = some (.invokeinterface 200 113, 3, 2, 0) := by decide +kernel
theorem c218_790 : gP 218 790 = some (.istore 5, 2, 0, 0) := by decide +kernel
theorem c218_792 : gP 218 792 = some (.aload 2, 1, 0, 0) := by decide +kernel
theorem c218_793 : gP 218 793 = some (.invokeinterface 211 115, 3, 1, 1) := by decide +kernel
theorem c218_796 : gP 218 796 = some (.istore 6, 2, 0, 0) := by decide +kernel
theorem c218_798 : gP 218 798 = some (.aload 2, 1, 0, 0) := by decide +kernel
theorem c218_799 : gP 218 799 = some (.invokeinterface 26 75, 3, 1, 1) := by decide +kernel
theorem c218_802 : gP 218 802 = some (.iload 5, 2, 0, 0) := by decide +kernel
theorem c218_804 : gP 218 804 = some (.if_icmp .eq 809, 3, 0, 0) := by decide +kernel
theorem c218_809 : gP 218 809 = some (.iload 5, 2, 0, 0) := by decide +kernel
theorem c218_811 : gP 218 811 = some (.ifCond .ne 826, 3, 0, 0) := by decide +kernel
theorem c218_826 : gP 218 826 = some (.goto 953, 3, 0, 0) := by decide +kernel
theorem c218_829 : gP 218 829 = some (.aload 1, 1, 0, 0) := by decide +kernel
theorem c218_830 : gP 218 830 = some (.aload 0, 1, 0, 0) := by decide +kernel
theorem c218_831 : gP 218 831 = some (.iload 4, 2, 0, 0) := by decide +kernel
theorem c218_833 : gP 218 833 = some (.iconst 1, 1, 0, 0) := by decide +kernel
theorem c218_834 : gP 218 834 = some (.iadd, 1, 0, 0) := by decide +kernel
theorem c218_835 : gP 218 835 = some (.iaload, 1, 0, 0) := by decide +kernel
theorem c218_836 : gP 218 836 = some (.aload 0, 1, 0, 0) := by decide +kernel
theorem c218_837 : gP 218 837 = some (.iload 4, 2, 0, 0) := by decide +kernel
theorem c218_839 : gP 218 839 = some (.iconst 2, 1, 0, 0) := by decide +kernel
theorem c218_840 : gP 218 840 = some (.iadd, 1, 0, 0) := by decide +kernel
theorem c218_841 : gP 218 841 = some (.iaload, 1, 0, 0) := by decide +kernel
theorem c218_842 : gP 218 842 = some (.aload 3, 1, 0, 0) := by decide +kernel
theorem c218_843 : gP 218 843 = some (.invokeinterface 213 116, 3, 4, 0) := by decide +kernel
theorem c218_846 : gP 218 846 = some (.istore 5, 2, 0, 0) := by decide +kernel
theorem c218_848 : gP 218 848 = some (.aload 2, 1, 0, 0) := by decide +kernel
theorem c218_849 : gP 218 849 = some (.aload 0, 1, 0, 0) := by decide +kernel
theorem c218_850 : gP 218 850 = some (.iload 4, 2, 0, 0) := by decide +kernel
theorem c218_852 : gP 218 852 = some (.iconst 1, 1, 0, 0) := by decide +kernel
theorem c218_853 : gP 218 853 = some (.iadd, 1, 0, 0) := by decide +kernel
theorem c218_854 : gP 218 854 = some (.iaload, 1, 0, 0) := by decide +kernel
theorem c218_855 : gP 218 855 = some (.aload 0, 1, 0, 0) := by decide +kernel
theorem c218_856 : gP 218 856 = some (.iload 4, 2, 0, 0) := by decide +kernel
theorem c218_858 : gP 218 858 = some (.iconst 2, 1, 0, 0) := by decide +kernel
theorem c218_859 : gP 218 859 = some (.iadd, 1, 0, 0) := by decide +kernel
theorem c218_860 : gP 218 860 = some (.iaload, 1, 0, 0) := by decide +kernel
theorem c218_861 : gP 218 861 = some (.invokeinterface 214 118, 3, 3, 1) := by decide +kernel
theorem c218_864 : gP 218 864 = some (.istore 6, 2, 0, 0) := by decide +kernel
theorem c218_866 : gP 218 866 = some (.aload 2, 1, 0, 0) := by decide +kernel
theorem c218_867 : gP 218 867 = some (.invokeinterface 26 75, 3, 1, 1) := by decide +kernel
theorem c218_870 : gP 218 870 = some (.iload 5, 2, 0, 0) := by decide +kernel
theorem c218_872 : gP 218 872 = some (.if_icmp .eq 877, 3, 0, 0) := by decide +kernel
theorem c218_877 : gP 218 877 = some (.iload 5, 2, 0, 0) := by decide +kernel
theorem c218_879 : gP 218 879 = some (.ifCond .ne 894, 3, 0, 0) := by decide +kernel
theorem c218_894 : gP 218 894 = some (.goto 953, 3, 0, 0) := by decide +kernel
theorem c218_897 : gP 218 897 = some (.aload 1, 1, 0, 0) := by decide +kernel
theorem c218_898 : gP 218 898 = some (.aload 0, 1, 0, 0) := by decide +kernel
theorem c218_899 : gP 218 899 = some (.iload 4, 2, 0, 0) := by decide +kernel
theorem c218_901 : gP 218 901 = some (.iconst 1, 1, 0, 0) := by decide +kernel
theorem c218_902 : gP 218 902 = some (.iadd, 1, 0, 0) := by decide +kernel
theorem c218_903 : gP 218 903 = some (.iaload, 1, 0, 0) := by decide +kernel
theorem c218_904 : gP 218 904 = some (.aload 3, 1, 0, 0) := by decide +kernel
theorem c218_905 : gP 218 905 = some (.invokeinterface 216 119, 3, 3, 0) := by decide +kernel
theorem c218_908 : gP 218 908 = some (.istore 5, 2, 0, 0) := by decide +kernel
theorem c218_910 : gP 218 910 = some (.aload 2, 1, 0, 0) := by decide +kernel
theorem c218_911 : gP 218 911 = some (.aload 0, 1, 0, 0) := by decide +kernel
theorem c218_912 : gP 218 912 = some (.iload 4, 2, 0, 0) := by decide +kernel
theorem c218_914 : gP 218 914 = some (.iconst 1, 1, 0, 0) := by decide +kernel
theorem c218_915 : gP 218 915 = some (.iadd, 1, 0, 0) := by decide +kernel
theorem c218_916 : gP 218 916 = some (.iaload, 1, 0, 0) := by decide +kernel
theorem c218_917 : gP 218 917 = some (.invokeinterface 217 121, 3, 2, 1) := by decide +kernel
theorem c218_920 : gP 218 920 = some (.istore 6, 2, 0, 0) := by decide +kernel
theorem c218_922 : gP 218 922 = some (.aload 2, 1, 0, 0) := by decide +kernel
theorem c218_923 : gP 218 923 = some (.invokeinterface 26 75, 3, 1, 1) := by decide +kernel
theorem c218_926 : gP 218 926 = some (.iload 5, 2, 0, 0) := by decide +kernel
theorem c218_928 : gP 218 928 = some (.if_icmp .eq 933, 3, 0, 0) := by decide +kernel
theorem c218_933 : gP 218 933 = some (.iload 5, 2, 0, 0) := by decide +kernel
theorem c218_935 : gP 218 935 = some (.ifCond .ne 950, 3, 0, 0) := by decide +kernel
theorem c218_938 : gP 218 938 = some (.aload 3, 1, 0, 0) := by decide +kernel
theorem c218_939 : gP 218 939 = some (.iconst 0, 1, 0, 0) := by decide +kernel
theorem c218_940 : gP 218 940 = some (.laload, 1, 0, 0) := by decide +kernel
theorem c218_941 : gP 218 941 = some (.iload 6, 2, 0, 0) := by decide +kernel
theorem c218_943 : gP 218 943 = some (.i2l, 1, 0, 0) := by decide +kernel
theorem c218_944 : gP 218 944 = some (.lcmp, 1, 0, 0) := by decide +kernel
theorem c218_945 : gP 218 945 = some (.ifCond .eq 950, 3, 0, 0) := by decide +kernel
theorem c218_950 : gP 218 950 = some (.goto 953, 3, 0, 0) := by decide +kernel
theorem c218_953 : gP 218 953 = some (.iinc 4 4, 3, 0, 0) := by decide +kernel
theorem c218_956 : gP 218 956 = some (.goto 23, 3, 0, 0) := by decide +kernel
theorem c218_959 : gP 218 959 = some (.iconst 1, 1, 0, 0) := by decide +kernel
theorem c218_960 : gP 218 960 = some (.ireturn, 1, 1, 0) := by decide +kernel
theorem kf0_0 : yfld gSh 414 0 0 7 = some (.inr (.inl 1)) := by decide +kernel
theorem kf0_1 : yfld gSh 414 0 1 7 = some (.inr (.inl 2)) := by decide +kernel
theorem kf0_2 : yfld gSh 414 0 2 7 = some (.inr (.inl 8)) := by decide +kernel
theorem kf0_3 : yfld gSh 414 0 3 7 = some (.inr (.inl 169)) := by decide +kernel
theorem kf0_4 : yfld gSh 414 0 4 7 = some (.inr (.inr [256, 316])) := by decide +kernel
theorem kf0_5 : yfld gSh 414 0 5 7 = some (.inr (.inr [256, 316])) := by decide +kernel
theorem kf0_6 : yfld gSh 414 0 6 7 = some (.inl 0) := by decide +kernel
theorem kf0_7 : yfld gSh 414 0 7 7 = some (.inl 0) := by decide +kernel
theorem kf2_0 : yfld gSh 414 2 0 1 = some (.inr (.inl 3)) := by decide +kernel
theorem kf2_1 : yfld gSh 414 2 1 1 = some (.inr (.inr [256, 316])) := by decide +kernel
theorem kf2_2 : yfld gSh 414 2 2 1 = some (.inl 0) := by decide +kernel
theorem kf2_3 : yfld gSh 414 2 3 1 = some (.inl 1) := by decide +kernel
theorem kf2_4 : yfld gSh 414 2 4 1 = some (.inl 0) := by decide +kernel
theorem kf3_0 : yfld gSh 414 3 0 0 = some (.inr (.inl 4)) := by decide +kernel
theorem kf3_1 : yfld gSh 414 3 1 0 = some (.inr (.inl 5)) := by decide +kernel
theorem kf3_2 : yfld gSh 414 3 2 0 = some (.inr (.inl 6)) := by decide +kernel
theorem kf3_3 : yfld gSh 414 3 3 0 = some (.inr (.inl 7)) := by decide +kernel
theorem kf3_4 : yfld gSh 414 3 4 0 = some (.inl 0) := by decide +kernel
theorem kf8_6 : yfld gSh 414 8 6 2 = some (.inl 0) := by decide +kernel
theorem kf169_5 : yfld gSh 414 169 5 3 = some (.inl 0) := by decide +kernel
theorem kf256_9 : yfld gSh 414 256 9 6 = some (.inl 0) := by decide +kernel
theorem kf256_10 : yfld gSh 414 256 10 6 = some (.inl 0) := by decide +kernel
theorem kf256_11 : yfld gSh 414 256 11 6 = some (.inl 0) := by decide +kernel
theorem kf256_12 : yfld gSh 414 256 12 6 = some (.inl 0) := by decide +kernel
theorem kf256_13 : yfld gSh 414 256 13 6 = some (.inl 0) := by decide +kernel
theorem kf256_14 : yfld gSh 414 256 14 6 = some (.inl 0) := by decide +kernel
theorem kf256_15 : yfld gSh 414 256 15 6 = some (.inl 0) := by decide +kernel
theorem kf256_17 : yfld gSh 414 256 17 6 = some (.inl 0) := by decide +kernel
theorem kf316_9 : yfld gSh 414 316 9 6 = some (.inl 0) := by decide +kernel
theorem kf316_10 : yfld gSh 414 316 10 6 = some (.inl 0) := by decide +kernel
theorem kf316_11 : yfld gSh 414 316 11 6 = some (.inl 0) := by decide +kernel
theorem kf316_12 : yfld gSh 414 316 12 6 = some (.inl 0) := by decide +kernel
theorem kf316_13 : yfld gSh 414 316 13 6 = some (.inl 0) := by decide +kernel
theorem kf316_14 : yfld gSh 414 316 14 6 = some (.inl 0) := by decide +kernel
theorem kf316_15 : yfld gSh 414 316 15 6 = some (.inl 0) := by decide +kernel
theorem kf316_16 : yfld gSh 414 316 16 6 = some (.inl 0) := by decide +kernel
theorem kf376_0 : yfld gSh 414 376 0 8 = some (.inr (.inl 377)) := by decide +kernel
theorem kf376_1 : yfld gSh 414 376 1 8 = some (.inl 0) := by decide +kernel
theorem kf376_2 : yfld gSh 414 376 2 8 = some (.inl 0) := by decide +kernel
theorem kf376_3 : yfld gSh 414 376 3 8 = some (.inl 0) := by decide +kernel
theorem kf376_5 : yfld gSh 414 376 5 8 = some (.inl 0) := by decide +kernel
theorem kf376_6 : yfld gSh 414 376 6 8 = some (.inl 0) := by decide +kernel
theorem kf376_7 : yfld gSh 414 376 7 8 = some (.inl 0) := by decide +kernel
theorem kf376_8 : yfld gSh 414 376 8 8 = some (.inl 0) := by decide +kernel
theorem kf376_9 : yfld gSh 414 376 9 8 = some (.inl 0) := by decide +kernel
theorem kf376_17 : yfld gSh 414 376 17 8 = some (.inl 0) := by decide +kernel
theorem kf376_18 : yfld gSh 414 376 18 8 = some (.inl 0) := by decide +kernel
theorem kf376_19 : yfld gSh 414 376 19 8 = some (.inl 1) := by decide +kernel
theorem kf376_20 : yfld gSh 414 376 20 8 = some (.inr (.inl 383)) := by decide +kernel
theorem kf376_21 : yfld gSh 414 376 21 8 = some (.inr (.inl 384)) := by decide +kernel
theorem kf376_22 : yfld gSh 414 376 22 8 = some (.inr (.inl 385)) := by decide +kernel
theorem kf376_23 : yfld gSh 414 376 23 8 = some (.inr (.inl 386)) := by decide +kernel
theorem kf376_24 : yfld gSh 414 376 24 8 = some (.inr (.inl 387)) := by decide +kernel
theorem kf376_25 : yfld gSh 414 376 25 8 = some (.inr (.inl 388)) := by decide +kernel
theorem kf376_26 : yfld gSh 414 376 26 8 = some (.inr (.inl 389)) := by decide +kernel
theorem kf376_27 : yfld gSh 414 376 27 8 = some (.inr (.inl 390)) := by decide +kernel
theorem kf376_37 : yfld gSh 414 376 37 8 = some (.inr (.inl 400)) := by decide +kernel
theorem kf376_57 : yfld gSh 414 376 57 8 = some (.inl 0) := by decide +kernel
theorem ka1 : yarr gSh 414 1 = some (3, 320) := by decide +kernel
theorem ka4 : yarr gSh 414 4 = some (0, 11) := by decide +kernel
theorem ka5 : yarr gSh 414 5 = some (0, 321) := by decide +kernel
theorem ka6 : yarr gSh 414 6 = some (0, 321) := by decide +kernel
theorem ka7 : yarr gSh 414 7 = some (0, 321) := by decide +kernel
theorem ka377 : yarr gSh 414 377 = some (0, 320) := by decide +kernel
theorem ka383 : yarr gSh 414 383 = some (0, 2) := by decide +kernel
theorem ka384 : yarr gSh 414 384 = some (0, 2) := by decide +kernel
theorem ka385 : yarr gSh 414 385 = some (0, 2) := by decide +kernel
theorem ka386 : yarr gSh 414 386 = some (0, 2) := by decide +kernel
theorem ka387 : yarr gSh 414 387 = some (0, 2) := by decide +kernel
theorem ka388 : yarr gSh 414 388 = some (0, 2) := by decide +kernel
theorem ka389 : yarr gSh 414 389 = some (0, 2) := by decide +kernel
theorem ka390 : yarr gSh 414 390 = some (0, 2) := by decide +kernel
theorem ka400 : yarr gSh 414 400 = some (0, 24) := by decide +kernel
theorem kl413 : ylar gSh 414 413 = some 1 := by decide +kernel
theorem ko0 : yobj gSh 414 0 = some 7 := by decide +kernel
theorem ko2 : yobj gSh 414 2 = some 1 := by decide +kernel
theorem ko3 : yobj gSh 414 3 = some 0 := by decide +kernel
theorem ko316 : yobj gSh 414 316 = some 6 := by decide +kernel
theorem ko376 : yobj gSh 414 376 = some 8 := by decide +kernel
theorem km16 : gMc 16 = some 7 := by decide +kernel
theorem km17 : gMc 17 = some 8 := by decide +kernel
theorem km18 : gMc 18 = none := by decide +kernel
theorem km19 : gMc 19 = none := by decide +kernel
theorem km20 : gMc 20 = some 7 := by decide +kernel
theorem km21 : gMc 21 = none := by decide +kernel
theorem km22 : gMc 22 = none := by decide +kernel
theorem km23 : gMc 23 = some 8 := by decide +kernel
theorem km24 : gMc 24 = some 8 := by decide +kernel
theorem km25 : gMc 25 = some 8 := by decide +kernel
theorem km26 : gMc 26 = some 8 := by decide +kernel
theorem km27 : gMc 27 = some 7 := by decide +kernel
theorem km28 : gMc 28 = none := by decide +kernel
theorem km29 : gMc 29 = some 8 := by decide +kernel
theorem km30 : gMc 30 = some 6 := by decide +kernel
theorem km32 : gMc 32 = some 0 := by decide +kernel
theorem km35 : gMc 35 = some 0 := by decide +kernel
theorem km36 : gMc 36 = some 0 := by decide +kernel
theorem km37 : gMc 37 = some 1 := by decide +kernel
theorem km45 : gMc 45 = some 1 := by decide +kernel
theorem km74 : gMc 74 = some 1 := by decide +kernel
theorem km94 : gMc 94 = some 7 := by decide +kernel
theorem km95 : gMc 95 = none := by decide +kernel
theorem km96 : gMc 96 = some 8 := by decide +kernel
theorem km99 : gMc 99 = some 8 := by decide +kernel
theorem km100 : gMc 100 = none := by decide +kernel
theorem km101 : gMc 101 = none := by decide +kernel
theorem km102 : gMc 102 = some 8 := by decide +kernel
theorem km103 : gMc 103 = some 8 := by decide +kernel
theorem km104 : gMc 104 = some 8 := by decide +kernel
theorem km105 : gMc 105 = some 8 := by decide +kernel
theorem km119 : gMc 119 = some 8 := by decide +kernel
theorem km140 : gMc 140 = some 8 := by decide +kernel
theorem km152 : gMc 152 = some 8 := by decide +kernel
theorem km153 : gMc 153 = some 7 := by decide +kernel
theorem km154 : gMc 154 = some 8 := by decide +kernel
theorem km155 : gMc 155 = none := by decide +kernel
theorem km156 : gMc 156 = some 7 := by decide +kernel
theorem km157 : gMc 157 = some 7 := by decide +kernel
theorem km158 : gMc 158 = some 7 := by decide +kernel
theorem km159 : gMc 159 = none := by decide +kernel
theorem km160 : gMc 160 = some 8 := by decide +kernel
theorem km161 : gMc 161 = some 8 := by decide +kernel
theorem km162 : gMc 162 = some 8 := by decide +kernel
theorem km163 : gMc 163 = some 8 := by decide +kernel
theorem km164 : gMc 164 = some 7 := by decide +kernel
theorem km165 : gMc 165 = none := by decide +kernel
theorem km166 : gMc 166 = some 8 := by decide +kernel
theorem km167 : gMc 167 = some 7 := by decide +kernel
theorem km168 : gMc 168 = some 7 := by decide +kernel
theorem km169 : gMc 169 = none := by decide +kernel
theorem km170 : gMc 170 = some 8 := by decide +kernel
theorem km171 : gMc 171 = some 8 := by decide +kernel
theorem km172 : gMc 172 = some 7 := by decide +kernel
theorem km173 : gMc 173 = none := by decide +kernel
theorem km174 : gMc 174 = some 8 := by decide +kernel
theorem km176 : gMc 176 = some 7 := by decide +kernel
theorem km177 : gMc 177 = none := by decide +kernel
theorem km178 : gMc 178 = some 8 := by decide +kernel
theorem km180 : gMc 180 = some 7 := by decide +kernel
theorem km181 : gMc 181 = none := by decide +kernel
theorem km182 : gMc 182 = some 8 := by decide +kernel
theorem km183 : gMc 183 = some 7 := by decide +kernel
theorem km184 : gMc 184 = none := by decide +kernel
theorem km185 : gMc 185 = some 8 := by decide +kernel
theorem km199 : gMc 199 = some 7 := by decide +kernel
theorem km200 : gMc 200 = none := by decide +kernel
theorem km211 : gMc 211 = some 8 := by decide +kernel
theorem km212 : gMc 212 = some 7 := by decide +kernel
theorem km213 : gMc 213 = none := by decide +kernel
theorem km214 : gMc 214 = some 8 := by decide +kernel
theorem km215 : gMc 215 = some 7 := by decide +kernel
theorem km216 : gMc 216 = none := by decide +kernel
theorem km217 : gMc 217 = some 8 := by decide +kernel
theorem kn16 : gMx 16 = 1 := by decide +kernel
theorem kn17 : gMx 17 = 1 := by decide +kernel
theorem kn18 : gMx 18 = 3 := by decide +kernel
theorem kn19 : gMx 19 = 5 := by decide +kernel
theorem kn20 : gMx 20 = 5 := by decide +kernel
theorem kn21 : gMx 21 = 6 := by decide +kernel
theorem kn22 : gMx 22 = 3 := by decide +kernel
theorem kn23 : gMx 23 = 3 := by decide +kernel
theorem kn24 : gMx 24 = 2 := by decide +kernel
theorem kn25 : gMx 25 = 5 := by decide +kernel
theorem kn26 : gMx 26 = 1 := by decide +kernel
theorem kn27 : gMx 27 = 2 := by decide +kernel
theorem kn28 : gMx 28 = 4 := by decide +kernel
theorem kn29 : gMx 29 = 2 := by decide +kernel
theorem kn30 : gMx 30 = 1 := by decide +kernel
theorem kn32 : gMx 32 = 3 := by decide +kernel
theorem kn35 : gMx 35 = 3 := by decide +kernel
theorem kn36 : gMx 36 = 7 := by decide +kernel
theorem kn37 : gMx 37 = 2 := by decide +kernel
theorem kn45 : gMx 45 = 1 := by decide +kernel
theorem kn74 : gMx 74 = 6 := by decide +kernel
theorem kn94 : gMx 94 = 2 := by decide +kernel
theorem kn95 : gMx 95 = 3 := by decide +kernel
theorem kn96 : gMx 96 = 1 := by decide +kernel
theorem kn99 : gMx 99 = 4 := by decide +kernel
theorem kn100 : gMx 100 = 2 := by decide +kernel
theorem kn101 : gMx 101 = 6 := by decide +kernel
theorem kn102 : gMx 102 = 2 := by decide +kernel
theorem kn103 : gMx 103 = 1 := by decide +kernel
theorem kn104 : gMx 104 = 1 := by decide +kernel
theorem kn105 : gMx 105 = 2 := by decide +kernel
theorem kn119 : gMx 119 = 6 := by decide +kernel
theorem kn140 : gMx 140 = 1 := by decide +kernel
theorem kn152 : gMx 152 = 4 := by decide +kernel
theorem kn153 : gMx 153 = 1 := by decide +kernel
theorem kn154 : gMx 154 = 1 := by decide +kernel
theorem kn155 : gMx 155 = 2 := by decide +kernel
theorem kn156 : gMx 156 = 2 := by decide +kernel
theorem kn157 : gMx 157 = 2 := by decide +kernel
theorem kn158 : gMx 158 = 3 := by decide +kernel
theorem kn159 : gMx 159 = 5 := by decide +kernel
theorem kn160 : gMx 160 = 2 := by decide +kernel
theorem kn161 : gMx 161 = 2 := by decide +kernel
theorem kn162 : gMx 162 = 2 := by decide +kernel
theorem kn163 : gMx 163 = 3 := by decide +kernel
theorem kn164 : gMx 164 = 4 := by decide +kernel
theorem kn165 : gMx 165 = 6 := by decide +kernel
theorem kn166 : gMx 166 = 4 := by decide +kernel
theorem kn167 : gMx 167 = 2 := by decide +kernel
theorem kn168 : gMx 168 = 3 := by decide +kernel
theorem kn169 : gMx 169 = 5 := by decide +kernel
theorem kn170 : gMx 170 = 2 := by decide +kernel
theorem kn171 : gMx 171 = 3 := by decide +kernel
theorem kn172 : gMx 172 = 2 := by decide +kernel
theorem kn173 : gMx 173 = 4 := by decide +kernel
theorem kn174 : gMx 174 = 2 := by decide +kernel
theorem kn176 : gMx 176 = 2 := by decide +kernel
theorem kn177 : gMx 177 = 4 := by decide +kernel
theorem kn178 : gMx 178 = 4 := by decide +kernel
theorem kn180 : gMx 180 = 3 := by decide +kernel
theorem kn181 : gMx 181 = 5 := by decide +kernel
theorem kn182 : gMx 182 = 4 := by decide +kernel
theorem kn183 : gMx 183 = 4 := by decide +kernel
theorem kn184 : gMx 184 = 5 := by decide +kernel
theorem kn185 : gMx 185 = 4 := by decide +kernel
theorem kn199 : gMx 199 = 1 := by decide +kernel
theorem kn200 : gMx 200 = 3 := by decide +kernel
theorem kn211 : gMx 211 = 2 := by decide +kernel
theorem kn212 : gMx 212 = 3 := by decide +kernel
theorem kn213 : gMx 213 = 5 := by decide +kernel
theorem kn214 : gMx 214 = 3 := by decide +kernel
theorem kn215 : gMx 215 = 2 := by decide +kernel
theorem kn216 : gMx 216 = 4 := by decide +kernel
theorem kn217 : gMx 217 = 2 := by decide +kernel
theorem kh159_5_11 : gHd 159 5 11 = some (some 13) := by decide +kernel
theorem kh165_7_11 : gHd 165 7 11 = some (some 15) := by decide +kernel
theorem kh169_5_11 : gHd 169 5 11 = some (some 13) := by decide +kernel
theorem kh173_4_11 : gHd 173 4 11 = some (some 12) := by decide +kernel
theorem kh177_4_11 : gHd 177 4 11 = some (some 12) := by decide +kernel
theorem kh181_5_11 : gHd 181 5 11 = some (some 13) := by decide +kernel
theorem kh184_5_11 : gHd 184 5 11 = some (some 13) := by decide +kernel
theorem kh200_3_11 : gHd 200 3 11 = some (some 11) := by decide +kernel
theorem kh21_6_10 : gHd 21 6 10 = some (some 18) := by decide +kernel
theorem kh21_6_9 : gHd 21 6 9 = some (some 14) := by decide +kernel
theorem kh213_5_11 : gHd 213 5 11 = some (some 13) := by decide +kernel
theorem kh216_4_9 : gHd 216 4 9 = some (some 12) := by decide +kernel
theorem kh28_4_9 : gHd 28 4 9 = some (some 12) := by decide +kernel
theorem kh95_3_9 : gHd 95 3 9 = some (some 11) := by decide +kernel

/-! ROWS OF THE CODE, places of the cells: printed by wip/whole/gen71.py; the kernel looks each up -/
theorem c18_0 : gP 18 0 = some (.lload 0, 1, 0, 0) := by decide +kernel
theorem c18_1 : gP 18 1 = some (.iconst 8, 2, 0, 0) := by decide +kernel
theorem c18_3 : gP 18 3 = some (.iload 2, 1, 0, 0) := by decide +kernel
theorem c18_4 : gP 18 4 = some (.imul, 1, 0, 0) := by decide +kernel
theorem c18_5 : gP 18 5 = some (.lushr, 1, 0, 0) := by decide +kernel
theorem c18_6 : gP 18 6 = some (.l2i, 1, 0, 0) := by decide +kernel
theorem c18_7 : gP 18 7 = some (.iconst 255, 3, 0, 0) := by decide +kernel
theorem c18_10 : gP 18 10 = some (.iand, 1, 0, 0) := by decide +kernel
theorem c18_11 : gP 18 11 = some (.ireturn, 1, 0, 0) := by decide +kernel
theorem c19_0 : gP 19 0 = some (.iconst 0, 1, 0, 0) := by decide +kernel
theorem c19_1 : gP 19 1 = some (.istore 3, 1, 0, 0) := by decide +kernel
theorem c19_2 : gP 19 2 = some (.iload 3, 1, 0, 0) := by decide +kernel
theorem c19_3 : gP 19 3 = some (.iload 2, 1, 0, 0) := by decide +kernel
theorem c19_4 : gP 19 4 = some (.if_icmp .ge 36, 3, 0, 0) := by decide +kernel
theorem c19_7 : gP 19 7 = some (.lload 0, 1, 0, 0) := by decide +kernel
theorem c19_8 : gP 19 8 = some (.iload 3, 1, 0, 0) := by decide +kernel
theorem c19_9 : gP 19 9 = some (.invokeinterface 18 61, 3, 2, 0) := by decide +kernel
theorem c19_12 : gP 19 12 = some (.istore 4, 2, 0, 0) := by decide +kernel
theorem c19_14 : gP 19 14 = some (.iload 4, 2, 0, 0) := by decide +kernel
theorem c19_16 : gP 19 16 = some (.iconst 32, 2, 0, 0) := by decide +kernel
theorem c19_18 : gP 19 18 = some (.if_icmp .lt 28, 3, 0, 0) := by decide +kernel
theorem c19_21 : gP 19 21 = some (.iload 4, 2, 0, 0) := by decide +kernel
theorem c19_23 : gP 19 23 = some (.iconst 126, 2, 0, 0) := by decide +kernel
theorem c19_25 : gP 19 25 = some (.if_icmp .le 30, 3, 0, 0) := by decide +kernel
theorem c19_28 : gP 19 28 = some (.iconst 0, 1, 0, 0) := by decide +kernel
theorem c19_29 : gP 19 29 = some (.ireturn, 1, 1, 0) := by decide +kernel
theorem c19_30 : gP 19 30 = some (.iinc 3 1, 3, 0, 0) := by decide +kernel
theorem c19_33 : gP 19 33 = some (.goto 2, 3, 0, 0) := by decide +kernel
theorem c19_36 : gP 19 36 = some (.iconst 1, 1, 0, 0) := by decide +kernel
theorem c19_37 : gP 19 37 = some (.ireturn, 1, 1, 0) := by decide +kernel
theorem c20_0 : gP 20 0 = some (.iload 3, 1, 0, 0) := by decide +kernel
theorem c20_1 : gP 20 1 = some (.iconst 1, 1, 0, 0) := by decide +kernel
theorem c20_2 : gP 20 2 = some (.if_icmp .lt 19, 3, 0, 0) := by decide +kernel
theorem c20_5 : gP 20 5 = some (.iload 3, 1, 0, 0) := by decide +kernel
theorem c20_6 : gP 20 6 = some (.iconst 8, 2, 0, 0) := by decide +kernel
theorem c20_8 : gP 20 8 = some (.if_icmp .gt 19, 3, 0, 0) := by decide +kernel
theorem c20_11 : gP 20 11 = some (.lload 1, 1, 0, 0) := by decide +kernel
theorem c20_12 : gP 20 12 = some (.iload 3, 1, 0, 0) := by decide +kernel
theorem c20_13 : gP 20 13 = some (.invokeinterface 19 48, 3, 2, 0) := by decide +kernel
theorem c20_16 : gP 20 16 = some (.ifCond .ne 27, 3, 0, 0) := by decide +kernel
theorem c20_19 : gP 20 19 = some (.athrow, 54, 9, 52) := by decide +kernel
theorem c20_27 : gP 20 27 = some (.aload 0, 1, 0, 0) := by decide +kernel
theorem c20_28 : gP 20 28 = some (.getfield 6, 3, 7, 55) := by decide +kernel
theorem c20_31 : gP 20 31 = some (.iload 3, 1, 0, 0) := by decide +kernel
theorem c20_32 : gP 20 32 = some (.iadd, 1, 0, 0) := by decide +kernel
theorem c20_33 : gP 20 33 = some (.iconst 320, 3, 0, 0) := by decide +kernel
theorem c20_36 : gP 20 36 = some (.if_icmp .le 47, 3, 0, 0) := by decide +kernel
theorem c20_39 : gP 20 39 = some (.athrow, 60, 10, 58) := by decide +kernel
theorem c20_47 : gP 20 47 = some (.iconst 1, 1, 0, 0) := by decide +kernel
theorem c20_48 : gP 20 48 = some (.istore 4, 2, 0, 0) := by decide +kernel
theorem c20_50 : gP 20 50 = some (.iload 4, 2, 0, 0) := by decide +kernel
theorem c20_52 : gP 20 52 = some (.iload 3, 1, 0, 0) := by decide +kernel
theorem c20_53 : gP 20 53 = some (.if_icmp .gt 90, 3, 0, 0) := by decide +kernel
theorem c20_56 : gP 20 56 = some (.aload 0, 1, 0, 0) := by decide +kernel
theorem c20_57 : gP 20 57 = some (.getfield 0, 3, 7, 9) := by decide +kernel
theorem c20_60 : gP 20 60 = some (.aload 0, 1, 0, 0) := by decide +kernel
theorem c20_61 : gP 20 61 = some (.getfield 6, 3, 7, 55) := by decide +kernel
theorem c20_64 : gP 20 64 = some (.lload 1, 1, 0, 0) := by decide +kernel
theorem c20_65 : gP 20 65 = some (.iload 3, 1, 0, 0) := by decide +kernel
theorem c20_66 : gP 20 66 = some (.iload 4, 2, 0, 0) := by decide +kernel
theorem c20_68 : gP 20 68 = some (.isub, 1, 0, 0) := by decide +kernel
theorem c20_69 : gP 20 69 = some (.invokeinterface 18 61, 3, 2, 0) := by decide +kernel
theorem c20_72 : gP 20 72 = some (.i2c, 1, 0, 0) := by decide +kernel
theorem c20_73 : gP 20 73 = some (.iastore, 1, 3, 0) := by decide +kernel
theorem c20_74 : gP 20 74 = some (.aload 0, 1, 0, 0) := by decide +kernel
theorem c20_75 : gP 20 75 = some (.dup, 1, 0, 0) := by decide +kernel
theorem c20_76 : gP 20 76 = some (.getfield 6, 3, 7, 55) := by decide +kernel
theorem c20_79 : gP 20 79 = some (.iconst 1, 1, 0, 0) := by decide +kernel
theorem c20_80 : gP 20 80 = some (.iadd, 1, 0, 0) := by decide +kernel
theorem c20_81 : gP 20 81 = some (.putfield 6, 3, 7, 0) := by decide +kernel
theorem c20_84 : gP 20 84 = some (.iinc 4 1, 3, 0, 0) := by decide +kernel
theorem c20_87 : gP 20 87 = some (.goto 50, 3, 0, 0) := by decide +kernel
theorem c20_90 : gP 20 90 = some (.aload 0, 1, 0, 0) := by decide +kernel
theorem c20_91 : gP 20 91 = some (.getfield 6, 3, 7, 55) := by decide +kernel
theorem c20_94 : gP 20 94 = some (.ireturn, 1, 0, 0) := by decide +kernel
theorem c21_0 : gP 21 0 = some (.aload 4, 2, 0, 0) := by decide +kernel
theorem c21_2 : gP 21 2 = some (.iconst 0, 1, 0, 0) := by decide +kernel
theorem c21_3 : gP 21 3 = some (.aload 0, 1, 0, 0) := by decide +kernel
theorem c21_4 : gP 21 4 = some (.lload 1, 1, 0, 0) := by decide +kernel
theorem c21_5 : gP 21 5 = some (.iload 3, 1, 0, 0) := by decide +kernel
theorem c21_6 : gP 21 6 = some (.invokeinterface 20 7, 3, 3, 1) := by decide +kernel
theorem c21_9 : gP 21 9 = some (.i2l, 1, 0, 0) := by decide +kernel
theorem c21_10 : gP 21 10 = some (.lastore, 1, 0, 0) := by decide +kernel
theorem c21_11 : gP 21 11 = some (.goto 22, 3, 0, 0) := by decide +kernel
theorem c21_14 : gP 21 14 = some (.astore 5, 2, 0, 0) := by decide +kernel
theorem c21_16 : gP 21 16 = some (.iconst 1, 1, 0, 0) := by decide +kernel
theorem c21_17 : gP 21 17 = some (.ireturn, 1, 0, 0) := by decide +kernel
theorem c21_18 : gP 21 18 = some (.astore 5, 2, 0, 0) := by decide +kernel
theorem c21_20 : gP 21 20 = some (.iconst 2, 1, 0, 0) := by decide +kernel
theorem c21_21 : gP 21 21 = some (.ireturn, 1, 0, 0) := by decide +kernel
theorem c21_22 : gP 21 22 = some (.iconst 0, 1, 0, 0) := by decide +kernel
theorem c21_23 : gP 21 23 = some (.ireturn, 1, 0, 0) := by decide +kernel
theorem c22_0 : gP 22 0 = some (.iload 0, 1, 0, 0) := by decide +kernel
theorem c22_1 : gP 22 1 = some (.iload 1, 1, 0, 0) := by decide +kernel
theorem c22_2 : gP 22 2 = some (.if_icmp .lt 14, 3, 0, 0) := by decide +kernel
theorem c22_5 : gP 22 5 = some (.iload 0, 1, 0, 0) := by decide +kernel
theorem c22_6 : gP 22 6 = some (.iload 2, 1, 0, 0) := by decide +kernel
theorem c22_7 : gP 22 7 = some (.if_icmp .gt 14, 3, 0, 0) := by decide +kernel
theorem c22_10 : gP 22 10 = some (.iconst 1, 1, 0, 0) := by decide +kernel
theorem c22_11 : gP 22 11 = some (.goto 15, 3, 0, 0) := by decide +kernel
theorem c22_14 : gP 22 14 = some (.iconst 0, 1, 0, 0) := by decide +kernel
theorem c22_15 : gP 22 15 = some (.ireturn, 1, 1, 0) := by decide +kernel
theorem c23_0 : gP 23 0 = some (.aload 0, 1, 0, 0) := by decide +kernel
theorem c23_1 : gP 23 1 = some (.iload 1, 1, 0, 0) := by decide +kernel
theorem c23_2 : gP 23 2 = some (.ifCond .eq 9, 3, 0, 0) := by decide +kernel
theorem c23_5 : gP 23 5 = some (.iconst 0, 1, 0, 0) := by decide +kernel
theorem c23_6 : gP 23 6 = some (.goto 10, 3, 0, 0) := by decide +kernel
theorem c23_9 : gP 23 9 = some (.iload 2, 1, 0, 0) := by decide +kernel
theorem c23_10 : gP 23 10 = some (.putfield 57, 3, 8, 0) := by decide +kernel
theorem c23_13 : gP 23 13 = some (.iload 1, 1, 0, 0) := by decide +kernel
theorem c23_14 : gP 23 14 = some (.ireturn, 1, 1, 0) := by decide +kernel
theorem c24_0 : gP 24 0 = some (.aload 0, 1, 0, 0) := by decide +kernel
theorem c24_1 : gP 24 1 = some (.iload 1, 1, 0, 0) := by decide +kernel
theorem c24_2 : gP 24 2 = some (.putfield 57, 3, 8, 0) := by decide +kernel
theorem c24_5 : gP 24 5 = some (.iconst 0, 1, 0, 0) := by decide +kernel
theorem c24_6 : gP 24 6 = some (.ireturn, 1, 0, 0) := by decide +kernel
theorem c25_0 : gP 25 0 = some (.aload 0, 1, 0, 0) := by decide +kernel
theorem c25_1 : gP 25 1 = some (.iload 3, 1, 0, 0) := by decide +kernel
theorem c25_2 : gP 25 2 = some (.iconst 1, 1, 0, 0) := by decide +kernel
theorem c25_3 : gP 25 3 = some (.iconst 8, 2, 0, 0) := by decide +kernel
theorem c25_5 : gP 25 5 = some (.invokeinterface 22 126, 3, 3, 0) := by decide +kernel
theorem c25_8 : gP 25 8 = some (.iconst 1, 1, 0, 0) := by decide +kernel
theorem c25_9 : gP 25 9 = some (.invokeinterface 23 130, 3, 3, 1) := by decide +kernel
theorem c25_12 : gP 25 12 = some (.ifCond .ne 17, 3, 0, 0) := by decide +kernel
theorem c25_15 : gP 25 15 = some (.iconst 0, 1, 0, 0) := by decide +kernel
theorem c25_16 : gP 25 16 = some (.ireturn, 1, 0, 0) := by decide +kernel
theorem c25_17 : gP 25 17 = some (.iconst 0, 1, 0, 0) := by decide +kernel
theorem c25_18 : gP 25 18 = some (.istore 4, 2, 0, 0) := by decide +kernel
theorem c25_20 : gP 25 20 = some (.iload 4, 2, 0, 0) := by decide +kernel
theorem c25_22 : gP 25 22 = some (.iload 3, 1, 0, 0) := by decide +kernel
theorem c25_23 : gP 25 23 = some (.if_icmp .ge 60, 3, 0, 0) := by decide +kernel
theorem c25_26 : gP 25 26 = some (.lload 1, 1, 0, 0) := by decide +kernel
theorem c25_27 : gP 25 27 = some (.iconst 8, 2, 0, 0) := by decide +kernel
theorem c25_29 : gP 25 29 = some (.iload 4, 2, 0, 0) := by decide +kernel
theorem c25_31 : gP 25 31 = some (.imul, 1, 0, 0) := by decide +kernel
theorem c25_32 : gP 25 32 = some (.lshr, 1, 0, 0) := by decide +kernel
theorem c25_33 : gP 25 33 = some (.l2i, 1, 0, 0) := by decide +kernel
theorem c25_34 : gP 25 34 = some (.iconst 255, 3, 0, 0) := by decide +kernel
theorem c25_37 : gP 25 37 = some (.iand, 1, 0, 0) := by decide +kernel
theorem c25_38 : gP 25 38 = some (.iconst 32, 2, 0, 0) := by decide +kernel
theorem c25_40 : gP 25 40 = some (.iconst 126, 2, 0, 0) := by decide +kernel
theorem c25_42 : gP 25 42 = some (.invokeinterface 22 126, 3, 3, 0) := by decide +kernel
theorem c25_45 : gP 25 45 = some (.ifCond .ne 54, 3, 0, 0) := by decide +kernel
theorem c25_48 : gP 25 48 = some (.aload 0, 1, 0, 0) := by decide +kernel
theorem c25_49 : gP 25 49 = some (.iconst 1, 1, 0, 0) := by decide +kernel
theorem c25_50 : gP 25 50 = some (.invokeinterface 24 134, 3, 2, 1) := by decide +kernel
theorem c25_53 : gP 25 53 = some (.ireturn, 1, 0, 0) := by decide +kernel
theorem c25_54 : gP 25 54 = some (.iinc 4 1, 3, 0, 0) := by decide +kernel
theorem c25_57 : gP 25 57 = some (.goto 20, 3, 0, 0) := by decide +kernel
theorem c25_60 : gP 25 60 = some (.aload 0, 1, 0, 0) := by decide +kernel
theorem c25_61 : gP 25 61 = some (.aload 0, 1, 0, 0) := by decide +kernel
theorem c25_62 : gP 25 62 = some (.getfield 1, 3, 8, 138) := by decide +kernel
theorem c25_65 : gP 25 65 = some (.iload 3, 1, 0, 0) := by decide +kernel
theorem c25_66 : gP 25 66 = some (.iadd, 1, 0, 0) := by decide +kernel
theorem c25_67 : gP 25 67 = some (.iconst 320, 3, 0, 0) := by decide +kernel
theorem c25_70 : gP 25 70 = some (.if_icmp .gt 77, 3, 0, 0) := by decide +kernel
theorem c25_73 : gP 25 73 = some (.iconst 1, 1, 0, 0) := by decide +kernel
theorem c25_74 : gP 25 74 = some (.goto 78, 3, 0, 0) := by decide +kernel
theorem c25_77 : gP 25 77 = some (.iconst 0, 1, 0, 0) := by decide +kernel
theorem c25_78 : gP 25 78 = some (.iconst 2, 1, 0, 0) := by decide +kernel
theorem c25_79 : gP 25 79 = some (.invokeinterface 23 130, 3, 3, 1) := by decide +kernel
theorem c25_82 : gP 25 82 = some (.ifCond .ne 87, 3, 0, 0) := by decide +kernel
theorem c25_85 : gP 25 85 = some (.iconst 0, 1, 0, 0) := by decide +kernel
theorem c25_86 : gP 25 86 = some (.ireturn, 1, 0, 0) := by decide +kernel
theorem c25_87 : gP 25 87 = some (.iload 3, 1, 0, 0) := by decide +kernel
theorem c25_88 : gP 25 88 = some (.iconst 1, 1, 0, 0) := by decide +kernel
theorem c25_89 : gP 25 89 = some (.isub, 1, 0, 0) := by decide +kernel
theorem c25_90 : gP 25 90 = some (.istore 4, 2, 0, 0) := by decide +kernel
theorem c25_92 : gP 25 92 = some (.iload 4, 2, 0, 0) := by decide +kernel
theorem c25_94 : gP 25 94 = some (.ifCond .lt 134, 3, 0, 0) := by decide +kernel
theorem c25_97 : gP 25 97 = some (.aload 0, 1, 0, 0) := by decide +kernel
theorem c25_98 : gP 25 98 = some (.getfield 0, 3, 8, 7) := by decide +kernel
theorem c25_101 : gP 25 101 = some (.aload 0, 1, 0, 0) := by decide +kernel
theorem c25_102 : gP 25 102 = some (.getfield 1, 3, 8, 138) := by decide +kernel
theorem c25_105 : gP 25 105 = some (.lload 1, 1, 0, 0) := by decide +kernel
theorem c25_106 : gP 25 106 = some (.iconst 8, 2, 0, 0) := by decide +kernel
theorem c25_108 : gP 25 108 = some (.iload 4, 2, 0, 0) := by decide +kernel
theorem c25_110 : gP 25 110 = some (.imul, 1, 0, 0) := by decide +kernel
theorem c25_111 : gP 25 111 = some (.lshr, 1, 0, 0) := by decide +kernel
theorem c25_112 : gP 25 112 = some (.l2i, 1, 0, 0) := by decide +kernel
theorem c25_113 : gP 25 113 = some (.iconst 255, 3, 0, 0) := by decide +kernel
theorem c25_116 : gP 25 116 = some (.iand, 1, 0, 0) := by decide +kernel
theorem c25_117 : gP 25 117 = some (.iastore, 1, 0, 0) := by decide +kernel
theorem c25_118 : gP 25 118 = some (.aload 0, 1, 0, 0) := by decide +kernel
theorem c25_119 : gP 25 119 = some (.dup, 1, 0, 0) := by decide +kernel
theorem c25_120 : gP 25 120 = some (.getfield 1, 3, 8, 138) := by decide +kernel
theorem c25_123 : gP 25 123 = some (.iconst 1, 1, 0, 0) := by decide +kernel
theorem c25_124 : gP 25 124 = some (.iadd, 1, 0, 0) := by decide +kernel
theorem c25_125 : gP 25 125 = some (.putfield 1, 3, 8, 0) := by decide +kernel
theorem c25_128 : gP 25 128 = some (.iinc 4 (-1), 3, 0, 0) := by decide +kernel
theorem c25_131 : gP 25 131 = some (.goto 92, 3, 0, 0) := by decide +kernel
theorem c25_134 : gP 25 134 = some (.aload 0, 1, 0, 0) := by decide +kernel
theorem c25_135 : gP 25 135 = some (.getfield 1, 3, 8, 138) := by decide +kernel
theorem c25_138 : gP 25 138 = some (.ireturn, 1, 0, 0) := by decide +kernel
theorem kf0_0 : yfld gSh 414 0 0 7 = some (.inr (.inl 1)) := by decide +kernel
theorem kf0_6 : yfld gSh 414 0 6 7 = some (.inl 0) := by decide +kernel
theorem kf376_0 : yfld gSh 414 376 0 8 = some (.inr (.inl 377)) := by decide +kernel
theorem kf376_1 : yfld gSh 414 376 1 8 = some (.inl 0) := by decide +kernel
theorem kf376_57 : yfld gSh 414 376 57 8 = some (.inl 0) := by decide +kernel
theorem ka1 : yarr gSh 414 1 = some (3, 320) := by decide +kernel
theorem ka377 : yarr gSh 414 377 = some (0, 320) := by decide +kernel
theorem kl413 : ylar gSh 414 413 = some 1 := by decide +kernel
theorem ko0 : yobj gSh 414 0 = some 7 := by decide +kernel
theorem ko376 : yobj gSh 414 376 = some 8 := by decide +kernel
theorem km18 : gMc 18 = none := by decide +kernel
theorem km19 : gMc 19 = none := by decide +kernel
theorem km20 : gMc 20 = some 7 := by decide +kernel
theorem km22 : gMc 22 = none := by decide +kernel
theorem km23 : gMc 23 = some 8 := by decide +kernel
theorem km24 : gMc 24 = some 8 := by decide +kernel
theorem kn18 : gMx 18 = 3 := by decide +kernel
theorem kn19 : gMx 19 = 5 := by decide +kernel
theorem kn20 : gMx 20 = 5 := by decide +kernel
theorem kn21 : gMx 21 = 6 := by decide +kernel
theorem kn22 : gMx 22 = 3 := by decide +kernel
theorem kn23 : gMx 23 = 3 := by decide +kernel
theorem kn24 : gMx 24 = 2 := by decide +kernel
theorem kn25 : gMx 25 = 5 := by decide +kernel
theorem kh21_6_10 : gHd 21 6 10 = some (some 18) := by decide +kernel
theorem kh21_6_9 : gHd 21 6 9 = some (some 14) := by decide +kernel

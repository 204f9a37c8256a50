set_option maxRecDepth 100000 in
set_option maxHeartbeats 4000000 in
theorem g1_2 (xs : Nat → Int32) (x0 x1 x2 x3 : Int) (h0 : (xs 0).toInt = x0) (h1 : (xs 1).toInt = x1) (h2 : (xs 2).toInt = x2) (h3 : (xs 3).toInt = x3) (r1 : -2147483648 ≤ x1 ∧ x1 < 2147483648) (r2 : -2147483648 ≤ x2 ∧ x2 < 2147483648) (r3 : -2147483648 ≤ x3 ∧ x3 < 2147483648) (hop : (Int32.ofInt x0 &&& Int32.ofInt 15).toInt = 2) : YW (gZ 4 xs) 218 60 23 [some (.retAddr 0), some (.ref 0), some (.ref 376), some (.ref 413), some (yI 0), none, none] [] gMem 414 gQ1 := by
  refine y_iload 25 c218_23 rfl rfl ?_
  refine y_aload 26 c218_25 rfl rfl rfl ?_
  refine y_slen 27 c218_26 rfl ?_
  refine y_top 4 rfl ?_
  refine y_iconst 28 c218_27 rfl ?_
  refine y_isub 29 c218_28 rfl ?_
  refine y_top 0 (by decide) ?_
  refine y_icmp 959 32 c218_29 rfl rfl (yc_gt (by omega) (by omega)) (fun hb => ?_) (fun hb => ?_)
  · exfalso; omega
  · refine y_aload 33 c218_32 rfl rfl rfl ?_
    refine y_iload 35 c218_33 rfl rfl ?_
    refine s_load 36 x0 c218_35 rfl (by decide) h0 ?_
    refine y_iconst 38 c218_36 rfl ?_
    refine y_iand 39 c218_38 rfl ?_
    refine y_top 2 hop ?_
    refine y_tsw 264 c218_39 (by decide) (by decide) rfl rfl ?_
    refine y_aload 265 c218_264 rfl rfl rfl ?_
    refine y_aload 266 c218_265 rfl rfl rfl ?_
    refine y_inlB 269 [.ref 0, .ref 413] [] [some (.ref 0), some (.ref 413), none] c218_266 rfl rfl rfl rfl rfl (ycanS km95) kn95 rfl rfl ?_
    refine y_aload 1 c95_0 rfl rfl rfl ?_
    refine y_iconst 2 c95_1 rfl ?_
    refine y_aload 3 c95_2 rfl rfl rfl ?_
    refine y_inlB 6 [.ref 0] [yI 0, .ref 413] [some (.ref 0), none] c95_3 rfl rfl rfl rfl rfl (ycanO km94 ko0) kn94 rfl rfl ?_
    refine y_aload 1 c94_0 rfl rfl rfl ?_
    refine y_aload 2 c94_1 rfl rfl rfl ?_
    refine y_getR 5 c94_2 rfl kf0_1 ?_
    refine y_aload 6 c94_5 rfl rfl rfl ?_
    refine y_getR 9 c94_6 rfl kf0_0 ?_
    refine y_aload 10 c94_9 rfl rfl rfl ?_
    refine y_getX 13 0 c94_10 rfl kf0_6 rfl ?_
    refine y_aload 14 c94_13 rfl rfl rfl ?_
    refine y_getS 17 (B := 316) c94_14 rfl kf0_5 rfl ?_
    refine y_inlB 20 [.ref 2, .ref 1, yI 0, .ref 316] [.ref 0] [some (.ref 2), some (.ref 1), some (yI 0), some (.ref 316), none, none] c94_17 rfl rfl rfl rfl rfl (ycanO km74 ko2) kn74 rfl rfl ?_
    refine y_aload 1 c74_0 rfl rfl rfl ?_
    refine y_aload 2 c74_1 rfl rfl rfl ?_
    refine y_putS 5 1 c74_2 rfl kf2_1 rfl ?_
    refine y_aload 6 c74_5 rfl rfl rfl ?_
    refine y_getS 9 (B := 316) c74_6 rfl kf2_1 rfl ?_
    refine y_inlB 12 [.ref 316] [] [some (.ref 316)] c74_9 rfl rfl rfl rfl rfl (ycanO km30 ko316) kn30 rfl rfl ?_
    refine y_aload 1 c30_0 rfl rfl rfl ?_
    refine y_iconst 2 c30_1 rfl ?_
    refine y_putI 5 c30_2 rfl kf316_9 (y_fit0 _) ?_
    refine y_aload 6 c30_5 rfl rfl rfl ?_
    refine y_iconst 7 c30_6 rfl ?_
    refine y_putI 10 c30_7 rfl kf316_10 (y_fit0 _) ?_
    refine y_aload 11 c30_10 rfl rfl rfl ?_
    refine y_iconst 12 c30_11 rfl ?_
    refine y_putI 15 c30_12 rfl kf316_11 (y_fit0 _) ?_
    refine y_aload 16 c30_15 rfl rfl rfl ?_
    refine y_iconst 17 c30_16 rfl ?_
    refine y_putI 20 c30_17 rfl kf316_12 (y_fit0 _) ?_
    refine y_aload 21 c30_20 rfl rfl rfl ?_
    refine y_iconst 22 c30_21 rfl ?_
    refine y_putI 25 c30_22 rfl kf316_13 (y_fit0 _) ?_
    refine y_aload 26 c30_25 rfl rfl rfl ?_
    refine y_iconst 27 c30_26 rfl ?_
    refine y_putI 30 c30_27 rfl kf316_14 (y_fit0 _) ?_
    refine y_aload 31 c30_30 rfl rfl rfl ?_
    refine y_iconst 32 c30_31 rfl ?_
    refine y_putI 35 c30_32 rfl kf316_15 (y_fit0 _) ?_
    refine y_aload 36 c30_35 rfl rfl rfl ?_
    refine y_iconst 37 c30_36 rfl ?_
    refine y_putI 40 c30_37 rfl kf316_16 (y_fit0 _) ?_
    refine y_returnK c30_40 ?_
    refine y_aload 13 c74_12 rfl rfl rfl ?_
    refine y_getR 16 c74_13 rfl kf2_0 ?_
    refine y_aload 17 c74_16 rfl rfl rfl ?_
    refine y_iload 18 c74_17 rfl rfl ?_
    refine y_inlB 21 [.ref 3, .ref 1, yI 0] [] [some (.ref 3), some (.ref 1), some (yI 0), none, none, none, none] c74_18 rfl rfl rfl rfl rfl (ycanO km36 ko3) kn36 rfl rfl ?_
    refine y_aload 1 c36_0 rfl rfl rfl ?_
    refine y_iconst 2 c36_1 rfl ?_
    refine y_putI 5 c36_2 rfl kf3_4 (y_fit0 _) ?_
    refine y_iconst 6 c36_5 rfl ?_
    refine y_istore 7 c36_6 rfl rfl ?_
    refine y_iconst 8 c36_7 rfl ?_
    refine y_istore 10 c36_8 rfl rfl ?_
    refine y_iconst 11 c36_10 rfl ?_
    refine y_istore 13 c36_11 rfl rfl ?_
    refine y_iload 15 c36_13 rfl rfl ?_
    refine y_iload 16 c36_15 rfl rfl ?_
    refine y_icmp 102 19 c36_16 rfl rfl (yc_ge (by omega) (by omega)) (fun hb => ?_) (fun hb => ?_)
    · refine y_aload 103 c36_102 rfl rfl rfl ?_
      refine y_iconst 104 c36_103 rfl ?_
      refine y_iload 105 c36_104 rfl rfl ?_
      refine y_inlB 108 [.ref 3, yI 0, yI 0] [] [some (.ref 3), some (yI 0), some (yI 0)] c36_105 rfl rfl rfl rfl rfl (ycanO km32 ko3) kn32 rfl rfl ?_
      refine y_aload 1 c32_0 rfl rfl rfl ?_
      refine y_getR 4 c32_1 rfl kf3_1 ?_
      refine y_aload 5 c32_4 rfl rfl rfl ?_
      refine y_getX 8 0 c32_5 rfl kf3_4 rfl ?_
      refine y_iload 9 c32_8 rfl rfl ?_
      refine y_iastore 10 c32_9 rfl ka5 (by decide) (y_nar0 _) ?_
      refine y_aload 11 c32_10 rfl rfl rfl ?_
      refine y_getR 14 c32_11 rfl kf3_2 ?_
      refine y_aload 15 c32_14 rfl rfl rfl ?_
      refine y_getX 18 0 c32_15 rfl kf3_4 rfl ?_
      refine y_iload 19 c32_18 rfl rfl ?_
      refine y_iastore 20 c32_19 rfl ka6 (by decide) (y_nar0 _) ?_
      refine y_aload 21 c32_20 rfl rfl rfl ?_
      refine y_getR 24 c32_21 rfl kf3_3 ?_
      refine y_aload 25 c32_24 rfl rfl rfl ?_
      refine y_getX 28 0 c32_25 rfl kf3_4 rfl ?_
      refine y_iconst 29 c32_28 rfl ?_
      refine y_iastore 30 c32_29 rfl ka7 (by decide) (y_nar0 _) ?_
      refine y_aload 31 c32_30 rfl rfl rfl ?_
      refine y_dup 32 c32_31 rfl rfl ?_
      refine y_getX 35 0 c32_32 rfl kf3_4 rfl ?_
      refine y_iconst 36 c32_35 rfl ?_
      refine y_iadd 37 c32_36 rfl ?_
      refine y_top 1 (by decide) ?_
      refine y_putI 40 c32_37 rfl kf3_4 (y_fit0 _) ?_
      refine y_returnK c32_40 ?_
      refine y_aload 109 c36_108 rfl rfl rfl ?_
      refine y_inlB 112 [.ref 3] [] [some (.ref 3), none, none] c36_109 rfl rfl rfl rfl rfl (ycanO km35 ko3) kn35 rfl rfl ?_
      refine y_iconst 1 c35_0 rfl ?_
      refine y_istore 2 c35_1 rfl rfl ?_
      refine y_iload 3 c35_2 rfl rfl ?_
      refine y_aload 4 c35_3 rfl rfl rfl ?_
      refine y_getX 7 1 c35_4 rfl kf3_4 rfl ?_
      refine y_icmp 66 10 c35_7 rfl rfl (yc_ge (by omega) (by omega)) (fun hb => ?_) (fun hb => ?_)
      · exfalso; omega
      · refine y_iconst 11 c35_10 rfl ?_
        refine y_istore 12 c35_11 rfl rfl ?_
        refine y_iload 13 c35_12 rfl rfl ?_
        refine y_aload 14 c35_13 rfl rfl rfl ?_
        refine y_getR 17 c35_14 rfl kf3_0 ?_
        refine y_alen 18 c35_17 rfl ka4 ?_
        refine y_icmp 60 21 c35_18 rfl rfl (yc_ge (by omega) (by omega)) (fun hb => ?_) (fun hb => ?_)
        · exfalso; omega
        · refine y_aload 22 c35_21 rfl rfl rfl ?_
          refine y_getR 25 c35_22 rfl kf3_1 ?_
          refine y_iload 26 c35_25 rfl rfl ?_
          refine y_iaX 27 0 c35_26 rfl ka5 (by decide) rfl ?_
          refine y_iconst 29 c35_27 rfl ?_
          refine y_icmp 60 32 c35_29 rfl rfl (yc_ne (by omega) (by omega)) (fun hb => ?_) (fun hb => ?_)
          · refine y_iincN 63 1 c35_60 rfl rfl (by decide) rfl ?_
            refine y_goto 2 c35_63 rfl ?_
            refine y_iload 3 c35_2 rfl rfl ?_
            refine y_aload 4 c35_3 rfl rfl rfl ?_
            refine y_getX 7 1 c35_4 rfl kf3_4 rfl ?_
            refine y_icmp 66 10 c35_7 rfl rfl (yc_ge (by omega) (by omega)) (fun hb => ?_) (fun hb => ?_)
            · refine y_returnK c35_66 ?_
              refine y_returnK c36_112 ?_
              refine y_aload 22 c74_21 rfl rfl rfl ?_
              refine y_iconst 23 c74_22 rfl ?_
              refine y_putI 26 c74_23 rfl kf2_2 (y_fit0 _) ?_
              refine y_aload 27 c74_26 rfl rfl rfl ?_
              refine y_iconst 28 c74_27 rfl ?_
              refine y_putI 31 c74_28 rfl kf2_3 (y_fit1 (by omega)) ?_
              refine y_aload 32 c74_31 rfl rfl rfl ?_
              refine y_inlB 35 [.ref 2] [] [some (.ref 2)] c74_32 rfl rfl rfl rfl rfl (ycanO km45 ko2) kn45 rfl rfl ?_
              refine y_aload 1 c45_0 rfl rfl rfl ?_
              refine y_iconst 2 c45_1 rfl ?_
              refine y_inlB 5 [.ref 2, yI 1] [] [some (.ref 2), some (yI 1)] c45_2 rfl rfl rfl rfl rfl (ycanO km37 ko2) kn37 rfl rfl ?_
              refine y_aload 1 c37_0 rfl rfl rfl ?_
              refine y_getR 4 c37_1 rfl kf2_0 ?_
              refine y_getR 7 c37_4 rfl kf3_1 ?_
              refine y_aload 8 c37_7 rfl rfl rfl ?_
              refine y_getX 11 0 c37_8 rfl kf2_2 rfl ?_
              refine y_iaX 12 0 c37_11 rfl ka5 (by decide) rfl ?_
              refine y_iload 13 c37_12 rfl rfl ?_
              refine y_icmp 34 16 c37_13 rfl rfl (yc_eq (by omega) (by omega)) (fun hb => ?_) (fun hb => ?_)
              · exfalso; omega
              · refine y_aload 17 c37_16 rfl rfl rfl ?_
                refine y_aload 18 c37_17 rfl rfl rfl ?_
                refine y_getR 21 c37_18 rfl kf2_0 ?_
                refine y_getR 24 c37_21 rfl kf3_2 ?_
                refine y_aload 25 c37_24 rfl rfl rfl ?_
                refine y_getX 28 0 c37_25 rfl kf2_2 rfl ?_
                refine y_iaX 29 0 c37_28 rfl ka6 (by decide) rfl ?_
                refine y_putI 32 c37_29 rfl kf2_4 (y_fit0 _) ?_
                refine y_iconst 33 c37_32 rfl ?_
                refine y_ireturnK c37_33 (y_fit1 (by omega)) ?_
                refine y_if 10 8 c45_5 rfl rfl (yz_ne (by omega)) (fun hb => ?_) (fun hb => ?_)
                · exfalso; omega
                · refine y_iconst 9 c45_8 rfl ?_
                  refine y_ireturnK c45_9 (y_fit1 (by omega)) ?_
                  refine y_istore 37 c74_35 rfl rfl ?_
                  refine y_iconst 38 c74_37 rfl ?_
                  refine y_istore 40 c74_38 rfl rfl ?_
                  refine y_iload 42 c74_40 rfl rfl ?_
                  refine y_iconst 45 c74_42 rfl ?_
                  refine y_icmp 139 48 c74_45 rfl rfl (yc_ge (by omega) (by omega)) (fun hb => ?_) (fun hb => ?_)
                  · exfalso; omega
                  · refine y_iload 50 c74_48 rfl rfl ?_
                    refine y_if 139 53 c74_50 rfl rfl (yz_eq (by omega)) (fun hb => ?_) (fun hb => ?_)
                    · refine y_iload 141 c74_139 rfl rfl ?_
                      refine y_if 154 144 c74_141 rfl rfl (yz_eq (by omega)) (fun hb => ?_) (fun hb => ?_)
                      · refine y_aload 155 c74_154 rfl rfl rfl ?_
                        refine y_getX 158 0 c74_155 rfl kf2_4 rfl ?_
                        refine y_ireturnK c74_158 (y_fit0 _) ?_
                        refine y_putI 23 c94_20 rfl kf0_7 (y_fit0 _) ?_
                        refine y_aload 24 c94_23 rfl rfl rfl ?_
                        refine y_getX 27 0 c94_24 rfl kf0_7 rfl ?_
                        refine y_iconst 28 c94_27 rfl ?_
                        refine y_icmp 39 31 c94_28 rfl rfl (yc_eq (by omega) (by omega)) (fun hb => ?_) (fun hb => ?_)
                        · exfalso; omega
                        · refine y_throwB c94_31 rfl ?_
                          refine yK_in kh95_3_9 ?_
                          refine y_astore 12 c95_11 rfl rfl rfl ?_
                          refine y_iconst 13 c95_12 rfl ?_
                          refine y_ireturnK c95_13 (y_fit0 _) ?_
                          refine y_istore 271 c218_269 rfl rfl ?_
                          refine y_aload 272 c218_271 rfl rfl rfl ?_
                          refine y_inlB 275 [.ref 376] [] [some (.ref 376), none, none, none] c218_272 rfl rfl rfl rfl rfl (ycanO km152 ko376) kn152 rfl rfl ?_
                          refine y_aload 1 c152_0 rfl rfl rfl ?_
                          refine y_inlB 4 [.ref 376] [] [some (.ref 376)] c152_1 rfl rfl rfl rfl rfl (ycanO km96 ko376) kn96 rfl rfl ?_
                          refine y_iconst 1 c96_0 rfl ?_
                          refine y_aload 2 c96_1 rfl rfl rfl ?_
                          refine y_getX 5 0 c96_2 rfl kf376_18 rfl ?_
                          refine y_isub 6 c96_5 rfl ?_
                          refine y_top 1 (by decide) ?_
                          refine y_ireturnK c96_6 (y_fit0 _) ?_
                          refine y_istore 5 c152_4 rfl rfl ?_
                          refine y_aload 6 c152_5 rfl rfl rfl ?_
                          refine y_getR 9 c152_6 rfl kf376_20 ?_
                          refine y_iload 10 c152_9 rfl rfl ?_
                          refine y_iconst 11 c152_10 rfl ?_
                          refine y_iastore 12 c152_11 rfl ka383 (by decide) (y_nar0 _) ?_
                          refine y_aload 13 c152_12 rfl rfl rfl ?_
                          refine y_getR 16 c152_13 rfl kf376_21 ?_
                          refine y_iload 17 c152_16 rfl rfl ?_
                          refine y_iconst 18 c152_17 rfl ?_
                          refine y_iastore 19 c152_18 rfl ka384 (by decide) (y_nar0 _) ?_
                          refine y_aload 20 c152_19 rfl rfl rfl ?_
                          refine y_getR 23 c152_20 rfl kf376_22 ?_
                          refine y_iload 24 c152_23 rfl rfl ?_
                          refine y_iconst 25 c152_24 rfl ?_
                          refine y_iastore 26 c152_25 rfl ka385 (by decide) (y_nar0 _) ?_
                          refine y_aload 27 c152_26 rfl rfl rfl ?_
                          refine y_getR 30 c152_27 rfl kf376_23 ?_
                          refine y_iload 31 c152_30 rfl rfl ?_
                          refine y_iconst 32 c152_31 rfl ?_
                          refine y_iastore 33 c152_32 rfl ka386 (by decide) (y_nar0 _) ?_
                          refine y_aload 34 c152_33 rfl rfl rfl ?_
                          refine y_getR 37 c152_34 rfl kf376_24 ?_
                          refine y_iload 38 c152_37 rfl rfl ?_
                          refine y_iconst 39 c152_38 rfl ?_
                          refine y_iastore 40 c152_39 rfl ka387 (by decide) (y_nar0 _) ?_
                          refine y_aload 41 c152_40 rfl rfl rfl ?_
                          refine y_getR 44 c152_41 rfl kf376_25 ?_
                          refine y_iload 45 c152_44 rfl rfl ?_
                          refine y_iconst 46 c152_45 rfl ?_
                          refine y_iastore 47 c152_46 rfl ka388 (by decide) (y_nar0 _) ?_
                          refine y_aload 48 c152_47 rfl rfl rfl ?_
                          refine y_getR 51 c152_48 rfl kf376_26 ?_
                          refine y_iload 52 c152_51 rfl rfl ?_
                          refine y_iconst 53 c152_52 rfl ?_
                          refine y_iastore 54 c152_53 rfl ka389 (by decide) (y_nar0 _) ?_
                          refine y_aload 55 c152_54 rfl rfl rfl ?_
                          refine y_getR 58 c152_55 rfl kf376_27 ?_
                          refine y_iload 59 c152_58 rfl rfl ?_
                          refine y_iconst 60 c152_59 rfl ?_
                          refine y_iastore 61 c152_60 rfl ka390 (by decide) (y_nar0 _) ?_
                          refine y_aload 62 c152_61 rfl rfl rfl ?_
                          refine y_getR 65 c152_62 rfl kf376_37 ?_
                          refine y_iconst 67 c152_65 rfl ?_
                          refine y_iload 68 c152_67 rfl rfl ?_
                          refine y_imul 69 c152_68 rfl ?_
                          refine y_top 12 (by decide) ?_
                          refine y_iconst 70 c152_69 rfl ?_
                          refine y_iastore 71 c152_70 rfl ka400 (by decide) (y_nar0 _) ?_
                          refine y_aload 72 c152_71 rfl rfl rfl ?_
                          refine y_iconst 73 c152_72 rfl ?_
                          refine y_putI 76 c152_73 rfl kf376_9 (y_fit0 _) ?_
                          refine y_aload 77 c152_76 rfl rfl rfl ?_
                          refine y_iconst 78 c152_77 rfl ?_
                          refine y_putI 81 c152_78 rfl kf376_17 (y_fit0 _) ?_
                          refine y_aload 82 c152_81 rfl rfl rfl ?_
                          refine y_iconst 83 c152_82 rfl ?_
                          refine y_putI 86 c152_83 rfl kf376_6 (y_fit0 _) ?_
                          refine y_aload 87 c152_86 rfl rfl rfl ?_
                          refine y_iconst 88 c152_87 rfl ?_
                          refine y_putI 91 c152_88 rfl kf376_8 (y_fit0 _) ?_
                          refine y_aload 92 c152_91 rfl rfl rfl ?_
                          refine y_inlB 95 [.ref 376] [] [some (.ref 376), none, none, none] c152_92 rfl rfl rfl rfl rfl (ycanO km99 ko376) kn99 rfl rfl ?_
                          refine y_aload 1 c99_0 rfl rfl rfl ?_
                          refine y_aload 2 c99_1 rfl rfl rfl ?_
                          refine y_getX 5 0 c99_2 rfl kf376_6 rfl ?_
                          refine y_putI 8 c99_5 rfl kf376_7 (y_fit0 _) ?_
                          refine y_aload 9 c99_8 rfl rfl rfl ?_
                          refine y_getX 12 0 c99_9 rfl kf376_6 rfl ?_
                          refine y_istore 13 c99_12 rfl rfl ?_
                          refine y_iload 14 c99_13 rfl rfl ?_
                          refine y_aload 15 c99_14 rfl rfl rfl ?_
                          refine y_getX 18 0 c99_15 rfl kf376_1 rfl ?_
                          refine y_icmp 38 21 c99_18 rfl rfl (yc_ge (by omega) (by omega)) (fun hb => ?_) (fun hb => ?_)
                          · refine y_aload 39 c99_38 rfl rfl rfl ?_
                            refine y_iload 40 c99_39 rfl rfl ?_
                            refine y_putI 43 c99_40 rfl kf376_5 (y_fit0 _) ?_
                            refine y_iload 44 c99_43 rfl rfl ?_
                            refine y_aload 45 c99_44 rfl rfl rfl ?_
                            refine y_getX 48 0 c99_45 rfl kf376_1 rfl ?_
                            refine y_icmp 57 51 c99_48 rfl rfl (yc_ne (by omega) (by omega)) (fun hb => ?_) (fun hb => ?_)
                            · exfalso; omega
                            · refine y_aload 52 c99_51 rfl rfl rfl ?_
                              refine y_iconst 53 c99_52 rfl ?_
                              refine y_putI 56 c99_53 rfl kf376_3 (y_fit0 _) ?_
                              refine y_returnK c99_56 ?_
                              refine y_aload 96 c152_95 rfl rfl rfl ?_
                              refine y_inlB 99 [.ref 376] [] [some (.ref 376)] c152_96 rfl rfl rfl rfl rfl (ycanO km140 ko376) kn140 rfl rfl ?_
                              refine y_aload 1 c140_0 rfl rfl rfl ?_
                              refine y_inlB 4 [.ref 376] [] [some (.ref 376), none, none, none, none, none] c140_1 rfl rfl rfl rfl rfl (ycanO km119 ko376) kn119 rfl rfl ?_
                              refine y_aload 1 c119_0 rfl rfl rfl ?_
                              refine y_inlB 4 [.ref 376] [] [some (.ref 376)] c119_1 rfl rfl rfl rfl rfl (ycanO km96 ko376) kn96 rfl rfl ?_
                              refine y_iconst 1 c96_0 rfl ?_
                              refine y_aload 2 c96_1 rfl rfl rfl ?_
                              refine y_getX 5 0 c96_2 rfl kf376_18 rfl ?_
                              refine y_isub 6 c96_5 rfl ?_
                              refine y_top 1 (by decide) ?_
                              refine y_ireturnK c96_6 (y_fit0 _) ?_
                              refine y_istore 5 c119_4 rfl rfl ?_
                              refine y_aload 6 c119_5 rfl rfl rfl ?_
                              refine y_aload 7 c119_6 rfl rfl rfl ?_
                              refine y_inlB 10 [.ref 376] [.ref 376] [some (.ref 376)] c119_7 rfl rfl rfl rfl rfl (ycanO km103 ko376) kn103 rfl rfl ?_
                              refine y_aload 1 c103_0 rfl rfl rfl ?_
                              refine y_iconst 3 c103_1 rfl ?_
                              refine y_iconst 5 c103_3 rfl ?_
                              refine y_iconst 7 c103_5 rfl ?_
                              refine y_iconst 9 c103_7 rfl ?_
                              refine y_iconst 11 c103_9 rfl ?_
                              refine y_iconst 12 c103_11 rfl ?_
                              refine y_inlB 15 [yI 99, yI 108, yI 97, yI 115, yI 115, yI 0] [.ref 376] [some (yI 99), some (yI 108), some (yI 97), some (yI 115), some (yI 115), some (yI 0)] c103_12 rfl rfl rfl rfl rfl (ycanS km101) kn101 rfl rfl ?_
                              refine y_iconst 1 c101_0 rfl ?_
                              refine y_iload 2 c101_1 rfl rfl ?_
                              refine y_inlB 5 [yI 0, yI 99] [] [some (yI 0), some (yI 99)] c101_2 rfl rfl rfl rfl rfl (ycanS km100) kn100 rfl rfl ?_
                              refine y_iload 1 c100_0 rfl rfl ?_
                              refine y_if 8 4 c100_1 rfl rfl (yz_ne (by omega)) (fun hb => ?_) (fun hb => ?_)
                              · refine y_iconst 10 c100_8 rfl ?_
                                refine y_iload 11 c100_10 rfl rfl ?_
                                refine y_imul 12 c100_11 rfl ?_
                                refine y_top 0 (by decide) ?_
                                refine y_iload 13 c100_12 rfl rfl ?_
                                refine y_iadd 14 c100_13 rfl ?_
                                refine y_top 99 (by decide) ?_
                                refine y_iconst 16 c100_14 rfl ?_
                                refine y_isub 17 c100_16 rfl ?_
                                refine y_top 2 (by decide) ?_
                                refine y_iconst 18 c100_17 rfl ?_
                                refine y_iadd 19 c100_18 rfl ?_
                                refine y_top 3 (by decide) ?_
                                refine y_ireturnK c100_19 (y_fit0 _) ?_
                                refine y_iload 6 c101_5 rfl rfl ?_
                                refine y_inlB 9 [yI 3, yI 108] [] [some (yI 3), some (yI 108)] c101_6 rfl rfl rfl rfl rfl (ycanS km100) kn100 rfl rfl ?_
                                refine y_iload 1 c100_0 rfl rfl ?_
                                refine y_if 8 4 c100_1 rfl rfl (yz_ne (by omega)) (fun hb => ?_) (fun hb => ?_)
                                · refine y_iconst 10 c100_8 rfl ?_
                                  refine y_iload 11 c100_10 rfl rfl ?_
                                  refine y_imul 12 c100_11 rfl ?_
                                  refine y_top 81 (by decide) ?_
                                  refine y_iload 13 c100_12 rfl rfl ?_
                                  refine y_iadd 14 c100_13 rfl ?_
                                  refine y_top 189 (by decide) ?_
                                  refine y_iconst 16 c100_14 rfl ?_
                                  refine y_isub 17 c100_16 rfl ?_
                                  refine y_top 92 (by decide) ?_
                                  refine y_iconst 18 c100_17 rfl ?_
                                  refine y_iadd 19 c100_18 rfl ?_
                                  refine y_top 93 (by decide) ?_
                                  refine y_ireturnK c100_19 (y_fit0 _) ?_
                                  refine y_iload 10 c101_9 rfl rfl ?_
                                  refine y_inlB 13 [yI 93, yI 97] [] [some (yI 93), some (yI 97)] c101_10 rfl rfl rfl rfl rfl (ycanS km100) kn100 rfl rfl ?_
                                  refine y_iload 1 c100_0 rfl rfl ?_
                                  refine y_if 8 4 c100_1 rfl rfl (yz_ne (by omega)) (fun hb => ?_) (fun hb => ?_)
                                  · refine y_iconst 10 c100_8 rfl ?_
                                    refine y_iload 11 c100_10 rfl rfl ?_
                                    refine y_imul 12 c100_11 rfl ?_
                                    refine y_top 2511 (by decide) ?_
                                    refine y_iload 13 c100_12 rfl rfl ?_
                                    refine y_iadd 14 c100_13 rfl ?_
                                    refine y_top 2608 (by decide) ?_
                                    refine y_iconst 16 c100_14 rfl ?_
                                    refine y_isub 17 c100_16 rfl ?_
                                    refine y_top 2511 (by decide) ?_
                                    refine y_iconst 18 c100_17 rfl ?_
                                    refine y_iadd 19 c100_18 rfl ?_
                                    refine y_top 2512 (by decide) ?_
                                    refine y_ireturnK c100_19 (y_fit0 _) ?_
                                    refine y_iload 14 c101_13 rfl rfl ?_
                                    refine y_inlB 17 [yI 2512, yI 115] [] [some (yI 2512), some (yI 115)] c101_14 rfl rfl rfl rfl rfl (ycanS km100) kn100 rfl rfl ?_
                                    refine y_iload 1 c100_0 rfl rfl ?_
                                    refine y_if 8 4 c100_1 rfl rfl (yz_ne (by omega)) (fun hb => ?_) (fun hb => ?_)
                                    · refine y_iconst 10 c100_8 rfl ?_
                                      refine y_iload 11 c100_10 rfl rfl ?_
                                      refine y_imul 12 c100_11 rfl ?_
                                      refine y_top 67824 (by decide) ?_
                                      refine y_iload 13 c100_12 rfl rfl ?_
                                      refine y_iadd 14 c100_13 rfl ?_
                                      refine y_top 67939 (by decide) ?_
                                      refine y_iconst 16 c100_14 rfl ?_
                                      refine y_isub 17 c100_16 rfl ?_
                                      refine y_top 67842 (by decide) ?_
                                      refine y_iconst 18 c100_17 rfl ?_
                                      refine y_iadd 19 c100_18 rfl ?_
                                      refine y_top 67843 (by decide) ?_
                                      refine y_ireturnK c100_19 (y_fit0 _) ?_
                                      refine y_iload 19 c101_17 rfl rfl ?_
                                      refine y_inlB 22 [yI 67843, yI 115] [] [some (yI 67843), some (yI 115)] c101_19 rfl rfl rfl rfl rfl (ycanS km100) kn100 rfl rfl ?_
                                      refine y_iload 1 c100_0 rfl rfl ?_
                                      refine y_if 8 4 c100_1 rfl rfl (yz_ne (by omega)) (fun hb => ?_) (fun hb => ?_)
                                      · refine y_iconst 10 c100_8 rfl ?_
                                        refine y_iload 11 c100_10 rfl rfl ?_
                                        refine y_imul 12 c100_11 rfl ?_
                                        refine y_top 1831761 (by decide) ?_
                                        refine y_iload 13 c100_12 rfl rfl ?_
                                        refine y_iadd 14 c100_13 rfl ?_
                                        refine y_top 1831876 (by decide) ?_
                                        refine y_iconst 16 c100_14 rfl ?_
                                        refine y_isub 17 c100_16 rfl ?_
                                        refine y_top 1831779 (by decide) ?_
                                        refine y_iconst 18 c100_17 rfl ?_
                                        refine y_iadd 19 c100_18 rfl ?_
                                        refine y_top 1831780 (by decide) ?_
                                        refine y_ireturnK c100_19 (y_fit0 _) ?_
                                        refine y_iload 24 c101_22 rfl rfl ?_
                                        refine y_inlB 27 [yI 1831780, yI 0] [] [some (yI 1831780), some (yI 0)] c101_24 rfl rfl rfl rfl rfl (ycanS km100) kn100 rfl rfl ?_
                                        refine y_iload 1 c100_0 rfl rfl ?_
                                        refine y_if 8 4 c100_1 rfl rfl (yz_ne (by omega)) (fun hb => ?_) (fun hb => ?_)
                                        · exfalso; omega
                                        · refine y_iload 5 c100_4 rfl rfl ?_
                                          refine y_goto 19 c100_5 rfl ?_
                                          refine y_ireturnK c100_19 (y_fit0 _) ?_
                                          refine y_ireturnK c101_27 (y_fit0 _) ?_
                                          refine y_inlB 18 [.ref 376, yI 1831780] [] [some (.ref 376), some (yI 1831780)] c103_15 rfl rfl rfl rfl rfl (ycanO km102 ko376) kn102 rfl rfl ?_
                                          refine y_aload 1 c102_0 rfl rfl rfl ?_
                                          refine y_getX 4 0 c102_1 rfl kf376_3 rfl ?_
                                          refine y_iconst 5 c102_4 rfl ?_
                                          refine y_icmp 20 8 c102_5 rfl rfl (yc_ne (by omega) (by omega)) (fun hb => ?_) (fun hb => ?_)
                                          · refine y_iconst 21 c102_20 rfl ?_
                                            refine y_ireturnK c102_21 (y_fit1 (by omega)) ?_
                                            refine y_ireturnK c103_18 (y_fit1 (by omega)) ?_
                                            refine y_inlB 13 [.ref 376, yI 0] [] [some (.ref 376), some (yI 0)] c119_10 rfl rfl rfl rfl rfl (ycanO km105 ko376) kn105 rfl rfl ?_
                                            refine y_iload 1 c105_0 rfl rfl ?_
                                            refine y_if 8 4 c105_1 rfl rfl (yz_ne (by omega)) (fun hb => ?_) (fun hb => ?_)
                                            · exfalso; omega
                                            · refine y_aload 5 c105_4 rfl rfl rfl ?_
                                              refine y_inlB 8 [.ref 376] [] [some (.ref 376)] c105_5 rfl rfl rfl rfl rfl (ycanO km104 ko376) kn104 rfl rfl ?_
                                              refine y_aload 1 c104_0 rfl rfl rfl ?_
                                              refine y_getX 4 ((-1)) c104_1 rfl kf376_8 rfl ?_
                                              refine y_if 29 7 c104_4 rfl rfl (yz_ge (by omega)) (fun hb => ?_) (fun hb => ?_)
                                              · exfalso; omega
                                              · refine y_aload 8 c104_7 rfl rfl rfl ?_
                                                refine y_aload 9 c104_8 rfl rfl rfl ?_
                                                refine y_getX 12 0 c104_9 rfl kf376_3 rfl ?_
                                                refine y_if 22 15 c104_12 rfl rfl (yz_ne (by omega)) (fun hb => ?_) (fun hb => ?_)
                                                · exfalso; omega
                                                · refine y_aload 16 c104_15 rfl rfl rfl ?_
                                                  refine y_getX 19 0 c104_16 rfl kf376_7 rfl ?_
                                                  refine y_goto 26 c104_19 rfl ?_
                                                  refine y_putI 29 c104_26 rfl kf376_8 (y_fit0 _) ?_
                                                  refine y_returnK c104_29 ?_
                                                  refine y_aload 9 c105_8 rfl rfl rfl ?_
                                                  refine y_getX 12 0 c105_9 rfl kf376_8 rfl ?_
                                                  refine y_if 17 15 c105_12 rfl rfl (yz_lt (by omega)) (fun hb => ?_) (fun hb => ?_)
                                                  · exfalso; omega
                                                  · refine y_iconst 16 c105_15 rfl ?_
                                                    refine y_ireturnK c105_16 (y_fit1 (by omega)) ?_
                                                    refine y_if 17 16 c119_13 rfl rfl (yz_ne (by omega)) (fun hb => ?_) (fun hb => ?_)
                                                    · exfalso; omega
                                                    · refine y_returnK c119_16 ?_
                                                      refine y_aload 5 c140_4 rfl rfl rfl ?_
                                                      refine y_getX 8 0 c140_5 rfl kf376_8 rfl ?_
                                                      refine y_if 66 11 c140_8 rfl rfl (yz_ge (by omega)) (fun hb => ?_) (fun hb => ?_)
                                                      · refine y_aload 67 c140_66 rfl rfl rfl ?_
                                                        refine y_getX 70 0 c140_67 rfl kf376_8 rfl ?_
                                                        refine y_if 77 73 c140_70 rfl rfl (yz_ge (by omega)) (fun hb => ?_) (fun hb => ?_)
                                                        · refine y_returnK c140_77 ?_
                                                          refine y_aload 100 c152_99 rfl rfl rfl ?_
                                                          refine y_getX 103 0 c152_100 rfl kf376_8 rfl ?_
                                                          refine y_if 120 106 c152_103 rfl rfl (yz_ge (by omega)) (fun hb => ?_) (fun hb => ?_)
                                                          · refine y_aload 121 c152_120 rfl rfl rfl ?_
                                                            refine y_getX 124 0 c152_121 rfl kf376_8 rfl ?_
                                                            refine y_if 132 127 c152_124 rfl rfl (yz_ge (by omega)) (fun hb => ?_) (fun hb => ?_)
                                                            · refine y_aload 133 c152_132 rfl rfl rfl ?_
                                                              refine y_aload 134 c152_133 rfl rfl rfl ?_
                                                              refine y_getX 137 0 c152_134 rfl kf376_8 rfl ?_
                                                              refine y_putI 140 c152_137 rfl kf376_2 (y_fit0 _) ?_
                                                              refine y_aload 141 c152_140 rfl rfl rfl ?_
                                                              refine y_aload 142 c152_141 rfl rfl rfl ?_
                                                              refine y_getX 145 0 c152_142 rfl kf376_8 rfl ?_
                                                              refine y_if 152 148 c152_145 rfl rfl (yz_ge (by omega)) (fun hb => ?_) (fun hb => ?_)
                                                              · refine y_iconst 153 c152_152 rfl ?_
                                                                refine y_iconst 154 c152_153 rfl ?_
                                                                refine y_inlB 157 [.ref 376, yI 0, yI 1] [] [some (.ref 376), some (yI 0), some (yI 1)] c152_154 rfl rfl rfl rfl rfl (ycanO km23 ko376) kn23 rfl rfl ?_
                                                                refine y_aload 1 c23_0 rfl rfl rfl ?_
                                                                refine y_iload 2 c23_1 rfl rfl ?_
                                                                refine y_if 9 5 c23_2 rfl rfl (yz_eq (by omega)) (fun hb => ?_) (fun hb => ?_)
                                                                · refine y_iload 10 c23_9 rfl rfl ?_
                                                                  refine y_putI 13 c23_10 rfl kf376_57 (y_fit0 _) ?_
                                                                  refine y_iload 14 c23_13 rfl rfl ?_
                                                                  refine y_ireturnK c23_14 (y_fit1 (by omega)) ?_
                                                                  refine y_if 162 160 c152_157 rfl rfl (yz_ne (by omega)) (fun hb => ?_) (fun hb => ?_)
                                                                  · exfalso; omega
                                                                  · refine y_iconst 161 c152_160 rfl ?_
                                                                    refine y_ireturnK c152_161 (y_fit0 _) ?_
                                                                    refine y_istore 277 c218_275 rfl rfl ?_
                                                                    refine y_aload 278 c218_277 rfl rfl rfl ?_
                                                                    refine y_inlB 281 [.ref 376] [] [some (.ref 376)] c218_278 rfl rfl rfl rfl rfl (ycanO km26 ko376) kn26 rfl rfl ?_
                                                                    refine y_aload 1 c26_0 rfl rfl rfl ?_
                                                                    refine y_getX 4 1 c26_1 rfl kf376_57 rfl ?_
                                                                    refine y_ireturnK c26_4 (y_fit0 _) ?_
                                                                    refine y_iload 283 c218_281 rfl rfl ?_
                                                                    refine y_icmp 288 286 c218_283 rfl rfl (yc_eq (by omega) (by omega)) (fun hb => ?_) (fun hb => ?_)
                                                                    · refine y_iload 290 c218_288 rfl rfl ?_
                                                                      refine y_if 305 293 c218_290 rfl rfl (yz_ne (by omega)) (fun hb => ?_) (fun hb => ?_)
                                                                      · refine y_goto 953 c218_305 rfl ?_
                                                                        refine y_iincN 956 4 c218_953 rfl rfl (by decide) rfl ?_
                                                                        refine y_goto 23 c218_956 rfl ?_
                                                                        refine y_iload 25 c218_23 rfl rfl ?_
                                                                        refine y_aload 26 c218_25 rfl rfl rfl ?_
                                                                        refine y_slen 27 c218_26 rfl ?_
                                                                        refine y_top 4 rfl ?_
                                                                        refine y_iconst 28 c218_27 rfl ?_
                                                                        refine y_isub 29 c218_28 rfl ?_
                                                                        refine y_top 0 (by decide) ?_
                                                                        refine y_icmp 959 32 c218_29 rfl rfl (yc_gt (by omega) (by omega)) (fun hb => ?_) (fun hb => ?_)
                                                                        · refine y_iconst 960 c218_959 rfl ?_
                                                                          exact y_ireturn c218_960 (y_fit1 (by omega)) ⟨rfl, by omega⟩
                                                                        · exfalso; omega
                                                                      · exfalso; omega
                                                                    · exfalso; omega
                                                                · exfalso; omega
                                                              · exfalso; omega
                                                            · exfalso; omega
                                                          · exfalso; omega
                                                        · exfalso; omega
                                                      · exfalso; omega
                                          · exfalso; omega
                                      · exfalso; omega
                                    · exfalso; omega
                                  · exfalso; omega
                                · exfalso; omega
                              · exfalso; omega
                          · exfalso; omega
                      · exfalso; omega
                    · exfalso; omega
            · exfalso; omega
          · exfalso; omega
    · exfalso; omega

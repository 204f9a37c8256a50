set_option maxRecDepth 100000 in
set_option maxHeartbeats 4000000 in
theorem g1_7 (xs : Nat → Int32) (x0 x1 x2 x3 : Int) (h0 : (xs 0).toInt = x0) (h1 : (xs 1).toInt = x1) (h2 : (xs 2).toInt = x2) (h3 : (xs 3).toInt = x3) (r1 : -2147483648 ≤ x1 ∧ x1 < 2147483648) (r2 : -2147483648 ≤ x2 ∧ x2 < 2147483648) (r3 : -2147483648 ≤ x3 ∧ x3 < 2147483648) (hop : (Int32.ofInt x0 &&& Int32.ofInt 15).toInt = 7) : YW (gZ 4 xs) 218 60 23 [some (.retAddr 0), some (.ref 0), some (.ref 376), some (.ref 413), some (yI 0), none, none] [] gMem 414 gQ1 := by
  refine y_iload 25 c218_23 rfl rfl ?_
  refine y_aload 26 c218_25 rfl rfl rfl ?_
  refine y_slen 27 c218_26 rfl ?_
  refine y_top 4 rfl ?_
  refine y_iconst 28 c218_27 rfl ?_
  refine y_isub 29 c218_28 rfl ?_
  refine y_top 0 (by decide) ?_
  refine y_icmp 959 32 c218_29 rfl rfl (yc_gt (by omega) (by omega)) (fun hb => ?_) (fun hb => ?_)
  · exfalso; omega
  · refine y_aload 33 c218_32 rfl rfl rfl ?_
    refine y_iload 35 c218_33 rfl rfl ?_
    refine s_load 36 x0 c218_35 rfl (by decide) h0 ?_
    refine y_iconst 38 c218_36 rfl ?_
    refine y_iand 39 c218_38 rfl ?_
    refine y_top 7 hop ?_
    refine y_tsw 537 c218_39 (by decide) (by decide) rfl rfl ?_
    refine y_aload 538 c218_537 rfl rfl rfl ?_
    refine y_aload 539 c218_538 rfl rfl rfl ?_
    refine y_iload 541 c218_539 rfl rfl ?_
    refine y_iconst 542 c218_541 rfl ?_
    refine y_iadd 543 c218_542 rfl ?_
    refine y_top 1 (by decide) ?_
    refine s_load 544 x1 c218_543 rfl (by decide) h1 ?_
    refine y_aload 545 c218_544 rfl rfl rfl ?_
    refine y_inlB 548 [.ref 0, yI x1, .ref 413] [] [some (.ref 0), some (yI x1), some (.ref 413), none] c218_545 rfl rfl rfl rfl rfl (ycanS km173) kn173 rfl rfl ?_
    refine y_aload 1 c173_0 rfl rfl rfl ?_
    refine y_iconst 2 c173_1 rfl ?_
    refine y_aload 3 c173_2 rfl rfl rfl ?_
    refine y_iload 4 c173_3 rfl rfl ?_
    refine y_inlB 7 [.ref 0, yI x1] [yI 0, .ref 413] [some (.ref 0), some (yI x1)] c173_4 rfl rfl rfl rfl rfl (ycanO km172 ko0) kn172 rfl rfl ?_
    refine y_aload 1 c172_0 rfl rfl rfl ?_
    refine y_iload 2 c172_1 rfl rfl ?_
    refine y_inlB 5 [.ref 0, yI x1] [] [some (.ref 0), some (yI x1)] c172_2 rfl rfl rfl rfl rfl (ycanO km167 ko0) kn167 rfl rfl ?_
    refine y_iload 1 c167_0 rfl rfl ?_
    refine y_aload 2 c167_1 rfl rfl rfl ?_
    refine y_getS 5 (B := 256) c167_2 rfl kf0_4 rfl ?_
    refine y_getX 8 0 c167_5 rfl kf256_10 rfl ?_
    refine y_inlB 11 [yI x1, yI 0] [] [some (yI x1), some (yI 0)] c167_8 rfl rfl rfl rfl rfl (ycanS km155) kn155 rfl rfl ?_
    refine y_iload 1 c155_0 rfl rfl ?_
    refine y_if 13 4 c155_1 rfl rfl (yz_lt (by omega)) (fun hb => ?_) (fun hb => ?_)
    · refine y_iconst 14 c155_13 rfl ?_
      refine y_ireturnK c155_14 (y_fit1 (by omega)) ?_
      refine y_ireturnK c167_11 (y_fit1 (by omega)) ?_
      refine y_if 16 8 c172_5 rfl rfl (yz_ne (by omega)) (fun hb => ?_) (fun hb => ?_)
      · exfalso; omega
      · refine y_throwB c172_8 rfl ?_
        refine yK_in kh173_4_11 ?_
        refine y_astore 13 c173_12 rfl rfl rfl ?_
        refine y_iconst 14 c173_13 rfl ?_
        refine y_ireturnK c173_14 (y_fit0 _) ?_
        refine y_istore 550 c218_548 rfl rfl ?_
        refine y_aload 551 c218_550 rfl rfl rfl ?_
        refine y_aload 552 c218_551 rfl rfl rfl ?_
        refine y_iload 554 c218_552 rfl rfl ?_
        refine y_iconst 555 c218_554 rfl ?_
        refine y_iadd 556 c218_555 rfl ?_
        refine y_top 1 (by decide) ?_
        refine s_load 557 x1 c218_556 rfl (by decide) h1 ?_
        refine y_inlB 560 [.ref 376, yI x1] [] [some (.ref 376), some (yI x1)] c218_557 rfl rfl rfl rfl rfl (ycanO km174 ko376) kn174 rfl rfl ?_
        refine y_aload 1 c174_0 rfl rfl rfl ?_
        refine y_aload 2 c174_1 rfl rfl rfl ?_
        refine y_iload 3 c174_2 rfl rfl ?_
        refine y_inlB 6 [.ref 376, yI x1] [.ref 376] [some (.ref 376), some (yI x1)] c174_3 rfl rfl rfl rfl rfl (ycanO km170 ko376) kn170 rfl rfl ?_
        refine y_aload 1 c170_0 rfl rfl rfl ?_
        refine y_getX 4 0 c170_1 rfl kf376_19 rfl ?_
        refine y_if 30 7 c170_4 rfl rfl (yz_eq (by omega)) (fun hb => ?_) (fun hb => ?_)
        · refine y_iconst 31 c170_30 rfl ?_
          refine y_ireturnK c170_31 (y_fit1 (by omega)) ?_
          refine y_inlB 9 [.ref 376, yI 0] [] [some (.ref 376), some (yI 0)] c174_6 rfl rfl rfl rfl rfl (ycanO km162 ko376) kn162 rfl rfl ?_
          refine y_aload 1 c162_0 rfl rfl rfl ?_
          refine y_aload 2 c162_1 rfl rfl rfl ?_
          refine y_getX 5 0 c162_2 rfl kf376_19 rfl ?_
          refine y_if 16 8 c162_5 rfl rfl (yz_eq (by omega)) (fun hb => ?_) (fun hb => ?_)
          · refine y_iconst 17 c162_16 rfl ?_
            refine y_iconst 18 c162_17 rfl ?_
            refine y_inlB 21 [.ref 376, yI 0, yI 1] [] [some (.ref 376), some (yI 0), some (yI 1)] c162_18 rfl rfl rfl rfl rfl (ycanO km23 ko376) kn23 rfl rfl ?_
            refine y_aload 1 c23_0 rfl rfl rfl ?_
            refine y_iload 2 c23_1 rfl rfl ?_
            refine y_if 9 5 c23_2 rfl rfl (yz_eq (by omega)) (fun hb => ?_) (fun hb => ?_)
            · refine y_iload 10 c23_9 rfl rfl ?_
              refine y_putI 13 c23_10 rfl kf376_57 (y_fit0 _) ?_
              refine y_iload 14 c23_13 rfl rfl ?_
              refine y_ireturnK c23_14 (y_fit1 (by omega)) ?_
              refine y_ireturnK c162_21 (y_fit1 (by omega)) ?_
              refine y_if 21 12 c174_9 rfl rfl (yz_eq (by omega)) (fun hb => ?_) (fun hb => ?_)
              · refine y_iconst 22 c174_21 rfl ?_
                refine y_ireturnK c174_22 (y_fit0 _) ?_
                refine y_istore 562 c218_560 rfl rfl ?_
                refine y_aload 563 c218_562 rfl rfl rfl ?_
                refine y_inlB 566 [.ref 376] [] [some (.ref 376)] c218_563 rfl rfl rfl rfl rfl (ycanO km26 ko376) kn26 rfl rfl ?_
                refine y_aload 1 c26_0 rfl rfl rfl ?_
                refine y_getX 4 1 c26_1 rfl kf376_57 rfl ?_
                refine y_ireturnK c26_4 (y_fit0 _) ?_
                refine y_iload 568 c218_566 rfl rfl ?_
                refine y_icmp 573 571 c218_568 rfl rfl (yc_eq (by omega) (by omega)) (fun hb => ?_) (fun hb => ?_)
                · refine y_iload 575 c218_573 rfl rfl ?_
                  refine y_if 590 578 c218_575 rfl rfl (yz_ne (by omega)) (fun hb => ?_) (fun hb => ?_)
                  · refine y_goto 953 c218_590 rfl ?_
                    refine y_iincN 956 4 c218_953 rfl rfl (by decide) rfl ?_
                    refine y_goto 23 c218_956 rfl ?_
                    refine y_iload 25 c218_23 rfl rfl ?_
                    refine y_aload 26 c218_25 rfl rfl rfl ?_
                    refine y_slen 27 c218_26 rfl ?_
                    refine y_top 4 rfl ?_
                    refine y_iconst 28 c218_27 rfl ?_
                    refine y_isub 29 c218_28 rfl ?_
                    refine y_top 0 (by decide) ?_
                    refine y_icmp 959 32 c218_29 rfl rfl (yc_gt (by omega) (by omega)) (fun hb => ?_) (fun hb => ?_)
                    · refine y_iconst 960 c218_959 rfl ?_
                      exact y_ireturn c218_960 (y_fit1 (by omega)) ⟨rfl, by omega⟩
                    · exfalso; omega
                  · exfalso; omega
                · exfalso; omega
              · exfalso; omega
            · exfalso; omega
          · exfalso; omega
        · exfalso; omega
    · refine y_iload 5 c155_4 rfl rfl ?_
      refine y_iload 6 c155_5 rfl rfl ?_
      refine y_icmp 13 9 c155_6 rfl rfl (yc_ge (by omega) (by omega)) (fun hb => ?_) (fun hb => ?_)
      · refine y_iconst 14 c155_13 rfl ?_
        refine y_ireturnK c155_14 (y_fit1 (by omega)) ?_
        refine y_ireturnK c167_11 (y_fit1 (by omega)) ?_
        refine y_if 16 8 c172_5 rfl rfl (yz_ne (by omega)) (fun hb => ?_) (fun hb => ?_)
        · exfalso; omega
        · refine y_throwB c172_8 rfl ?_
          refine yK_in kh173_4_11 ?_
          refine y_astore 13 c173_12 rfl rfl rfl ?_
          refine y_iconst 14 c173_13 rfl ?_
          refine y_ireturnK c173_14 (y_fit0 _) ?_
          refine y_istore 550 c218_548 rfl rfl ?_
          refine y_aload 551 c218_550 rfl rfl rfl ?_
          refine y_aload 552 c218_551 rfl rfl rfl ?_
          refine y_iload 554 c218_552 rfl rfl ?_
          refine y_iconst 555 c218_554 rfl ?_
          refine y_iadd 556 c218_555 rfl ?_
          refine y_top 1 (by decide) ?_
          refine s_load 557 x1 c218_556 rfl (by decide) h1 ?_
          refine y_inlB 560 [.ref 376, yI x1] [] [some (.ref 376), some (yI x1)] c218_557 rfl rfl rfl rfl rfl (ycanO km174 ko376) kn174 rfl rfl ?_
          refine y_aload 1 c174_0 rfl rfl rfl ?_
          refine y_aload 2 c174_1 rfl rfl rfl ?_
          refine y_iload 3 c174_2 rfl rfl ?_
          refine y_inlB 6 [.ref 376, yI x1] [.ref 376] [some (.ref 376), some (yI x1)] c174_3 rfl rfl rfl rfl rfl (ycanO km170 ko376) kn170 rfl rfl ?_
          refine y_aload 1 c170_0 rfl rfl rfl ?_
          refine y_getX 4 0 c170_1 rfl kf376_19 rfl ?_
          refine y_if 30 7 c170_4 rfl rfl (yz_eq (by omega)) (fun hb => ?_) (fun hb => ?_)
          · refine y_iconst 31 c170_30 rfl ?_
            refine y_ireturnK c170_31 (y_fit1 (by omega)) ?_
            refine y_inlB 9 [.ref 376, yI 0] [] [some (.ref 376), some (yI 0)] c174_6 rfl rfl rfl rfl rfl (ycanO km162 ko376) kn162 rfl rfl ?_
            refine y_aload 1 c162_0 rfl rfl rfl ?_
            refine y_aload 2 c162_1 rfl rfl rfl ?_
            refine y_getX 5 0 c162_2 rfl kf376_19 rfl ?_
            refine y_if 16 8 c162_5 rfl rfl (yz_eq (by omega)) (fun hb => ?_) (fun hb => ?_)
            · refine y_iconst 17 c162_16 rfl ?_
              refine y_iconst 18 c162_17 rfl ?_
              refine y_inlB 21 [.ref 376, yI 0, yI 1] [] [some (.ref 376), some (yI 0), some (yI 1)] c162_18 rfl rfl rfl rfl rfl (ycanO km23 ko376) kn23 rfl rfl ?_
              refine y_aload 1 c23_0 rfl rfl rfl ?_
              refine y_iload 2 c23_1 rfl rfl ?_
              refine y_if 9 5 c23_2 rfl rfl (yz_eq (by omega)) (fun hb => ?_) (fun hb => ?_)
              · refine y_iload 10 c23_9 rfl rfl ?_
                refine y_putI 13 c23_10 rfl kf376_57 (y_fit0 _) ?_
                refine y_iload 14 c23_13 rfl rfl ?_
                refine y_ireturnK c23_14 (y_fit1 (by omega)) ?_
                refine y_ireturnK c162_21 (y_fit1 (by omega)) ?_
                refine y_if 21 12 c174_9 rfl rfl (yz_eq (by omega)) (fun hb => ?_) (fun hb => ?_)
                · refine y_iconst 22 c174_21 rfl ?_
                  refine y_ireturnK c174_22 (y_fit0 _) ?_
                  refine y_istore 562 c218_560 rfl rfl ?_
                  refine y_aload 563 c218_562 rfl rfl rfl ?_
                  refine y_inlB 566 [.ref 376] [] [some (.ref 376)] c218_563 rfl rfl rfl rfl rfl (ycanO km26 ko376) kn26 rfl rfl ?_
                  refine y_aload 1 c26_0 rfl rfl rfl ?_
                  refine y_getX 4 1 c26_1 rfl kf376_57 rfl ?_
                  refine y_ireturnK c26_4 (y_fit0 _) ?_
                  refine y_iload 568 c218_566 rfl rfl ?_
                  refine y_icmp 573 571 c218_568 rfl rfl (yc_eq (by omega) (by omega)) (fun hb => ?_) (fun hb => ?_)
                  · refine y_iload 575 c218_573 rfl rfl ?_
                    refine y_if 590 578 c218_575 rfl rfl (yz_ne (by omega)) (fun hb => ?_) (fun hb => ?_)
                    · refine y_goto 953 c218_590 rfl ?_
                      refine y_iincN 956 4 c218_953 rfl rfl (by decide) rfl ?_
                      refine y_goto 23 c218_956 rfl ?_
                      refine y_iload 25 c218_23 rfl rfl ?_
                      refine y_aload 26 c218_25 rfl rfl rfl ?_
                      refine y_slen 27 c218_26 rfl ?_
                      refine y_top 4 rfl ?_
                      refine y_iconst 28 c218_27 rfl ?_
                      refine y_isub 29 c218_28 rfl ?_
                      refine y_top 0 (by decide) ?_
                      refine y_icmp 959 32 c218_29 rfl rfl (yc_gt (by omega) (by omega)) (fun hb => ?_) (fun hb => ?_)
                      · refine y_iconst 960 c218_959 rfl ?_
                        exact y_ireturn c218_960 (y_fit1 (by omega)) ⟨rfl, by omega⟩
                      · exfalso; omega
                    · exfalso; omega
                  · exfalso; omega
                · exfalso; omega
              · exfalso; omega
            · exfalso; omega
          · exfalso; omega
      · exfalso; omega

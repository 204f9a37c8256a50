set_option maxRecDepth 100000 in
set_option maxHeartbeats 4000000 in
theorem g1_6 (xs : Nat → Int32) (x0 x1 x2 x3 : Int) (h0 : (xs 0).toInt = x0) (h1 : (xs 1).toInt = x1) (h2 : (xs 2).toInt = x2) (h3 : (xs 3).toInt = x3) (r1 : -2147483648 ≤ x1 ∧ x1 < 2147483648) (r2 : -2147483648 ≤ x2 ∧ x2 < 2147483648) (r3 : -2147483648 ≤ x3 ∧ x3 < 2147483648) (hop : (Int32.ofInt x0 &&& Int32.ofInt 15).toInt = 6) : YW (gZ 4 xs) 218 60 23 [some (.retAddr 0), some (.ref 0), some (.ref 376), some (.ref 413), some (yI 0), none, none] [] gMem 414 gQ1 := by
  refine y_iload 25 c218_23 rfl rfl ?_
  refine y_aload 26 c218_25 rfl rfl rfl ?_
  refine y_slen 27 c218_26 rfl ?_
  refine y_top 4 rfl ?_
  refine y_iconst 28 c218_27 rfl ?_
  refine y_isub 29 c218_28 rfl ?_
  refine y_top 0 (by decide) ?_
  refine y_icmp 959 32 c218_29 rfl rfl (yc_gt (by omega) (by omega)) (fun hb => ?_) (fun hb => ?_)
  · exfalso; omega
  · refine y_aload 33 c218_32 rfl rfl rfl ?_
    refine y_iload 35 c218_33 rfl rfl ?_
    refine s_load 36 x0 c218_35 rfl (by decide) h0 ?_
    refine y_iconst 38 c218_36 rfl ?_
    refine y_iand 39 c218_38 rfl ?_
    refine y_top 6 hop ?_
    refine y_tsw 469 c218_39 (by decide) (by decide) rfl rfl ?_
    refine y_aload 470 c218_469 rfl rfl rfl ?_
    refine y_aload 471 c218_470 rfl rfl rfl ?_
    refine y_iload 473 c218_471 rfl rfl ?_
    refine y_iconst 474 c218_473 rfl ?_
    refine y_iadd 475 c218_474 rfl ?_
    refine y_top 1 (by decide) ?_
    refine s_load 476 x1 c218_475 rfl (by decide) h1 ?_
    refine y_aload 477 c218_476 rfl rfl rfl ?_
    refine y_iload 479 c218_477 rfl rfl ?_
    refine y_iconst 480 c218_479 rfl ?_
    refine y_iadd 481 c218_480 rfl ?_
    refine y_top 2 (by decide) ?_
    refine s_load 482 x2 c218_481 rfl (by decide) h2 ?_
    refine y_aload 483 c218_482 rfl rfl rfl ?_
    refine y_inlB 486 [.ref 0, yI x1, yI x2, .ref 413] [] [some (.ref 0), some (yI x1), some (yI x2), some (.ref 413), none] c218_483 rfl rfl rfl rfl rfl (ycanS km169) kn169 rfl rfl ?_
    refine y_aload 1 c169_0 rfl rfl rfl ?_
    refine y_iconst 2 c169_1 rfl ?_
    refine y_aload 3 c169_2 rfl rfl rfl ?_
    refine y_iload 4 c169_3 rfl rfl ?_
    refine y_iload 5 c169_4 rfl rfl ?_
    refine y_inlB 8 [.ref 0, yI x1, yI x2] [yI 0, .ref 413] [some (.ref 0), some (yI x1), some (yI x2)] c169_5 rfl rfl rfl rfl rfl (ycanO km168 ko0) kn168 rfl rfl ?_
    refine y_iload 1 c168_0 rfl rfl ?_
    refine y_aload 2 c168_1 rfl rfl rfl ?_
    refine y_getS 5 (B := 256) c168_2 rfl kf0_4 rfl ?_
    refine y_getX 8 0 c168_5 rfl kf256_12 rfl ?_
    refine y_inlB 11 [yI x1, yI 0] [] [some (yI x1), some (yI 0)] c168_8 rfl rfl rfl rfl rfl (ycanS km155) kn155 rfl rfl ?_
    refine y_iload 1 c155_0 rfl rfl ?_
    refine y_if 13 4 c155_1 rfl rfl (yz_lt (by omega)) (fun hb => ?_) (fun hb => ?_)
    · refine y_iconst 14 c155_13 rfl ?_
      refine y_ireturnK c155_14 (y_fit1 (by omega)) ?_
      refine y_if 22 14 c168_11 rfl rfl (yz_eq (by omega)) (fun hb => ?_) (fun hb => ?_)
      · refine y_throwB c168_22 rfl ?_
        refine yK_in kh169_5_11 ?_
        refine y_astore 15 c169_13 rfl rfl rfl ?_
        refine y_iconst 16 c169_15 rfl ?_
        refine y_ireturnK c169_16 (y_fit0 _) ?_
        refine y_istore 488 c218_486 rfl rfl ?_
        refine y_aload 489 c218_488 rfl rfl rfl ?_
        refine y_aload 490 c218_489 rfl rfl rfl ?_
        refine y_iload 492 c218_490 rfl rfl ?_
        refine y_iconst 493 c218_492 rfl ?_
        refine y_iadd 494 c218_493 rfl ?_
        refine y_top 1 (by decide) ?_
        refine s_load 495 x1 c218_494 rfl (by decide) h1 ?_
        refine y_aload 496 c218_495 rfl rfl rfl ?_
        refine y_iload 498 c218_496 rfl rfl ?_
        refine y_iconst 499 c218_498 rfl ?_
        refine y_iadd 500 c218_499 rfl ?_
        refine y_top 2 (by decide) ?_
        refine s_load 501 x2 c218_500 rfl (by decide) h2 ?_
        refine y_inlB 504 [.ref 376, yI x1, yI x2] [] [some (.ref 376), some (yI x1), some (yI x2)] c218_501 rfl rfl rfl rfl rfl (ycanO km171 ko376) kn171 rfl rfl ?_
        refine y_aload 1 c171_0 rfl rfl rfl ?_
        refine y_aload 2 c171_1 rfl rfl rfl ?_
        refine y_iload 3 c171_2 rfl rfl ?_
        refine y_inlB 6 [.ref 376, yI x2] [.ref 376] [some (.ref 376), some (yI x2)] c171_3 rfl rfl rfl rfl rfl (ycanO km170 ko376) kn170 rfl rfl ?_
        refine y_aload 1 c170_0 rfl rfl rfl ?_
        refine y_getX 4 0 c170_1 rfl kf376_19 rfl ?_
        refine y_if 30 7 c170_4 rfl rfl (yz_eq (by omega)) (fun hb => ?_) (fun hb => ?_)
        · refine y_iconst 31 c170_30 rfl ?_
          refine y_ireturnK c170_31 (y_fit1 (by omega)) ?_
          refine y_if 32 9 c171_6 rfl rfl (yz_eq (by omega)) (fun hb => ?_) (fun hb => ?_)
          · refine y_iconst 33 c171_32 rfl ?_
            refine y_inlB 36 [.ref 376, yI 0] [] [some (.ref 376), some (yI 0)] c171_33 rfl rfl rfl rfl rfl (ycanO km162 ko376) kn162 rfl rfl ?_
            refine y_aload 1 c162_0 rfl rfl rfl ?_
            refine y_aload 2 c162_1 rfl rfl rfl ?_
            refine y_getX 5 0 c162_2 rfl kf376_19 rfl ?_
            refine y_if 16 8 c162_5 rfl rfl (yz_eq (by omega)) (fun hb => ?_) (fun hb => ?_)
            · refine y_iconst 17 c162_16 rfl ?_
              refine y_iconst 18 c162_17 rfl ?_
              refine y_inlB 21 [.ref 376, yI 0, yI 1] [] [some (.ref 376), some (yI 0), some (yI 1)] c162_18 rfl rfl rfl rfl rfl (ycanO km23 ko376) kn23 rfl rfl ?_
              refine y_aload 1 c23_0 rfl rfl rfl ?_
              refine y_iload 2 c23_1 rfl rfl ?_
              refine y_if 9 5 c23_2 rfl rfl (yz_eq (by omega)) (fun hb => ?_) (fun hb => ?_)
              · refine y_iload 10 c23_9 rfl rfl ?_
                refine y_putI 13 c23_10 rfl kf376_57 (y_fit0 _) ?_
                refine y_iload 14 c23_13 rfl rfl ?_
                refine y_ireturnK c23_14 (y_fit1 (by omega)) ?_
                refine y_ireturnK c162_21 (y_fit1 (by omega)) ?_
                refine y_if 53 39 c171_36 rfl rfl (yz_eq (by omega)) (fun hb => ?_) (fun hb => ?_)
                · refine y_iconst 54 c171_53 rfl ?_
                  refine y_ireturnK c171_54 (y_fit0 _) ?_
                  refine y_istore 506 c218_504 rfl rfl ?_
                  refine y_aload 507 c218_506 rfl rfl rfl ?_
                  refine y_inlB 510 [.ref 376] [] [some (.ref 376)] c218_507 rfl rfl rfl rfl rfl (ycanO km26 ko376) kn26 rfl rfl ?_
                  refine y_aload 1 c26_0 rfl rfl rfl ?_
                  refine y_getX 4 1 c26_1 rfl kf376_57 rfl ?_
                  refine y_ireturnK c26_4 (y_fit0 _) ?_
                  refine y_iload 512 c218_510 rfl rfl ?_
                  refine y_icmp 517 515 c218_512 rfl rfl (yc_eq (by omega) (by omega)) (fun hb => ?_) (fun hb => ?_)
                  · refine y_iload 519 c218_517 rfl rfl ?_
                    refine y_if 534 522 c218_519 rfl rfl (yz_ne (by omega)) (fun hb => ?_) (fun hb => ?_)
                    · refine y_goto 953 c218_534 rfl ?_
                      refine y_iincN 956 4 c218_953 rfl rfl (by decide) rfl ?_
                      refine y_goto 23 c218_956 rfl ?_
                      refine y_iload 25 c218_23 rfl rfl ?_
                      refine y_aload 26 c218_25 rfl rfl rfl ?_
                      refine y_slen 27 c218_26 rfl ?_
                      refine y_top 4 rfl ?_
                      refine y_iconst 28 c218_27 rfl ?_
                      refine y_isub 29 c218_28 rfl ?_
                      refine y_top 0 (by decide) ?_
                      refine y_icmp 959 32 c218_29 rfl rfl (yc_gt (by omega) (by omega)) (fun hb => ?_) (fun hb => ?_)
                      · refine y_iconst 960 c218_959 rfl ?_
                        exact y_ireturn c218_960 (y_fit1 (by omega)) ⟨rfl, by omega⟩
                      · exfalso; omega
                    · exfalso; omega
                  · exfalso; omega
                · exfalso; omega
              · exfalso; omega
            · exfalso; omega
          · exfalso; omega
        · exfalso; omega
      · exfalso; omega
    · refine y_iload 5 c155_4 rfl rfl ?_
      refine y_iload 6 c155_5 rfl rfl ?_
      refine y_icmp 13 9 c155_6 rfl rfl (yc_ge (by omega) (by omega)) (fun hb => ?_) (fun hb => ?_)
      · refine y_iconst 14 c155_13 rfl ?_
        refine y_ireturnK c155_14 (y_fit1 (by omega)) ?_
        refine y_if 22 14 c168_11 rfl rfl (yz_eq (by omega)) (fun hb => ?_) (fun hb => ?_)
        · refine y_throwB c168_22 rfl ?_
          refine yK_in kh169_5_11 ?_
          refine y_astore 15 c169_13 rfl rfl rfl ?_
          refine y_iconst 16 c169_15 rfl ?_
          refine y_ireturnK c169_16 (y_fit0 _) ?_
          refine y_istore 488 c218_486 rfl rfl ?_
          refine y_aload 489 c218_488 rfl rfl rfl ?_
          refine y_aload 490 c218_489 rfl rfl rfl ?_
          refine y_iload 492 c218_490 rfl rfl ?_
          refine y_iconst 493 c218_492 rfl ?_
          refine y_iadd 494 c218_493 rfl ?_
          refine y_top 1 (by decide) ?_
          refine s_load 495 x1 c218_494 rfl (by decide) h1 ?_
          refine y_aload 496 c218_495 rfl rfl rfl ?_
          refine y_iload 498 c218_496 rfl rfl ?_
          refine y_iconst 499 c218_498 rfl ?_
          refine y_iadd 500 c218_499 rfl ?_
          refine y_top 2 (by decide) ?_
          refine s_load 501 x2 c218_500 rfl (by decide) h2 ?_
          refine y_inlB 504 [.ref 376, yI x1, yI x2] [] [some (.ref 376), some (yI x1), some (yI x2)] c218_501 rfl rfl rfl rfl rfl (ycanO km171 ko376) kn171 rfl rfl ?_
          refine y_aload 1 c171_0 rfl rfl rfl ?_
          refine y_aload 2 c171_1 rfl rfl rfl ?_
          refine y_iload 3 c171_2 rfl rfl ?_
          refine y_inlB 6 [.ref 376, yI x2] [.ref 376] [some (.ref 376), some (yI x2)] c171_3 rfl rfl rfl rfl rfl (ycanO km170 ko376) kn170 rfl rfl ?_
          refine y_aload 1 c170_0 rfl rfl rfl ?_
          refine y_getX 4 0 c170_1 rfl kf376_19 rfl ?_
          refine y_if 30 7 c170_4 rfl rfl (yz_eq (by omega)) (fun hb => ?_) (fun hb => ?_)
          · refine y_iconst 31 c170_30 rfl ?_
            refine y_ireturnK c170_31 (y_fit1 (by omega)) ?_
            refine y_if 32 9 c171_6 rfl rfl (yz_eq (by omega)) (fun hb => ?_) (fun hb => ?_)
            · refine y_iconst 33 c171_32 rfl ?_
              refine y_inlB 36 [.ref 376, yI 0] [] [some (.ref 376), some (yI 0)] c171_33 rfl rfl rfl rfl rfl (ycanO km162 ko376) kn162 rfl rfl ?_
              refine y_aload 1 c162_0 rfl rfl rfl ?_
              refine y_aload 2 c162_1 rfl rfl rfl ?_
              refine y_getX 5 0 c162_2 rfl kf376_19 rfl ?_
              refine y_if 16 8 c162_5 rfl rfl (yz_eq (by omega)) (fun hb => ?_) (fun hb => ?_)
              · refine y_iconst 17 c162_16 rfl ?_
                refine y_iconst 18 c162_17 rfl ?_
                refine y_inlB 21 [.ref 376, yI 0, yI 1] [] [some (.ref 376), some (yI 0), some (yI 1)] c162_18 rfl rfl rfl rfl rfl (ycanO km23 ko376) kn23 rfl rfl ?_
                refine y_aload 1 c23_0 rfl rfl rfl ?_
                refine y_iload 2 c23_1 rfl rfl ?_
                refine y_if 9 5 c23_2 rfl rfl (yz_eq (by omega)) (fun hb => ?_) (fun hb => ?_)
                · refine y_iload 10 c23_9 rfl rfl ?_
                  refine y_putI 13 c23_10 rfl kf376_57 (y_fit0 _) ?_
                  refine y_iload 14 c23_13 rfl rfl ?_
                  refine y_ireturnK c23_14 (y_fit1 (by omega)) ?_
                  refine y_ireturnK c162_21 (y_fit1 (by omega)) ?_
                  refine y_if 53 39 c171_36 rfl rfl (yz_eq (by omega)) (fun hb => ?_) (fun hb => ?_)
                  · refine y_iconst 54 c171_53 rfl ?_
                    refine y_ireturnK c171_54 (y_fit0 _) ?_
                    refine y_istore 506 c218_504 rfl rfl ?_
                    refine y_aload 507 c218_506 rfl rfl rfl ?_
                    refine y_inlB 510 [.ref 376] [] [some (.ref 376)] c218_507 rfl rfl rfl rfl rfl (ycanO km26 ko376) kn26 rfl rfl ?_
                    refine y_aload 1 c26_0 rfl rfl rfl ?_
                    refine y_getX 4 1 c26_1 rfl kf376_57 rfl ?_
                    refine y_ireturnK c26_4 (y_fit0 _) ?_
                    refine y_iload 512 c218_510 rfl rfl ?_
                    refine y_icmp 517 515 c218_512 rfl rfl (yc_eq (by omega) (by omega)) (fun hb => ?_) (fun hb => ?_)
                    · refine y_iload 519 c218_517 rfl rfl ?_
                      refine y_if 534 522 c218_519 rfl rfl (yz_ne (by omega)) (fun hb => ?_) (fun hb => ?_)
                      · refine y_goto 953 c218_534 rfl ?_
                        refine y_iincN 956 4 c218_953 rfl rfl (by decide) rfl ?_
                        refine y_goto 23 c218_956 rfl ?_
                        refine y_iload 25 c218_23 rfl rfl ?_
                        refine y_aload 26 c218_25 rfl rfl rfl ?_
                        refine y_slen 27 c218_26 rfl ?_
                        refine y_top 4 rfl ?_
                        refine y_iconst 28 c218_27 rfl ?_
                        refine y_isub 29 c218_28 rfl ?_
                        refine y_top 0 (by decide) ?_
                        refine y_icmp 959 32 c218_29 rfl rfl (yc_gt (by omega) (by omega)) (fun hb => ?_) (fun hb => ?_)
                        · refine y_iconst 960 c218_959 rfl ?_
                          exact y_ireturn c218_960 (y_fit1 (by omega)) ⟨rfl, by omega⟩
                        · exfalso; omega
                      · exfalso; omega
                    · exfalso; omega
                  · exfalso; omega
                · exfalso; omega
              · exfalso; omega
            · exfalso; omega
          · exfalso; omega
        · exfalso; omega
      · exfalso; omega

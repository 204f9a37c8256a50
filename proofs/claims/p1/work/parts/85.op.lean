set_option maxRecDepth 100000 in
set_option maxHeartbeats 4000000 in
theorem g1_5 (xs : Nat → Int32) (x0 x1 x2 x3 : Int) (h0 : (xs 0).toInt = x0) (h1 : (xs 1).toInt = x1) (h2 : (xs 2).toInt = x2) (h3 : (xs 3).toInt = x3) (r1 : -2147483648 ≤ x1 ∧ x1 < 2147483648) (r2 : -2147483648 ≤ x2 ∧ x2 < 2147483648) (r3 : -2147483648 ≤ x3 ∧ x3 < 2147483648) (hop : (Int32.ofInt x0 &&& Int32.ofInt 15).toInt = 5) : YW (gZ 4 xs) 218 60 23 [some (.retAddr 0), some (.ref 0), some (.ref 376), some (.ref 413), some (yI 0), none, none] [] gMem 414 gQ1 := by
  refine y_iload 25 c218_23 rfl rfl ?_
  refine y_aload 26 c218_25 rfl rfl rfl ?_
  refine y_slen 27 c218_26 rfl ?_
  refine y_top 4 rfl ?_
  refine y_iconst 28 c218_27 rfl ?_
  refine y_isub 29 c218_28 rfl ?_
  refine y_top 0 (by decide) ?_
  refine y_icmp 959 32 c218_29 rfl rfl (yc_gt (by omega) (by omega)) (fun hb => ?_) (fun hb => ?_)
  · exfalso; omega
  · refine y_aload 33 c218_32 rfl rfl rfl ?_
    refine y_iload 35 c218_33 rfl rfl ?_
    refine s_load 36 x0 c218_35 rfl (by decide) h0 ?_
    refine y_iconst 38 c218_36 rfl ?_
    refine y_iand 39 c218_38 rfl ?_
    refine y_top 5 hop ?_
    refine y_tsw 389 c218_39 (by decide) (by decide) rfl rfl ?_
    refine y_aload 390 c218_389 rfl rfl rfl ?_
    refine y_aload 391 c218_390 rfl rfl rfl ?_
    refine y_iload 393 c218_391 rfl rfl ?_
    refine y_iconst 394 c218_393 rfl ?_
    refine y_iadd 395 c218_394 rfl ?_
    refine y_top 1 (by decide) ?_
    refine s_load 396 x1 c218_395 rfl (by decide) h1 ?_
    refine y_aload 397 c218_396 rfl rfl rfl ?_
    refine y_iload 399 c218_397 rfl rfl ?_
    refine y_iconst 400 c218_399 rfl ?_
    refine y_iadd 401 c218_400 rfl ?_
    refine y_top 2 (by decide) ?_
    refine s_load 402 x2 c218_401 rfl (by decide) h2 ?_
    refine y_aload 403 c218_402 rfl rfl rfl ?_
    refine y_iload 405 c218_403 rfl rfl ?_
    refine y_iconst 406 c218_405 rfl ?_
    refine y_iadd 407 c218_406 rfl ?_
    refine y_top 3 (by decide) ?_
    refine s_load 408 x3 c218_407 rfl (by decide) h3 ?_
    refine y_aload 409 c218_408 rfl rfl rfl ?_
    refine y_inlB 412 [.ref 0, yI x1, yI x2, yI x3, .ref 413] [] [some (.ref 0), some (yI x1), some (yI x2), some (yI x3), some (.ref 413), none] c218_409 rfl rfl rfl rfl rfl (ycanS km165) kn165 rfl rfl ?_
    refine y_aload 2 c165_0 rfl rfl rfl ?_
    refine y_iconst 3 c165_2 rfl ?_
    refine y_aload 4 c165_3 rfl rfl rfl ?_
    refine y_iload 5 c165_4 rfl rfl ?_
    refine y_iload 6 c165_5 rfl rfl ?_
    refine y_iload 7 c165_6 rfl rfl ?_
    refine y_inlB 10 [.ref 0, yI x1, yI x2, yI x3] [yI 0, .ref 413] [some (.ref 0), some (yI x1), some (yI x2), some (yI x3)] c165_7 rfl rfl rfl rfl rfl (ycanO km164 ko0) kn164 rfl rfl ?_
    refine y_aload 1 c164_0 rfl rfl rfl ?_
    refine y_iload 2 c164_1 rfl rfl ?_
    refine y_inlB 5 [.ref 0, yI x1] [] [some (.ref 0), some (yI x1)] c164_2 rfl rfl rfl rfl rfl (ycanO km157 ko0) kn157 rfl rfl ?_
    refine y_iload 1 c157_0 rfl rfl ?_
    refine y_aload 2 c157_1 rfl rfl rfl ?_
    refine y_getS 5 (B := 256) c157_2 rfl kf0_4 rfl ?_
    refine y_getX 8 0 c157_5 rfl kf256_14 rfl ?_
    refine y_inlB 11 [yI x1, yI 0] [] [some (yI x1), some (yI 0)] c157_8 rfl rfl rfl rfl rfl (ycanS km155) kn155 rfl rfl ?_
    refine y_iload 1 c155_0 rfl rfl ?_
    refine y_if 13 4 c155_1 rfl rfl (yz_lt (by omega)) (fun hb => ?_) (fun hb => ?_)
    · refine y_iconst 14 c155_13 rfl ?_
      refine y_ireturnK c155_14 (y_fit1 (by omega)) ?_
      refine y_ireturnK c157_11 (y_fit1 (by omega)) ?_
      refine y_if 30 8 c164_5 rfl rfl (yz_eq (by omega)) (fun hb => ?_) (fun hb => ?_)
      · refine y_throwB c164_30 rfl ?_
        refine yK_in kh165_7_11 ?_
        refine y_astore 17 c165_15 rfl rfl rfl ?_
        refine y_iconst 18 c165_17 rfl ?_
        refine y_ireturnK c165_18 (y_fit0 _) ?_
        refine y_istore 414 c218_412 rfl rfl ?_
        refine y_aload 415 c218_414 rfl rfl rfl ?_
        refine y_aload 416 c218_415 rfl rfl rfl ?_
        refine y_iload 418 c218_416 rfl rfl ?_
        refine y_iconst 419 c218_418 rfl ?_
        refine y_iadd 420 c218_419 rfl ?_
        refine y_top 1 (by decide) ?_
        refine s_load 421 x1 c218_420 rfl (by decide) h1 ?_
        refine y_aload 422 c218_421 rfl rfl rfl ?_
        refine y_iload 424 c218_422 rfl rfl ?_
        refine y_iconst 425 c218_424 rfl ?_
        refine y_iadd 426 c218_425 rfl ?_
        refine y_top 2 (by decide) ?_
        refine s_load 427 x2 c218_426 rfl (by decide) h2 ?_
        refine y_aload 428 c218_427 rfl rfl rfl ?_
        refine y_iload 430 c218_428 rfl rfl ?_
        refine y_iconst 431 c218_430 rfl ?_
        refine y_iadd 432 c218_431 rfl ?_
        refine y_top 3 (by decide) ?_
        refine s_load 433 x3 c218_432 rfl (by decide) h3 ?_
        refine y_inlB 436 [.ref 376, yI x1, yI x2, yI x3] [] [some (.ref 376), some (yI x1), some (yI x2), some (yI x3)] c218_433 rfl rfl rfl rfl rfl (ycanO km166 ko376) kn166 rfl rfl ?_
        refine y_aload 1 c166_0 rfl rfl rfl ?_
        refine y_aload 2 c166_1 rfl rfl rfl ?_
        refine y_iload 3 c166_2 rfl rfl ?_
        refine y_inlB 6 [.ref 376, yI x1] [.ref 376] [some (.ref 376), some (yI x1)] c166_3 rfl rfl rfl rfl rfl (ycanO km161 ko376) kn161 rfl rfl ?_
        refine y_aload 1 c161_0 rfl rfl rfl ?_
        refine y_getX 4 0 c161_1 rfl kf376_19 rfl ?_
        refine y_if 30 7 c161_4 rfl rfl (yz_eq (by omega)) (fun hb => ?_) (fun hb => ?_)
        · refine y_iconst 31 c161_30 rfl ?_
          refine y_ireturnK c161_31 (y_fit1 (by omega)) ?_
          refine y_if 40 9 c166_6 rfl rfl (yz_eq (by omega)) (fun hb => ?_) (fun hb => ?_)
          · refine y_iconst 41 c166_40 rfl ?_
            refine y_inlB 44 [.ref 376, yI 0] [] [some (.ref 376), some (yI 0)] c166_41 rfl rfl rfl rfl rfl (ycanO km162 ko376) kn162 rfl rfl ?_
            refine y_aload 1 c162_0 rfl rfl rfl ?_
            refine y_aload 2 c162_1 rfl rfl rfl ?_
            refine y_getX 5 0 c162_2 rfl kf376_19 rfl ?_
            refine y_if 16 8 c162_5 rfl rfl (yz_eq (by omega)) (fun hb => ?_) (fun hb => ?_)
            · refine y_iconst 17 c162_16 rfl ?_
              refine y_iconst 18 c162_17 rfl ?_
              refine y_inlB 21 [.ref 376, yI 0, yI 1] [] [some (.ref 376), some (yI 0), some (yI 1)] c162_18 rfl rfl rfl rfl rfl (ycanO km23 ko376) kn23 rfl rfl ?_
              refine y_aload 1 c23_0 rfl rfl rfl ?_
              refine y_iload 2 c23_1 rfl rfl ?_
              refine y_if 9 5 c23_2 rfl rfl (yz_eq (by omega)) (fun hb => ?_) (fun hb => ?_)
              · refine y_iload 10 c23_9 rfl rfl ?_
                refine y_putI 13 c23_10 rfl kf376_57 (y_fit0 _) ?_
                refine y_iload 14 c23_13 rfl rfl ?_
                refine y_ireturnK c23_14 (y_fit1 (by omega)) ?_
                refine y_ireturnK c162_21 (y_fit1 (by omega)) ?_
                refine y_if 66 47 c166_44 rfl rfl (yz_eq (by omega)) (fun hb => ?_) (fun hb => ?_)
                · refine y_iconst 67 c166_66 rfl ?_
                  refine y_ireturnK c166_67 (y_fit0 _) ?_
                  refine y_istore 438 c218_436 rfl rfl ?_
                  refine y_aload 439 c218_438 rfl rfl rfl ?_
                  refine y_inlB 442 [.ref 376] [] [some (.ref 376)] c218_439 rfl rfl rfl rfl rfl (ycanO km26 ko376) kn26 rfl rfl ?_
                  refine y_aload 1 c26_0 rfl rfl rfl ?_
                  refine y_getX 4 1 c26_1 rfl kf376_57 rfl ?_
                  refine y_ireturnK c26_4 (y_fit0 _) ?_
                  refine y_iload 444 c218_442 rfl rfl ?_
                  refine y_icmp 449 447 c218_444 rfl rfl (yc_eq (by omega) (by omega)) (fun hb => ?_) (fun hb => ?_)
                  · refine y_iload 451 c218_449 rfl rfl ?_
                    refine y_if 466 454 c218_451 rfl rfl (yz_ne (by omega)) (fun hb => ?_) (fun hb => ?_)
                    · refine y_goto 953 c218_466 rfl ?_
                      refine y_iincN 956 4 c218_953 rfl rfl (by decide) rfl ?_
                      refine y_goto 23 c218_956 rfl ?_
                      refine y_iload 25 c218_23 rfl rfl ?_
                      refine y_aload 26 c218_25 rfl rfl rfl ?_
                      refine y_slen 27 c218_26 rfl ?_
                      refine y_top 4 rfl ?_
                      refine y_iconst 28 c218_27 rfl ?_
                      refine y_isub 29 c218_28 rfl ?_
                      refine y_top 0 (by decide) ?_
                      refine y_icmp 959 32 c218_29 rfl rfl (yc_gt (by omega) (by omega)) (fun hb => ?_) (fun hb => ?_)
                      · refine y_iconst 960 c218_959 rfl ?_
                        exact y_ireturn c218_960 (y_fit1 (by omega)) ⟨rfl, by omega⟩
                      · exfalso; omega
                    · exfalso; omega
                  · exfalso; omega
                · exfalso; omega
              · exfalso; omega
            · exfalso; omega
          · exfalso; omega
        · exfalso; omega
      · exfalso; omega
    · refine y_iload 5 c155_4 rfl rfl ?_
      refine y_iload 6 c155_5 rfl rfl ?_
      refine y_icmp 13 9 c155_6 rfl rfl (yc_ge (by omega) (by omega)) (fun hb => ?_) (fun hb => ?_)
      · refine y_iconst 14 c155_13 rfl ?_
        refine y_ireturnK c155_14 (y_fit1 (by omega)) ?_
        refine y_ireturnK c157_11 (y_fit1 (by omega)) ?_
        refine y_if 30 8 c164_5 rfl rfl (yz_eq (by omega)) (fun hb => ?_) (fun hb => ?_)
        · refine y_throwB c164_30 rfl ?_
          refine yK_in kh165_7_11 ?_
          refine y_astore 17 c165_15 rfl rfl rfl ?_
          refine y_iconst 18 c165_17 rfl ?_
          refine y_ireturnK c165_18 (y_fit0 _) ?_
          refine y_istore 414 c218_412 rfl rfl ?_
          refine y_aload 415 c218_414 rfl rfl rfl ?_
          refine y_aload 416 c218_415 rfl rfl rfl ?_
          refine y_iload 418 c218_416 rfl rfl ?_
          refine y_iconst 419 c218_418 rfl ?_
          refine y_iadd 420 c218_419 rfl ?_
          refine y_top 1 (by decide) ?_
          refine s_load 421 x1 c218_420 rfl (by decide) h1 ?_
          refine y_aload 422 c218_421 rfl rfl rfl ?_
          refine y_iload 424 c218_422 rfl rfl ?_
          refine y_iconst 425 c218_424 rfl ?_
          refine y_iadd 426 c218_425 rfl ?_
          refine y_top 2 (by decide) ?_
          refine s_load 427 x2 c218_426 rfl (by decide) h2 ?_
          refine y_aload 428 c218_427 rfl rfl rfl ?_
          refine y_iload 430 c218_428 rfl rfl ?_
          refine y_iconst 431 c218_430 rfl ?_
          refine y_iadd 432 c218_431 rfl ?_
          refine y_top 3 (by decide) ?_
          refine s_load 433 x3 c218_432 rfl (by decide) h3 ?_
          refine y_inlB 436 [.ref 376, yI x1, yI x2, yI x3] [] [some (.ref 376), some (yI x1), some (yI x2), some (yI x3)] c218_433 rfl rfl rfl rfl rfl (ycanO km166 ko376) kn166 rfl rfl ?_
          refine y_aload 1 c166_0 rfl rfl rfl ?_
          refine y_aload 2 c166_1 rfl rfl rfl ?_
          refine y_iload 3 c166_2 rfl rfl ?_
          refine y_inlB 6 [.ref 376, yI x1] [.ref 376] [some (.ref 376), some (yI x1)] c166_3 rfl rfl rfl rfl rfl (ycanO km161 ko376) kn161 rfl rfl ?_
          refine y_aload 1 c161_0 rfl rfl rfl ?_
          refine y_getX 4 0 c161_1 rfl kf376_19 rfl ?_
          refine y_if 30 7 c161_4 rfl rfl (yz_eq (by omega)) (fun hb => ?_) (fun hb => ?_)
          · refine y_iconst 31 c161_30 rfl ?_
            refine y_ireturnK c161_31 (y_fit1 (by omega)) ?_
            refine y_if 40 9 c166_6 rfl rfl (yz_eq (by omega)) (fun hb => ?_) (fun hb => ?_)
            · refine y_iconst 41 c166_40 rfl ?_
              refine y_inlB 44 [.ref 376, yI 0] [] [some (.ref 376), some (yI 0)] c166_41 rfl rfl rfl rfl rfl (ycanO km162 ko376) kn162 rfl rfl ?_
              refine y_aload 1 c162_0 rfl rfl rfl ?_
              refine y_aload 2 c162_1 rfl rfl rfl ?_
              refine y_getX 5 0 c162_2 rfl kf376_19 rfl ?_
              refine y_if 16 8 c162_5 rfl rfl (yz_eq (by omega)) (fun hb => ?_) (fun hb => ?_)
              · refine y_iconst 17 c162_16 rfl ?_
                refine y_iconst 18 c162_17 rfl ?_
                refine y_inlB 21 [.ref 376, yI 0, yI 1] [] [some (.ref 376), some (yI 0), some (yI 1)] c162_18 rfl rfl rfl rfl rfl (ycanO km23 ko376) kn23 rfl rfl ?_
                refine y_aload 1 c23_0 rfl rfl rfl ?_
                refine y_iload 2 c23_1 rfl rfl ?_
                refine y_if 9 5 c23_2 rfl rfl (yz_eq (by omega)) (fun hb => ?_) (fun hb => ?_)
                · refine y_iload 10 c23_9 rfl rfl ?_
                  refine y_putI 13 c23_10 rfl kf376_57 (y_fit0 _) ?_
                  refine y_iload 14 c23_13 rfl rfl ?_
                  refine y_ireturnK c23_14 (y_fit1 (by omega)) ?_
                  refine y_ireturnK c162_21 (y_fit1 (by omega)) ?_
                  refine y_if 66 47 c166_44 rfl rfl (yz_eq (by omega)) (fun hb => ?_) (fun hb => ?_)
                  · refine y_iconst 67 c166_66 rfl ?_
                    refine y_ireturnK c166_67 (y_fit0 _) ?_
                    refine y_istore 438 c218_436 rfl rfl ?_
                    refine y_aload 439 c218_438 rfl rfl rfl ?_
                    refine y_inlB 442 [.ref 376] [] [some (.ref 376)] c218_439 rfl rfl rfl rfl rfl (ycanO km26 ko376) kn26 rfl rfl ?_
                    refine y_aload 1 c26_0 rfl rfl rfl ?_
                    refine y_getX 4 1 c26_1 rfl kf376_57 rfl ?_
                    refine y_ireturnK c26_4 (y_fit0 _) ?_
                    refine y_iload 444 c218_442 rfl rfl ?_
                    refine y_icmp 449 447 c218_444 rfl rfl (yc_eq (by omega) (by omega)) (fun hb => ?_) (fun hb => ?_)
                    · refine y_iload 451 c218_449 rfl rfl ?_
                      refine y_if 466 454 c218_451 rfl rfl (yz_ne (by omega)) (fun hb => ?_) (fun hb => ?_)
                      · refine y_goto 953 c218_466 rfl ?_
                        refine y_iincN 956 4 c218_953 rfl rfl (by decide) rfl ?_
                        refine y_goto 23 c218_956 rfl ?_
                        refine y_iload 25 c218_23 rfl rfl ?_
                        refine y_aload 26 c218_25 rfl rfl rfl ?_
                        refine y_slen 27 c218_26 rfl ?_
                        refine y_top 4 rfl ?_
                        refine y_iconst 28 c218_27 rfl ?_
                        refine y_isub 29 c218_28 rfl ?_
                        refine y_top 0 (by decide) ?_
                        refine y_icmp 959 32 c218_29 rfl rfl (yc_gt (by omega) (by omega)) (fun hb => ?_) (fun hb => ?_)
                        · refine y_iconst 960 c218_959 rfl ?_
                          exact y_ireturn c218_960 (y_fit1 (by omega)) ⟨rfl, by omega⟩
                        · exfalso; omega
                      · exfalso; omega
                    · exfalso; omega
                  · exfalso; omega
                · exfalso; omega
              · exfalso; omega
            · exfalso; omega
          · exfalso; omega
        · exfalso; omega
      · exfalso; omega

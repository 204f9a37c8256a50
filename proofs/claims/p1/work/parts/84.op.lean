set_option maxRecDepth 100000 in
set_option maxHeartbeats 4000000 in
theorem g1_4 (xs : Nat → Int32) (x0 x1 x2 x3 : Int) (h0 : (xs 0).toInt = x0) (h1 : (xs 1).toInt = x1) (h2 : (xs 2).toInt = x2) (h3 : (xs 3).toInt = x3) (r1 : -2147483648 ≤ x1 ∧ x1 < 2147483648) (r2 : -2147483648 ≤ x2 ∧ x2 < 2147483648) (r3 : -2147483648 ≤ x3 ∧ x3 < 2147483648) (hop : (Int32.ofInt x0 &&& Int32.ofInt 15).toInt = 4) : YW (gZ 4 xs) 218 60 23 [some (.retAddr 0), some (.ref 0), some (.ref 376), some (.ref 413), some (yI 0), none, none] [] gMem 414 gQ1 := by
  refine y_iload 25 c218_23 rfl rfl ?_
  refine y_aload 26 c218_25 rfl rfl rfl ?_
  refine y_slen 27 c218_26 rfl ?_
  refine y_top 4 rfl ?_
  refine y_iconst 28 c218_27 rfl ?_
  refine y_isub 29 c218_28 rfl ?_
  refine y_top 0 (by decide) ?_
  refine y_icmp 959 32 c218_29 rfl rfl (yc_gt (by omega) (by omega)) (fun hb => ?_) (fun hb => ?_)
  · exfalso; omega
  · refine y_aload 33 c218_32 rfl rfl rfl ?_
    refine y_iload 35 c218_33 rfl rfl ?_
    refine s_load 36 x0 c218_35 rfl (by decide) h0 ?_
    refine y_iconst 38 c218_36 rfl ?_
    refine y_iand 39 c218_38 rfl ?_
    refine y_top 4 hop ?_
    refine y_tsw 321 c218_39 (by decide) (by decide) rfl rfl ?_
    refine y_aload 322 c218_321 rfl rfl rfl ?_
    refine y_aload 323 c218_322 rfl rfl rfl ?_
    refine y_iload 325 c218_323 rfl rfl ?_
    refine y_iconst 326 c218_325 rfl ?_
    refine y_iadd 327 c218_326 rfl ?_
    refine y_top 1 (by decide) ?_
    refine s_load 328 x1 c218_327 rfl (by decide) h1 ?_
    refine y_aload 329 c218_328 rfl rfl rfl ?_
    refine y_iload 331 c218_329 rfl rfl ?_
    refine y_iconst 332 c218_331 rfl ?_
    refine y_iadd 333 c218_332 rfl ?_
    refine y_top 2 (by decide) ?_
    refine s_load 334 x2 c218_333 rfl (by decide) h2 ?_
    refine y_aload 335 c218_334 rfl rfl rfl ?_
    refine y_inlB 338 [.ref 0, yI x1, yI x2, .ref 413] [] [some (.ref 0), some (yI x1), some (yI x2), some (.ref 413), none] c218_335 rfl rfl rfl rfl rfl (ycanS km159) kn159 rfl rfl ?_
    refine y_aload 1 c159_0 rfl rfl rfl ?_
    refine y_iconst 2 c159_1 rfl ?_
    refine y_aload 3 c159_2 rfl rfl rfl ?_
    refine y_iload 4 c159_3 rfl rfl ?_
    refine y_iload 5 c159_4 rfl rfl ?_
    refine y_inlB 8 [.ref 0, yI x1, yI x2] [yI 0, .ref 413] [some (.ref 0), some (yI x1), some (yI x2)] c159_5 rfl rfl rfl rfl rfl (ycanO km158 ko0) kn158 rfl rfl ?_
    refine y_aload 1 c158_0 rfl rfl rfl ?_
    refine y_iload 2 c158_1 rfl rfl ?_
    refine y_inlB 5 [.ref 0, yI x1] [] [some (.ref 0), some (yI x1)] c158_2 rfl rfl rfl rfl rfl (ycanO km156 ko0) kn156 rfl rfl ?_
    refine y_iload 1 c156_0 rfl rfl ?_
    refine y_aload 2 c156_1 rfl rfl rfl ?_
    refine y_getS 5 (B := 256) c156_2 rfl kf0_4 rfl ?_
    refine y_getX 8 0 c156_5 rfl kf256_15 rfl ?_
    refine y_inlB 11 [yI x1, yI 0] [] [some (yI x1), some (yI 0)] c156_8 rfl rfl rfl rfl rfl (ycanS km155) kn155 rfl rfl ?_
    refine y_iload 1 c155_0 rfl rfl ?_
    refine y_if 13 4 c155_1 rfl rfl (yz_lt (by omega)) (fun hb => ?_) (fun hb => ?_)
    · refine y_iconst 14 c155_13 rfl ?_
      refine y_ireturnK c155_14 (y_fit1 (by omega)) ?_
      refine y_ireturnK c156_11 (y_fit1 (by omega)) ?_
      refine y_if 16 8 c158_5 rfl rfl (yz_eq (by omega)) (fun hb => ?_) (fun hb => ?_)
      · refine y_throwB c158_16 rfl ?_
        refine yK_in kh159_5_11 ?_
        refine y_astore 15 c159_13 rfl rfl rfl ?_
        refine y_iconst 16 c159_15 rfl ?_
        refine y_ireturnK c159_16 (y_fit0 _) ?_
        refine y_istore 340 c218_338 rfl rfl ?_
        refine y_aload 341 c218_340 rfl rfl rfl ?_
        refine y_aload 342 c218_341 rfl rfl rfl ?_
        refine y_iload 344 c218_342 rfl rfl ?_
        refine y_iconst 345 c218_344 rfl ?_
        refine y_iadd 346 c218_345 rfl ?_
        refine y_top 1 (by decide) ?_
        refine s_load 347 x1 c218_346 rfl (by decide) h1 ?_
        refine y_aload 348 c218_347 rfl rfl rfl ?_
        refine y_iload 350 c218_348 rfl rfl ?_
        refine y_iconst 351 c218_350 rfl ?_
        refine y_iadd 352 c218_351 rfl ?_
        refine y_top 2 (by decide) ?_
        refine s_load 353 x2 c218_352 rfl (by decide) h2 ?_
        refine y_inlB 356 [.ref 376, yI x1, yI x2] [] [some (.ref 376), some (yI x1), some (yI x2)] c218_353 rfl rfl rfl rfl rfl (ycanO km163 ko376) kn163 rfl rfl ?_
        refine y_aload 1 c163_0 rfl rfl rfl ?_
        refine y_aload 2 c163_1 rfl rfl rfl ?_
        refine y_iload 3 c163_2 rfl rfl ?_
        refine y_inlB 6 [.ref 376, yI x1] [.ref 376] [some (.ref 376), some (yI x1)] c163_3 rfl rfl rfl rfl rfl (ycanO km160 ko376) kn160 rfl rfl ?_
        refine y_aload 1 c160_0 rfl rfl rfl ?_
        refine y_getX 4 0 c160_1 rfl kf376_19 rfl ?_
        refine y_if 30 7 c160_4 rfl rfl (yz_eq (by omega)) (fun hb => ?_) (fun hb => ?_)
        · refine y_iconst 31 c160_30 rfl ?_
          refine y_ireturnK c160_31 (y_fit1 (by omega)) ?_
          refine y_if 21 9 c163_6 rfl rfl (yz_eq (by omega)) (fun hb => ?_) (fun hb => ?_)
          · refine y_iconst 22 c163_21 rfl ?_
            refine y_inlB 25 [.ref 376, yI 0] [] [some (.ref 376), some (yI 0)] c163_22 rfl rfl rfl rfl rfl (ycanO km162 ko376) kn162 rfl rfl ?_
            refine y_aload 1 c162_0 rfl rfl rfl ?_
            refine y_aload 2 c162_1 rfl rfl rfl ?_
            refine y_getX 5 0 c162_2 rfl kf376_19 rfl ?_
            refine y_if 16 8 c162_5 rfl rfl (yz_eq (by omega)) (fun hb => ?_) (fun hb => ?_)
            · refine y_iconst 17 c162_16 rfl ?_
              refine y_iconst 18 c162_17 rfl ?_
              refine y_inlB 21 [.ref 376, yI 0, yI 1] [] [some (.ref 376), some (yI 0), some (yI 1)] c162_18 rfl rfl rfl rfl rfl (ycanO km23 ko376) kn23 rfl rfl ?_
              refine y_aload 1 c23_0 rfl rfl rfl ?_
              refine y_iload 2 c23_1 rfl rfl ?_
              refine y_if 9 5 c23_2 rfl rfl (yz_eq (by omega)) (fun hb => ?_) (fun hb => ?_)
              · refine y_iload 10 c23_9 rfl rfl ?_
                refine y_putI 13 c23_10 rfl kf376_57 (y_fit0 _) ?_
                refine y_iload 14 c23_13 rfl rfl ?_
                refine y_ireturnK c23_14 (y_fit1 (by omega)) ?_
                refine y_ireturnK c162_21 (y_fit1 (by omega)) ?_
                refine y_if 42 28 c163_25 rfl rfl (yz_eq (by omega)) (fun hb => ?_) (fun hb => ?_)
                · refine y_iconst 43 c163_42 rfl ?_
                  refine y_ireturnK c163_43 (y_fit0 _) ?_
                  refine y_istore 358 c218_356 rfl rfl ?_
                  refine y_aload 359 c218_358 rfl rfl rfl ?_
                  refine y_inlB 362 [.ref 376] [] [some (.ref 376)] c218_359 rfl rfl rfl rfl rfl (ycanO km26 ko376) kn26 rfl rfl ?_
                  refine y_aload 1 c26_0 rfl rfl rfl ?_
                  refine y_getX 4 1 c26_1 rfl kf376_57 rfl ?_
                  refine y_ireturnK c26_4 (y_fit0 _) ?_
                  refine y_iload 364 c218_362 rfl rfl ?_
                  refine y_icmp 369 367 c218_364 rfl rfl (yc_eq (by omega) (by omega)) (fun hb => ?_) (fun hb => ?_)
                  · refine y_iload 371 c218_369 rfl rfl ?_
                    refine y_if 386 374 c218_371 rfl rfl (yz_ne (by omega)) (fun hb => ?_) (fun hb => ?_)
                    · refine y_goto 953 c218_386 rfl ?_
                      refine y_iincN 956 4 c218_953 rfl rfl (by decide) rfl ?_
                      refine y_goto 23 c218_956 rfl ?_
                      refine y_iload 25 c218_23 rfl rfl ?_
                      refine y_aload 26 c218_25 rfl rfl rfl ?_
                      refine y_slen 27 c218_26 rfl ?_
                      refine y_top 4 rfl ?_
                      refine y_iconst 28 c218_27 rfl ?_
                      refine y_isub 29 c218_28 rfl ?_
                      refine y_top 0 (by decide) ?_
                      refine y_icmp 959 32 c218_29 rfl rfl (yc_gt (by omega) (by omega)) (fun hb => ?_) (fun hb => ?_)
                      · refine y_iconst 960 c218_959 rfl ?_
                        exact y_ireturn c218_960 (y_fit1 (by omega)) ⟨rfl, by omega⟩
                      · exfalso; omega
                    · exfalso; omega
                  · exfalso; omega
                · exfalso; omega
              · exfalso; omega
            · exfalso; omega
          · exfalso; omega
        · exfalso; omega
      · exfalso; omega
    · refine y_iload 5 c155_4 rfl rfl ?_
      refine y_iload 6 c155_5 rfl rfl ?_
      refine y_icmp 13 9 c155_6 rfl rfl (yc_ge (by omega) (by omega)) (fun hb => ?_) (fun hb => ?_)
      · refine y_iconst 14 c155_13 rfl ?_
        refine y_ireturnK c155_14 (y_fit1 (by omega)) ?_
        refine y_ireturnK c156_11 (y_fit1 (by omega)) ?_
        refine y_if 16 8 c158_5 rfl rfl (yz_eq (by omega)) (fun hb => ?_) (fun hb => ?_)
        · refine y_throwB c158_16 rfl ?_
          refine yK_in kh159_5_11 ?_
          refine y_astore 15 c159_13 rfl rfl rfl ?_
          refine y_iconst 16 c159_15 rfl ?_
          refine y_ireturnK c159_16 (y_fit0 _) ?_
          refine y_istore 340 c218_338 rfl rfl ?_
          refine y_aload 341 c218_340 rfl rfl rfl ?_
          refine y_aload 342 c218_341 rfl rfl rfl ?_
          refine y_iload 344 c218_342 rfl rfl ?_
          refine y_iconst 345 c218_344 rfl ?_
          refine y_iadd 346 c218_345 rfl ?_
          refine y_top 1 (by decide) ?_
          refine s_load 347 x1 c218_346 rfl (by decide) h1 ?_
          refine y_aload 348 c218_347 rfl rfl rfl ?_
          refine y_iload 350 c218_348 rfl rfl ?_
          refine y_iconst 351 c218_350 rfl ?_
          refine y_iadd 352 c218_351 rfl ?_
          refine y_top 2 (by decide) ?_
          refine s_load 353 x2 c218_352 rfl (by decide) h2 ?_
          refine y_inlB 356 [.ref 376, yI x1, yI x2] [] [some (.ref 376), some (yI x1), some (yI x2)] c218_353 rfl rfl rfl rfl rfl (ycanO km163 ko376) kn163 rfl rfl ?_
          refine y_aload 1 c163_0 rfl rfl rfl ?_
          refine y_aload 2 c163_1 rfl rfl rfl ?_
          refine y_iload 3 c163_2 rfl rfl ?_
          refine y_inlB 6 [.ref 376, yI x1] [.ref 376] [some (.ref 376), some (yI x1)] c163_3 rfl rfl rfl rfl rfl (ycanO km160 ko376) kn160 rfl rfl ?_
          refine y_aload 1 c160_0 rfl rfl rfl ?_
          refine y_getX 4 0 c160_1 rfl kf376_19 rfl ?_
          refine y_if 30 7 c160_4 rfl rfl (yz_eq (by omega)) (fun hb => ?_) (fun hb => ?_)
          · refine y_iconst 31 c160_30 rfl ?_
            refine y_ireturnK c160_31 (y_fit1 (by omega)) ?_
            refine y_if 21 9 c163_6 rfl rfl (yz_eq (by omega)) (fun hb => ?_) (fun hb => ?_)
            · refine y_iconst 22 c163_21 rfl ?_
              refine y_inlB 25 [.ref 376, yI 0] [] [some (.ref 376), some (yI 0)] c163_22 rfl rfl rfl rfl rfl (ycanO km162 ko376) kn162 rfl rfl ?_
              refine y_aload 1 c162_0 rfl rfl rfl ?_
              refine y_aload 2 c162_1 rfl rfl rfl ?_
              refine y_getX 5 0 c162_2 rfl kf376_19 rfl ?_
              refine y_if 16 8 c162_5 rfl rfl (yz_eq (by omega)) (fun hb => ?_) (fun hb => ?_)
              · refine y_iconst 17 c162_16 rfl ?_
                refine y_iconst 18 c162_17 rfl ?_
                refine y_inlB 21 [.ref 376, yI 0, yI 1] [] [some (.ref 376), some (yI 0), some (yI 1)] c162_18 rfl rfl rfl rfl rfl (ycanO km23 ko376) kn23 rfl rfl ?_
                refine y_aload 1 c23_0 rfl rfl rfl ?_
                refine y_iload 2 c23_1 rfl rfl ?_
                refine y_if 9 5 c23_2 rfl rfl (yz_eq (by omega)) (fun hb => ?_) (fun hb => ?_)
                · refine y_iload 10 c23_9 rfl rfl ?_
                  refine y_putI 13 c23_10 rfl kf376_57 (y_fit0 _) ?_
                  refine y_iload 14 c23_13 rfl rfl ?_
                  refine y_ireturnK c23_14 (y_fit1 (by omega)) ?_
                  refine y_ireturnK c162_21 (y_fit1 (by omega)) ?_
                  refine y_if 42 28 c163_25 rfl rfl (yz_eq (by omega)) (fun hb => ?_) (fun hb => ?_)
                  · refine y_iconst 43 c163_42 rfl ?_
                    refine y_ireturnK c163_43 (y_fit0 _) ?_
                    refine y_istore 358 c218_356 rfl rfl ?_
                    refine y_aload 359 c218_358 rfl rfl rfl ?_
                    refine y_inlB 362 [.ref 376] [] [some (.ref 376)] c218_359 rfl rfl rfl rfl rfl (ycanO km26 ko376) kn26 rfl rfl ?_
                    refine y_aload 1 c26_0 rfl rfl rfl ?_
                    refine y_getX 4 1 c26_1 rfl kf376_57 rfl ?_
                    refine y_ireturnK c26_4 (y_fit0 _) ?_
                    refine y_iload 364 c218_362 rfl rfl ?_
                    refine y_icmp 369 367 c218_364 rfl rfl (yc_eq (by omega) (by omega)) (fun hb => ?_) (fun hb => ?_)
                    · refine y_iload 371 c218_369 rfl rfl ?_
                      refine y_if 386 374 c218_371 rfl rfl (yz_ne (by omega)) (fun hb => ?_) (fun hb => ?_)
                      · refine y_goto 953 c218_386 rfl ?_
                        refine y_iincN 956 4 c218_953 rfl rfl (by decide) rfl ?_
                        refine y_goto 23 c218_956 rfl ?_
                        refine y_iload 25 c218_23 rfl rfl ?_
                        refine y_aload 26 c218_25 rfl rfl rfl ?_
                        refine y_slen 27 c218_26 rfl ?_
                        refine y_top 4 rfl ?_
                        refine y_iconst 28 c218_27 rfl ?_
                        refine y_isub 29 c218_28 rfl ?_
                        refine y_top 0 (by decide) ?_
                        refine y_icmp 959 32 c218_29 rfl rfl (yc_gt (by omega) (by omega)) (fun hb => ?_) (fun hb => ?_)
                        · refine y_iconst 960 c218_959 rfl ?_
                          exact y_ireturn c218_960 (y_fit1 (by omega)) ⟨rfl, by omega⟩
                        · exfalso; omega
                      · exfalso; omega
                    · exfalso; omega
                  · exfalso; omega
                · exfalso; omega
              · exfalso; omega
            · exfalso; omega
          · exfalso; omega
        · exfalso; omega
      · exfalso; omega

set_option maxRecDepth 100000 in
set_option maxHeartbeats 4000000 in
theorem g1_1 (xs : Nat → Int32) (x0 x1 x2 x3 : Int) (h0 : (xs 0).toInt = x0) (h1 : (xs 1).toInt = x1) (h2 : (xs 2).toInt = x2) (h3 : (xs 3).toInt = x3) (r1 : -2147483648 ≤ x1 ∧ x1 < 2147483648) (r2 : -2147483648 ≤ x2 ∧ x2 < 2147483648) (r3 : -2147483648 ≤ x3 ∧ x3 < 2147483648) (hop : (Int32.ofInt x0 &&& Int32.ofInt 15).toInt = 1) : YW (gZ 4 xs) 218 60 23 [some (.retAddr 0), some (.ref 0), some (.ref 376), some (.ref 413), some (yI 0), none, none] [] gMem 414 gQ1 := by
  refine y_iload 25 c218_23 rfl rfl ?_
  refine y_aload 26 c218_25 rfl rfl rfl ?_
  refine y_slen 27 c218_26 rfl ?_
  refine y_top 4 rfl ?_
  refine y_iconst 28 c218_27 rfl ?_
  refine y_isub 29 c218_28 rfl ?_
  refine y_top 0 (by decide) ?_
  refine y_icmp 959 32 c218_29 rfl rfl (yc_gt (by omega) (by omega)) (fun hb => ?_) (fun hb => ?_)
  · exfalso; omega
  · refine y_aload 33 c218_32 rfl rfl rfl ?_
    refine y_iload 35 c218_33 rfl rfl ?_
    refine s_load 36 x0 c218_35 rfl (by decide) h0 ?_
    refine y_iconst 38 c218_36 rfl ?_
    refine y_iand 39 c218_38 rfl ?_
    refine y_top 1 hop ?_
    refine y_tsw 208 c218_39 (by decide) (by decide) rfl rfl ?_
    refine y_aload 209 c218_208 rfl rfl rfl ?_
    refine y_aload 210 c218_209 rfl rfl rfl ?_
    refine y_iload 212 c218_210 rfl rfl ?_
    refine y_iconst 213 c218_212 rfl ?_
    refine y_iadd 214 c218_213 rfl ?_
    refine y_top 1 (by decide) ?_
    refine s_load 215 x1 c218_214 rfl (by decide) h1 ?_
    refine y_aload 216 c218_215 rfl rfl rfl ?_
    refine y_inlB 219 [.ref 0, yI x1, .ref 413] [] [some (.ref 0), some (yI x1), some (.ref 413), none] c218_216 rfl rfl rfl rfl rfl (ycanS km28) kn28 rfl rfl ?_
    refine y_aload 1 c28_0 rfl rfl rfl ?_
    refine y_iconst 2 c28_1 rfl ?_
    refine y_aload 3 c28_2 rfl rfl rfl ?_
    refine y_iload 4 c28_3 rfl rfl ?_
    refine y_inlB 7 [.ref 0, yI x1] [yI 0, .ref 413] [some (.ref 0), some (yI x1)] c28_4 rfl rfl rfl rfl rfl (ycanO km27 ko0) kn27 rfl rfl ?_
    refine y_iload 1 c27_0 rfl rfl ?_
    refine y_if 12 4 c27_1 rfl rfl (yz_lt (by omega)) (fun hb => ?_) (fun hb => ?_)
    · refine y_throwB c27_12 rfl ?_
      refine yK_in kh28_4_9 ?_
      refine y_astore 13 c28_12 rfl rfl rfl ?_
      refine y_iconst 14 c28_13 rfl ?_
      refine y_ireturnK c28_14 (y_fit0 _) ?_
      refine y_istore 221 c218_219 rfl rfl ?_
      refine y_aload 222 c218_221 rfl rfl rfl ?_
      refine y_aload 223 c218_222 rfl rfl rfl ?_
      refine y_iload 225 c218_223 rfl rfl ?_
      refine y_iconst 226 c218_225 rfl ?_
      refine y_iadd 227 c218_226 rfl ?_
      refine y_top 1 (by decide) ?_
      refine s_load 228 x1 c218_227 rfl (by decide) h1 ?_
      refine y_inlB 231 [.ref 376, yI x1] [] [some (.ref 376), some (yI x1)] c218_228 rfl rfl rfl rfl rfl (ycanO km29 ko376) kn29 rfl rfl ?_
      refine y_aload 1 c29_0 rfl rfl rfl ?_
      refine y_iload 2 c29_1 rfl rfl ?_
      refine y_iconst 3 c29_2 rfl ?_
      refine y_aload 4 c29_3 rfl rfl rfl ?_
      refine y_getX 7 0 c29_4 rfl kf376_1 rfl ?_
      refine y_inlB 10 [yI x1, yI 0, yI 0] [.ref 376] [some (yI x1), some (yI 0), some (yI 0)] c29_7 rfl rfl rfl rfl rfl (ycanS km22) kn22 rfl rfl ?_
      refine y_iload 1 c22_0 rfl rfl ?_
      refine y_iload 2 c22_1 rfl rfl ?_
      refine y_icmp 14 5 c22_2 rfl rfl (yc_lt (by omega) (by omega)) (fun hb => ?_) (fun hb => ?_)
      · refine y_iconst 15 c22_14 rfl ?_
        refine y_ireturnK c22_15 (y_fit1 (by omega)) ?_
        refine y_iconst 11 c29_10 rfl ?_
        refine y_inlB 14 [.ref 376, yI 0, yI 1] [] [some (.ref 376), some (yI 0), some (yI 1)] c29_11 rfl rfl rfl rfl rfl (ycanO km23 ko376) kn23 rfl rfl ?_
        refine y_aload 1 c23_0 rfl rfl rfl ?_
        refine y_iload 2 c23_1 rfl rfl ?_
        refine y_if 9 5 c23_2 rfl rfl (yz_eq (by omega)) (fun hb => ?_) (fun hb => ?_)
        · refine y_iload 10 c23_9 rfl rfl ?_
          refine y_putI 13 c23_10 rfl kf376_57 (y_fit0 _) ?_
          refine y_iload 14 c23_13 rfl rfl ?_
          refine y_ireturnK c23_14 (y_fit1 (by omega)) ?_
          refine y_if 19 17 c29_14 rfl rfl (yz_ne (by omega)) (fun hb => ?_) (fun hb => ?_)
          · exfalso; omega
          · refine y_iconst 18 c29_17 rfl ?_
            refine y_ireturnK c29_18 (y_fit0 _) ?_
            refine y_istore 233 c218_231 rfl rfl ?_
            refine y_aload 234 c218_233 rfl rfl rfl ?_
            refine y_inlB 237 [.ref 376] [] [some (.ref 376)] c218_234 rfl rfl rfl rfl rfl (ycanO km26 ko376) kn26 rfl rfl ?_
            refine y_aload 1 c26_0 rfl rfl rfl ?_
            refine y_getX 4 1 c26_1 rfl kf376_57 rfl ?_
            refine y_ireturnK c26_4 (y_fit0 _) ?_
            refine y_iload 239 c218_237 rfl rfl ?_
            refine y_icmp 244 242 c218_239 rfl rfl (yc_eq (by omega) (by omega)) (fun hb => ?_) (fun hb => ?_)
            · refine y_iload 246 c218_244 rfl rfl ?_
              refine y_if 261 249 c218_246 rfl rfl (yz_ne (by omega)) (fun hb => ?_) (fun hb => ?_)
              · refine y_goto 953 c218_261 rfl ?_
                refine y_iincN 956 4 c218_953 rfl rfl (by decide) rfl ?_
                refine y_goto 23 c218_956 rfl ?_
                refine y_iload 25 c218_23 rfl rfl ?_
                refine y_aload 26 c218_25 rfl rfl rfl ?_
                refine y_slen 27 c218_26 rfl ?_
                refine y_top 4 rfl ?_
                refine y_iconst 28 c218_27 rfl ?_
                refine y_isub 29 c218_28 rfl ?_
                refine y_top 0 (by decide) ?_
                refine y_icmp 959 32 c218_29 rfl rfl (yc_gt (by omega) (by omega)) (fun hb => ?_) (fun hb => ?_)
                · refine y_iconst 960 c218_959 rfl ?_
                  exact y_ireturn c218_960 (y_fit1 (by omega)) ⟨rfl, by omega⟩
                · exfalso; omega
              · exfalso; omega
            · exfalso; omega
        · exfalso; omega
      · exfalso; omega
    · refine y_iload 5 c27_4 rfl rfl ?_
      refine y_aload 6 c27_5 rfl rfl rfl ?_
      refine y_getX 9 0 c27_6 rfl kf0_6 rfl ?_
      refine y_icmp 20 12 c27_9 rfl rfl (yc_le (by omega) (by omega)) (fun hb => ?_) (fun hb => ?_)
      · refine y_aload 21 c27_20 rfl rfl rfl ?_
        refine y_dup 22 c27_21 rfl rfl ?_
        refine y_getX 25 0 c27_22 rfl kf0_6 rfl ?_
        refine y_iload 26 c27_25 rfl rfl ?_
        refine y_isub 27 c27_26 rfl ?_
        refine y_putI 30 c27_27 rfl kf0_6 (y_fit0 _) ?_
        refine y_aload 31 c27_30 rfl rfl rfl ?_
        refine y_getX 34 (0 - x1) c27_31 rfl kf0_6 rfl ?_
        refine y_ireturnK c27_34 (y_fit0 _) ?_
        refine y_i2l 8 c28_7 rfl ?_
        refine y_lastore 9 c28_8 rfl kl413 (by decide) ?_
        refine y_goto 15 c28_9 rfl ?_
        refine y_iconst 16 c28_15 rfl ?_
        refine y_ireturnK c28_16 (y_fit0 _) ?_
        refine y_istore 221 c218_219 rfl rfl ?_
        refine y_aload 222 c218_221 rfl rfl rfl ?_
        refine y_aload 223 c218_222 rfl rfl rfl ?_
        refine y_iload 225 c218_223 rfl rfl ?_
        refine y_iconst 226 c218_225 rfl ?_
        refine y_iadd 227 c218_226 rfl ?_
        refine y_top 1 (by decide) ?_
        refine s_load 228 x1 c218_227 rfl (by decide) h1 ?_
        refine y_inlB 231 [.ref 376, yI x1] [] [some (.ref 376), some (yI x1)] c218_228 rfl rfl rfl rfl rfl (ycanO km29 ko376) kn29 rfl rfl ?_
        refine y_aload 1 c29_0 rfl rfl rfl ?_
        refine y_iload 2 c29_1 rfl rfl ?_
        refine y_iconst 3 c29_2 rfl ?_
        refine y_aload 4 c29_3 rfl rfl rfl ?_
        refine y_getX 7 0 c29_4 rfl kf376_1 rfl ?_
        refine y_inlB 10 [yI x1, yI 0, yI 0] [.ref 376] [some (yI x1), some (yI 0), some (yI 0)] c29_7 rfl rfl rfl rfl rfl (ycanS km22) kn22 rfl rfl ?_
        refine y_iload 1 c22_0 rfl rfl ?_
        refine y_iload 2 c22_1 rfl rfl ?_
        refine y_icmp 14 5 c22_2 rfl rfl (yc_lt (by omega) (by omega)) (fun hb => ?_) (fun hb => ?_)
        · exfalso; omega
        · refine y_iload 6 c22_5 rfl rfl ?_
          refine y_iload 7 c22_6 rfl rfl ?_
          refine y_icmp 14 10 c22_7 rfl rfl (yc_gt (by omega) (by omega)) (fun hb => ?_) (fun hb => ?_)
          · exfalso; omega
          · refine y_iconst 11 c22_10 rfl ?_
            refine y_goto 15 c22_11 rfl ?_
            refine y_ireturnK c22_15 (y_fit1 (by omega)) ?_
            refine y_iconst 11 c29_10 rfl ?_
            refine y_inlB 14 [.ref 376, yI 1, yI 1] [] [some (.ref 376), some (yI 1), some (yI 1)] c29_11 rfl rfl rfl rfl rfl (ycanO km23 ko376) kn23 rfl rfl ?_
            refine y_aload 1 c23_0 rfl rfl rfl ?_
            refine y_iload 2 c23_1 rfl rfl ?_
            refine y_if 9 5 c23_2 rfl rfl (yz_eq (by omega)) (fun hb => ?_) (fun hb => ?_)
            · exfalso; omega
            · refine y_iconst 6 c23_5 rfl ?_
              refine y_goto 10 c23_6 rfl ?_
              refine y_putI 13 c23_10 rfl kf376_57 (y_fit0 _) ?_
              refine y_iload 14 c23_13 rfl rfl ?_
              refine y_ireturnK c23_14 (y_fit1 (by omega)) ?_
              refine y_if 19 17 c29_14 rfl rfl (yz_ne (by omega)) (fun hb => ?_) (fun hb => ?_)
              · refine y_aload 20 c29_19 rfl rfl rfl ?_
                refine y_dup 21 c29_20 rfl rfl ?_
                refine y_getX 24 0 c29_21 rfl kf376_1 rfl ?_
                refine y_iload 25 c29_24 rfl rfl ?_
                refine y_isub 26 c29_25 rfl ?_
                refine y_putI 29 c29_26 rfl kf376_1 (y_fit0 _) ?_
                refine y_aload 30 c29_29 rfl rfl rfl ?_
                refine y_getX 33 (0 - x1) c29_30 rfl kf376_1 rfl ?_
                refine y_ireturnK c29_33 (y_fit0 _) ?_
                refine y_istore 233 c218_231 rfl rfl ?_
                refine y_aload 234 c218_233 rfl rfl rfl ?_
                refine y_inlB 237 [.ref 376] [] [some (.ref 376)] c218_234 rfl rfl rfl rfl rfl (ycanO km26 ko376) kn26 rfl rfl ?_
                refine y_aload 1 c26_0 rfl rfl rfl ?_
                refine y_getX 4 0 c26_1 rfl kf376_57 rfl ?_
                refine y_ireturnK c26_4 (y_fit0 _) ?_
                refine y_iload 239 c218_237 rfl rfl ?_
                refine y_icmp 244 242 c218_239 rfl rfl (yc_eq (by omega) (by omega)) (fun hb => ?_) (fun hb => ?_)
                · refine y_iload 246 c218_244 rfl rfl ?_
                  refine y_if 261 249 c218_246 rfl rfl (yz_ne (by omega)) (fun hb => ?_) (fun hb => ?_)
                  · exfalso; omega
                  · refine y_aload 250 c218_249 rfl rfl rfl ?_
                    refine y_iconst 251 c218_250 rfl ?_
                    refine y_laload 252 c218_251 rfl kl413 (by decide) ?_
                    refine y_iload 254 c218_252 rfl rfl ?_
                    refine y_i2l 255 c218_254 rfl ?_
                    refine y_lcmp0 256 c218_255 rfl (by first | rfl | exact Int64.ofInt_toInt _ | simp [yup]) ?_
                    refine y_if 261 259 c218_256 rfl rfl (yz_eq (by omega)) (fun hb => ?_) (fun hb => ?_)
                    · refine y_goto 953 c218_261 rfl ?_
                      refine y_iincN 956 4 c218_953 rfl rfl (by decide) rfl ?_
                      refine y_goto 23 c218_956 rfl ?_
                      refine y_iload 25 c218_23 rfl rfl ?_
                      refine y_aload 26 c218_25 rfl rfl rfl ?_
                      refine y_slen 27 c218_26 rfl ?_
                      refine y_top 4 rfl ?_
                      refine y_iconst 28 c218_27 rfl ?_
                      refine y_isub 29 c218_28 rfl ?_
                      refine y_top 0 (by decide) ?_
                      refine y_icmp 959 32 c218_29 rfl rfl (yc_gt (by omega) (by omega)) (fun hb => ?_) (fun hb => ?_)
                      · refine y_iconst 960 c218_959 rfl ?_
                        exact y_ireturn c218_960 (y_fit1 (by omega)) ⟨rfl, by omega⟩
                      · exfalso; omega
                    · exfalso; omega
                · exfalso; omega
              · exfalso; omega
      · refine y_throwB c27_12 rfl ?_
        refine yK_in kh28_4_9 ?_
        refine y_astore 13 c28_12 rfl rfl rfl ?_
        refine y_iconst 14 c28_13 rfl ?_
        refine y_ireturnK c28_14 (y_fit0 _) ?_
        refine y_istore 221 c218_219 rfl rfl ?_
        refine y_aload 222 c218_221 rfl rfl rfl ?_
        refine y_aload 223 c218_222 rfl rfl rfl ?_
        refine y_iload 225 c218_223 rfl rfl ?_
        refine y_iconst 226 c218_225 rfl ?_
        refine y_iadd 227 c218_226 rfl ?_
        refine y_top 1 (by decide) ?_
        refine s_load 228 x1 c218_227 rfl (by decide) h1 ?_
        refine y_inlB 231 [.ref 376, yI x1] [] [some (.ref 376), some (yI x1)] c218_228 rfl rfl rfl rfl rfl (ycanO km29 ko376) kn29 rfl rfl ?_
        refine y_aload 1 c29_0 rfl rfl rfl ?_
        refine y_iload 2 c29_1 rfl rfl ?_
        refine y_iconst 3 c29_2 rfl ?_
        refine y_aload 4 c29_3 rfl rfl rfl ?_
        refine y_getX 7 0 c29_4 rfl kf376_1 rfl ?_
        refine y_inlB 10 [yI x1, yI 0, yI 0] [.ref 376] [some (yI x1), some (yI 0), some (yI 0)] c29_7 rfl rfl rfl rfl rfl (ycanS km22) kn22 rfl rfl ?_
        refine y_iload 1 c22_0 rfl rfl ?_
        refine y_iload 2 c22_1 rfl rfl ?_
        refine y_icmp 14 5 c22_2 rfl rfl (yc_lt (by omega) (by omega)) (fun hb => ?_) (fun hb => ?_)
        · exfalso; omega
        · refine y_iload 6 c22_5 rfl rfl ?_
          refine y_iload 7 c22_6 rfl rfl ?_
          refine y_icmp 14 10 c22_7 rfl rfl (yc_gt (by omega) (by omega)) (fun hb => ?_) (fun hb => ?_)
          · refine y_iconst 15 c22_14 rfl ?_
            refine y_ireturnK c22_15 (y_fit1 (by omega)) ?_
            refine y_iconst 11 c29_10 rfl ?_
            refine y_inlB 14 [.ref 376, yI 0, yI 1] [] [some (.ref 376), some (yI 0), some (yI 1)] c29_11 rfl rfl rfl rfl rfl (ycanO km23 ko376) kn23 rfl rfl ?_
            refine y_aload 1 c23_0 rfl rfl rfl ?_
            refine y_iload 2 c23_1 rfl rfl ?_
            refine y_if 9 5 c23_2 rfl rfl (yz_eq (by omega)) (fun hb => ?_) (fun hb => ?_)
            · refine y_iload 10 c23_9 rfl rfl ?_
              refine y_putI 13 c23_10 rfl kf376_57 (y_fit0 _) ?_
              refine y_iload 14 c23_13 rfl rfl ?_
              refine y_ireturnK c23_14 (y_fit1 (by omega)) ?_
              refine y_if 19 17 c29_14 rfl rfl (yz_ne (by omega)) (fun hb => ?_) (fun hb => ?_)
              · exfalso; omega
              · refine y_iconst 18 c29_17 rfl ?_
                refine y_ireturnK c29_18 (y_fit0 _) ?_
                refine y_istore 233 c218_231 rfl rfl ?_
                refine y_aload 234 c218_233 rfl rfl rfl ?_
                refine y_inlB 237 [.ref 376] [] [some (.ref 376)] c218_234 rfl rfl rfl rfl rfl (ycanO km26 ko376) kn26 rfl rfl ?_
                refine y_aload 1 c26_0 rfl rfl rfl ?_
                refine y_getX 4 1 c26_1 rfl kf376_57 rfl ?_
                refine y_ireturnK c26_4 (y_fit0 _) ?_
                refine y_iload 239 c218_237 rfl rfl ?_
                refine y_icmp 244 242 c218_239 rfl rfl (yc_eq (by omega) (by omega)) (fun hb => ?_) (fun hb => ?_)
                · refine y_iload 246 c218_244 rfl rfl ?_
                  refine y_if 261 249 c218_246 rfl rfl (yz_ne (by omega)) (fun hb => ?_) (fun hb => ?_)
                  · refine y_goto 953 c218_261 rfl ?_
                    refine y_iincN 956 4 c218_953 rfl rfl (by decide) rfl ?_
                    refine y_goto 23 c218_956 rfl ?_
                    refine y_iload 25 c218_23 rfl rfl ?_
                    refine y_aload 26 c218_25 rfl rfl rfl ?_
                    refine y_slen 27 c218_26 rfl ?_
                    refine y_top 4 rfl ?_
                    refine y_iconst 28 c218_27 rfl ?_
                    refine y_isub 29 c218_28 rfl ?_
                    refine y_top 0 (by decide) ?_
                    refine y_icmp 959 32 c218_29 rfl rfl (yc_gt (by omega) (by omega)) (fun hb => ?_) (fun hb => ?_)
                    · refine y_iconst 960 c218_959 rfl ?_
                      exact y_ireturn c218_960 (y_fit1 (by omega)) ⟨rfl, by omega⟩
                    · exfalso; omega
                  · exfalso; omega
                · exfalso; omega
            · exfalso; omega
          · exfalso; omega

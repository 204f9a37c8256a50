set_option maxRecDepth 100000 in
set_option maxHeartbeats 4000000 in
theorem g1_8 (xs : Nat → Int32) (x0 x1 x2 x3 : Int) (h0 : (xs 0).toInt = x0) (h1 : (xs 1).toInt = x1) (h2 : (xs 2).toInt = x2) (h3 : (xs 3).toInt = x3) (r1 : -2147483648 ≤ x1 ∧ x1 < 2147483648) (r2 : -2147483648 ≤ x2 ∧ x2 < 2147483648) (r3 : -2147483648 ≤ x3 ∧ x3 < 2147483648) (hop : (Int32.ofInt x0 &&& Int32.ofInt 15).toInt = 8) : YW (gZ 4 xs) 218 60 23 [some (.retAddr 0), some (.ref 0), some (.ref 376), some (.ref 413), some (yI 0), none, none] [] gMem 414 gQ1 := by
  refine y_iload 25 c218_23 rfl rfl ?_
  refine y_aload 26 c218_25 rfl rfl rfl ?_
  refine y_slen 27 c218_26 rfl ?_
  refine y_top 4 rfl ?_
  refine y_iconst 28 c218_27 rfl ?_
  refine y_isub 29 c218_28 rfl ?_
  refine y_top 0 (by decide) ?_
  refine y_icmp 959 32 c218_29 rfl rfl (yc_gt (by omega) (by omega)) (fun hb => ?_) (fun hb => ?_)
  · exfalso; omega
  · refine y_aload 33 c218_32 rfl rfl rfl ?_
    refine y_iload 35 c218_33 rfl rfl ?_
    refine s_load 36 x0 c218_35 rfl (by decide) h0 ?_
    refine y_iconst 38 c218_36 rfl ?_
    refine y_iand 39 c218_38 rfl ?_
    refine y_top 8 hop ?_
    refine y_tsw 593 c218_39 (by decide) (by decide) rfl rfl ?_
    refine y_aload 594 c218_593 rfl rfl rfl ?_
    refine y_aload 595 c218_594 rfl rfl rfl ?_
    refine y_iload 597 c218_595 rfl rfl ?_
    refine y_iconst 598 c218_597 rfl ?_
    refine y_iadd 599 c218_598 rfl ?_
    refine y_top 1 (by decide) ?_
    refine s_load 600 x1 c218_599 rfl (by decide) h1 ?_
    refine y_aload 601 c218_600 rfl rfl rfl ?_
    refine y_inlB 604 [.ref 0, yI x1, .ref 413] [] [some (.ref 0), some (yI x1), some (.ref 413), none] c218_601 rfl rfl rfl rfl rfl (ycanS km177) kn177 rfl rfl ?_
    refine y_aload 1 c177_0 rfl rfl rfl ?_
    refine y_iconst 2 c177_1 rfl ?_
    refine y_aload 3 c177_2 rfl rfl rfl ?_
    refine y_iload 4 c177_3 rfl rfl ?_
    refine y_inlB 7 [.ref 0, yI x1] [yI 0, .ref 413] [some (.ref 0), some (yI x1)] c177_4 rfl rfl rfl rfl rfl (ycanO km176 ko0) kn176 rfl rfl ?_
    refine y_iload 1 c176_0 rfl rfl ?_
    refine y_aload 2 c176_1 rfl rfl rfl ?_
    refine y_getS 5 (B := 256) c176_2 rfl kf0_4 rfl ?_
    refine y_getX 8 0 c176_5 rfl kf256_13 rfl ?_
    refine y_inlB 11 [yI x1, yI 0] [] [some (yI x1), some (yI 0)] c176_8 rfl rfl rfl rfl rfl (ycanS km155) kn155 rfl rfl ?_
    refine y_iload 1 c155_0 rfl rfl ?_
    refine y_if 13 4 c155_1 rfl rfl (yz_lt (by omega)) (fun hb => ?_) (fun hb => ?_)
    · refine y_iconst 14 c155_13 rfl ?_
      refine y_ireturnK c155_14 (y_fit1 (by omega)) ?_
      refine y_if 22 14 c176_11 rfl rfl (yz_ne (by omega)) (fun hb => ?_) (fun hb => ?_)
      · exfalso; omega
      · refine y_throwB c176_14 rfl ?_
        refine yK_in kh177_4_11 ?_
        refine y_astore 13 c177_12 rfl rfl rfl ?_
        refine y_iconst 14 c177_13 rfl ?_
        refine y_ireturnK c177_14 (y_fit0 _) ?_
        refine y_istore 606 c218_604 rfl rfl ?_
        refine y_aload 607 c218_606 rfl rfl rfl ?_
        refine y_aload 608 c218_607 rfl rfl rfl ?_
        refine y_iload 610 c218_608 rfl rfl ?_
        refine y_iconst 611 c218_610 rfl ?_
        refine y_iadd 612 c218_611 rfl ?_
        refine y_top 1 (by decide) ?_
        refine s_load 613 x1 c218_612 rfl (by decide) h1 ?_
        refine y_inlB 616 [.ref 376, yI x1] [] [some (.ref 376), some (yI x1), none, none] c218_613 rfl rfl rfl rfl rfl (ycanO km178 ko376) kn178 rfl rfl ?_
        refine y_aload 1 c178_0 rfl rfl rfl ?_
        refine y_iload 2 c178_1 rfl rfl ?_
        refine y_iconst 3 c178_2 rfl ?_
        refine y_aload 4 c178_3 rfl rfl rfl ?_
        refine y_getR 7 c178_4 rfl kf376_24 ?_
        refine y_aload 8 c178_7 rfl rfl rfl ?_
        refine y_getX 11 0 c178_8 rfl kf376_18 rfl ?_
        refine y_iaX 12 0 c178_11 rfl ka387 (by decide) rfl ?_
        refine y_iconst 13 c178_12 rfl ?_
        refine y_isub 14 c178_13 rfl ?_
        refine y_top ((-1)) (by decide) ?_
        refine y_inlB 17 [yI x1, yI 0, yI ((-1))] [.ref 376] [some (yI x1), some (yI 0), some (yI ((-1)))] c178_14 rfl rfl rfl rfl rfl (ycanS km22) kn22 rfl rfl ?_
        refine y_iload 1 c22_0 rfl rfl ?_
        refine y_iload 2 c22_1 rfl rfl ?_
        refine y_icmp 14 5 c22_2 rfl rfl (yc_lt (by omega) (by omega)) (fun hb => ?_) (fun hb => ?_)
        · refine y_iconst 15 c22_14 rfl ?_
          refine y_ireturnK c22_15 (y_fit1 (by omega)) ?_
          refine y_inlB 20 [.ref 376, yI 0] [] [some (.ref 376), some (yI 0)] c178_17 rfl rfl rfl rfl rfl (ycanO km162 ko376) kn162 rfl rfl ?_
          refine y_aload 1 c162_0 rfl rfl rfl ?_
          refine y_aload 2 c162_1 rfl rfl rfl ?_
          refine y_getX 5 0 c162_2 rfl kf376_19 rfl ?_
          refine y_if 16 8 c162_5 rfl rfl (yz_eq (by omega)) (fun hb => ?_) (fun hb => ?_)
          · refine y_iconst 17 c162_16 rfl ?_
            refine y_iconst 18 c162_17 rfl ?_
            refine y_inlB 21 [.ref 376, yI 0, yI 1] [] [some (.ref 376), some (yI 0), some (yI 1)] c162_18 rfl rfl rfl rfl rfl (ycanO km23 ko376) kn23 rfl rfl ?_
            refine y_aload 1 c23_0 rfl rfl rfl ?_
            refine y_iload 2 c23_1 rfl rfl ?_
            refine y_if 9 5 c23_2 rfl rfl (yz_eq (by omega)) (fun hb => ?_) (fun hb => ?_)
            · refine y_iload 10 c23_9 rfl rfl ?_
              refine y_putI 13 c23_10 rfl kf376_57 (y_fit0 _) ?_
              refine y_iload 14 c23_13 rfl rfl ?_
              refine y_ireturnK c23_14 (y_fit1 (by omega)) ?_
              refine y_ireturnK c162_21 (y_fit1 (by omega)) ?_
              refine y_if 25 23 c178_20 rfl rfl (yz_ne (by omega)) (fun hb => ?_) (fun hb => ?_)
              · exfalso; omega
              · refine y_iconst 24 c178_23 rfl ?_
                refine y_ireturnK c178_24 (y_fit0 _) ?_
                refine y_istore 618 c218_616 rfl rfl ?_
                refine y_aload 619 c218_618 rfl rfl rfl ?_
                refine y_inlB 622 [.ref 376] [] [some (.ref 376)] c218_619 rfl rfl rfl rfl rfl (ycanO km26 ko376) kn26 rfl rfl ?_
                refine y_aload 1 c26_0 rfl rfl rfl ?_
                refine y_getX 4 1 c26_1 rfl kf376_57 rfl ?_
                refine y_ireturnK c26_4 (y_fit0 _) ?_
                refine y_iload 624 c218_622 rfl rfl ?_
                refine y_icmp 629 627 c218_624 rfl rfl (yc_eq (by omega) (by omega)) (fun hb => ?_) (fun hb => ?_)
                · refine y_iload 631 c218_629 rfl rfl ?_
                  refine y_if 646 634 c218_631 rfl rfl (yz_ne (by omega)) (fun hb => ?_) (fun hb => ?_)
                  · refine y_goto 953 c218_646 rfl ?_
                    refine y_iincN 956 4 c218_953 rfl rfl (by decide) rfl ?_
                    refine y_goto 23 c218_956 rfl ?_
                    refine y_iload 25 c218_23 rfl rfl ?_
                    refine y_aload 26 c218_25 rfl rfl rfl ?_
                    refine y_slen 27 c218_26 rfl ?_
                    refine y_top 4 rfl ?_
                    refine y_iconst 28 c218_27 rfl ?_
                    refine y_isub 29 c218_28 rfl ?_
                    refine y_top 0 (by decide) ?_
                    refine y_icmp 959 32 c218_29 rfl rfl (yc_gt (by omega) (by omega)) (fun hb => ?_) (fun hb => ?_)
                    · refine y_iconst 960 c218_959 rfl ?_
                      exact y_ireturn c218_960 (y_fit1 (by omega)) ⟨rfl, by omega⟩
                    · exfalso; omega
                  · exfalso; omega
                · exfalso; omega
            · exfalso; omega
          · exfalso; omega
        · exfalso; omega
    · refine y_iload 5 c155_4 rfl rfl ?_
      refine y_iload 6 c155_5 rfl rfl ?_
      refine y_icmp 13 9 c155_6 rfl rfl (yc_ge (by omega) (by omega)) (fun hb => ?_) (fun hb => ?_)
      · refine y_iconst 14 c155_13 rfl ?_
        refine y_ireturnK c155_14 (y_fit1 (by omega)) ?_
        refine y_if 22 14 c176_11 rfl rfl (yz_ne (by omega)) (fun hb => ?_) (fun hb => ?_)
        · exfalso; omega
        · refine y_throwB c176_14 rfl ?_
          refine yK_in kh177_4_11 ?_
          refine y_astore 13 c177_12 rfl rfl rfl ?_
          refine y_iconst 14 c177_13 rfl ?_
          refine y_ireturnK c177_14 (y_fit0 _) ?_
          refine y_istore 606 c218_604 rfl rfl ?_
          refine y_aload 607 c218_606 rfl rfl rfl ?_
          refine y_aload 608 c218_607 rfl rfl rfl ?_
          refine y_iload 610 c218_608 rfl rfl ?_
          refine y_iconst 611 c218_610 rfl ?_
          refine y_iadd 612 c218_611 rfl ?_
          refine y_top 1 (by decide) ?_
          refine s_load 613 x1 c218_612 rfl (by decide) h1 ?_
          refine y_inlB 616 [.ref 376, yI x1] [] [some (.ref 376), some (yI x1), none, none] c218_613 rfl rfl rfl rfl rfl (ycanO km178 ko376) kn178 rfl rfl ?_
          refine y_aload 1 c178_0 rfl rfl rfl ?_
          refine y_iload 2 c178_1 rfl rfl ?_
          refine y_iconst 3 c178_2 rfl ?_
          refine y_aload 4 c178_3 rfl rfl rfl ?_
          refine y_getR 7 c178_4 rfl kf376_24 ?_
          refine y_aload 8 c178_7 rfl rfl rfl ?_
          refine y_getX 11 0 c178_8 rfl kf376_18 rfl ?_
          refine y_iaX 12 0 c178_11 rfl ka387 (by decide) rfl ?_
          refine y_iconst 13 c178_12 rfl ?_
          refine y_isub 14 c178_13 rfl ?_
          refine y_top ((-1)) (by decide) ?_
          refine y_inlB 17 [yI x1, yI 0, yI ((-1))] [.ref 376] [some (yI x1), some (yI 0), some (yI ((-1)))] c178_14 rfl rfl rfl rfl rfl (ycanS km22) kn22 rfl rfl ?_
          refine y_iload 1 c22_0 rfl rfl ?_
          refine y_iload 2 c22_1 rfl rfl ?_
          refine y_icmp 14 5 c22_2 rfl rfl (yc_lt (by omega) (by omega)) (fun hb => ?_) (fun hb => ?_)
          · exfalso; omega
          · refine y_iload 6 c22_5 rfl rfl ?_
            refine y_iload 7 c22_6 rfl rfl ?_
            refine y_icmp 14 10 c22_7 rfl rfl (yc_gt (by omega) (by omega)) (fun hb => ?_) (fun hb => ?_)
            · refine y_iconst 15 c22_14 rfl ?_
              refine y_ireturnK c22_15 (y_fit1 (by omega)) ?_
              refine y_inlB 20 [.ref 376, yI 0] [] [some (.ref 376), some (yI 0)] c178_17 rfl rfl rfl rfl rfl (ycanO km162 ko376) kn162 rfl rfl ?_
              refine y_aload 1 c162_0 rfl rfl rfl ?_
              refine y_aload 2 c162_1 rfl rfl rfl ?_
              refine y_getX 5 0 c162_2 rfl kf376_19 rfl ?_
              refine y_if 16 8 c162_5 rfl rfl (yz_eq (by omega)) (fun hb => ?_) (fun hb => ?_)
              · refine y_iconst 17 c162_16 rfl ?_
                refine y_iconst 18 c162_17 rfl ?_
                refine y_inlB 21 [.ref 376, yI 0, yI 1] [] [some (.ref 376), some (yI 0), some (yI 1)] c162_18 rfl rfl rfl rfl rfl (ycanO km23 ko376) kn23 rfl rfl ?_
                refine y_aload 1 c23_0 rfl rfl rfl ?_
                refine y_iload 2 c23_1 rfl rfl ?_
                refine y_if 9 5 c23_2 rfl rfl (yz_eq (by omega)) (fun hb => ?_) (fun hb => ?_)
                · refine y_iload 10 c23_9 rfl rfl ?_
                  refine y_putI 13 c23_10 rfl kf376_57 (y_fit0 _) ?_
                  refine y_iload 14 c23_13 rfl rfl ?_
                  refine y_ireturnK c23_14 (y_fit1 (by omega)) ?_
                  refine y_ireturnK c162_21 (y_fit1 (by omega)) ?_
                  refine y_if 25 23 c178_20 rfl rfl (yz_ne (by omega)) (fun hb => ?_) (fun hb => ?_)
                  · exfalso; omega
                  · refine y_iconst 24 c178_23 rfl ?_
                    refine y_ireturnK c178_24 (y_fit0 _) ?_
                    refine y_istore 618 c218_616 rfl rfl ?_
                    refine y_aload 619 c218_618 rfl rfl rfl ?_
                    refine y_inlB 622 [.ref 376] [] [some (.ref 376)] c218_619 rfl rfl rfl rfl rfl (ycanO km26 ko376) kn26 rfl rfl ?_
                    refine y_aload 1 c26_0 rfl rfl rfl ?_
                    refine y_getX 4 1 c26_1 rfl kf376_57 rfl ?_
                    refine y_ireturnK c26_4 (y_fit0 _) ?_
                    refine y_iload 624 c218_622 rfl rfl ?_
                    refine y_icmp 629 627 c218_624 rfl rfl (yc_eq (by omega) (by omega)) (fun hb => ?_) (fun hb => ?_)
                    · refine y_iload 631 c218_629 rfl rfl ?_
                      refine y_if 646 634 c218_631 rfl rfl (yz_ne (by omega)) (fun hb => ?_) (fun hb => ?_)
                      · refine y_goto 953 c218_646 rfl ?_
                        refine y_iincN 956 4 c218_953 rfl rfl (by decide) rfl ?_
                        refine y_goto 23 c218_956 rfl ?_
                        refine y_iload 25 c218_23 rfl rfl ?_
                        refine y_aload 26 c218_25 rfl rfl rfl ?_
                        refine y_slen 27 c218_26 rfl ?_
                        refine y_top 4 rfl ?_
                        refine y_iconst 28 c218_27 rfl ?_
                        refine y_isub 29 c218_28 rfl ?_
                        refine y_top 0 (by decide) ?_
                        refine y_icmp 959 32 c218_29 rfl rfl (yc_gt (by omega) (by omega)) (fun hb => ?_) (fun hb => ?_)
                        · refine y_iconst 960 c218_959 rfl ?_
                          exact y_ireturn c218_960 (y_fit1 (by omega)) ⟨rfl, by omega⟩
                        · exfalso; omega
                      · exfalso; omega
                    · exfalso; omega
                · exfalso; omega
              · exfalso; omega
            · exfalso; omega
      · exfalso; omega

set_option maxRecDepth 100000 in
set_option maxHeartbeats 4000000 in
theorem g1_9 (xs : Nat → Int32) (x0 x1 x2 x3 : Int) (h0 : (xs 0).toInt = x0) (h1 : (xs 1).toInt = x1) (h2 : (xs 2).toInt = x2) (h3 : (xs 3).toInt = x3) (r1 : -2147483648 ≤ x1 ∧ x1 < 2147483648) (r2 : -2147483648 ≤ x2 ∧ x2 < 2147483648) (r3 : -2147483648 ≤ x3 ∧ x3 < 2147483648) (hop : (Int32.ofInt x0 &&& Int32.ofInt 15).toInt = 9) : YW (gZ 4 xs) 218 60 23 [some (.retAddr 0), some (.ref 0), some (.ref 376), some (.ref 413), some (yI 0), none, none] [] gMem 414 gQ1 := by
  refine y_iload 25 c218_23 rfl rfl ?_
  refine y_aload 26 c218_25 rfl rfl rfl ?_
  refine y_slen 27 c218_26 rfl ?_
  refine y_top 4 rfl ?_
  refine y_iconst 28 c218_27 rfl ?_
  refine y_isub 29 c218_28 rfl ?_
  refine y_top 0 (by decide) ?_
  refine y_icmp 959 32 c218_29 rfl rfl (yc_gt (by omega) (by omega)) (fun hb => ?_) (fun hb => ?_)
  · exfalso; omega
  · refine y_aload 33 c218_32 rfl rfl rfl ?_
    refine y_iload 35 c218_33 rfl rfl ?_
    refine s_load 36 x0 c218_35 rfl (by decide) h0 ?_
    refine y_iconst 38 c218_36 rfl ?_
    refine y_iand 39 c218_38 rfl ?_
    refine y_top 9 hop ?_
    refine y_tsw 649 c218_39 (by decide) (by decide) rfl rfl ?_
    refine y_aload 650 c218_649 rfl rfl rfl ?_
    refine y_aload 651 c218_650 rfl rfl rfl ?_
    refine y_iload 653 c218_651 rfl rfl ?_
    refine y_iconst 654 c218_653 rfl ?_
    refine y_iadd 655 c218_654 rfl ?_
    refine y_top 1 (by decide) ?_
    refine s_load 656 x1 c218_655 rfl (by decide) h1 ?_
    refine y_aload 657 c218_656 rfl rfl rfl ?_
    refine y_iload 659 c218_657 rfl rfl ?_
    refine y_iconst 660 c218_659 rfl ?_
    refine y_iadd 661 c218_660 rfl ?_
    refine y_top 2 (by decide) ?_
    refine s_load 662 x2 c218_661 rfl (by decide) h2 ?_
    refine y_aload 663 c218_662 rfl rfl rfl ?_
    refine y_inlB 666 [.ref 0, yI x1, yI x2, .ref 413] [] [some (.ref 0), some (yI x1), some (yI x2), some (.ref 413), none] c218_663 rfl rfl rfl rfl rfl (ycanS km181) kn181 rfl rfl ?_
    refine y_aload 1 c181_0 rfl rfl rfl ?_
    refine y_iconst 2 c181_1 rfl ?_
    refine y_aload 3 c181_2 rfl rfl rfl ?_
    refine y_iload 4 c181_3 rfl rfl ?_
    refine y_iload 5 c181_4 rfl rfl ?_
    refine y_inlB 8 [.ref 0, yI x1, yI x2] [yI 0, .ref 413] [some (.ref 0), some (yI x1), some (yI x2)] c181_5 rfl rfl rfl rfl rfl (ycanO km180 ko0) kn180 rfl rfl ?_
    refine y_aload 1 c180_0 rfl rfl rfl ?_
    refine y_iload 2 c180_1 rfl rfl ?_
    refine y_inlB 5 [.ref 0, yI x1] [] [some (.ref 0), some (yI x1)] c180_2 rfl rfl rfl rfl rfl (ycanO km156 ko0) kn156 rfl rfl ?_
    refine y_iload 1 c156_0 rfl rfl ?_
    refine y_aload 2 c156_1 rfl rfl rfl ?_
    refine y_getS 5 (B := 256) c156_2 rfl kf0_4 rfl ?_
    refine y_getX 8 0 c156_5 rfl kf256_15 rfl ?_
    refine y_inlB 11 [yI x1, yI 0] [] [some (yI x1), some (yI 0)] c156_8 rfl rfl rfl rfl rfl (ycanS km155) kn155 rfl rfl ?_
    refine y_iload 1 c155_0 rfl rfl ?_
    refine y_if 13 4 c155_1 rfl rfl (yz_lt (by omega)) (fun hb => ?_) (fun hb => ?_)
    · refine y_iconst 14 c155_13 rfl ?_
      refine y_ireturnK c155_14 (y_fit1 (by omega)) ?_
      refine y_ireturnK c156_11 (y_fit1 (by omega)) ?_
      refine y_if 16 8 c180_5 rfl rfl (yz_eq (by omega)) (fun hb => ?_) (fun hb => ?_)
      · refine y_throwB c180_16 rfl ?_
        refine yK_in kh181_5_11 ?_
        refine y_astore 15 c181_13 rfl rfl rfl ?_
        refine y_iconst 16 c181_15 rfl ?_
        refine y_ireturnK c181_16 (y_fit0 _) ?_
        refine y_istore 668 c218_666 rfl rfl ?_
        refine y_aload 669 c218_668 rfl rfl rfl ?_
        refine y_aload 670 c218_669 rfl rfl rfl ?_
        refine y_iload 672 c218_670 rfl rfl ?_
        refine y_iconst 673 c218_672 rfl ?_
        refine y_iadd 674 c218_673 rfl ?_
        refine y_top 1 (by decide) ?_
        refine s_load 675 x1 c218_674 rfl (by decide) h1 ?_
        refine y_aload 676 c218_675 rfl rfl rfl ?_
        refine y_iload 678 c218_676 rfl rfl ?_
        refine y_iconst 679 c218_678 rfl ?_
        refine y_iadd 680 c218_679 rfl ?_
        refine y_top 2 (by decide) ?_
        refine s_load 681 x2 c218_680 rfl (by decide) h2 ?_
        refine y_inlB 684 [.ref 376, yI x1, yI x2] [] [some (.ref 376), some (yI x1), some (yI x2), none] c218_681 rfl rfl rfl rfl rfl (ycanO km182 ko376) kn182 rfl rfl ?_
        refine y_aload 1 c182_0 rfl rfl rfl ?_
        refine y_aload 2 c182_1 rfl rfl rfl ?_
        refine y_iload 3 c182_2 rfl rfl ?_
        refine y_inlB 6 [.ref 376, yI x1] [.ref 376] [some (.ref 376), some (yI x1)] c182_3 rfl rfl rfl rfl rfl (ycanO km160 ko376) kn160 rfl rfl ?_
        refine y_aload 1 c160_0 rfl rfl rfl ?_
        refine y_getX 4 0 c160_1 rfl kf376_19 rfl ?_
        refine y_if 30 7 c160_4 rfl rfl (yz_eq (by omega)) (fun hb => ?_) (fun hb => ?_)
        · refine y_iconst 31 c160_30 rfl ?_
          refine y_ireturnK c160_31 (y_fit1 (by omega)) ?_
          refine y_if 21 9 c182_6 rfl rfl (yz_eq (by omega)) (fun hb => ?_) (fun hb => ?_)
          · refine y_iconst 22 c182_21 rfl ?_
            refine y_inlB 25 [.ref 376, yI 0] [] [some (.ref 376), some (yI 0)] c182_22 rfl rfl rfl rfl rfl (ycanO km162 ko376) kn162 rfl rfl ?_
            refine y_aload 1 c162_0 rfl rfl rfl ?_
            refine y_aload 2 c162_1 rfl rfl rfl ?_
            refine y_getX 5 0 c162_2 rfl kf376_19 rfl ?_
            refine y_if 16 8 c162_5 rfl rfl (yz_eq (by omega)) (fun hb => ?_) (fun hb => ?_)
            · refine y_iconst 17 c162_16 rfl ?_
              refine y_iconst 18 c162_17 rfl ?_
              refine y_inlB 21 [.ref 376, yI 0, yI 1] [] [some (.ref 376), some (yI 0), some (yI 1)] c162_18 rfl rfl rfl rfl rfl (ycanO km23 ko376) kn23 rfl rfl ?_
              refine y_aload 1 c23_0 rfl rfl rfl ?_
              refine y_iload 2 c23_1 rfl rfl ?_
              refine y_if 9 5 c23_2 rfl rfl (yz_eq (by omega)) (fun hb => ?_) (fun hb => ?_)
              · refine y_iload 10 c23_9 rfl rfl ?_
                refine y_putI 13 c23_10 rfl kf376_57 (y_fit0 _) ?_
                refine y_iload 14 c23_13 rfl rfl ?_
                refine y_ireturnK c23_14 (y_fit1 (by omega)) ?_
                refine y_ireturnK c162_21 (y_fit1 (by omega)) ?_
                refine y_if 30 28 c182_25 rfl rfl (yz_ne (by omega)) (fun hb => ?_) (fun hb => ?_)
                · exfalso; omega
                · refine y_iconst 29 c182_28 rfl ?_
                  refine y_ireturnK c182_29 (y_fit0 _) ?_
                  refine y_istore 686 c218_684 rfl rfl ?_
                  refine y_aload 687 c218_686 rfl rfl rfl ?_
                  refine y_inlB 690 [.ref 376] [] [some (.ref 376)] c218_687 rfl rfl rfl rfl rfl (ycanO km26 ko376) kn26 rfl rfl ?_
                  refine y_aload 1 c26_0 rfl rfl rfl ?_
                  refine y_getX 4 1 c26_1 rfl kf376_57 rfl ?_
                  refine y_ireturnK c26_4 (y_fit0 _) ?_
                  refine y_iload 692 c218_690 rfl rfl ?_
                  refine y_icmp 697 695 c218_692 rfl rfl (yc_eq (by omega) (by omega)) (fun hb => ?_) (fun hb => ?_)
                  · refine y_iload 699 c218_697 rfl rfl ?_
                    refine y_if 714 702 c218_699 rfl rfl (yz_ne (by omega)) (fun hb => ?_) (fun hb => ?_)
                    · refine y_goto 953 c218_714 rfl ?_
                      refine y_iincN 956 4 c218_953 rfl rfl (by decide) rfl ?_
                      refine y_goto 23 c218_956 rfl ?_
                      refine y_iload 25 c218_23 rfl rfl ?_
                      refine y_aload 26 c218_25 rfl rfl rfl ?_
                      refine y_slen 27 c218_26 rfl ?_
                      refine y_top 4 rfl ?_
                      refine y_iconst 28 c218_27 rfl ?_
                      refine y_isub 29 c218_28 rfl ?_
                      refine y_top 0 (by decide) ?_
                      refine y_icmp 959 32 c218_29 rfl rfl (yc_gt (by omega) (by omega)) (fun hb => ?_) (fun hb => ?_)
                      · refine y_iconst 960 c218_959 rfl ?_
                        exact y_ireturn c218_960 (y_fit1 (by omega)) ⟨rfl, by omega⟩
                      · exfalso; omega
                    · exfalso; omega
                  · exfalso; omega
              · exfalso; omega
            · exfalso; omega
          · exfalso; omega
        · exfalso; omega
      · exfalso; omega
    · refine y_iload 5 c155_4 rfl rfl ?_
      refine y_iload 6 c155_5 rfl rfl ?_
      refine y_icmp 13 9 c155_6 rfl rfl (yc_ge (by omega) (by omega)) (fun hb => ?_) (fun hb => ?_)
      · refine y_iconst 14 c155_13 rfl ?_
        refine y_ireturnK c155_14 (y_fit1 (by omega)) ?_
        refine y_ireturnK c156_11 (y_fit1 (by omega)) ?_
        refine y_if 16 8 c180_5 rfl rfl (yz_eq (by omega)) (fun hb => ?_) (fun hb => ?_)
        · refine y_throwB c180_16 rfl ?_
          refine yK_in kh181_5_11 ?_
          refine y_astore 15 c181_13 rfl rfl rfl ?_
          refine y_iconst 16 c181_15 rfl ?_
          refine y_ireturnK c181_16 (y_fit0 _) ?_
          refine y_istore 668 c218_666 rfl rfl ?_
          refine y_aload 669 c218_668 rfl rfl rfl ?_
          refine y_aload 670 c218_669 rfl rfl rfl ?_
          refine y_iload 672 c218_670 rfl rfl ?_
          refine y_iconst 673 c218_672 rfl ?_
          refine y_iadd 674 c218_673 rfl ?_
          refine y_top 1 (by decide) ?_
          refine s_load 675 x1 c218_674 rfl (by decide) h1 ?_
          refine y_aload 676 c218_675 rfl rfl rfl ?_
          refine y_iload 678 c218_676 rfl rfl ?_
          refine y_iconst 679 c218_678 rfl ?_
          refine y_iadd 680 c218_679 rfl ?_
          refine y_top 2 (by decide) ?_
          refine s_load 681 x2 c218_680 rfl (by decide) h2 ?_
          refine y_inlB 684 [.ref 376, yI x1, yI x2] [] [some (.ref 376), some (yI x1), some (yI x2), none] c218_681 rfl rfl rfl rfl rfl (ycanO km182 ko376) kn182 rfl rfl ?_
          refine y_aload 1 c182_0 rfl rfl rfl ?_
          refine y_aload 2 c182_1 rfl rfl rfl ?_
          refine y_iload 3 c182_2 rfl rfl ?_
          refine y_inlB 6 [.ref 376, yI x1] [.ref 376] [some (.ref 376), some (yI x1)] c182_3 rfl rfl rfl rfl rfl (ycanO km160 ko376) kn160 rfl rfl ?_
          refine y_aload 1 c160_0 rfl rfl rfl ?_
          refine y_getX 4 0 c160_1 rfl kf376_19 rfl ?_
          refine y_if 30 7 c160_4 rfl rfl (yz_eq (by omega)) (fun hb => ?_) (fun hb => ?_)
          · refine y_iconst 31 c160_30 rfl ?_
            refine y_ireturnK c160_31 (y_fit1 (by omega)) ?_
            refine y_if 21 9 c182_6 rfl rfl (yz_eq (by omega)) (fun hb => ?_) (fun hb => ?_)
            · refine y_iconst 22 c182_21 rfl ?_
              refine y_inlB 25 [.ref 376, yI 0] [] [some (.ref 376), some (yI 0)] c182_22 rfl rfl rfl rfl rfl (ycanO km162 ko376) kn162 rfl rfl ?_
              refine y_aload 1 c162_0 rfl rfl rfl ?_
              refine y_aload 2 c162_1 rfl rfl rfl ?_
              refine y_getX 5 0 c162_2 rfl kf376_19 rfl ?_
              refine y_if 16 8 c162_5 rfl rfl (yz_eq (by omega)) (fun hb => ?_) (fun hb => ?_)
              · refine y_iconst 17 c162_16 rfl ?_
                refine y_iconst 18 c162_17 rfl ?_
                refine y_inlB 21 [.ref 376, yI 0, yI 1] [] [some (.ref 376), some (yI 0), some (yI 1)] c162_18 rfl rfl rfl rfl rfl (ycanO km23 ko376) kn23 rfl rfl ?_
                refine y_aload 1 c23_0 rfl rfl rfl ?_
                refine y_iload 2 c23_1 rfl rfl ?_
                refine y_if 9 5 c23_2 rfl rfl (yz_eq (by omega)) (fun hb => ?_) (fun hb => ?_)
                · refine y_iload 10 c23_9 rfl rfl ?_
                  refine y_putI 13 c23_10 rfl kf376_57 (y_fit0 _) ?_
                  refine y_iload 14 c23_13 rfl rfl ?_
                  refine y_ireturnK c23_14 (y_fit1 (by omega)) ?_
                  refine y_ireturnK c162_21 (y_fit1 (by omega)) ?_
                  refine y_if 30 28 c182_25 rfl rfl (yz_ne (by omega)) (fun hb => ?_) (fun hb => ?_)
                  · exfalso; omega
                  · refine y_iconst 29 c182_28 rfl ?_
                    refine y_ireturnK c182_29 (y_fit0 _) ?_
                    refine y_istore 686 c218_684 rfl rfl ?_
                    refine y_aload 687 c218_686 rfl rfl rfl ?_
                    refine y_inlB 690 [.ref 376] [] [some (.ref 376)] c218_687 rfl rfl rfl rfl rfl (ycanO km26 ko376) kn26 rfl rfl ?_
                    refine y_aload 1 c26_0 rfl rfl rfl ?_
                    refine y_getX 4 1 c26_1 rfl kf376_57 rfl ?_
                    refine y_ireturnK c26_4 (y_fit0 _) ?_
                    refine y_iload 692 c218_690 rfl rfl ?_
                    refine y_icmp 697 695 c218_692 rfl rfl (yc_eq (by omega) (by omega)) (fun hb => ?_) (fun hb => ?_)
                    · refine y_iload 699 c218_697 rfl rfl ?_
                      refine y_if 714 702 c218_699 rfl rfl (yz_ne (by omega)) (fun hb => ?_) (fun hb => ?_)
                      · refine y_goto 953 c218_714 rfl ?_
                        refine y_iincN 956 4 c218_953 rfl rfl (by decide) rfl ?_
                        refine y_goto 23 c218_956 rfl ?_
                        refine y_iload 25 c218_23 rfl rfl ?_
                        refine y_aload 26 c218_25 rfl rfl rfl ?_
                        refine y_slen 27 c218_26 rfl ?_
                        refine y_top 4 rfl ?_
                        refine y_iconst 28 c218_27 rfl ?_
                        refine y_isub 29 c218_28 rfl ?_
                        refine y_top 0 (by decide) ?_
                        refine y_icmp 959 32 c218_29 rfl rfl (yc_gt (by omega) (by omega)) (fun hb => ?_) (fun hb => ?_)
                        · refine y_iconst 960 c218_959 rfl ?_
                          exact y_ireturn c218_960 (y_fit1 (by omega)) ⟨rfl, by omega⟩
                        · exfalso; omega
                      · exfalso; omega
                    · exfalso; omega
                · exfalso; omega
              · exfalso; omega
            · exfalso; omega
          · exfalso; omega
        · exfalso; omega
      · exfalso; omega

set_option maxRecDepth 100000 in
set_option maxHeartbeats 4000000 in
theorem g1_10 (xs : Nat → Int32) (x0 x1 x2 x3 : Int) (h0 : (xs 0).toInt = x0) (h1 : (xs 1).toInt = x1) (h2 : (xs 2).toInt = x2) (h3 : (xs 3).toInt = x3) (r1 : -2147483648 ≤ x1 ∧ x1 < 2147483648) (r2 : -2147483648 ≤ x2 ∧ x2 < 2147483648) (r3 : -2147483648 ≤ x3 ∧ x3 < 2147483648) (hop : (Int32.ofInt x0 &&& Int32.ofInt 15).toInt = 10) : YW (gZ 4 xs) 218 60 23 [some (.retAddr 0), some (.ref 0), some (.ref 376), some (.ref 413), some (yI 0), none, none] [] gMem 414 gQ1 := by
  refine y_iload 25 c218_23 rfl rfl ?_
  refine y_aload 26 c218_25 rfl rfl rfl ?_
  refine y_slen 27 c218_26 rfl ?_
  refine y_top 4 rfl ?_
  refine y_iconst 28 c218_27 rfl ?_
  refine y_isub 29 c218_28 rfl ?_
  refine y_top 0 (by decide) ?_
  refine y_icmp 959 32 c218_29 rfl rfl (yc_gt (by omega) (by omega)) (fun hb => ?_) (fun hb => ?_)
  · exfalso; omega
  · refine y_aload 33 c218_32 rfl rfl rfl ?_
    refine y_iload 35 c218_33 rfl rfl ?_
    refine s_load 36 x0 c218_35 rfl (by decide) h0 ?_
    refine y_iconst 38 c218_36 rfl ?_
    refine y_iand 39 c218_38 rfl ?_
    refine y_top 10 hop ?_
    refine y_tsw 717 c218_39 (by decide) (by decide) rfl rfl ?_
    refine y_aload 718 c218_717 rfl rfl rfl ?_
    refine y_aload 719 c218_718 rfl rfl rfl ?_
    refine y_iload 721 c218_719 rfl rfl ?_
    refine y_iconst 722 c218_721 rfl ?_
    refine y_iadd 723 c218_722 rfl ?_
    refine y_top 1 (by decide) ?_
    refine s_load 724 x1 c218_723 rfl (by decide) h1 ?_
    refine y_aload 725 c218_724 rfl rfl rfl ?_
    refine y_iload 727 c218_725 rfl rfl ?_
    refine y_iconst 728 c218_727 rfl ?_
    refine y_iadd 729 c218_728 rfl ?_
    refine y_top 2 (by decide) ?_
    refine s_load 730 x2 c218_729 rfl (by decide) h2 ?_
    refine y_aload 731 c218_730 rfl rfl rfl ?_
    refine y_inlB 734 [.ref 0, yI x1, yI x2, .ref 413] [] [some (.ref 0), some (yI x1), some (yI x2), some (.ref 413), none] c218_731 rfl rfl rfl rfl rfl (ycanS km184) kn184 rfl rfl ?_
    refine y_aload 1 c184_0 rfl rfl rfl ?_
    refine y_iconst 2 c184_1 rfl ?_
    refine y_aload 3 c184_2 rfl rfl rfl ?_
    refine y_iload 4 c184_3 rfl rfl ?_
    refine y_iload 5 c184_4 rfl rfl ?_
    refine y_inlB 8 [.ref 0, yI x1, yI x2] [yI 0, .ref 413] [some (.ref 0), some (yI x1), some (yI x2), none] c184_5 rfl rfl rfl rfl rfl (ycanO km183 ko0) kn183 rfl rfl ?_
    refine y_aload 1 c183_0 rfl rfl rfl ?_
    refine y_iload 2 c183_1 rfl rfl ?_
    refine y_inlB 5 [.ref 0, yI x1] [] [some (.ref 0), some (yI x1)] c183_2 rfl rfl rfl rfl rfl (ycanO km167 ko0) kn167 rfl rfl ?_
    refine y_iload 1 c167_0 rfl rfl ?_
    refine y_aload 2 c167_1 rfl rfl rfl ?_
    refine y_getS 5 (B := 256) c167_2 rfl kf0_4 rfl ?_
    refine y_getX 8 0 c167_5 rfl kf256_10 rfl ?_
    refine y_inlB 11 [yI x1, yI 0] [] [some (yI x1), some (yI 0)] c167_8 rfl rfl rfl rfl rfl (ycanS km155) kn155 rfl rfl ?_
    refine y_iload 1 c155_0 rfl rfl ?_
    refine y_if 13 4 c155_1 rfl rfl (yz_lt (by omega)) (fun hb => ?_) (fun hb => ?_)
    · refine y_iconst 14 c155_13 rfl ?_
      refine y_ireturnK c155_14 (y_fit1 (by omega)) ?_
      refine y_ireturnK c167_11 (y_fit1 (by omega)) ?_
      refine y_if 16 8 c183_5 rfl rfl (yz_ne (by omega)) (fun hb => ?_) (fun hb => ?_)
      · exfalso; omega
      · refine y_throwB c183_8 rfl ?_
        refine yK_in kh184_5_11 ?_
        refine y_astore 15 c184_13 rfl rfl rfl ?_
        refine y_iconst 16 c184_15 rfl ?_
        refine y_ireturnK c184_16 (y_fit0 _) ?_
        refine y_istore 736 c218_734 rfl rfl ?_
        refine y_aload 737 c218_736 rfl rfl rfl ?_
        refine y_aload 738 c218_737 rfl rfl rfl ?_
        refine y_iload 740 c218_738 rfl rfl ?_
        refine y_iconst 741 c218_740 rfl ?_
        refine y_iadd 742 c218_741 rfl ?_
        refine y_top 1 (by decide) ?_
        refine s_load 743 x1 c218_742 rfl (by decide) h1 ?_
        refine y_aload 744 c218_743 rfl rfl rfl ?_
        refine y_iload 746 c218_744 rfl rfl ?_
        refine y_iconst 747 c218_746 rfl ?_
        refine y_iadd 748 c218_747 rfl ?_
        refine y_top 2 (by decide) ?_
        refine s_load 749 x2 c218_748 rfl (by decide) h2 ?_
        refine y_inlB 752 [.ref 376, yI x1, yI x2] [] [some (.ref 376), some (yI x1), some (yI x2), none] c218_749 rfl rfl rfl rfl rfl (ycanO km185 ko376) kn185 rfl rfl ?_
        refine y_aload 1 c185_0 rfl rfl rfl ?_
        refine y_aload 2 c185_1 rfl rfl rfl ?_
        refine y_iload 3 c185_2 rfl rfl ?_
        refine y_inlB 6 [.ref 376, yI x1] [.ref 376] [some (.ref 376), some (yI x1)] c185_3 rfl rfl rfl rfl rfl (ycanO km170 ko376) kn170 rfl rfl ?_
        refine y_aload 1 c170_0 rfl rfl rfl ?_
        refine y_getX 4 0 c170_1 rfl kf376_19 rfl ?_
        refine y_if 30 7 c170_4 rfl rfl (yz_eq (by omega)) (fun hb => ?_) (fun hb => ?_)
        · refine y_iconst 31 c170_30 rfl ?_
          refine y_ireturnK c170_31 (y_fit1 (by omega)) ?_
          refine y_inlB 9 [.ref 376, yI 0] [] [some (.ref 376), some (yI 0)] c185_6 rfl rfl rfl rfl rfl (ycanO km162 ko376) kn162 rfl rfl ?_
          refine y_aload 1 c162_0 rfl rfl rfl ?_
          refine y_aload 2 c162_1 rfl rfl rfl ?_
          refine y_getX 5 0 c162_2 rfl kf376_19 rfl ?_
          refine y_if 16 8 c162_5 rfl rfl (yz_eq (by omega)) (fun hb => ?_) (fun hb => ?_)
          · refine y_iconst 17 c162_16 rfl ?_
            refine y_iconst 18 c162_17 rfl ?_
            refine y_inlB 21 [.ref 376, yI 0, yI 1] [] [some (.ref 376), some (yI 0), some (yI 1)] c162_18 rfl rfl rfl rfl rfl (ycanO km23 ko376) kn23 rfl rfl ?_
            refine y_aload 1 c23_0 rfl rfl rfl ?_
            refine y_iload 2 c23_1 rfl rfl ?_
            refine y_if 9 5 c23_2 rfl rfl (yz_eq (by omega)) (fun hb => ?_) (fun hb => ?_)
            · refine y_iload 10 c23_9 rfl rfl ?_
              refine y_putI 13 c23_10 rfl kf376_57 (y_fit0 _) ?_
              refine y_iload 14 c23_13 rfl rfl ?_
              refine y_ireturnK c23_14 (y_fit1 (by omega)) ?_
              refine y_ireturnK c162_21 (y_fit1 (by omega)) ?_
              refine y_if 14 12 c185_9 rfl rfl (yz_ne (by omega)) (fun hb => ?_) (fun hb => ?_)
              · exfalso; omega
              · refine y_iconst 13 c185_12 rfl ?_
                refine y_ireturnK c185_13 (y_fit0 _) ?_
                refine y_istore 754 c218_752 rfl rfl ?_
                refine y_aload 755 c218_754 rfl rfl rfl ?_
                refine y_inlB 758 [.ref 376] [] [some (.ref 376)] c218_755 rfl rfl rfl rfl rfl (ycanO km26 ko376) kn26 rfl rfl ?_
                refine y_aload 1 c26_0 rfl rfl rfl ?_
                refine y_getX 4 1 c26_1 rfl kf376_57 rfl ?_
                refine y_ireturnK c26_4 (y_fit0 _) ?_
                refine y_iload 760 c218_758 rfl rfl ?_
                refine y_icmp 765 763 c218_760 rfl rfl (yc_eq (by omega) (by omega)) (fun hb => ?_) (fun hb => ?_)
                · refine y_iload 767 c218_765 rfl rfl ?_
                  refine y_if 782 770 c218_767 rfl rfl (yz_ne (by omega)) (fun hb => ?_) (fun hb => ?_)
                  · refine y_goto 953 c218_782 rfl ?_
                    refine y_iincN 956 4 c218_953 rfl rfl (by decide) rfl ?_
                    refine y_goto 23 c218_956 rfl ?_
                    refine y_iload 25 c218_23 rfl rfl ?_
                    refine y_aload 26 c218_25 rfl rfl rfl ?_
                    refine y_slen 27 c218_26 rfl ?_
                    refine y_top 4 rfl ?_
                    refine y_iconst 28 c218_27 rfl ?_
                    refine y_isub 29 c218_28 rfl ?_
                    refine y_top 0 (by decide) ?_
                    refine y_icmp 959 32 c218_29 rfl rfl (yc_gt (by omega) (by omega)) (fun hb => ?_) (fun hb => ?_)
                    · refine y_iconst 960 c218_959 rfl ?_
                      exact y_ireturn c218_960 (y_fit1 (by omega)) ⟨rfl, by omega⟩
                    · exfalso; omega
                  · exfalso; omega
                · exfalso; omega
            · exfalso; omega
          · exfalso; omega
        · exfalso; omega
    · refine y_iload 5 c155_4 rfl rfl ?_
      refine y_iload 6 c155_5 rfl rfl ?_
      refine y_icmp 13 9 c155_6 rfl rfl (yc_ge (by omega) (by omega)) (fun hb => ?_) (fun hb => ?_)
      · refine y_iconst 14 c155_13 rfl ?_
        refine y_ireturnK c155_14 (y_fit1 (by omega)) ?_
        refine y_ireturnK c167_11 (y_fit1 (by omega)) ?_
        refine y_if 16 8 c183_5 rfl rfl (yz_ne (by omega)) (fun hb => ?_) (fun hb => ?_)
        · exfalso; omega
        · refine y_throwB c183_8 rfl ?_
          refine yK_in kh184_5_11 ?_
          refine y_astore 15 c184_13 rfl rfl rfl ?_
          refine y_iconst 16 c184_15 rfl ?_
          refine y_ireturnK c184_16 (y_fit0 _) ?_
          refine y_istore 736 c218_734 rfl rfl ?_
          refine y_aload 737 c218_736 rfl rfl rfl ?_
          refine y_aload 738 c218_737 rfl rfl rfl ?_
          refine y_iload 740 c218_738 rfl rfl ?_
          refine y_iconst 741 c218_740 rfl ?_
          refine y_iadd 742 c218_741 rfl ?_
          refine y_top 1 (by decide) ?_
          refine s_load 743 x1 c218_742 rfl (by decide) h1 ?_
          refine y_aload 744 c218_743 rfl rfl rfl ?_
          refine y_iload 746 c218_744 rfl rfl ?_
          refine y_iconst 747 c218_746 rfl ?_
          refine y_iadd 748 c218_747 rfl ?_
          refine y_top 2 (by decide) ?_
          refine s_load 749 x2 c218_748 rfl (by decide) h2 ?_
          refine y_inlB 752 [.ref 376, yI x1, yI x2] [] [some (.ref 376), some (yI x1), some (yI x2), none] c218_749 rfl rfl rfl rfl rfl (ycanO km185 ko376) kn185 rfl rfl ?_
          refine y_aload 1 c185_0 rfl rfl rfl ?_
          refine y_aload 2 c185_1 rfl rfl rfl ?_
          refine y_iload 3 c185_2 rfl rfl ?_
          refine y_inlB 6 [.ref 376, yI x1] [.ref 376] [some (.ref 376), some (yI x1)] c185_3 rfl rfl rfl rfl rfl (ycanO km170 ko376) kn170 rfl rfl ?_
          refine y_aload 1 c170_0 rfl rfl rfl ?_
          refine y_getX 4 0 c170_1 rfl kf376_19 rfl ?_
          refine y_if 30 7 c170_4 rfl rfl (yz_eq (by omega)) (fun hb => ?_) (fun hb => ?_)
          · refine y_iconst 31 c170_30 rfl ?_
            refine y_ireturnK c170_31 (y_fit1 (by omega)) ?_
            refine y_inlB 9 [.ref 376, yI 0] [] [some (.ref 376), some (yI 0)] c185_6 rfl rfl rfl rfl rfl (ycanO km162 ko376) kn162 rfl rfl ?_
            refine y_aload 1 c162_0 rfl rfl rfl ?_
            refine y_aload 2 c162_1 rfl rfl rfl ?_
            refine y_getX 5 0 c162_2 rfl kf376_19 rfl ?_
            refine y_if 16 8 c162_5 rfl rfl (yz_eq (by omega)) (fun hb => ?_) (fun hb => ?_)
            · refine y_iconst 17 c162_16 rfl ?_
              refine y_iconst 18 c162_17 rfl ?_
              refine y_inlB 21 [.ref 376, yI 0, yI 1] [] [some (.ref 376), some (yI 0), some (yI 1)] c162_18 rfl rfl rfl rfl rfl (ycanO km23 ko376) kn23 rfl rfl ?_
              refine y_aload 1 c23_0 rfl rfl rfl ?_
              refine y_iload 2 c23_1 rfl rfl ?_
              refine y_if 9 5 c23_2 rfl rfl (yz_eq (by omega)) (fun hb => ?_) (fun hb => ?_)
              · refine y_iload 10 c23_9 rfl rfl ?_
                refine y_putI 13 c23_10 rfl kf376_57 (y_fit0 _) ?_
                refine y_iload 14 c23_13 rfl rfl ?_
                refine y_ireturnK c23_14 (y_fit1 (by omega)) ?_
                refine y_ireturnK c162_21 (y_fit1 (by omega)) ?_
                refine y_if 14 12 c185_9 rfl rfl (yz_ne (by omega)) (fun hb => ?_) (fun hb => ?_)
                · exfalso; omega
                · refine y_iconst 13 c185_12 rfl ?_
                  refine y_ireturnK c185_13 (y_fit0 _) ?_
                  refine y_istore 754 c218_752 rfl rfl ?_
                  refine y_aload 755 c218_754 rfl rfl rfl ?_
                  refine y_inlB 758 [.ref 376] [] [some (.ref 376)] c218_755 rfl rfl rfl rfl rfl (ycanO km26 ko376) kn26 rfl rfl ?_
                  refine y_aload 1 c26_0 rfl rfl rfl ?_
                  refine y_getX 4 1 c26_1 rfl kf376_57 rfl ?_
                  refine y_ireturnK c26_4 (y_fit0 _) ?_
                  refine y_iload 760 c218_758 rfl rfl ?_
                  refine y_icmp 765 763 c218_760 rfl rfl (yc_eq (by omega) (by omega)) (fun hb => ?_) (fun hb => ?_)
                  · refine y_iload 767 c218_765 rfl rfl ?_
                    refine y_if 782 770 c218_767 rfl rfl (yz_ne (by omega)) (fun hb => ?_) (fun hb => ?_)
                    · refine y_goto 953 c218_782 rfl ?_
                      refine y_iincN 956 4 c218_953 rfl rfl (by decide) rfl ?_
                      refine y_goto 23 c218_956 rfl ?_
                      refine y_iload 25 c218_23 rfl rfl ?_
                      refine y_aload 26 c218_25 rfl rfl rfl ?_
                      refine y_slen 27 c218_26 rfl ?_
                      refine y_top 4 rfl ?_
                      refine y_iconst 28 c218_27 rfl ?_
                      refine y_isub 29 c218_28 rfl ?_
                      refine y_top 0 (by decide) ?_
                      refine y_icmp 959 32 c218_29 rfl rfl (yc_gt (by omega) (by omega)) (fun hb => ?_) (fun hb => ?_)
                      · refine y_iconst 960 c218_959 rfl ?_
                        exact y_ireturn c218_960 (y_fit1 (by omega)) ⟨rfl, by omega⟩
                      · exfalso; omega
                    · exfalso; omega
                  · exfalso; omega
              · exfalso; omega
            · exfalso; omega
          · exfalso; omega
      · exfalso; omega

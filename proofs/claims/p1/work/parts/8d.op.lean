set_option maxRecDepth 100000 in
set_option maxHeartbeats 4000000 in
theorem g1_13 (xs : Nat → Int32) (x0 x1 x2 x3 : Int) (h0 : (xs 0).toInt = x0) (h1 : (xs 1).toInt = x1) (h2 : (xs 2).toInt = x2) (h3 : (xs 3).toInt = x3) (r1 : -2147483648 ≤ x1 ∧ x1 < 2147483648) (r2 : -2147483648 ≤ x2 ∧ x2 < 2147483648) (r3 : -2147483648 ≤ x3 ∧ x3 < 2147483648) (hop : (Int32.ofInt x0 &&& Int32.ofInt 15).toInt = 13) : YW (gZ 4 xs) 218 60 23 [some (.retAddr 0), some (.ref 0), some (.ref 376), some (.ref 413), some (yI 0), none, none] [] gMem 414 gQ1 := by
  refine y_iload 25 c218_23 rfl rfl ?_
  refine y_aload 26 c218_25 rfl rfl rfl ?_
  refine y_slen 27 c218_26 rfl ?_
  refine y_top 4 rfl ?_
  refine y_iconst 28 c218_27 rfl ?_
  refine y_isub 29 c218_28 rfl ?_
  refine y_top 0 (by decide) ?_
  refine y_icmp 959 32 c218_29 rfl rfl (yc_gt (by omega) (by omega)) (fun hb => ?_) (fun hb => ?_)
  · exfalso; omega
  · refine y_aload 33 c218_32 rfl rfl rfl ?_
    refine y_iload 35 c218_33 rfl rfl ?_
    refine s_load 36 x0 c218_35 rfl (by decide) h0 ?_
    refine y_iconst 38 c218_36 rfl ?_
    refine y_iand 39 c218_38 rfl ?_
    refine y_top 13 hop ?_
    refine y_tsw 897 c218_39 (by decide) (by decide) rfl rfl ?_
    refine y_aload 898 c218_897 rfl rfl rfl ?_
    refine y_aload 899 c218_898 rfl rfl rfl ?_
    refine y_iload 901 c218_899 rfl rfl ?_
    refine y_iconst 902 c218_901 rfl ?_
    refine y_iadd 903 c218_902 rfl ?_
    refine y_top 1 (by decide) ?_
    refine s_load 904 x1 c218_903 rfl (by decide) h1 ?_
    refine y_aload 905 c218_904 rfl rfl rfl ?_
    refine y_inlB 908 [.ref 0, yI x1, .ref 413] [] [some (.ref 0), some (yI x1), some (.ref 413), none] c218_905 rfl rfl rfl rfl rfl (ycanS km216) kn216 rfl rfl ?_
    refine y_aload 1 c216_0 rfl rfl rfl ?_
    refine y_iconst 2 c216_1 rfl ?_
    refine y_aload 3 c216_2 rfl rfl rfl ?_
    refine y_iload 4 c216_3 rfl rfl ?_
    refine y_inlB 7 [.ref 0, yI x1] [yI 0, .ref 413] [some (.ref 0), some (yI x1)] c216_4 rfl rfl rfl rfl rfl (ycanO km215 ko0) kn215 rfl rfl ?_
    refine y_iload 1 c215_0 rfl rfl ?_
    by_cases hk0 : x1 = 0
    · refine y_top 0 hk0 ?_
      refine y_tsw 56 c215_1 (by decide) (by decide) rfl rfl ?_
      refine y_aload 57 c215_56 rfl rfl rfl ?_
      refine y_getS 60 (B := 256) c215_57 rfl kf0_4 rfl ?_
      refine y_getX 63 0 c215_60 rfl kf256_9 rfl ?_
      refine y_ireturnK c215_63 (y_fit0 _) ?_
      refine y_i2l 8 c216_7 rfl ?_
      refine y_lastore 9 c216_8 rfl kl413 (by decide) ?_
      refine y_goto 15 c216_9 rfl ?_
      refine y_iconst 16 c216_15 rfl ?_
      refine y_ireturnK c216_16 (y_fit0 _) ?_
      refine y_istore 910 c218_908 rfl rfl ?_
      refine y_aload 911 c218_910 rfl rfl rfl ?_
      refine y_aload 912 c218_911 rfl rfl rfl ?_
      refine y_iload 914 c218_912 rfl rfl ?_
      refine y_iconst 915 c218_914 rfl ?_
      refine y_iadd 916 c218_915 rfl ?_
      refine y_top 1 (by decide) ?_
      refine s_load 917 x1 c218_916 rfl (by decide) h1 ?_
      refine y_inlB 920 [.ref 376, yI x1] [] [some (.ref 376), some (yI x1)] c218_917 rfl rfl rfl rfl rfl (ycanO km217 ko376) kn217 rfl rfl ?_
      refine y_aload 1 c217_0 rfl rfl rfl ?_
      refine y_iload 2 c217_1 rfl rfl ?_
      refine y_iconst 3 c217_2 rfl ?_
      refine y_iconst 5 c217_3 rfl ?_
      refine y_inlB 8 [yI x1, yI 0, yI 9] [.ref 376] [some (yI x1), some (yI 0), some (yI 9)] c217_5 rfl rfl rfl rfl rfl (ycanS km22) kn22 rfl rfl ?_
      refine y_iload 1 c22_0 rfl rfl ?_
      refine y_iload 2 c22_1 rfl rfl ?_
      refine y_icmp 14 5 c22_2 rfl rfl (yc_lt (by omega) (by omega)) (fun hb => ?_) (fun hb => ?_)
      · exfalso; omega
      · refine y_iload 6 c22_5 rfl rfl ?_
        refine y_iload 7 c22_6 rfl rfl ?_
        refine y_icmp 14 10 c22_7 rfl rfl (yc_gt (by omega) (by omega)) (fun hb => ?_) (fun hb => ?_)
        · exfalso; omega
        · refine y_iconst 11 c22_10 rfl ?_
          refine y_goto 15 c22_11 rfl ?_
          refine y_ireturnK c22_15 (y_fit1 (by omega)) ?_
          refine y_iconst 9 c217_8 rfl ?_
          refine y_inlB 12 [.ref 376, yI 1, yI 1] [] [some (.ref 376), some (yI 1), some (yI 1)] c217_9 rfl rfl rfl rfl rfl (ycanO km23 ko376) kn23 rfl rfl ?_
          refine y_aload 1 c23_0 rfl rfl rfl ?_
          refine y_iload 2 c23_1 rfl rfl ?_
          refine y_if 9 5 c23_2 rfl rfl (yz_eq (by omega)) (fun hb => ?_) (fun hb => ?_)
          · exfalso; omega
          · refine y_iconst 6 c23_5 rfl ?_
            refine y_goto 10 c23_6 rfl ?_
            refine y_putI 13 c23_10 rfl kf376_57 (y_fit0 _) ?_
            refine y_iload 14 c23_13 rfl rfl ?_
            refine y_ireturnK c23_14 (y_fit1 (by omega)) ?_
            refine y_if 17 15 c217_12 rfl rfl (yz_ne (by omega)) (fun hb => ?_) (fun hb => ?_)
            · refine y_iload 18 c217_17 rfl rfl ?_
              refine y_iconst 20 c217_18 rfl ?_
              refine y_icmp 28 23 c217_20 rfl rfl (yc_ne (by omega) (by omega)) (fun hb => ?_) (fun hb => ?_)
              · refine y_aload 29 c217_28 rfl rfl rfl ?_
                refine y_getX 32 0 c217_29 rfl kf376_19 rfl ?_
                refine y_if 37 35 c217_32 rfl rfl (yz_ne (by omega)) (fun hb => ?_) (fun hb => ?_)
                · exfalso; omega
                · refine y_iconst 36 c217_35 rfl ?_
                  refine y_ireturnK c217_36 (y_fit0 _) ?_
                  refine y_istore 922 c218_920 rfl rfl ?_
                  refine y_aload 923 c218_922 rfl rfl rfl ?_
                  refine y_inlB 926 [.ref 376] [] [some (.ref 376)] c218_923 rfl rfl rfl rfl rfl (ycanO km26 ko376) kn26 rfl rfl ?_
                  refine y_aload 1 c26_0 rfl rfl rfl ?_
                  refine y_getX 4 0 c26_1 rfl kf376_57 rfl ?_
                  refine y_ireturnK c26_4 (y_fit0 _) ?_
                  refine y_iload 928 c218_926 rfl rfl ?_
                  refine y_icmp 933 931 c218_928 rfl rfl (yc_eq (by omega) (by omega)) (fun hb => ?_) (fun hb => ?_)
                  · refine y_iload 935 c218_933 rfl rfl ?_
                    refine y_if 950 938 c218_935 rfl rfl (yz_ne (by omega)) (fun hb => ?_) (fun hb => ?_)
                    · exfalso; omega
                    · refine y_aload 939 c218_938 rfl rfl rfl ?_
                      refine y_iconst 940 c218_939 rfl ?_
                      refine y_laload 941 c218_940 rfl kl413 (by decide) ?_
                      refine y_iload 943 c218_941 rfl rfl ?_
                      refine y_i2l 944 c218_943 rfl ?_
                      refine y_lcmp0 945 c218_944 rfl (by first | rfl | exact Int64.ofInt_toInt _ | simp [yup]) ?_
                      refine y_if 950 948 c218_945 rfl rfl (yz_eq (by omega)) (fun hb => ?_) (fun hb => ?_)
                      · refine y_goto 953 c218_950 rfl ?_
                        refine y_iincN 956 4 c218_953 rfl rfl (by decide) rfl ?_
                        refine y_goto 23 c218_956 rfl ?_
                        refine y_iload 25 c218_23 rfl rfl ?_
                        refine y_aload 26 c218_25 rfl rfl rfl ?_
                        refine y_slen 27 c218_26 rfl ?_
                        refine y_top 4 rfl ?_
                        refine y_iconst 28 c218_27 rfl ?_
                        refine y_isub 29 c218_28 rfl ?_
                        refine y_top 0 (by decide) ?_
                        refine y_icmp 959 32 c218_29 rfl rfl (yc_gt (by omega) (by omega)) (fun hb => ?_) (fun hb => ?_)
                        · refine y_iconst 960 c218_959 rfl ?_
                          exact y_ireturn c218_960 (y_fit1 (by omega)) ⟨rfl, by omega⟩
                        · exfalso; omega
                      · exfalso; omega
                  · exfalso; omega
              · exfalso; omega
            · exfalso; omega
    by_cases hk1 : x1 = 1
    · refine y_top 1 hk1 ?_
      refine y_tsw 64 c215_1 (by decide) (by decide) rfl rfl ?_
      refine y_aload 65 c215_64 rfl rfl rfl ?_
      refine y_getS 68 (B := 256) c215_65 rfl kf0_4 rfl ?_
      refine y_getX 71 0 c215_68 rfl kf256_10 rfl ?_
      refine y_ireturnK c215_71 (y_fit0 _) ?_
      refine y_i2l 8 c216_7 rfl ?_
      refine y_lastore 9 c216_8 rfl kl413 (by decide) ?_
      refine y_goto 15 c216_9 rfl ?_
      refine y_iconst 16 c216_15 rfl ?_
      refine y_ireturnK c216_16 (y_fit0 _) ?_
      refine y_istore 910 c218_908 rfl rfl ?_
      refine y_aload 911 c218_910 rfl rfl rfl ?_
      refine y_aload 912 c218_911 rfl rfl rfl ?_
      refine y_iload 914 c218_912 rfl rfl ?_
      refine y_iconst 915 c218_914 rfl ?_
      refine y_iadd 916 c218_915 rfl ?_
      refine y_top 1 (by decide) ?_
      refine s_load 917 x1 c218_916 rfl (by decide) h1 ?_
      refine y_inlB 920 [.ref 376, yI x1] [] [some (.ref 376), some (yI x1)] c218_917 rfl rfl rfl rfl rfl (ycanO km217 ko376) kn217 rfl rfl ?_
      refine y_aload 1 c217_0 rfl rfl rfl ?_
      refine y_iload 2 c217_1 rfl rfl ?_
      refine y_iconst 3 c217_2 rfl ?_
      refine y_iconst 5 c217_3 rfl ?_
      refine y_inlB 8 [yI x1, yI 0, yI 9] [.ref 376] [some (yI x1), some (yI 0), some (yI 9)] c217_5 rfl rfl rfl rfl rfl (ycanS km22) kn22 rfl rfl ?_
      refine y_iload 1 c22_0 rfl rfl ?_
      refine y_iload 2 c22_1 rfl rfl ?_
      refine y_icmp 14 5 c22_2 rfl rfl (yc_lt (by omega) (by omega)) (fun hb => ?_) (fun hb => ?_)
      · exfalso; omega
      · refine y_iload 6 c22_5 rfl rfl ?_
        refine y_iload 7 c22_6 rfl rfl ?_
        refine y_icmp 14 10 c22_7 rfl rfl (yc_gt (by omega) (by omega)) (fun hb => ?_) (fun hb => ?_)
        · exfalso; omega
        · refine y_iconst 11 c22_10 rfl ?_
          refine y_goto 15 c22_11 rfl ?_
          refine y_ireturnK c22_15 (y_fit1 (by omega)) ?_
          refine y_iconst 9 c217_8 rfl ?_
          refine y_inlB 12 [.ref 376, yI 1, yI 1] [] [some (.ref 376), some (yI 1), some (yI 1)] c217_9 rfl rfl rfl rfl rfl (ycanO km23 ko376) kn23 rfl rfl ?_
          refine y_aload 1 c23_0 rfl rfl rfl ?_
          refine y_iload 2 c23_1 rfl rfl ?_
          refine y_if 9 5 c23_2 rfl rfl (yz_eq (by omega)) (fun hb => ?_) (fun hb => ?_)
          · exfalso; omega
          · refine y_iconst 6 c23_5 rfl ?_
            refine y_goto 10 c23_6 rfl ?_
            refine y_putI 13 c23_10 rfl kf376_57 (y_fit0 _) ?_
            refine y_iload 14 c23_13 rfl rfl ?_
            refine y_ireturnK c23_14 (y_fit1 (by omega)) ?_
            refine y_if 17 15 c217_12 rfl rfl (yz_ne (by omega)) (fun hb => ?_) (fun hb => ?_)
            · refine y_iload 18 c217_17 rfl rfl ?_
              refine y_iconst 20 c217_18 rfl ?_
              refine y_icmp 28 23 c217_20 rfl rfl (yc_ne (by omega) (by omega)) (fun hb => ?_) (fun hb => ?_)
              · refine y_aload 29 c217_28 rfl rfl rfl ?_
                refine y_getX 32 0 c217_29 rfl kf376_19 rfl ?_
                refine y_if 37 35 c217_32 rfl rfl (yz_ne (by omega)) (fun hb => ?_) (fun hb => ?_)
                · exfalso; omega
                · refine y_iconst 36 c217_35 rfl ?_
                  refine y_ireturnK c217_36 (y_fit0 _) ?_
                  refine y_istore 922 c218_920 rfl rfl ?_
                  refine y_aload 923 c218_922 rfl rfl rfl ?_
                  refine y_inlB 926 [.ref 376] [] [some (.ref 376)] c218_923 rfl rfl rfl rfl rfl (ycanO km26 ko376) kn26 rfl rfl ?_
                  refine y_aload 1 c26_0 rfl rfl rfl ?_
                  refine y_getX 4 0 c26_1 rfl kf376_57 rfl ?_
                  refine y_ireturnK c26_4 (y_fit0 _) ?_
                  refine y_iload 928 c218_926 rfl rfl ?_
                  refine y_icmp 933 931 c218_928 rfl rfl (yc_eq (by omega) (by omega)) (fun hb => ?_) (fun hb => ?_)
                  · refine y_iload 935 c218_933 rfl rfl ?_
                    refine y_if 950 938 c218_935 rfl rfl (yz_ne (by omega)) (fun hb => ?_) (fun hb => ?_)
                    · exfalso; omega
                    · refine y_aload 939 c218_938 rfl rfl rfl ?_
                      refine y_iconst 940 c218_939 rfl ?_
                      refine y_laload 941 c218_940 rfl kl413 (by decide) ?_
                      refine y_iload 943 c218_941 rfl rfl ?_
                      refine y_i2l 944 c218_943 rfl ?_
                      refine y_lcmp0 945 c218_944 rfl (by first | rfl | exact Int64.ofInt_toInt _ | simp [yup]) ?_
                      refine y_if 950 948 c218_945 rfl rfl (yz_eq (by omega)) (fun hb => ?_) (fun hb => ?_)
                      · refine y_goto 953 c218_950 rfl ?_
                        refine y_iincN 956 4 c218_953 rfl rfl (by decide) rfl ?_
                        refine y_goto 23 c218_956 rfl ?_
                        refine y_iload 25 c218_23 rfl rfl ?_
                        refine y_aload 26 c218_25 rfl rfl rfl ?_
                        refine y_slen 27 c218_26 rfl ?_
                        refine y_top 4 rfl ?_
                        refine y_iconst 28 c218_27 rfl ?_
                        refine y_isub 29 c218_28 rfl ?_
                        refine y_top 0 (by decide) ?_
                        refine y_icmp 959 32 c218_29 rfl rfl (yc_gt (by omega) (by omega)) (fun hb => ?_) (fun hb => ?_)
                        · refine y_iconst 960 c218_959 rfl ?_
                          exact y_ireturn c218_960 (y_fit1 (by omega)) ⟨rfl, by omega⟩
                        · exfalso; omega
                      · exfalso; omega
                  · exfalso; omega
              · exfalso; omega
            · exfalso; omega
    by_cases hk2 : x1 = 2
    · refine y_top 2 hk2 ?_
      refine y_tsw 72 c215_1 (by decide) (by decide) rfl rfl ?_
      refine y_aload 73 c215_72 rfl rfl rfl ?_
      refine y_getS 76 (B := 256) c215_73 rfl kf0_4 rfl ?_
      refine y_getX 79 0 c215_76 rfl kf256_11 rfl ?_
      refine y_ireturnK c215_79 (y_fit0 _) ?_
      refine y_i2l 8 c216_7 rfl ?_
      refine y_lastore 9 c216_8 rfl kl413 (by decide) ?_
      refine y_goto 15 c216_9 rfl ?_
      refine y_iconst 16 c216_15 rfl ?_
      refine y_ireturnK c216_16 (y_fit0 _) ?_
      refine y_istore 910 c218_908 rfl rfl ?_
      refine y_aload 911 c218_910 rfl rfl rfl ?_
      refine y_aload 912 c218_911 rfl rfl rfl ?_
      refine y_iload 914 c218_912 rfl rfl ?_
      refine y_iconst 915 c218_914 rfl ?_
      refine y_iadd 916 c218_915 rfl ?_
      refine y_top 1 (by decide) ?_
      refine s_load 917 x1 c218_916 rfl (by decide) h1 ?_
      refine y_inlB 920 [.ref 376, yI x1] [] [some (.ref 376), some (yI x1)] c218_917 rfl rfl rfl rfl rfl (ycanO km217 ko376) kn217 rfl rfl ?_
      refine y_aload 1 c217_0 rfl rfl rfl ?_
      refine y_iload 2 c217_1 rfl rfl ?_
      refine y_iconst 3 c217_2 rfl ?_
      refine y_iconst 5 c217_3 rfl ?_
      refine y_inlB 8 [yI x1, yI 0, yI 9] [.ref 376] [some (yI x1), some (yI 0), some (yI 9)] c217_5 rfl rfl rfl rfl rfl (ycanS km22) kn22 rfl rfl ?_
      refine y_iload 1 c22_0 rfl rfl ?_
      refine y_iload 2 c22_1 rfl rfl ?_
      refine y_icmp 14 5 c22_2 rfl rfl (yc_lt (by omega) (by omega)) (fun hb => ?_) (fun hb => ?_)
      · exfalso; omega
      · refine y_iload 6 c22_5 rfl rfl ?_
        refine y_iload 7 c22_6 rfl rfl ?_
        refine y_icmp 14 10 c22_7 rfl rfl (yc_gt (by omega) (by omega)) (fun hb => ?_) (fun hb => ?_)
        · exfalso; omega
        · refine y_iconst 11 c22_10 rfl ?_
          refine y_goto 15 c22_11 rfl ?_
          refine y_ireturnK c22_15 (y_fit1 (by omega)) ?_
          refine y_iconst 9 c217_8 rfl ?_
          refine y_inlB 12 [.ref 376, yI 1, yI 1] [] [some (.ref 376), some (yI 1), some (yI 1)] c217_9 rfl rfl rfl rfl rfl (ycanO km23 ko376) kn23 rfl rfl ?_
          refine y_aload 1 c23_0 rfl rfl rfl ?_
          refine y_iload 2 c23_1 rfl rfl ?_
          refine y_if 9 5 c23_2 rfl rfl (yz_eq (by omega)) (fun hb => ?_) (fun hb => ?_)
          · exfalso; omega
          · refine y_iconst 6 c23_5 rfl ?_
            refine y_goto 10 c23_6 rfl ?_
            refine y_putI 13 c23_10 rfl kf376_57 (y_fit0 _) ?_
            refine y_iload 14 c23_13 rfl rfl ?_
            refine y_ireturnK c23_14 (y_fit1 (by omega)) ?_
            refine y_if 17 15 c217_12 rfl rfl (yz_ne (by omega)) (fun hb => ?_) (fun hb => ?_)
            · refine y_iload 18 c217_17 rfl rfl ?_
              refine y_iconst 20 c217_18 rfl ?_
              refine y_icmp 28 23 c217_20 rfl rfl (yc_ne (by omega) (by omega)) (fun hb => ?_) (fun hb => ?_)
              · refine y_aload 29 c217_28 rfl rfl rfl ?_
                refine y_getX 32 0 c217_29 rfl kf376_19 rfl ?_
                refine y_if 37 35 c217_32 rfl rfl (yz_ne (by omega)) (fun hb => ?_) (fun hb => ?_)
                · exfalso; omega
                · refine y_iconst 36 c217_35 rfl ?_
                  refine y_ireturnK c217_36 (y_fit0 _) ?_
                  refine y_istore 922 c218_920 rfl rfl ?_
                  refine y_aload 923 c218_922 rfl rfl rfl ?_
                  refine y_inlB 926 [.ref 376] [] [some (.ref 376)] c218_923 rfl rfl rfl rfl rfl (ycanO km26 ko376) kn26 rfl rfl ?_
                  refine y_aload 1 c26_0 rfl rfl rfl ?_
                  refine y_getX 4 0 c26_1 rfl kf376_57 rfl ?_
                  refine y_ireturnK c26_4 (y_fit0 _) ?_
                  refine y_iload 928 c218_926 rfl rfl ?_
                  refine y_icmp 933 931 c218_928 rfl rfl (yc_eq (by omega) (by omega)) (fun hb => ?_) (fun hb => ?_)
                  · refine y_iload 935 c218_933 rfl rfl ?_
                    refine y_if 950 938 c218_935 rfl rfl (yz_ne (by omega)) (fun hb => ?_) (fun hb => ?_)
                    · exfalso; omega
                    · refine y_aload 939 c218_938 rfl rfl rfl ?_
                      refine y_iconst 940 c218_939 rfl ?_
                      refine y_laload 941 c218_940 rfl kl413 (by decide) ?_
                      refine y_iload 943 c218_941 rfl rfl ?_
                      refine y_i2l 944 c218_943 rfl ?_
                      refine y_lcmp0 945 c218_944 rfl (by first | rfl | exact Int64.ofInt_toInt _ | simp [yup]) ?_
                      refine y_if 950 948 c218_945 rfl rfl (yz_eq (by omega)) (fun hb => ?_) (fun hb => ?_)
                      · refine y_goto 953 c218_950 rfl ?_
                        refine y_iincN 956 4 c218_953 rfl rfl (by decide) rfl ?_
                        refine y_goto 23 c218_956 rfl ?_
                        refine y_iload 25 c218_23 rfl rfl ?_
                        refine y_aload 26 c218_25 rfl rfl rfl ?_
                        refine y_slen 27 c218_26 rfl ?_
                        refine y_top 4 rfl ?_
                        refine y_iconst 28 c218_27 rfl ?_
                        refine y_isub 29 c218_28 rfl ?_
                        refine y_top 0 (by decide) ?_
                        refine y_icmp 959 32 c218_29 rfl rfl (yc_gt (by omega) (by omega)) (fun hb => ?_) (fun hb => ?_)
                        · refine y_iconst 960 c218_959 rfl ?_
                          exact y_ireturn c218_960 (y_fit1 (by omega)) ⟨rfl, by omega⟩
                        · exfalso; omega
                      · exfalso; omega
                  · exfalso; omega
              · exfalso; omega
            · exfalso; omega
    by_cases hk3 : x1 = 3
    · refine y_top 3 hk3 ?_
      refine y_tsw 80 c215_1 (by decide) (by decide) rfl rfl ?_
      refine y_aload 81 c215_80 rfl rfl rfl ?_
      refine y_getS 84 (B := 256) c215_81 rfl kf0_4 rfl ?_
      refine y_getX 87 0 c215_84 rfl kf256_12 rfl ?_
      refine y_ireturnK c215_87 (y_fit0 _) ?_
      refine y_i2l 8 c216_7 rfl ?_
      refine y_lastore 9 c216_8 rfl kl413 (by decide) ?_
      refine y_goto 15 c216_9 rfl ?_
      refine y_iconst 16 c216_15 rfl ?_
      refine y_ireturnK c216_16 (y_fit0 _) ?_
      refine y_istore 910 c218_908 rfl rfl ?_
      refine y_aload 911 c218_910 rfl rfl rfl ?_
      refine y_aload 912 c218_911 rfl rfl rfl ?_
      refine y_iload 914 c218_912 rfl rfl ?_
      refine y_iconst 915 c218_914 rfl ?_
      refine y_iadd 916 c218_915 rfl ?_
      refine y_top 1 (by decide) ?_
      refine s_load 917 x1 c218_916 rfl (by decide) h1 ?_
      refine y_inlB 920 [.ref 376, yI x1] [] [some (.ref 376), some (yI x1)] c218_917 rfl rfl rfl rfl rfl (ycanO km217 ko376) kn217 rfl rfl ?_
      refine y_aload 1 c217_0 rfl rfl rfl ?_
      refine y_iload 2 c217_1 rfl rfl ?_
      refine y_iconst 3 c217_2 rfl ?_
      refine y_iconst 5 c217_3 rfl ?_
      refine y_inlB 8 [yI x1, yI 0, yI 9] [.ref 376] [some (yI x1), some (yI 0), some (yI 9)] c217_5 rfl rfl rfl rfl rfl (ycanS km22) kn22 rfl rfl ?_
      refine y_iload 1 c22_0 rfl rfl ?_
      refine y_iload 2 c22_1 rfl rfl ?_
      refine y_icmp 14 5 c22_2 rfl rfl (yc_lt (by omega) (by omega)) (fun hb => ?_) (fun hb => ?_)
      · exfalso; omega
      · refine y_iload 6 c22_5 rfl rfl ?_
        refine y_iload 7 c22_6 rfl rfl ?_
        refine y_icmp 14 10 c22_7 rfl rfl (yc_gt (by omega) (by omega)) (fun hb => ?_) (fun hb => ?_)
        · exfalso; omega
        · refine y_iconst 11 c22_10 rfl ?_
          refine y_goto 15 c22_11 rfl ?_
          refine y_ireturnK c22_15 (y_fit1 (by omega)) ?_
          refine y_iconst 9 c217_8 rfl ?_
          refine y_inlB 12 [.ref 376, yI 1, yI 1] [] [some (.ref 376), some (yI 1), some (yI 1)] c217_9 rfl rfl rfl rfl rfl (ycanO km23 ko376) kn23 rfl rfl ?_
          refine y_aload 1 c23_0 rfl rfl rfl ?_
          refine y_iload 2 c23_1 rfl rfl ?_
          refine y_if 9 5 c23_2 rfl rfl (yz_eq (by omega)) (fun hb => ?_) (fun hb => ?_)
          · exfalso; omega
          · refine y_iconst 6 c23_5 rfl ?_
            refine y_goto 10 c23_6 rfl ?_
            refine y_putI 13 c23_10 rfl kf376_57 (y_fit0 _) ?_
            refine y_iload 14 c23_13 rfl rfl ?_
            refine y_ireturnK c23_14 (y_fit1 (by omega)) ?_
            refine y_if 17 15 c217_12 rfl rfl (yz_ne (by omega)) (fun hb => ?_) (fun hb => ?_)
            · refine y_iload 18 c217_17 rfl rfl ?_
              refine y_iconst 20 c217_18 rfl ?_
              refine y_icmp 28 23 c217_20 rfl rfl (yc_ne (by omega) (by omega)) (fun hb => ?_) (fun hb => ?_)
              · refine y_aload 29 c217_28 rfl rfl rfl ?_
                refine y_getX 32 0 c217_29 rfl kf376_19 rfl ?_
                refine y_if 37 35 c217_32 rfl rfl (yz_ne (by omega)) (fun hb => ?_) (fun hb => ?_)
                · exfalso; omega
                · refine y_iconst 36 c217_35 rfl ?_
                  refine y_ireturnK c217_36 (y_fit0 _) ?_
                  refine y_istore 922 c218_920 rfl rfl ?_
                  refine y_aload 923 c218_922 rfl rfl rfl ?_
                  refine y_inlB 926 [.ref 376] [] [some (.ref 376)] c218_923 rfl rfl rfl rfl rfl (ycanO km26 ko376) kn26 rfl rfl ?_
                  refine y_aload 1 c26_0 rfl rfl rfl ?_
                  refine y_getX 4 0 c26_1 rfl kf376_57 rfl ?_
                  refine y_ireturnK c26_4 (y_fit0 _) ?_
                  refine y_iload 928 c218_926 rfl rfl ?_
                  refine y_icmp 933 931 c218_928 rfl rfl (yc_eq (by omega) (by omega)) (fun hb => ?_) (fun hb => ?_)
                  · refine y_iload 935 c218_933 rfl rfl ?_
                    refine y_if 950 938 c218_935 rfl rfl (yz_ne (by omega)) (fun hb => ?_) (fun hb => ?_)
                    · exfalso; omega
                    · refine y_aload 939 c218_938 rfl rfl rfl ?_
                      refine y_iconst 940 c218_939 rfl ?_
                      refine y_laload 941 c218_940 rfl kl413 (by decide) ?_
                      refine y_iload 943 c218_941 rfl rfl ?_
                      refine y_i2l 944 c218_943 rfl ?_
                      refine y_lcmp0 945 c218_944 rfl (by first | rfl | exact Int64.ofInt_toInt _ | simp [yup]) ?_
                      refine y_if 950 948 c218_945 rfl rfl (yz_eq (by omega)) (fun hb => ?_) (fun hb => ?_)
                      · refine y_goto 953 c218_950 rfl ?_
                        refine y_iincN 956 4 c218_953 rfl rfl (by decide) rfl ?_
                        refine y_goto 23 c218_956 rfl ?_
                        refine y_iload 25 c218_23 rfl rfl ?_
                        refine y_aload 26 c218_25 rfl rfl rfl ?_
                        refine y_slen 27 c218_26 rfl ?_
                        refine y_top 4 rfl ?_
                        refine y_iconst 28 c218_27 rfl ?_
                        refine y_isub 29 c218_28 rfl ?_
                        refine y_top 0 (by decide) ?_
                        refine y_icmp 959 32 c218_29 rfl rfl (yc_gt (by omega) (by omega)) (fun hb => ?_) (fun hb => ?_)
                        · refine y_iconst 960 c218_959 rfl ?_
                          exact y_ireturn c218_960 (y_fit1 (by omega)) ⟨rfl, by omega⟩
                        · exfalso; omega
                      · exfalso; omega
                  · exfalso; omega
              · exfalso; omega
            · exfalso; omega
    by_cases hk4 : x1 = 4
    · refine y_top 4 hk4 ?_
      refine y_tsw 88 c215_1 (by decide) (by decide) rfl rfl ?_
      refine y_aload 89 c215_88 rfl rfl rfl ?_
      refine y_getS 92 (B := 256) c215_89 rfl kf0_4 rfl ?_
      refine y_getX 95 0 c215_92 rfl kf256_13 rfl ?_
      refine y_ireturnK c215_95 (y_fit0 _) ?_
      refine y_i2l 8 c216_7 rfl ?_
      refine y_lastore 9 c216_8 rfl kl413 (by decide) ?_
      refine y_goto 15 c216_9 rfl ?_
      refine y_iconst 16 c216_15 rfl ?_
      refine y_ireturnK c216_16 (y_fit0 _) ?_
      refine y_istore 910 c218_908 rfl rfl ?_
      refine y_aload 911 c218_910 rfl rfl rfl ?_
      refine y_aload 912 c218_911 rfl rfl rfl ?_
      refine y_iload 914 c218_912 rfl rfl ?_
      refine y_iconst 915 c218_914 rfl ?_
      refine y_iadd 916 c218_915 rfl ?_
      refine y_top 1 (by decide) ?_
      refine s_load 917 x1 c218_916 rfl (by decide) h1 ?_
      refine y_inlB 920 [.ref 376, yI x1] [] [some (.ref 376), some (yI x1)] c218_917 rfl rfl rfl rfl rfl (ycanO km217 ko376) kn217 rfl rfl ?_
      refine y_aload 1 c217_0 rfl rfl rfl ?_
      refine y_iload 2 c217_1 rfl rfl ?_
      refine y_iconst 3 c217_2 rfl ?_
      refine y_iconst 5 c217_3 rfl ?_
      refine y_inlB 8 [yI x1, yI 0, yI 9] [.ref 376] [some (yI x1), some (yI 0), some (yI 9)] c217_5 rfl rfl rfl rfl rfl (ycanS km22) kn22 rfl rfl ?_
      refine y_iload 1 c22_0 rfl rfl ?_
      refine y_iload 2 c22_1 rfl rfl ?_
      refine y_icmp 14 5 c22_2 rfl rfl (yc_lt (by omega) (by omega)) (fun hb => ?_) (fun hb => ?_)
      · exfalso; omega
      · refine y_iload 6 c22_5 rfl rfl ?_
        refine y_iload 7 c22_6 rfl rfl ?_
        refine y_icmp 14 10 c22_7 rfl rfl (yc_gt (by omega) (by omega)) (fun hb => ?_) (fun hb => ?_)
        · exfalso; omega
        · refine y_iconst 11 c22_10 rfl ?_
          refine y_goto 15 c22_11 rfl ?_
          refine y_ireturnK c22_15 (y_fit1 (by omega)) ?_
          refine y_iconst 9 c217_8 rfl ?_
          refine y_inlB 12 [.ref 376, yI 1, yI 1] [] [some (.ref 376), some (yI 1), some (yI 1)] c217_9 rfl rfl rfl rfl rfl (ycanO km23 ko376) kn23 rfl rfl ?_
          refine y_aload 1 c23_0 rfl rfl rfl ?_
          refine y_iload 2 c23_1 rfl rfl ?_
          refine y_if 9 5 c23_2 rfl rfl (yz_eq (by omega)) (fun hb => ?_) (fun hb => ?_)
          · exfalso; omega
          · refine y_iconst 6 c23_5 rfl ?_
            refine y_goto 10 c23_6 rfl ?_
            refine y_putI 13 c23_10 rfl kf376_57 (y_fit0 _) ?_
            refine y_iload 14 c23_13 rfl rfl ?_
            refine y_ireturnK c23_14 (y_fit1 (by omega)) ?_
            refine y_if 17 15 c217_12 rfl rfl (yz_ne (by omega)) (fun hb => ?_) (fun hb => ?_)
            · refine y_iload 18 c217_17 rfl rfl ?_
              refine y_iconst 20 c217_18 rfl ?_
              refine y_icmp 28 23 c217_20 rfl rfl (yc_ne (by omega) (by omega)) (fun hb => ?_) (fun hb => ?_)
              · refine y_aload 29 c217_28 rfl rfl rfl ?_
                refine y_getX 32 0 c217_29 rfl kf376_19 rfl ?_
                refine y_if 37 35 c217_32 rfl rfl (yz_ne (by omega)) (fun hb => ?_) (fun hb => ?_)
                · exfalso; omega
                · refine y_iconst 36 c217_35 rfl ?_
                  refine y_ireturnK c217_36 (y_fit0 _) ?_
                  refine y_istore 922 c218_920 rfl rfl ?_
                  refine y_aload 923 c218_922 rfl rfl rfl ?_
                  refine y_inlB 926 [.ref 376] [] [some (.ref 376)] c218_923 rfl rfl rfl rfl rfl (ycanO km26 ko376) kn26 rfl rfl ?_
                  refine y_aload 1 c26_0 rfl rfl rfl ?_
                  refine y_getX 4 0 c26_1 rfl kf376_57 rfl ?_
                  refine y_ireturnK c26_4 (y_fit0 _) ?_
                  refine y_iload 928 c218_926 rfl rfl ?_
                  refine y_icmp 933 931 c218_928 rfl rfl (yc_eq (by omega) (by omega)) (fun hb => ?_) (fun hb => ?_)
                  · refine y_iload 935 c218_933 rfl rfl ?_
                    refine y_if 950 938 c218_935 rfl rfl (yz_ne (by omega)) (fun hb => ?_) (fun hb => ?_)
                    · exfalso; omega
                    · refine y_aload 939 c218_938 rfl rfl rfl ?_
                      refine y_iconst 940 c218_939 rfl ?_
                      refine y_laload 941 c218_940 rfl kl413 (by decide) ?_
                      refine y_iload 943 c218_941 rfl rfl ?_
                      refine y_i2l 944 c218_943 rfl ?_
                      refine y_lcmp0 945 c218_944 rfl (by first | rfl | exact Int64.ofInt_toInt _ | simp [yup]) ?_
                      refine y_if 950 948 c218_945 rfl rfl (yz_eq (by omega)) (fun hb => ?_) (fun hb => ?_)
                      · refine y_goto 953 c218_950 rfl ?_
                        refine y_iincN 956 4 c218_953 rfl rfl (by decide) rfl ?_
                        refine y_goto 23 c218_956 rfl ?_
                        refine y_iload 25 c218_23 rfl rfl ?_
                        refine y_aload 26 c218_25 rfl rfl rfl ?_
                        refine y_slen 27 c218_26 rfl ?_
                        refine y_top 4 rfl ?_
                        refine y_iconst 28 c218_27 rfl ?_
                        refine y_isub 29 c218_28 rfl ?_
                        refine y_top 0 (by decide) ?_
                        refine y_icmp 959 32 c218_29 rfl rfl (yc_gt (by omega) (by omega)) (fun hb => ?_) (fun hb => ?_)
                        · refine y_iconst 960 c218_959 rfl ?_
                          exact y_ireturn c218_960 (y_fit1 (by omega)) ⟨rfl, by omega⟩
                        · exfalso; omega
                      · exfalso; omega
                  · exfalso; omega
              · exfalso; omega
            · exfalso; omega
    by_cases hk5 : x1 = 5
    · refine y_top 5 hk5 ?_
      refine y_tsw 96 c215_1 (by decide) (by decide) rfl rfl ?_
      refine y_aload 97 c215_96 rfl rfl rfl ?_
      refine y_getS 100 (B := 256) c215_97 rfl kf0_4 rfl ?_
      refine y_getX 103 0 c215_100 rfl kf256_14 rfl ?_
      refine y_ireturnK c215_103 (y_fit0 _) ?_
      refine y_i2l 8 c216_7 rfl ?_
      refine y_lastore 9 c216_8 rfl kl413 (by decide) ?_
      refine y_goto 15 c216_9 rfl ?_
      refine y_iconst 16 c216_15 rfl ?_
      refine y_ireturnK c216_16 (y_fit0 _) ?_
      refine y_istore 910 c218_908 rfl rfl ?_
      refine y_aload 911 c218_910 rfl rfl rfl ?_
      refine y_aload 912 c218_911 rfl rfl rfl ?_
      refine y_iload 914 c218_912 rfl rfl ?_
      refine y_iconst 915 c218_914 rfl ?_
      refine y_iadd 916 c218_915 rfl ?_
      refine y_top 1 (by decide) ?_
      refine s_load 917 x1 c218_916 rfl (by decide) h1 ?_
      refine y_inlB 920 [.ref 376, yI x1] [] [some (.ref 376), some (yI x1)] c218_917 rfl rfl rfl rfl rfl (ycanO km217 ko376) kn217 rfl rfl ?_
      refine y_aload 1 c217_0 rfl rfl rfl ?_
      refine y_iload 2 c217_1 rfl rfl ?_
      refine y_iconst 3 c217_2 rfl ?_
      refine y_iconst 5 c217_3 rfl ?_
      refine y_inlB 8 [yI x1, yI 0, yI 9] [.ref 376] [some (yI x1), some (yI 0), some (yI 9)] c217_5 rfl rfl rfl rfl rfl (ycanS km22) kn22 rfl rfl ?_
      refine y_iload 1 c22_0 rfl rfl ?_
      refine y_iload 2 c22_1 rfl rfl ?_
      refine y_icmp 14 5 c22_2 rfl rfl (yc_lt (by omega) (by omega)) (fun hb => ?_) (fun hb => ?_)
      · exfalso; omega
      · refine y_iload 6 c22_5 rfl rfl ?_
        refine y_iload 7 c22_6 rfl rfl ?_
        refine y_icmp 14 10 c22_7 rfl rfl (yc_gt (by omega) (by omega)) (fun hb => ?_) (fun hb => ?_)
        · exfalso; omega
        · refine y_iconst 11 c22_10 rfl ?_
          refine y_goto 15 c22_11 rfl ?_
          refine y_ireturnK c22_15 (y_fit1 (by omega)) ?_
          refine y_iconst 9 c217_8 rfl ?_
          refine y_inlB 12 [.ref 376, yI 1, yI 1] [] [some (.ref 376), some (yI 1), some (yI 1)] c217_9 rfl rfl rfl rfl rfl (ycanO km23 ko376) kn23 rfl rfl ?_
          refine y_aload 1 c23_0 rfl rfl rfl ?_
          refine y_iload 2 c23_1 rfl rfl ?_
          refine y_if 9 5 c23_2 rfl rfl (yz_eq (by omega)) (fun hb => ?_) (fun hb => ?_)
          · exfalso; omega
          · refine y_iconst 6 c23_5 rfl ?_
            refine y_goto 10 c23_6 rfl ?_
            refine y_putI 13 c23_10 rfl kf376_57 (y_fit0 _) ?_
            refine y_iload 14 c23_13 rfl rfl ?_
            refine y_ireturnK c23_14 (y_fit1 (by omega)) ?_
            refine y_if 17 15 c217_12 rfl rfl (yz_ne (by omega)) (fun hb => ?_) (fun hb => ?_)
            · refine y_iload 18 c217_17 rfl rfl ?_
              refine y_iconst 20 c217_18 rfl ?_
              refine y_icmp 28 23 c217_20 rfl rfl (yc_ne (by omega) (by omega)) (fun hb => ?_) (fun hb => ?_)
              · refine y_aload 29 c217_28 rfl rfl rfl ?_
                refine y_getX 32 0 c217_29 rfl kf376_19 rfl ?_
                refine y_if 37 35 c217_32 rfl rfl (yz_ne (by omega)) (fun hb => ?_) (fun hb => ?_)
                · exfalso; omega
                · refine y_iconst 36 c217_35 rfl ?_
                  refine y_ireturnK c217_36 (y_fit0 _) ?_
                  refine y_istore 922 c218_920 rfl rfl ?_
                  refine y_aload 923 c218_922 rfl rfl rfl ?_
                  refine y_inlB 926 [.ref 376] [] [some (.ref 376)] c218_923 rfl rfl rfl rfl rfl (ycanO km26 ko376) kn26 rfl rfl ?_
                  refine y_aload 1 c26_0 rfl rfl rfl ?_
                  refine y_getX 4 0 c26_1 rfl kf376_57 rfl ?_
                  refine y_ireturnK c26_4 (y_fit0 _) ?_
                  refine y_iload 928 c218_926 rfl rfl ?_
                  refine y_icmp 933 931 c218_928 rfl rfl (yc_eq (by omega) (by omega)) (fun hb => ?_) (fun hb => ?_)
                  · refine y_iload 935 c218_933 rfl rfl ?_
                    refine y_if 950 938 c218_935 rfl rfl (yz_ne (by omega)) (fun hb => ?_) (fun hb => ?_)
                    · exfalso; omega
                    · refine y_aload 939 c218_938 rfl rfl rfl ?_
                      refine y_iconst 940 c218_939 rfl ?_
                      refine y_laload 941 c218_940 rfl kl413 (by decide) ?_
                      refine y_iload 943 c218_941 rfl rfl ?_
                      refine y_i2l 944 c218_943 rfl ?_
                      refine y_lcmp0 945 c218_944 rfl (by first | rfl | exact Int64.ofInt_toInt _ | simp [yup]) ?_
                      refine y_if 950 948 c218_945 rfl rfl (yz_eq (by omega)) (fun hb => ?_) (fun hb => ?_)
                      · refine y_goto 953 c218_950 rfl ?_
                        refine y_iincN 956 4 c218_953 rfl rfl (by decide) rfl ?_
                        refine y_goto 23 c218_956 rfl ?_
                        refine y_iload 25 c218_23 rfl rfl ?_
                        refine y_aload 26 c218_25 rfl rfl rfl ?_
                        refine y_slen 27 c218_26 rfl ?_
                        refine y_top 4 rfl ?_
                        refine y_iconst 28 c218_27 rfl ?_
                        refine y_isub 29 c218_28 rfl ?_
                        refine y_top 0 (by decide) ?_
                        refine y_icmp 959 32 c218_29 rfl rfl (yc_gt (by omega) (by omega)) (fun hb => ?_) (fun hb => ?_)
                        · refine y_iconst 960 c218_959 rfl ?_
                          exact y_ireturn c218_960 (y_fit1 (by omega)) ⟨rfl, by omega⟩
                        · exfalso; omega
                      · exfalso; omega
                  · exfalso; omega
              · exfalso; omega
            · exfalso; omega
    by_cases hk6 : x1 = 6
    · refine y_top 6 hk6 ?_
      refine y_tsw 104 c215_1 (by decide) (by decide) rfl rfl ?_
      refine y_aload 105 c215_104 rfl rfl rfl ?_
      refine y_getS 108 (B := 256) c215_105 rfl kf0_4 rfl ?_
      refine y_getX 111 0 c215_108 rfl kf256_15 rfl ?_
      refine y_ireturnK c215_111 (y_fit0 _) ?_
      refine y_i2l 8 c216_7 rfl ?_
      refine y_lastore 9 c216_8 rfl kl413 (by decide) ?_
      refine y_goto 15 c216_9 rfl ?_
      refine y_iconst 16 c216_15 rfl ?_
      refine y_ireturnK c216_16 (y_fit0 _) ?_
      refine y_istore 910 c218_908 rfl rfl ?_
      refine y_aload 911 c218_910 rfl rfl rfl ?_
      refine y_aload 912 c218_911 rfl rfl rfl ?_
      refine y_iload 914 c218_912 rfl rfl ?_
      refine y_iconst 915 c218_914 rfl ?_
      refine y_iadd 916 c218_915 rfl ?_
      refine y_top 1 (by decide) ?_
      refine s_load 917 x1 c218_916 rfl (by decide) h1 ?_
      refine y_inlB 920 [.ref 376, yI x1] [] [some (.ref 376), some (yI x1)] c218_917 rfl rfl rfl rfl rfl (ycanO km217 ko376) kn217 rfl rfl ?_
      refine y_aload 1 c217_0 rfl rfl rfl ?_
      refine y_iload 2 c217_1 rfl rfl ?_
      refine y_iconst 3 c217_2 rfl ?_
      refine y_iconst 5 c217_3 rfl ?_
      refine y_inlB 8 [yI x1, yI 0, yI 9] [.ref 376] [some (yI x1), some (yI 0), some (yI 9)] c217_5 rfl rfl rfl rfl rfl (ycanS km22) kn22 rfl rfl ?_
      refine y_iload 1 c22_0 rfl rfl ?_
      refine y_iload 2 c22_1 rfl rfl ?_
      refine y_icmp 14 5 c22_2 rfl rfl (yc_lt (by omega) (by omega)) (fun hb => ?_) (fun hb => ?_)
      · exfalso; omega
      · refine y_iload 6 c22_5 rfl rfl ?_
        refine y_iload 7 c22_6 rfl rfl ?_
        refine y_icmp 14 10 c22_7 rfl rfl (yc_gt (by omega) (by omega)) (fun hb => ?_) (fun hb => ?_)
        · exfalso; omega
        · refine y_iconst 11 c22_10 rfl ?_
          refine y_goto 15 c22_11 rfl ?_
          refine y_ireturnK c22_15 (y_fit1 (by omega)) ?_
          refine y_iconst 9 c217_8 rfl ?_
          refine y_inlB 12 [.ref 376, yI 1, yI 1] [] [some (.ref 376), some (yI 1), some (yI 1)] c217_9 rfl rfl rfl rfl rfl (ycanO km23 ko376) kn23 rfl rfl ?_
          refine y_aload 1 c23_0 rfl rfl rfl ?_
          refine y_iload 2 c23_1 rfl rfl ?_
          refine y_if 9 5 c23_2 rfl rfl (yz_eq (by omega)) (fun hb => ?_) (fun hb => ?_)
          · exfalso; omega
          · refine y_iconst 6 c23_5 rfl ?_
            refine y_goto 10 c23_6 rfl ?_
            refine y_putI 13 c23_10 rfl kf376_57 (y_fit0 _) ?_
            refine y_iload 14 c23_13 rfl rfl ?_
            refine y_ireturnK c23_14 (y_fit1 (by omega)) ?_
            refine y_if 17 15 c217_12 rfl rfl (yz_ne (by omega)) (fun hb => ?_) (fun hb => ?_)
            · refine y_iload 18 c217_17 rfl rfl ?_
              refine y_iconst 20 c217_18 rfl ?_
              refine y_icmp 28 23 c217_20 rfl rfl (yc_ne (by omega) (by omega)) (fun hb => ?_) (fun hb => ?_)
              · refine y_aload 29 c217_28 rfl rfl rfl ?_
                refine y_getX 32 0 c217_29 rfl kf376_19 rfl ?_
                refine y_if 37 35 c217_32 rfl rfl (yz_ne (by omega)) (fun hb => ?_) (fun hb => ?_)
                · exfalso; omega
                · refine y_iconst 36 c217_35 rfl ?_
                  refine y_ireturnK c217_36 (y_fit0 _) ?_
                  refine y_istore 922 c218_920 rfl rfl ?_
                  refine y_aload 923 c218_922 rfl rfl rfl ?_
                  refine y_inlB 926 [.ref 376] [] [some (.ref 376)] c218_923 rfl rfl rfl rfl rfl (ycanO km26 ko376) kn26 rfl rfl ?_
                  refine y_aload 1 c26_0 rfl rfl rfl ?_
                  refine y_getX 4 0 c26_1 rfl kf376_57 rfl ?_
                  refine y_ireturnK c26_4 (y_fit0 _) ?_
                  refine y_iload 928 c218_926 rfl rfl ?_
                  refine y_icmp 933 931 c218_928 rfl rfl (yc_eq (by omega) (by omega)) (fun hb => ?_) (fun hb => ?_)
                  · refine y_iload 935 c218_933 rfl rfl ?_
                    refine y_if 950 938 c218_935 rfl rfl (yz_ne (by omega)) (fun hb => ?_) (fun hb => ?_)
                    · exfalso; omega
                    · refine y_aload 939 c218_938 rfl rfl rfl ?_
                      refine y_iconst 940 c218_939 rfl ?_
                      refine y_laload 941 c218_940 rfl kl413 (by decide) ?_
                      refine y_iload 943 c218_941 rfl rfl ?_
                      refine y_i2l 944 c218_943 rfl ?_
                      refine y_lcmp0 945 c218_944 rfl (by first | rfl | exact Int64.ofInt_toInt _ | simp [yup]) ?_
                      refine y_if 950 948 c218_945 rfl rfl (yz_eq (by omega)) (fun hb => ?_) (fun hb => ?_)
                      · refine y_goto 953 c218_950 rfl ?_
                        refine y_iincN 956 4 c218_953 rfl rfl (by decide) rfl ?_
                        refine y_goto 23 c218_956 rfl ?_
                        refine y_iload 25 c218_23 rfl rfl ?_
                        refine y_aload 26 c218_25 rfl rfl rfl ?_
                        refine y_slen 27 c218_26 rfl ?_
                        refine y_top 4 rfl ?_
                        refine y_iconst 28 c218_27 rfl ?_
                        refine y_isub 29 c218_28 rfl ?_
                        refine y_top 0 (by decide) ?_
                        refine y_icmp 959 32 c218_29 rfl rfl (yc_gt (by omega) (by omega)) (fun hb => ?_) (fun hb => ?_)
                        · refine y_iconst 960 c218_959 rfl ?_
                          exact y_ireturn c218_960 (y_fit1 (by omega)) ⟨rfl, by omega⟩
                        · exfalso; omega
                      · exfalso; omega
                  · exfalso; omega
              · exfalso; omega
            · exfalso; omega
    by_cases hk7 : x1 = 7
    · refine y_top 7 hk7 ?_
      refine y_tsw 112 c215_1 (by decide) (by decide) rfl rfl ?_
      refine y_aload 113 c215_112 rfl rfl rfl ?_
      refine y_getR 116 c215_113 rfl kf0_2 ?_
      refine y_getX 119 0 c215_116 rfl kf8_6 rfl ?_
      refine y_ireturnK c215_119 (y_fit0 _) ?_
      refine y_i2l 8 c216_7 rfl ?_
      refine y_lastore 9 c216_8 rfl kl413 (by decide) ?_
      refine y_goto 15 c216_9 rfl ?_
      refine y_iconst 16 c216_15 rfl ?_
      refine y_ireturnK c216_16 (y_fit0 _) ?_
      refine y_istore 910 c218_908 rfl rfl ?_
      refine y_aload 911 c218_910 rfl rfl rfl ?_
      refine y_aload 912 c218_911 rfl rfl rfl ?_
      refine y_iload 914 c218_912 rfl rfl ?_
      refine y_iconst 915 c218_914 rfl ?_
      refine y_iadd 916 c218_915 rfl ?_
      refine y_top 1 (by decide) ?_
      refine s_load 917 x1 c218_916 rfl (by decide) h1 ?_
      refine y_inlB 920 [.ref 376, yI x1] [] [some (.ref 376), some (yI x1)] c218_917 rfl rfl rfl rfl rfl (ycanO km217 ko376) kn217 rfl rfl ?_
      refine y_aload 1 c217_0 rfl rfl rfl ?_
      refine y_iload 2 c217_1 rfl rfl ?_
      refine y_iconst 3 c217_2 rfl ?_
      refine y_iconst 5 c217_3 rfl ?_
      refine y_inlB 8 [yI x1, yI 0, yI 9] [.ref 376] [some (yI x1), some (yI 0), some (yI 9)] c217_5 rfl rfl rfl rfl rfl (ycanS km22) kn22 rfl rfl ?_
      refine y_iload 1 c22_0 rfl rfl ?_
      refine y_iload 2 c22_1 rfl rfl ?_
      refine y_icmp 14 5 c22_2 rfl rfl (yc_lt (by omega) (by omega)) (fun hb => ?_) (fun hb => ?_)
      · exfalso; omega
      · refine y_iload 6 c22_5 rfl rfl ?_
        refine y_iload 7 c22_6 rfl rfl ?_
        refine y_icmp 14 10 c22_7 rfl rfl (yc_gt (by omega) (by omega)) (fun hb => ?_) (fun hb => ?_)
        · exfalso; omega
        · refine y_iconst 11 c22_10 rfl ?_
          refine y_goto 15 c22_11 rfl ?_
          refine y_ireturnK c22_15 (y_fit1 (by omega)) ?_
          refine y_iconst 9 c217_8 rfl ?_
          refine y_inlB 12 [.ref 376, yI 1, yI 1] [] [some (.ref 376), some (yI 1), some (yI 1)] c217_9 rfl rfl rfl rfl rfl (ycanO km23 ko376) kn23 rfl rfl ?_
          refine y_aload 1 c23_0 rfl rfl rfl ?_
          refine y_iload 2 c23_1 rfl rfl ?_
          refine y_if 9 5 c23_2 rfl rfl (yz_eq (by omega)) (fun hb => ?_) (fun hb => ?_)
          · exfalso; omega
          · refine y_iconst 6 c23_5 rfl ?_
            refine y_goto 10 c23_6 rfl ?_
            refine y_putI 13 c23_10 rfl kf376_57 (y_fit0 _) ?_
            refine y_iload 14 c23_13 rfl rfl ?_
            refine y_ireturnK c23_14 (y_fit1 (by omega)) ?_
            refine y_if 17 15 c217_12 rfl rfl (yz_ne (by omega)) (fun hb => ?_) (fun hb => ?_)
            · refine y_iload 18 c217_17 rfl rfl ?_
              refine y_iconst 20 c217_18 rfl ?_
              refine y_icmp 28 23 c217_20 rfl rfl (yc_ne (by omega) (by omega)) (fun hb => ?_) (fun hb => ?_)
              · refine y_aload 29 c217_28 rfl rfl rfl ?_
                refine y_getX 32 0 c217_29 rfl kf376_19 rfl ?_
                refine y_if 37 35 c217_32 rfl rfl (yz_ne (by omega)) (fun hb => ?_) (fun hb => ?_)
                · exfalso; omega
                · refine y_iconst 36 c217_35 rfl ?_
                  refine y_ireturnK c217_36 (y_fit0 _) ?_
                  refine y_istore 922 c218_920 rfl rfl ?_
                  refine y_aload 923 c218_922 rfl rfl rfl ?_
                  refine y_inlB 926 [.ref 376] [] [some (.ref 376)] c218_923 rfl rfl rfl rfl rfl (ycanO km26 ko376) kn26 rfl rfl ?_
                  refine y_aload 1 c26_0 rfl rfl rfl ?_
                  refine y_getX 4 0 c26_1 rfl kf376_57 rfl ?_
                  refine y_ireturnK c26_4 (y_fit0 _) ?_
                  refine y_iload 928 c218_926 rfl rfl ?_
                  refine y_icmp 933 931 c218_928 rfl rfl (yc_eq (by omega) (by omega)) (fun hb => ?_) (fun hb => ?_)
                  · refine y_iload 935 c218_933 rfl rfl ?_
                    refine y_if 950 938 c218_935 rfl rfl (yz_ne (by omega)) (fun hb => ?_) (fun hb => ?_)
                    · exfalso; omega
                    · refine y_aload 939 c218_938 rfl rfl rfl ?_
                      refine y_iconst 940 c218_939 rfl ?_
                      refine y_laload 941 c218_940 rfl kl413 (by decide) ?_
                      refine y_iload 943 c218_941 rfl rfl ?_
                      refine y_i2l 944 c218_943 rfl ?_
                      refine y_lcmp0 945 c218_944 rfl (by first | rfl | exact Int64.ofInt_toInt _ | simp [yup]) ?_
                      refine y_if 950 948 c218_945 rfl rfl (yz_eq (by omega)) (fun hb => ?_) (fun hb => ?_)
                      · refine y_goto 953 c218_950 rfl ?_
                        refine y_iincN 956 4 c218_953 rfl rfl (by decide) rfl ?_
                        refine y_goto 23 c218_956 rfl ?_
                        refine y_iload 25 c218_23 rfl rfl ?_
                        refine y_aload 26 c218_25 rfl rfl rfl ?_
                        refine y_slen 27 c218_26 rfl ?_
                        refine y_top 4 rfl ?_
                        refine y_iconst 28 c218_27 rfl ?_
                        refine y_isub 29 c218_28 rfl ?_
                        refine y_top 0 (by decide) ?_
                        refine y_icmp 959 32 c218_29 rfl rfl (yc_gt (by omega) (by omega)) (fun hb => ?_) (fun hb => ?_)
                        · refine y_iconst 960 c218_959 rfl ?_
                          exact y_ireturn c218_960 (y_fit1 (by omega)) ⟨rfl, by omega⟩
                        · exfalso; omega
                      · exfalso; omega
                  · exfalso; omega
              · exfalso; omega
            · exfalso; omega
    by_cases hk8 : x1 = 8
    · refine y_top 8 hk8 ?_
      refine y_tsw 120 c215_1 (by decide) (by decide) rfl rfl ?_
      refine y_aload 121 c215_120 rfl rfl rfl ?_
      refine y_getR 124 c215_121 rfl kf0_3 ?_
      refine y_getX 127 0 c215_124 rfl kf169_5 rfl ?_
      refine y_ireturnK c215_127 (y_fit0 _) ?_
      refine y_i2l 8 c216_7 rfl ?_
      refine y_lastore 9 c216_8 rfl kl413 (by decide) ?_
      refine y_goto 15 c216_9 rfl ?_
      refine y_iconst 16 c216_15 rfl ?_
      refine y_ireturnK c216_16 (y_fit0 _) ?_
      refine y_istore 910 c218_908 rfl rfl ?_
      refine y_aload 911 c218_910 rfl rfl rfl ?_
      refine y_aload 912 c218_911 rfl rfl rfl ?_
      refine y_iload 914 c218_912 rfl rfl ?_
      refine y_iconst 915 c218_914 rfl ?_
      refine y_iadd 916 c218_915 rfl ?_
      refine y_top 1 (by decide) ?_
      refine s_load 917 x1 c218_916 rfl (by decide) h1 ?_
      refine y_inlB 920 [.ref 376, yI x1] [] [some (.ref 376), some (yI x1)] c218_917 rfl rfl rfl rfl rfl (ycanO km217 ko376) kn217 rfl rfl ?_
      refine y_aload 1 c217_0 rfl rfl rfl ?_
      refine y_iload 2 c217_1 rfl rfl ?_
      refine y_iconst 3 c217_2 rfl ?_
      refine y_iconst 5 c217_3 rfl ?_
      refine y_inlB 8 [yI x1, yI 0, yI 9] [.ref 376] [some (yI x1), some (yI 0), some (yI 9)] c217_5 rfl rfl rfl rfl rfl (ycanS km22) kn22 rfl rfl ?_
      refine y_iload 1 c22_0 rfl rfl ?_
      refine y_iload 2 c22_1 rfl rfl ?_
      refine y_icmp 14 5 c22_2 rfl rfl (yc_lt (by omega) (by omega)) (fun hb => ?_) (fun hb => ?_)
      · exfalso; omega
      · refine y_iload 6 c22_5 rfl rfl ?_
        refine y_iload 7 c22_6 rfl rfl ?_
        refine y_icmp 14 10 c22_7 rfl rfl (yc_gt (by omega) (by omega)) (fun hb => ?_) (fun hb => ?_)
        · exfalso; omega
        · refine y_iconst 11 c22_10 rfl ?_
          refine y_goto 15 c22_11 rfl ?_
          refine y_ireturnK c22_15 (y_fit1 (by omega)) ?_
          refine y_iconst 9 c217_8 rfl ?_
          refine y_inlB 12 [.ref 376, yI 1, yI 1] [] [some (.ref 376), some (yI 1), some (yI 1)] c217_9 rfl rfl rfl rfl rfl (ycanO km23 ko376) kn23 rfl rfl ?_
          refine y_aload 1 c23_0 rfl rfl rfl ?_
          refine y_iload 2 c23_1 rfl rfl ?_
          refine y_if 9 5 c23_2 rfl rfl (yz_eq (by omega)) (fun hb => ?_) (fun hb => ?_)
          · exfalso; omega
          · refine y_iconst 6 c23_5 rfl ?_
            refine y_goto 10 c23_6 rfl ?_
            refine y_putI 13 c23_10 rfl kf376_57 (y_fit0 _) ?_
            refine y_iload 14 c23_13 rfl rfl ?_
            refine y_ireturnK c23_14 (y_fit1 (by omega)) ?_
            refine y_if 17 15 c217_12 rfl rfl (yz_ne (by omega)) (fun hb => ?_) (fun hb => ?_)
            · refine y_iload 18 c217_17 rfl rfl ?_
              refine y_iconst 20 c217_18 rfl ?_
              refine y_icmp 28 23 c217_20 rfl rfl (yc_ne (by omega) (by omega)) (fun hb => ?_) (fun hb => ?_)
              · refine y_aload 29 c217_28 rfl rfl rfl ?_
                refine y_getX 32 0 c217_29 rfl kf376_19 rfl ?_
                refine y_if 37 35 c217_32 rfl rfl (yz_ne (by omega)) (fun hb => ?_) (fun hb => ?_)
                · exfalso; omega
                · refine y_iconst 36 c217_35 rfl ?_
                  refine y_ireturnK c217_36 (y_fit0 _) ?_
                  refine y_istore 922 c218_920 rfl rfl ?_
                  refine y_aload 923 c218_922 rfl rfl rfl ?_
                  refine y_inlB 926 [.ref 376] [] [some (.ref 376)] c218_923 rfl rfl rfl rfl rfl (ycanO km26 ko376) kn26 rfl rfl ?_
                  refine y_aload 1 c26_0 rfl rfl rfl ?_
                  refine y_getX 4 0 c26_1 rfl kf376_57 rfl ?_
                  refine y_ireturnK c26_4 (y_fit0 _) ?_
                  refine y_iload 928 c218_926 rfl rfl ?_
                  refine y_icmp 933 931 c218_928 rfl rfl (yc_eq (by omega) (by omega)) (fun hb => ?_) (fun hb => ?_)
                  · refine y_iload 935 c218_933 rfl rfl ?_
                    refine y_if 950 938 c218_935 rfl rfl (yz_ne (by omega)) (fun hb => ?_) (fun hb => ?_)
                    · exfalso; omega
                    · refine y_aload 939 c218_938 rfl rfl rfl ?_
                      refine y_iconst 940 c218_939 rfl ?_
                      refine y_laload 941 c218_940 rfl kl413 (by decide) ?_
                      refine y_iload 943 c218_941 rfl rfl ?_
                      refine y_i2l 944 c218_943 rfl ?_
                      refine y_lcmp0 945 c218_944 rfl (by first | rfl | exact Int64.ofInt_toInt _ | simp [yup]) ?_
                      refine y_if 950 948 c218_945 rfl rfl (yz_eq (by omega)) (fun hb => ?_) (fun hb => ?_)
                      · refine y_goto 953 c218_950 rfl ?_
                        refine y_iincN 956 4 c218_953 rfl rfl (by decide) rfl ?_
                        refine y_goto 23 c218_956 rfl ?_
                        refine y_iload 25 c218_23 rfl rfl ?_
                        refine y_aload 26 c218_25 rfl rfl rfl ?_
                        refine y_slen 27 c218_26 rfl ?_
                        refine y_top 4 rfl ?_
                        refine y_iconst 28 c218_27 rfl ?_
                        refine y_isub 29 c218_28 rfl ?_
                        refine y_top 0 (by decide) ?_
                        refine y_icmp 959 32 c218_29 rfl rfl (yc_gt (by omega) (by omega)) (fun hb => ?_) (fun hb => ?_)
                        · refine y_iconst 960 c218_959 rfl ?_
                          exact y_ireturn c218_960 (y_fit1 (by omega)) ⟨rfl, by omega⟩
                        · exfalso; omega
                      · exfalso; omega
                  · exfalso; omega
              · exfalso; omega
            · exfalso; omega
    by_cases hk9 : x1 = 9
    · refine y_top 9 hk9 ?_
      refine y_tsw 128 c215_1 (by decide) (by decide) rfl rfl ?_
      refine y_aload 129 c215_128 rfl rfl rfl ?_
      refine y_getX 132 0 c215_129 rfl kf0_6 rfl ?_
      refine y_ireturnK c215_132 (y_fit0 _) ?_
      refine y_i2l 8 c216_7 rfl ?_
      refine y_lastore 9 c216_8 rfl kl413 (by decide) ?_
      refine y_goto 15 c216_9 rfl ?_
      refine y_iconst 16 c216_15 rfl ?_
      refine y_ireturnK c216_16 (y_fit0 _) ?_
      refine y_istore 910 c218_908 rfl rfl ?_
      refine y_aload 911 c218_910 rfl rfl rfl ?_
      refine y_aload 912 c218_911 rfl rfl rfl ?_
      refine y_iload 914 c218_912 rfl rfl ?_
      refine y_iconst 915 c218_914 rfl ?_
      refine y_iadd 916 c218_915 rfl ?_
      refine y_top 1 (by decide) ?_
      refine s_load 917 x1 c218_916 rfl (by decide) h1 ?_
      refine y_inlB 920 [.ref 376, yI x1] [] [some (.ref 376), some (yI x1)] c218_917 rfl rfl rfl rfl rfl (ycanO km217 ko376) kn217 rfl rfl ?_
      refine y_aload 1 c217_0 rfl rfl rfl ?_
      refine y_iload 2 c217_1 rfl rfl ?_
      refine y_iconst 3 c217_2 rfl ?_
      refine y_iconst 5 c217_3 rfl ?_
      refine y_inlB 8 [yI x1, yI 0, yI 9] [.ref 376] [some (yI x1), some (yI 0), some (yI 9)] c217_5 rfl rfl rfl rfl rfl (ycanS km22) kn22 rfl rfl ?_
      refine y_iload 1 c22_0 rfl rfl ?_
      refine y_iload 2 c22_1 rfl rfl ?_
      refine y_icmp 14 5 c22_2 rfl rfl (yc_lt (by omega) (by omega)) (fun hb => ?_) (fun hb => ?_)
      · exfalso; omega
      · refine y_iload 6 c22_5 rfl rfl ?_
        refine y_iload 7 c22_6 rfl rfl ?_
        refine y_icmp 14 10 c22_7 rfl rfl (yc_gt (by omega) (by omega)) (fun hb => ?_) (fun hb => ?_)
        · exfalso; omega
        · refine y_iconst 11 c22_10 rfl ?_
          refine y_goto 15 c22_11 rfl ?_
          refine y_ireturnK c22_15 (y_fit1 (by omega)) ?_
          refine y_iconst 9 c217_8 rfl ?_
          refine y_inlB 12 [.ref 376, yI 1, yI 1] [] [some (.ref 376), some (yI 1), some (yI 1)] c217_9 rfl rfl rfl rfl rfl (ycanO km23 ko376) kn23 rfl rfl ?_
          refine y_aload 1 c23_0 rfl rfl rfl ?_
          refine y_iload 2 c23_1 rfl rfl ?_
          refine y_if 9 5 c23_2 rfl rfl (yz_eq (by omega)) (fun hb => ?_) (fun hb => ?_)
          · exfalso; omega
          · refine y_iconst 6 c23_5 rfl ?_
            refine y_goto 10 c23_6 rfl ?_
            refine y_putI 13 c23_10 rfl kf376_57 (y_fit0 _) ?_
            refine y_iload 14 c23_13 rfl rfl ?_
            refine y_ireturnK c23_14 (y_fit1 (by omega)) ?_
            refine y_if 17 15 c217_12 rfl rfl (yz_ne (by omega)) (fun hb => ?_) (fun hb => ?_)
            · refine y_iload 18 c217_17 rfl rfl ?_
              refine y_iconst 20 c217_18 rfl ?_
              refine y_icmp 28 23 c217_20 rfl rfl (yc_ne (by omega) (by omega)) (fun hb => ?_) (fun hb => ?_)
              · exfalso; omega
              · refine y_aload 24 c217_23 rfl rfl rfl ?_
                refine y_getX 27 0 c217_24 rfl kf376_1 rfl ?_
                refine y_ireturnK c217_27 (y_fit0 _) ?_
                refine y_istore 922 c218_920 rfl rfl ?_
                refine y_aload 923 c218_922 rfl rfl rfl ?_
                refine y_inlB 926 [.ref 376] [] [some (.ref 376)] c218_923 rfl rfl rfl rfl rfl (ycanO km26 ko376) kn26 rfl rfl ?_
                refine y_aload 1 c26_0 rfl rfl rfl ?_
                refine y_getX 4 0 c26_1 rfl kf376_57 rfl ?_
                refine y_ireturnK c26_4 (y_fit0 _) ?_
                refine y_iload 928 c218_926 rfl rfl ?_
                refine y_icmp 933 931 c218_928 rfl rfl (yc_eq (by omega) (by omega)) (fun hb => ?_) (fun hb => ?_)
                · refine y_iload 935 c218_933 rfl rfl ?_
                  refine y_if 950 938 c218_935 rfl rfl (yz_ne (by omega)) (fun hb => ?_) (fun hb => ?_)
                  · exfalso; omega
                  · refine y_aload 939 c218_938 rfl rfl rfl ?_
                    refine y_iconst 940 c218_939 rfl ?_
                    refine y_laload 941 c218_940 rfl kl413 (by decide) ?_
                    refine y_iload 943 c218_941 rfl rfl ?_
                    refine y_i2l 944 c218_943 rfl ?_
                    refine y_lcmp0 945 c218_944 rfl (by first | rfl | exact Int64.ofInt_toInt _ | simp [yup]) ?_
                    refine y_if 950 948 c218_945 rfl rfl (yz_eq (by omega)) (fun hb => ?_) (fun hb => ?_)
                    · refine y_goto 953 c218_950 rfl ?_
                      refine y_iincN 956 4 c218_953 rfl rfl (by decide) rfl ?_
                      refine y_goto 23 c218_956 rfl ?_
                      refine y_iload 25 c218_23 rfl rfl ?_
                      refine y_aload 26 c218_25 rfl rfl rfl ?_
                      refine y_slen 27 c218_26 rfl ?_
                      refine y_top 4 rfl ?_
                      refine y_iconst 28 c218_27 rfl ?_
                      refine y_isub 29 c218_28 rfl ?_
                      refine y_top 0 (by decide) ?_
                      refine y_icmp 959 32 c218_29 rfl rfl (yc_gt (by omega) (by omega)) (fun hb => ?_) (fun hb => ?_)
                      · refine y_iconst 960 c218_959 rfl ?_
                        exact y_ireturn c218_960 (y_fit1 (by omega)) ⟨rfl, by omega⟩
                      · exfalso; omega
                    · exfalso; omega
                · exfalso; omega
            · exfalso; omega
    refine y_tswd 133 c215_1 (by omega) (by omega) rfl ?_
    refine y_throwB c215_133 rfl ?_
    refine yK_in kh216_4_9 ?_
    refine y_astore 13 c216_12 rfl rfl rfl ?_
    refine y_iconst 14 c216_13 rfl ?_
    refine y_ireturnK c216_14 (y_fit0 _) ?_
    refine y_istore 910 c218_908 rfl rfl ?_
    refine y_aload 911 c218_910 rfl rfl rfl ?_
    refine y_aload 912 c218_911 rfl rfl rfl ?_
    refine y_iload 914 c218_912 rfl rfl ?_
    refine y_iconst 915 c218_914 rfl ?_
    refine y_iadd 916 c218_915 rfl ?_
    refine y_top 1 (by decide) ?_
    refine s_load 917 x1 c218_916 rfl (by decide) h1 ?_
    refine y_inlB 920 [.ref 376, yI x1] [] [some (.ref 376), some (yI x1)] c218_917 rfl rfl rfl rfl rfl (ycanO km217 ko376) kn217 rfl rfl ?_
    refine y_aload 1 c217_0 rfl rfl rfl ?_
    refine y_iload 2 c217_1 rfl rfl ?_
    refine y_iconst 3 c217_2 rfl ?_
    refine y_iconst 5 c217_3 rfl ?_
    refine y_inlB 8 [yI x1, yI 0, yI 9] [.ref 376] [some (yI x1), some (yI 0), some (yI 9)] c217_5 rfl rfl rfl rfl rfl (ycanS km22) kn22 rfl rfl ?_
    refine y_iload 1 c22_0 rfl rfl ?_
    refine y_iload 2 c22_1 rfl rfl ?_
    refine y_icmp 14 5 c22_2 rfl rfl (yc_lt (by omega) (by omega)) (fun hb => ?_) (fun hb => ?_)
    · refine y_iconst 15 c22_14 rfl ?_
      refine y_ireturnK c22_15 (y_fit1 (by omega)) ?_
      refine y_iconst 9 c217_8 rfl ?_
      refine y_inlB 12 [.ref 376, yI 0, yI 1] [] [some (.ref 376), some (yI 0), some (yI 1)] c217_9 rfl rfl rfl rfl rfl (ycanO km23 ko376) kn23 rfl rfl ?_
      refine y_aload 1 c23_0 rfl rfl rfl ?_
      refine y_iload 2 c23_1 rfl rfl ?_
      refine y_if 9 5 c23_2 rfl rfl (yz_eq (by omega)) (fun hb => ?_) (fun hb => ?_)
      · refine y_iload 10 c23_9 rfl rfl ?_
        refine y_putI 13 c23_10 rfl kf376_57 (y_fit0 _) ?_
        refine y_iload 14 c23_13 rfl rfl ?_
        refine y_ireturnK c23_14 (y_fit1 (by omega)) ?_
        refine y_if 17 15 c217_12 rfl rfl (yz_ne (by omega)) (fun hb => ?_) (fun hb => ?_)
        · exfalso; omega
        · refine y_iconst 16 c217_15 rfl ?_
          refine y_ireturnK c217_16 (y_fit0 _) ?_
          refine y_istore 922 c218_920 rfl rfl ?_
          refine y_aload 923 c218_922 rfl rfl rfl ?_
          refine y_inlB 926 [.ref 376] [] [some (.ref 376)] c218_923 rfl rfl rfl rfl rfl (ycanO km26 ko376) kn26 rfl rfl ?_
          refine y_aload 1 c26_0 rfl rfl rfl ?_
          refine y_getX 4 1 c26_1 rfl kf376_57 rfl ?_
          refine y_ireturnK c26_4 (y_fit0 _) ?_
          refine y_iload 928 c218_926 rfl rfl ?_
          refine y_icmp 933 931 c218_928 rfl rfl (yc_eq (by omega) (by omega)) (fun hb => ?_) (fun hb => ?_)
          · refine y_iload 935 c218_933 rfl rfl ?_
            refine y_if 950 938 c218_935 rfl rfl (yz_ne (by omega)) (fun hb => ?_) (fun hb => ?_)
            · refine y_goto 953 c218_950 rfl ?_
              refine y_iincN 956 4 c218_953 rfl rfl (by decide) rfl ?_
              refine y_goto 23 c218_956 rfl ?_
              refine y_iload 25 c218_23 rfl rfl ?_
              refine y_aload 26 c218_25 rfl rfl rfl ?_
              refine y_slen 27 c218_26 rfl ?_
              refine y_top 4 rfl ?_
              refine y_iconst 28 c218_27 rfl ?_
              refine y_isub 29 c218_28 rfl ?_
              refine y_top 0 (by decide) ?_
              refine y_icmp 959 32 c218_29 rfl rfl (yc_gt (by omega) (by omega)) (fun hb => ?_) (fun hb => ?_)
              · refine y_iconst 960 c218_959 rfl ?_
                exact y_ireturn c218_960 (y_fit1 (by omega)) ⟨rfl, by omega⟩
              · exfalso; omega
            · exfalso; omega
          · exfalso; omega
      · exfalso; omega
    · refine y_iload 6 c22_5 rfl rfl ?_
      refine y_iload 7 c22_6 rfl rfl ?_
      refine y_icmp 14 10 c22_7 rfl rfl (yc_gt (by omega) (by omega)) (fun hb => ?_) (fun hb => ?_)
      · refine y_iconst 15 c22_14 rfl ?_
        refine y_ireturnK c22_15 (y_fit1 (by omega)) ?_
        refine y_iconst 9 c217_8 rfl ?_
        refine y_inlB 12 [.ref 376, yI 0, yI 1] [] [some (.ref 376), some (yI 0), some (yI 1)] c217_9 rfl rfl rfl rfl rfl (ycanO km23 ko376) kn23 rfl rfl ?_
        refine y_aload 1 c23_0 rfl rfl rfl ?_
        refine y_iload 2 c23_1 rfl rfl ?_
        refine y_if 9 5 c23_2 rfl rfl (yz_eq (by omega)) (fun hb => ?_) (fun hb => ?_)
        · refine y_iload 10 c23_9 rfl rfl ?_
          refine y_putI 13 c23_10 rfl kf376_57 (y_fit0 _) ?_
          refine y_iload 14 c23_13 rfl rfl ?_
          refine y_ireturnK c23_14 (y_fit1 (by omega)) ?_
          refine y_if 17 15 c217_12 rfl rfl (yz_ne (by omega)) (fun hb => ?_) (fun hb => ?_)
          · exfalso; omega
          · refine y_iconst 16 c217_15 rfl ?_
            refine y_ireturnK c217_16 (y_fit0 _) ?_
            refine y_istore 922 c218_920 rfl rfl ?_
            refine y_aload 923 c218_922 rfl rfl rfl ?_
            refine y_inlB 926 [.ref 376] [] [some (.ref 376)] c218_923 rfl rfl rfl rfl rfl (ycanO km26 ko376) kn26 rfl rfl ?_
            refine y_aload 1 c26_0 rfl rfl rfl ?_
            refine y_getX 4 1 c26_1 rfl kf376_57 rfl ?_
            refine y_ireturnK c26_4 (y_fit0 _) ?_
            refine y_iload 928 c218_926 rfl rfl ?_
            refine y_icmp 933 931 c218_928 rfl rfl (yc_eq (by omega) (by omega)) (fun hb => ?_) (fun hb => ?_)
            · refine y_iload 935 c218_933 rfl rfl ?_
              refine y_if 950 938 c218_935 rfl rfl (yz_ne (by omega)) (fun hb => ?_) (fun hb => ?_)
              · refine y_goto 953 c218_950 rfl ?_
                refine y_iincN 956 4 c218_953 rfl rfl (by decide) rfl ?_
                refine y_goto 23 c218_956 rfl ?_
                refine y_iload 25 c218_23 rfl rfl ?_
                refine y_aload 26 c218_25 rfl rfl rfl ?_
                refine y_slen 27 c218_26 rfl ?_
                refine y_top 4 rfl ?_
                refine y_iconst 28 c218_27 rfl ?_
                refine y_isub 29 c218_28 rfl ?_
                refine y_top 0 (by decide) ?_
                refine y_icmp 959 32 c218_29 rfl rfl (yc_gt (by omega) (by omega)) (fun hb => ?_) (fun hb => ?_)
                · refine y_iconst 960 c218_959 rfl ?_
                  exact y_ireturn c218_960 (y_fit1 (by omega)) ⟨rfl, by omega⟩
                · exfalso; omega
              · exfalso; omega
            · exfalso; omega
        · exfalso; omega
      · exfalso; omega

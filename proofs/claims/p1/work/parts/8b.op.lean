set_option maxRecDepth 100000 in
set_option maxHeartbeats 4000000 in
theorem g1_11 (xs : Nat → Int32) (x0 x1 x2 x3 : Int) (h0 : (xs 0).toInt = x0) (h1 : (xs 1).toInt = x1) (h2 : (xs 2).toInt = x2) (h3 : (xs 3).toInt = x3) (r1 : -2147483648 ≤ x1 ∧ x1 < 2147483648) (r2 : -2147483648 ≤ x2 ∧ x2 < 2147483648) (r3 : -2147483648 ≤ x3 ∧ x3 < 2147483648) (hop : (Int32.ofInt x0 &&& Int32.ofInt 15).toInt = 11) : YW (gZ 4 xs) 218 60 23 [some (.retAddr 0), some (.ref 0), some (.ref 376), some (.ref 413), some (yI 0), none, none] [] gMem 414 gQ1 := by
  refine y_iload 25 c218_23 rfl rfl ?_
  refine y_aload 26 c218_25 rfl rfl rfl ?_
  refine y_slen 27 c218_26 rfl ?_
  refine y_top 4 rfl ?_
  refine y_iconst 28 c218_27 rfl ?_
  refine y_isub 29 c218_28 rfl ?_
  refine y_top 0 (by decide) ?_
  refine y_icmp 959 32 c218_29 rfl rfl (yc_gt (by omega) (by omega)) (fun hb => ?_) (fun hb => ?_)
  · exfalso; omega
  · refine y_aload 33 c218_32 rfl rfl rfl ?_
    refine y_iload 35 c218_33 rfl rfl ?_
    refine s_load 36 x0 c218_35 rfl (by decide) h0 ?_
    refine y_iconst 38 c218_36 rfl ?_
    refine y_iand 39 c218_38 rfl ?_
    refine y_top 11 hop ?_
    refine y_tsw 785 c218_39 (by decide) (by decide) rfl rfl ?_
    refine y_aload 786 c218_785 rfl rfl rfl ?_
    refine y_aload 787 c218_786 rfl rfl rfl ?_
    refine y_inlB 790 [.ref 0, .ref 413] [] [some (.ref 0), some (.ref 413), none] c218_787 rfl rfl rfl rfl rfl (ycanS km200) kn200 rfl rfl ?_
    refine y_aload 1 c200_0 rfl rfl rfl ?_
    refine y_iconst 2 c200_1 rfl ?_
    refine y_aload 3 c200_2 rfl rfl rfl ?_
    refine y_inlB 6 [.ref 0] [yI 0, .ref 413] [some (.ref 0)] c200_3 rfl rfl rfl rfl rfl (ycanO km199 ko0) kn199 rfl rfl ?_
    refine y_aload 1 c199_0 rfl rfl rfl ?_
    refine y_getS 4 (B := 256) c199_1 rfl kf0_4 rfl ?_
    refine y_getX 7 ((-1)) c199_4 rfl kf256_17 rfl ?_
    refine y_iconst 8 c199_7 rfl ?_
    refine y_icmp 19 11 c199_8 rfl rfl (yc_ne (by omega) (by omega)) (fun hb => ?_) (fun hb => ?_)
    · exfalso; omega
    · refine y_throwB c199_11 rfl ?_
      refine yK_in kh200_3_11 ?_
      refine y_astore 12 c200_11 rfl rfl rfl ?_
      refine y_iconst 13 c200_12 rfl ?_
      refine y_ireturnK c200_13 (y_fit0 _) ?_
      refine y_istore 792 c218_790 rfl rfl ?_
      refine y_aload 793 c218_792 rfl rfl rfl ?_
      refine y_inlB 796 [.ref 376] [] [some (.ref 376), none] c218_793 rfl rfl rfl rfl rfl (ycanO km211 ko376) kn211 rfl rfl ?_
      refine y_aload 1 c211_0 rfl rfl rfl ?_
      refine y_aload 2 c211_1 rfl rfl rfl ?_
      refine y_getX 5 0 c211_2 rfl kf376_19 rfl ?_
      refine y_if 19 8 c211_5 rfl rfl (yz_eq (by omega)) (fun hb => ?_) (fun hb => ?_)
      · refine y_iconst 20 c211_19 rfl ?_
        refine y_inlB 23 [.ref 376, yI 0] [] [some (.ref 376), some (yI 0)] c211_20 rfl rfl rfl rfl rfl (ycanO km162 ko376) kn162 rfl rfl ?_
        refine y_aload 1 c162_0 rfl rfl rfl ?_
        refine y_aload 2 c162_1 rfl rfl rfl ?_
        refine y_getX 5 0 c162_2 rfl kf376_19 rfl ?_
        refine y_if 16 8 c162_5 rfl rfl (yz_eq (by omega)) (fun hb => ?_) (fun hb => ?_)
        · refine y_iconst 17 c162_16 rfl ?_
          refine y_iconst 18 c162_17 rfl ?_
          refine y_inlB 21 [.ref 376, yI 0, yI 1] [] [some (.ref 376), some (yI 0), some (yI 1)] c162_18 rfl rfl rfl rfl rfl (ycanO km23 ko376) kn23 rfl rfl ?_
          refine y_aload 1 c23_0 rfl rfl rfl ?_
          refine y_iload 2 c23_1 rfl rfl ?_
          refine y_if 9 5 c23_2 rfl rfl (yz_eq (by omega)) (fun hb => ?_) (fun hb => ?_)
          · refine y_iload 10 c23_9 rfl rfl ?_
            refine y_putI 13 c23_10 rfl kf376_57 (y_fit0 _) ?_
            refine y_iload 14 c23_13 rfl rfl ?_
            refine y_ireturnK c23_14 (y_fit1 (by omega)) ?_
            refine y_ireturnK c162_21 (y_fit1 (by omega)) ?_
            refine y_if 28 26 c211_23 rfl rfl (yz_ne (by omega)) (fun hb => ?_) (fun hb => ?_)
            · exfalso; omega
            · refine y_iconst 27 c211_26 rfl ?_
              refine y_ireturnK c211_27 (y_fit0 _) ?_
              refine y_istore 798 c218_796 rfl rfl ?_
              refine y_aload 799 c218_798 rfl rfl rfl ?_
              refine y_inlB 802 [.ref 376] [] [some (.ref 376)] c218_799 rfl rfl rfl rfl rfl (ycanO km26 ko376) kn26 rfl rfl ?_
              refine y_aload 1 c26_0 rfl rfl rfl ?_
              refine y_getX 4 1 c26_1 rfl kf376_57 rfl ?_
              refine y_ireturnK c26_4 (y_fit0 _) ?_
              refine y_iload 804 c218_802 rfl rfl ?_
              refine y_icmp 809 807 c218_804 rfl rfl (yc_eq (by omega) (by omega)) (fun hb => ?_) (fun hb => ?_)
              · refine y_iload 811 c218_809 rfl rfl ?_
                refine y_if 826 814 c218_811 rfl rfl (yz_ne (by omega)) (fun hb => ?_) (fun hb => ?_)
                · refine y_goto 953 c218_826 rfl ?_
                  refine y_iincN 956 4 c218_953 rfl rfl (by decide) rfl ?_
                  refine y_goto 23 c218_956 rfl ?_
                  refine y_iload 25 c218_23 rfl rfl ?_
                  refine y_aload 26 c218_25 rfl rfl rfl ?_
                  refine y_slen 27 c218_26 rfl ?_
                  refine y_top 4 rfl ?_
                  refine y_iconst 28 c218_27 rfl ?_
                  refine y_isub 29 c218_28 rfl ?_
                  refine y_top 0 (by decide) ?_
                  refine y_icmp 959 32 c218_29 rfl rfl (yc_gt (by omega) (by omega)) (fun hb => ?_) (fun hb => ?_)
                  · refine y_iconst 960 c218_959 rfl ?_
                    exact y_ireturn c218_960 (y_fit1 (by omega)) ⟨rfl, by omega⟩
                  · exfalso; omega
                · exfalso; omega
              · exfalso; omega
          · exfalso; omega
        · exfalso; omega
      · exfalso; omega

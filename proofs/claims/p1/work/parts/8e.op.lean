set_option maxRecDepth 100000 in
set_option maxHeartbeats 4000000 in
theorem g1_14 (xs : Nat → Int32) (x0 x1 x2 x3 : Int) (h0 : (xs 0).toInt = x0) (h1 : (xs 1).toInt = x1) (h2 : (xs 2).toInt = x2) (h3 : (xs 3).toInt = x3) (r1 : -2147483648 ≤ x1 ∧ x1 < 2147483648) (r2 : -2147483648 ≤ x2 ∧ x2 < 2147483648) (r3 : -2147483648 ≤ x3 ∧ x3 < 2147483648) (hop : (Int32.ofInt x0 &&& Int32.ofInt 15).toInt = 14) : YW (gZ 4 xs) 218 60 23 [some (.retAddr 0), some (.ref 0), some (.ref 376), some (.ref 413), some (yI 0), none, none] [] gMem 414 gQ1 := by
  refine y_iload 25 c218_23 rfl rfl ?_
  refine y_aload 26 c218_25 rfl rfl rfl ?_
  refine y_slen 27 c218_26 rfl ?_
  refine y_top 4 rfl ?_
  refine y_iconst 28 c218_27 rfl ?_
  refine y_isub 29 c218_28 rfl ?_
  refine y_top 0 (by decide) ?_
  refine y_icmp 959 32 c218_29 rfl rfl (yc_gt (by omega) (by omega)) (fun hb => ?_) (fun hb => ?_)
  · exfalso; omega
  · refine y_aload 33 c218_32 rfl rfl rfl ?_
    refine y_iload 35 c218_33 rfl rfl ?_
    refine s_load 36 x0 c218_35 rfl (by decide) h0 ?_
    refine y_iconst 38 c218_36 rfl ?_
    refine y_iand 39 c218_38 rfl ?_
    refine y_top 14 hop ?_
    refine y_tswd 953 c218_39 (by decide) (by decide) rfl ?_
    refine y_iincN 956 4 c218_953 rfl rfl (by decide) rfl ?_
    refine y_goto 23 c218_956 rfl ?_
    refine y_iload 25 c218_23 rfl rfl ?_
    refine y_aload 26 c218_25 rfl rfl rfl ?_
    refine y_slen 27 c218_26 rfl ?_
    refine y_top 4 rfl ?_
    refine y_iconst 28 c218_27 rfl ?_
    refine y_isub 29 c218_28 rfl ?_
    refine y_top 0 (by decide) ?_
    refine y_icmp 959 32 c218_29 rfl rfl (yc_gt (by omega) (by omega)) (fun hb => ?_) (fun hb => ?_)
    · refine y_iconst 960 c218_959 rfl ?_
      exact y_ireturn c218_960 (y_fit1 (by omega)) ⟨rfl, by omega⟩
    · exfalso; omega

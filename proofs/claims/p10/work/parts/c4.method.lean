/-! CONTRACTS: methods. Printed by wip/whole/gen90.py -/
set_option maxRecDepth 100000 in
theorem t8_go {L : Nat} {xs : Nat → Int32} {d nn : Nat} {m : yM}  : YC (gZ L xs) (d + 5) 8 [.retAddr 21] m nn (qP m nn (fun r => -2147483648 ≤ r ∧ r < 2147483648)) := by
  refine YC.mkB [some (.retAddr 21), none, none] kn8 rfl rfl ?_
  refine y_iconst 1 c8_0 rfl ?_
  refine y_istore 2 c8_1 rfl rfl ?_
  refine y_iconst 3 c8_2 rfl ?_
  refine y_istore 4 c8_3 rfl rfl ?_
  refine y_iload 5 c8_4 rfl rfl ?_
  refine y_aload 6 c8_5 rfl rfl rfl ?_
  refine y_inlB 9 [.retAddr 21] [yI 0] [some (.retAddr 21)] c8_6 rfl rfl rfl rfl rfl (ycanT km1 (show 20 % 2 = 0 ∧ 20 / 2 < gLit.length by decide)) kn1 rfl rfl ?_
  refine y_aload 1 c1_0 rfl rfl rfl ?_
  refine y_text 4 (j := 20) c1_1 rfl (show 20 % 2 = 0 ∧ 20 / 2 < gLit.length by decide) ?_
  refine y_blen 5 (j := 21) c1_4 rfl (show 21 % 2 = 1 ∧ 21 / 2 < gLit.length by decide) ?_
  refine y_top 2 (show ((gLit.getD (21 / 2) []).length : Int) = 2 by decide) ?_
  refine y_aload 6 c1_5 rfl rfl rfl ?_
  refine y_inlB 9 [.retAddr 21] [yI 2] [some (.retAddr 21)] c1_6 rfl rfl rfl rfl rfl (ycanT km0 (show 20 % 2 = 0 ∧ 20 / 2 < gLit.length by decide)) kn0 rfl rfl ?_
  refine y_static0 3 c0_0 rfl ?_
  refine y_if 13 6 c0_3 rfl rfl (yz_eq (by omega)) (fun hb3675 => ?_) (fun hb3675 => ?_)
  · exfalso; omega
  · refine y_aload 7 c0_6 rfl rfl rfl ?_
    refine y_coder 10 (j := 20) c0_7 rfl (show 20 % 2 = 0 ∧ 20 / 2 < gLit.length by decide) ?_
    refine y_goto 14 c0_10 rfl ?_
    refine y_ireturnK c0_14 rfl ?_
    refine y_ishr 10 c1_9 rfl ?_
    refine y_top 2 (by decide) ?_
    refine y_ireturnK c1_10 (y_fit0 _) ?_
    refine y_icmp 28 12 c8_9 rfl rfl (yc_ge (by omega) (by omega)) (fun hb3676 => ?_) (fun hb3676 => ?_)
    · exfalso; omega
    · refine y_iload 13 c8_12 rfl rfl ?_
      refine y_aload 14 c8_13 rfl rfl rfl ?_
      refine y_iload 15 c8_14 rfl rfl ?_
      refine y_inlB 18 [.retAddr 21, yI 0] [yI 0] [some (.retAddr 21), some (yI 0)] c8_15 rfl rfl rfl rfl rfl (ycanT km6 (show 20 % 2 = 0 ∧ 20 / 2 < gLit.length by decide)) kn6 rfl rfl ?_
      refine y_aload 1 c6_0 rfl rfl rfl ?_
      refine y_inlB 4 [.retAddr 21] [] [some (.retAddr 21)] c6_1 rfl rfl rfl rfl rfl (ycanT km2 (show 20 % 2 = 0 ∧ 20 / 2 < gLit.length by decide)) kn2 rfl rfl ?_
      refine y_static0 3 c2_0 rfl ?_
      refine y_if 17 6 c2_3 rfl rfl (yz_eq (by omega)) (fun hb3677 => ?_) (fun hb3677 => ?_)
      · exfalso; omega
      · refine y_aload 7 c2_6 rfl rfl rfl ?_
        refine y_coder 10 (j := 20) c2_7 rfl (show 20 % 2 = 0 ∧ 20 / 2 < gLit.length by decide) ?_
        refine y_if 17 13 c2_10 rfl rfl (yz_ne (by omega)) (fun hb3678 => ?_) (fun hb3678 => ?_)
        · exfalso; omega
        · refine y_iconst 14 c2_13 rfl ?_
          refine y_goto 18 c2_14 rfl ?_
          refine y_ireturnK c2_18 (y_fit1 (by omega)) ?_
          refine y_if 16 7 c6_4 rfl rfl (yz_eq (by omega)) (fun hb3679 => ?_) (fun hb3679 => ?_)
          · exfalso; omega
          · refine y_aload 8 c6_7 rfl rfl rfl ?_
            refine y_text 11 (j := 20) c6_8 rfl (show 20 % 2 = 0 ∧ 20 / 2 < gLit.length by decide) ?_
            refine y_iload 12 c6_11 rfl rfl ?_
            refine y_inlB 15 [.retAddr 22, yI 0] [] [some (.retAddr 22), some (yI 0)] c6_12 rfl rfl rfl rfl rfl (ycanS km5) kn5 rfl rfl ?_
            refine y_iload 1 c5_0 rfl rfl ?_
            refine y_aload 2 c5_1 rfl rfl rfl ?_
            refine y_blen 3 (j := 21) c5_2 rfl (show 21 % 2 = 1 ∧ 21 / 2 < gLit.length by decide) ?_
            refine y_top 2 (show ((gLit.getD (21 / 2) []).length : Int) = 2 by decide) ?_
            refine y_inlB 6 [yI 0, yI 2] [] [some (yI 0), some (yI 2)] c5_3 rfl rfl rfl rfl rfl (ycanS km4) kn4 rfl rfl ?_
            refine y_iload 1 c4_0 rfl rfl ?_
            refine y_iload 2 c4_1 rfl rfl ?_
            refine y_static1 5 c4_2 rfl ?_
            refine y_inlB 8 [yI 0, yI 2, .float 0] [] [some (yI 0), some (yI 2), some (.float 0)] c4_5 rfl rfl rfl rfl rfl (ycanS km3) kn3 rfl rfl ?_
            refine y_iload 1 c3_0 rfl rfl ?_
            refine y_if 9 4 c3_1 rfl rfl (yz_lt (by omega)) (fun hb3680 => ?_) (fun hb3680 => ?_)
            · exfalso; omega
            · refine y_iload 5 c3_4 rfl rfl ?_
              refine y_iload 6 c3_5 rfl rfl ?_
              refine y_icmp 16 9 c3_6 rfl rfl (yc_lt (by omega) (by omega)) (fun hb3681 => ?_) (fun hb3681 => ?_)
              · refine y_iload 17 c3_16 rfl rfl ?_
                refine y_ireturnK c3_17 (y_fit0 _) ?_
                refine y_pop 9 c4_8 rfl rfl ?_
                refine y_returnK c4_9 ?_
                refine y_aload 7 c5_6 rfl rfl rfl ?_
                refine y_iload 8 c5_7 rfl rfl ?_
                refine y_byte 9 (j := 21) c5_8 rfl (show 21 % 2 = 1 ∧ 21 / 2 < gLit.length by decide) (show (gLit.getD (21 / 2) []).length ≤ 100000 by decide) (show (0 : Int) ≤ 0 ∧ (0 : Int) < (gLit.getD (21 / 2) []).length by decide) ?_
                refine y_top 103 (show ((gLit.getD (21 / 2) []).getD (Int.toNat 0) 0).toInt = 103 by decide) ?_
                refine y_iconst 12 c5_9 rfl ?_
                refine y_iand 13 c5_12 rfl ?_
                refine y_top 103 (by decide) ?_
                refine y_i2cN 14 c5_13 rfl (by omega) ?_
                refine y_ireturnK c5_14 rfl ?_
                refine y_ireturnK c6_15 rfl ?_
                refine y_callP 21 [yI 0, yI 103] [] c8_18 rfl rfl rfl rfl rfl (ycanS km7) t7 (fun r3682 hr3682 => ?_)
                refine y_istore 22 c8_21 rfl rfl ?_
                refine y_iincN 25 1 c8_22 rfl rfl (by decide) rfl ?_
                refine y_goto 4 c8_25 rfl ?_
                refine y_iload 5 c8_4 rfl rfl ?_
                refine y_aload 6 c8_5 rfl rfl rfl ?_
                refine y_inlB 9 [.retAddr 21] [yI 1] [some (.retAddr 21)] c8_6 rfl rfl rfl rfl rfl (ycanT km1 (show 20 % 2 = 0 ∧ 20 / 2 < gLit.length by decide)) kn1 rfl rfl ?_
                refine y_aload 1 c1_0 rfl rfl rfl ?_
                refine y_text 4 (j := 20) c1_1 rfl (show 20 % 2 = 0 ∧ 20 / 2 < gLit.length by decide) ?_
                refine y_blen 5 (j := 21) c1_4 rfl (show 21 % 2 = 1 ∧ 21 / 2 < gLit.length by decide) ?_
                refine y_top 2 (show ((gLit.getD (21 / 2) []).length : Int) = 2 by decide) ?_
                refine y_aload 6 c1_5 rfl rfl rfl ?_
                refine y_inlB 9 [.retAddr 21] [yI 2] [some (.retAddr 21)] c1_6 rfl rfl rfl rfl rfl (ycanT km0 (show 20 % 2 = 0 ∧ 20 / 2 < gLit.length by decide)) kn0 rfl rfl ?_
                refine y_static0 3 c0_0 rfl ?_
                refine y_if 13 6 c0_3 rfl rfl (yz_eq (by omega)) (fun hb3683 => ?_) (fun hb3683 => ?_)
                · exfalso; omega
                · refine y_aload 7 c0_6 rfl rfl rfl ?_
                  refine y_coder 10 (j := 20) c0_7 rfl (show 20 % 2 = 0 ∧ 20 / 2 < gLit.length by decide) ?_
                  refine y_goto 14 c0_10 rfl ?_
                  refine y_ireturnK c0_14 rfl ?_
                  refine y_ishr 10 c1_9 rfl ?_
                  refine y_top 2 (by decide) ?_
                  refine y_ireturnK c1_10 (y_fit0 _) ?_
                  refine y_icmp 28 12 c8_9 rfl rfl (yc_ge (by omega) (by omega)) (fun hb3684 => ?_) (fun hb3684 => ?_)
                  · exfalso; omega
                  · refine y_iload 13 c8_12 rfl rfl ?_
                    refine y_aload 14 c8_13 rfl rfl rfl ?_
                    refine y_iload 15 c8_14 rfl rfl ?_
                    refine y_inlB 18 [.retAddr 21, yI 1] [yI r3682] [some (.retAddr 21), some (yI 1)] c8_15 rfl rfl rfl rfl rfl (ycanT km6 (show 20 % 2 = 0 ∧ 20 / 2 < gLit.length by decide)) kn6 rfl rfl ?_
                    refine y_aload 1 c6_0 rfl rfl rfl ?_
                    refine y_inlB 4 [.retAddr 21] [] [some (.retAddr 21)] c6_1 rfl rfl rfl rfl rfl (ycanT km2 (show 20 % 2 = 0 ∧ 20 / 2 < gLit.length by decide)) kn2 rfl rfl ?_
                    refine y_static0 3 c2_0 rfl ?_
                    refine y_if 17 6 c2_3 rfl rfl (yz_eq (by omega)) (fun hb3685 => ?_) (fun hb3685 => ?_)
                    · exfalso; omega
                    · refine y_aload 7 c2_6 rfl rfl rfl ?_
                      refine y_coder 10 (j := 20) c2_7 rfl (show 20 % 2 = 0 ∧ 20 / 2 < gLit.length by decide) ?_
                      refine y_if 17 13 c2_10 rfl rfl (yz_ne (by omega)) (fun hb3686 => ?_) (fun hb3686 => ?_)
                      · exfalso; omega
                      · refine y_iconst 14 c2_13 rfl ?_
                        refine y_goto 18 c2_14 rfl ?_
                        refine y_ireturnK c2_18 (y_fit1 (by omega)) ?_
                        refine y_if 16 7 c6_4 rfl rfl (yz_eq (by omega)) (fun hb3687 => ?_) (fun hb3687 => ?_)
                        · exfalso; omega
                        · refine y_aload 8 c6_7 rfl rfl rfl ?_
                          refine y_text 11 (j := 20) c6_8 rfl (show 20 % 2 = 0 ∧ 20 / 2 < gLit.length by decide) ?_
                          refine y_iload 12 c6_11 rfl rfl ?_
                          refine y_inlB 15 [.retAddr 22, yI 1] [] [some (.retAddr 22), some (yI 1)] c6_12 rfl rfl rfl rfl rfl (ycanS km5) kn5 rfl rfl ?_
                          refine y_iload 1 c5_0 rfl rfl ?_
                          refine y_aload 2 c5_1 rfl rfl rfl ?_
                          refine y_blen 3 (j := 21) c5_2 rfl (show 21 % 2 = 1 ∧ 21 / 2 < gLit.length by decide) ?_
                          refine y_top 2 (show ((gLit.getD (21 / 2) []).length : Int) = 2 by decide) ?_
                          refine y_inlB 6 [yI 1, yI 2] [] [some (yI 1), some (yI 2)] c5_3 rfl rfl rfl rfl rfl (ycanS km4) kn4 rfl rfl ?_
                          refine y_iload 1 c4_0 rfl rfl ?_
                          refine y_iload 2 c4_1 rfl rfl ?_
                          refine y_static1 5 c4_2 rfl ?_
                          refine y_inlB 8 [yI 1, yI 2, .float 0] [] [some (yI 1), some (yI 2), some (.float 0)] c4_5 rfl rfl rfl rfl rfl (ycanS km3) kn3 rfl rfl ?_
                          refine y_iload 1 c3_0 rfl rfl ?_
                          refine y_if 9 4 c3_1 rfl rfl (yz_lt (by omega)) (fun hb3688 => ?_) (fun hb3688 => ?_)
                          · exfalso; omega
                          · refine y_iload 5 c3_4 rfl rfl ?_
                            refine y_iload 6 c3_5 rfl rfl ?_
                            refine y_icmp 16 9 c3_6 rfl rfl (yc_lt (by omega) (by omega)) (fun hb3689 => ?_) (fun hb3689 => ?_)
                            · refine y_iload 17 c3_16 rfl rfl ?_
                              refine y_ireturnK c3_17 (y_fit0 _) ?_
                              refine y_pop 9 c4_8 rfl rfl ?_
                              refine y_returnK c4_9 ?_
                              refine y_aload 7 c5_6 rfl rfl rfl ?_
                              refine y_iload 8 c5_7 rfl rfl ?_
                              refine y_byte 9 (j := 21) c5_8 rfl (show 21 % 2 = 1 ∧ 21 / 2 < gLit.length by decide) (show (gLit.getD (21 / 2) []).length ≤ 100000 by decide) (show (0 : Int) ≤ 1 ∧ (1 : Int) < (gLit.getD (21 / 2) []).length by decide) ?_
                              refine y_top 111 (show ((gLit.getD (21 / 2) []).getD (Int.toNat 1) 0).toInt = 111 by decide) ?_
                              refine y_iconst 12 c5_9 rfl ?_
                              refine y_iand 13 c5_12 rfl ?_
                              refine y_top 111 (by decide) ?_
                              refine y_i2cN 14 c5_13 rfl (by omega) ?_
                              refine y_ireturnK c5_14 rfl ?_
                              refine y_ireturnK c6_15 rfl ?_
                              refine y_callP 21 [yI r3682, yI 111] [] c8_18 rfl rfl rfl rfl rfl (ycanS km7) t7 (fun r3690 hr3690 => ?_)
                              refine y_istore 22 c8_21 rfl rfl ?_
                              refine y_iincN 25 2 c8_22 rfl rfl (by decide) rfl ?_
                              refine y_goto 4 c8_25 rfl ?_
                              refine y_iload 5 c8_4 rfl rfl ?_
                              refine y_aload 6 c8_5 rfl rfl rfl ?_
                              refine y_inlB 9 [.retAddr 21] [yI 2] [some (.retAddr 21)] c8_6 rfl rfl rfl rfl rfl (ycanT km1 (show 20 % 2 = 0 ∧ 20 / 2 < gLit.length by decide)) kn1 rfl rfl ?_
                              refine y_aload 1 c1_0 rfl rfl rfl ?_
                              refine y_text 4 (j := 20) c1_1 rfl (show 20 % 2 = 0 ∧ 20 / 2 < gLit.length by decide) ?_
                              refine y_blen 5 (j := 21) c1_4 rfl (show 21 % 2 = 1 ∧ 21 / 2 < gLit.length by decide) ?_
                              refine y_top 2 (show ((gLit.getD (21 / 2) []).length : Int) = 2 by decide) ?_
                              refine y_aload 6 c1_5 rfl rfl rfl ?_
                              refine y_inlB 9 [.retAddr 21] [yI 2] [some (.retAddr 21)] c1_6 rfl rfl rfl rfl rfl (ycanT km0 (show 20 % 2 = 0 ∧ 20 / 2 < gLit.length by decide)) kn0 rfl rfl ?_
                              refine y_static0 3 c0_0 rfl ?_
                              refine y_if 13 6 c0_3 rfl rfl (yz_eq (by omega)) (fun hb3691 => ?_) (fun hb3691 => ?_)
                              · exfalso; omega
                              · refine y_aload 7 c0_6 rfl rfl rfl ?_
                                refine y_coder 10 (j := 20) c0_7 rfl (show 20 % 2 = 0 ∧ 20 / 2 < gLit.length by decide) ?_
                                refine y_goto 14 c0_10 rfl ?_
                                refine y_ireturnK c0_14 rfl ?_
                                refine y_ishr 10 c1_9 rfl ?_
                                refine y_top 2 (by decide) ?_
                                refine y_ireturnK c1_10 (y_fit0 _) ?_
                                refine y_icmp 28 12 c8_9 rfl rfl (yc_ge (by omega) (by omega)) (fun hb3692 => ?_) (fun hb3692 => ?_)
                                · refine y_iload 29 c8_28 rfl rfl ?_
                                  exact y_retP c8_29 (y_fit0 _) (by omega)
                                · exfalso; omega
                            · exfalso; omega
              · exfalso; omega
theorem t54k_256 {L : Nat} {xs : Nat → Int32} {d nn : Nat} {m : yM} {e : Int} (hT : Ty gT m) (he : 0 ≤ e ∧ e ≤ 320) (hE : m 5 e.toNat = 0) (ha : m 2 2 ≤ e) (hp : m 2 1 = 0) {k : Int} (hk : k = m 256 10 - 1) (hk0 : 0 ≤ k ∧ k ≤ 9) (hp3 : m (266 + k.toNat) 3 ≤ 1) (hr : m (266 + k.toNat) 2 + 2 + m (266 + k.toNat) 3 = m 256 15) : YC (gZ L xs) (d + 2) 54 [.ref 2] m nn (qI (fun r m' n' => n' = nn ∧ Ty gT m' ∧ Fr wPr256 m m' ∧ ((r = 0 ∨ r = 1) ∧ m' 2 2 ≤ e ∧ m' (266 + k.toNat) 2 = m (266 + k.toNat) 2 ∧ (r = 1 → m' (266 + k.toNat) 3 = m (266 + k.toNat) 3 + 1 ∧ m' 256 15 = m 256 15 + 1)) ∧ (MP 266 m → MP 266 m'))) := by
  subst hk
  exact t54_256 hT he hE ha hp (by omega) hp3 hr
set_option maxRecDepth 100000 in
theorem t55_256 {L : Nat} {xs : Nat → Int32} {d nn : Nat} {m : yM} {e : Int} (hT : Ty gT m) (he : 0 ≤ e ∧ e ≤ 320) (hE : m 5 e.toNat = 0) (ha : m 2 2 ≤ e) (hp : m 2 1 = 0) {k : Int} (hk : k = m 256 10 - 1) (hk0 : 0 ≤ k ∧ k ≤ 9) (hp3 : m (266 + k.toNat) 3 = 0) (hr : m (266 + k.toNat) 2 + 2 = m 256 15) : YC (gZ L xs) (d + 3) 55 [.ref 2] m nn (qI (fun r m' n' => n' = nn ∧ Ty gT m' ∧ Fr wPr256 m m' ∧ ((r = 0 ∨ r = 1) ∧ m' 2 2 ≤ e) ∧ (MP 266 m → MP 266 m'))) := by
  have tb2 := hT.atp 2 2 0 320 rfl
  refine YC.mkB [some (.ref 2)] kn55 rfl rfl ?_
  have hF : Fr wPr256 m m := Fr.rf
  refine y_aload 1 c55_0 rfl rfl rfl ?_
  have tb3693 := hT.atp 2 2 0 320 rfl
  refine y_callP 4 [.ref 2] [] c55_1 rfl rfl rfl rfl rfl (ycanO km38 ko2) (t38 hT he hE (by omega)) (fun r3694 hr3694 => ?_)
  refine y_iconst 6 c55_4 rfl ?_
  refine y_icmp 11 9 c55_6 rfl rfl (yc_ne (by omega) (by omega)) (fun hb3695 => ?_) (fun hb3695 => ?_)
  · refine y_aload 12 c55_11 rfl rfl rfl ?_
    have tb3697 := hT.atp 2 1 ((-1)) 1 rfl
    have tb3698 := hT.atp 256 10 0 10 rfl
    have tb3699 := hT.atp 256 15 0 48 rfl
    have tb3700 := hT.atp (266 + k.toNat) 2 0 46 (ft266_2 (by omega))
    have tb3701 := hT.atp (266 + k.toNat) 3 0 2 (ft266_3 (by omega))
    refine y_callIB 15 [.ref 2] [] c55_12 rfl rfl rfl rfl rfl (ycanO km54 ko2) (t54k_256 (k := k) hT he hE (by omega) (by omega) (by omega) (by omega) (by omega) (by omega)) (fun rq3696 mq3696 nq3696 hq3696 => ?_)
    obtain ⟨rfl, hTq3696, hFq3696, hq3696, hMq3696⟩ := hq3696
    have hF3702 := hF.tr hFq3696 (fun _ _ e => e)
    refine y_if 20 18 c55_15 rfl rfl (yz_ne (by omega)) (fun hb3703 => ?_) (fun hb3703 => ?_)
    · refine y_aload 21 c55_20 rfl rfl rfl ?_
      have tb3704 := hTq3696.atp 2 2 0 320 rfl
      refine y_callP 24 [.ref 2] [] c55_21 rfl rfl rfl rfl rfl (ycanO km38 ko2) (t38 hTq3696 he (by have e1 : mq3696 5 e.toNat = m 5 e.toNat := (hFq3696 5 e.toNat rfl); omega) (by omega)) (fun r3705 hr3705 => ?_)
      refine y_iconst 26 c55_24 rfl ?_
      refine y_icmp 31 29 c55_26 rfl rfl (yc_eq (by omega) (by omega)) (fun hb3706 => ?_) (fun hb3706 => ?_)
      · refine y_aload 32 c55_31 rfl rfl rfl ?_
        refine y_dup 33 c55_32 rfl rfl ?_
        refine y_getX 36 (mq3696 2 2) c55_33 rfl kf2_2 rfl ?_
        refine y_iconst 37 c55_36 rfl ?_
        refine y_iadd 38 c55_37 rfl ?_
        refine y_putI 41 c55_38 rfl kf2_2 (y_fit0 _) ?_
        have hT3707 := hTq3696.up 2 2 ((mq3696 2 2) + 1) 0 320 rfl (by omega)
        have hF3708 := hF3702.up 2 2 ((mq3696 2 2) + 1) rfl
        refine y_aload 42 c55_41 rfl rfl rfl ?_
        have es3710 : (yup mq3696 2 2 ((mq3696 2 2) + 1)) 2 2 = (mq3696 2 2) + 1 := rfl
        have es3711 : (yup mq3696 2 2 ((mq3696 2 2) + 1)) 2 1 = m 2 1 := ((yup_nk (by decide)).trans (hFq3696 2 1 rfl))
        have es3712 : (yup mq3696 2 2 ((mq3696 2 2) + 1)) 256 10 = m 256 10 := ((yup_na (by decide)).trans (hFq3696 256 10 rfl))
        have es3713 : (yup mq3696 2 2 ((mq3696 2 2) + 1)) 256 15 = mq3696 256 15 := rfl
        have tb3714 := hTq3696.atp 256 15 0 48 rfl
        have es3715 : (yup mq3696 2 2 ((mq3696 2 2) + 1)) (266 + k.toNat) 2 = mq3696 (266 + k.toNat) 2 := (yup_na (by omega))
        have tb3716 := hTq3696.atp (266 + k.toNat) 2 0 46 (ft266_2 (by omega))
        have es3717 : (yup mq3696 2 2 ((mq3696 2 2) + 1)) (266 + k.toNat) 3 = mq3696 (266 + k.toNat) 3 := (yup_na (by omega))
        have tb3718 := hTq3696.atp (266 + k.toNat) 3 0 2 (ft266_3 (by omega))
        refine y_callIB 45 [.ref 2] [] c55_42 rfl rfl rfl rfl rfl (ycanO km54 ko2) (t54k_256 (k := k) hT3707 he (by have e1 : (yup mq3696 2 2 ((mq3696 2 2) + 1)) 5 e.toNat = m 5 e.toNat := ((yup_na (by decide)).trans (hFq3696 5 e.toNat rfl)); omega) (by omega) (by omega) (by omega) (by omega) (by omega) (by omega)) (fun rq3709 mq3709 nq3709 hq3709 => ?_)
        obtain ⟨rfl, hTq3709, hFq3709, hq3709, hMq3709⟩ := hq3709
        have hF3719 := hF3708.tr hFq3709 (fun _ _ e => e)
        have tb3720 := hTq3709.atp 2 2 0 320 rfl
        exact y_retI c55_45 (y_fit1 (by omega)) ⟨rfl, hTq3709, hF3719, by omega, fun hM => hMq3709 ((hMq3696 (hM)).na (by decide))⟩
      · refine y_iconst 30 c55_29 rfl ?_
        exact y_retI c55_30 (y_fit1 (by omega)) ⟨rfl, hTq3696, hF3702, by omega, fun hM => hMq3696 (hM)⟩
    · refine y_iconst 19 c55_18 rfl ?_
      have tb3721 := hTq3696.atp 2 2 0 320 rfl
      exact y_retI c55_19 (y_fit1 (by omega)) ⟨rfl, hTq3696, hF3702, by omega, fun hM => hMq3696 (hM)⟩
  · refine y_iconst 10 c55_9 rfl ?_
    exact y_retI c55_10 (y_fit1 (by omega)) ⟨rfl, hT, hF, by omega, fun hM => hM⟩
def wMt0256 (a q : Nat) : Bool := (a == 2 && (q == 2 || q == 4)) || (a == 256 && (q == 10 || (decide (12 ≤ q) && decide (q ≤ 16)))) || a == 261 || a == 265 || decide (266 ≤ a ∧ a < 276)
def wMt256 (c a q : Nat) : Bool := ((a == 2 && (q == 2 || q == 4)) || (a == 256 && (q == 10 || (decide (12 ≤ q) && decide (q ≤ 16)))) || a == 261 || a == 265 || decide (266 ≤ a ∧ a < 276)) || decide (276 + c ≤ a ∧ a < 316)
theorem wMt256_lt {c a q : Nat} (h : a < 276) : wMt256 c a q = wMt0256 a q := by
  have e : decide (276 + c ≤ a ∧ a < 316) = false := by simp; omega
  simp only [wMt256, wMt0256, e, Bool.or_false]
theorem wMt256_m {c k q : Nat} (h : k < 10) : wMt256 c (266 + k) q = true := by
  simp [wMt256]
  omega
theorem wMt256_n {c j q : Nat} (h : j < c) : wMt256 c (276 + j) q = false := by
  cases e : wMt256 c (276 + j) q with
  | false => rfl
  | true => simp [wMt256] at e <;> omega
theorem wFa_wMt256 {c : Nat} : ∀ a q, wFa a q = true → wMt256 c a q = true := by
  intro a q h
  simp [wFa] at h
  simp [wMt256]
  omega
theorem wAt_wMt256 {c : Nat} : ∀ a q, wAt a q = true → wMt256 c a q = true := by
  intro a q h
  simp [wAt] at h
  simp [wMt256]
  omega
theorem wPr256_wMt256 {c : Nat} : ∀ a q, wPr256 a q = true → wMt256 c a q = true := by
  intro a q h
  simp [wPr256] at h
  simp [wMt256]
  omega
theorem wMe256_wMt256 {c : Nat} : ∀ a q, wMe256 a q = true → wMt256 c a q = true := by
  intro a q h
  simp [wMe256] at h
  simp [wMt256]
  omega
theorem wBo256_wMt256 {c : Nat} : ∀ a q, wBo256 c a q = true → wMt256 c a q = true := by
  intro a q h
  simp [wBo256] at h
  simp [wMt256]
  omega
theorem wPr256_n276 {j q : Nat} : wPr256 (276 + j) q = false := by
  cases h : wPr256 (276 + j) q with
  | false => rfl
  | true => simp [wPr256] at h <;> omega
theorem wMe256_n276 {j q : Nat} : wMe256 (276 + j) q = false := by
  cases h : wMe256 (276 + j) q with
  | false => rfl
  | true => simp [wMe256] at h <;> omega
theorem wBo256_n266 {c j q : Nat} (h : j < 10) : wBo256 c (266 + j) q = false := by
  cases h : wBo256 c (266 + j) q with
  | false => rfl
  | true => simp [wBo256] at h <;> omega
theorem wPr256_5 {j : Nat} : wPr256 (266 + j) 5 = false := by
  cases h : wPr256 (266 + j) 5 with
  | false => rfl
  | true => simp [wPr256] at h <;> omega
set_option maxRecDepth 100000 in
theorem t70_256 {L : Nat} {xs : Nat → Int32} {d nn : Nat} {m : yM} {e : Int} (hT : Ty gT m) (he : 0 ≤ e ∧ e ≤ 320) (hE : m 5 e.toNat = 0) (ha : m 2 2 ≤ e) (hp : m 2 1 = 0) (hc : 1 ≤ m 256 9) (hlt : m 2 2 < e) : YC (gZ L xs) (d + 13) 70 [.ref 2] m nn (qI (fun r m' n' => n' = nn ∧ Ty gT m' ∧ Fr (wMt256 (m 256 16).toNat) m m' ∧ ((r = 0 ∨ r = 1) ∧ m' 2 2 ≤ e ∧ m 256 16 ≤ m' 256 16 ∧ m 256 12 ≤ m' 256 12 ∧ m 256 13 ≤ m' 256 13 ∧ m 256 10 ≤ m' 256 10) ∧ (∀ z : Nat, (z : Int) < m 256 13 → m' 265 z = m 265 z) ∧ (MP 266 m → MP 266 m') ∧ (r = 1 → m' 256 10 = m 256 10 + 1 ∧ RG 276 265 m' (m 256 16) (m' 256 16) (m 256 12) (m' 256 12) (m 256 13) (m' 256 13) ∧ EN 276 m' (m 256 16) (m' 256 16) (m' 256 16) ∧ (∀ j : Nat, (j : Int) < m 256 10 → m' (266 + j) 5 = m (266 + j) 5) ∧ m' (266 + (m 256 10).toNat) 5 ≤ m' 256 16))) := by
  have tb2 := hT.atp 2 2 0 320 rfl
  have tb12 := hT.atp 256 12 0 12 rfl
  have tb13 := hT.atp 256 13 0 8 rfl
  have tb16 := hT.atp 256 16 0 40 rfl
  have tb10 := hT.atp 256 10 0 10 rfl
  refine YC.mkB [some (.ref 2), none, none] kn70 rfl rfl ?_
  have hF : Fr (wMt256 (m 256 16).toNat) m m := Fr.rf
  refine y_aload 1 c70_0 rfl rfl rfl ?_
  refine y_dup 2 c70_1 rfl rfl ?_
  refine y_getX 5 (m 2 2) c70_2 rfl kf2_2 rfl ?_
  have tb3722 := hT.atp 2 2 0 320 rfl
  refine y_iconst 6 c70_5 rfl ?_
  refine y_iadd 7 c70_6 rfl ?_
  refine y_putI 10 c70_7 rfl kf2_2 (y_fit0 _) ?_
  have hT3723 := hT.up 2 2 ((m 2 2) + 1) 0 320 rfl (by omega)
  have hF3724 := hF.up 2 2 ((m 2 2) + 1) rfl
  refine y_aload 11 c70_10 rfl rfl rfl ?_
  have es3725 : (yup m 2 2 ((m 2 2) + 1)) 2 2 = (m 2 2) + 1 := rfl
  refine y_callP 14 [.ref 2] [] c70_11 rfl rfl rfl rfl rfl (ycanO km38 ko2) (t38 hT3723 he (by have e1 : (yup m 2 2 ((m 2 2) + 1)) 5 e.toNat = m 5 e.toNat := (yup_na (by decide)); omega) (by omega)) (fun r3726 hr3726 => ?_)
  refine y_iconst 16 c70_14 rfl ?_
  refine y_icmp 33 19 c70_16 rfl rfl (yc_ne (by omega) (by omega)) (fun hb3727 => ?_) (fun hb3727 => ?_)
  · refine y_aload 34 c70_33 rfl rfl rfl ?_
    have es3729 : (yup m 2 2 ((m 2 2) + 1)) 2 2 = (m 2 2) + 1 := rfl
    refine y_callIB 37 [.ref 2] [] c70_34 rfl rfl rfl rfl rfl (ycanO km43 ko2) (t43 hT3723) (fun rq3728 mq3728 nq3728 hq3728 => ?_)
    obtain ⟨rfl, hTq3728, hFq3728, hq3728⟩ := hq3728
    have hF3730 := hF3724.tr hFq3728 wFa_wMt256
    have es3731 : mq3728 2 2 = (m 2 2) + 1 := ((hFq3728 2 2 rfl).trans (yup_eq _ _ _ _))
    have es3732 : mq3728 256 16 = m 256 16 := ((hFq3728 256 16 rfl).trans (yup_na (by decide)))
    have tb3733 := hT.atp 256 16 0 40 rfl
    have es3734 : mq3728 256 12 = m 256 12 := ((hFq3728 256 12 rfl).trans (yup_na (by decide)))
    have tb3735 := hT.atp 256 12 0 12 rfl
    have es3736 : mq3728 256 13 = m 256 13 := ((hFq3728 256 13 rfl).trans (yup_na (by decide)))
    have tb3737 := hT.atp 256 13 0 8 rfl
    have es3738 : mq3728 256 10 = m 256 10 := ((hFq3728 256 10 rfl).trans (yup_na (by decide)))
    have tb3739 := hT.atp 256 10 0 10 rfl
    refine y_retI c70_37 (y_fit1 (by omega)) ⟨rfl, hTq3728, hF3730, by omega, fun z hz => ((hFq3728 265 z rfl).trans (yup_na (by decide))), fun hM => ((hM).na (by decide)).fr (fun k hk => hFq3728 _ _ wFa_n266) (fun k hk => hFq3728 _ _ wFa_n266), fun h1 => ?_⟩
    omega
  · refine y_aload 20 c70_19 rfl rfl rfl ?_
    refine y_getS 23 (B := 256) c70_20 rfl kf2_1 (by rw [show (yup m 2 2 ((m 2 2) + 1)) 2 1 = 0 from by have e : (yup m 2 2 ((m 2 2) + 1)) 2 1 = m 2 1 := rfl; omega]; rfl) ?_
    refine y_aload 24 c70_23 rfl rfl rfl ?_
    refine y_callP 27 [.ref 2] [.ref 256] c70_24 rfl rfl rfl rfl rfl (ycanO km39 ko2) (t39 hT3723) (fun r3740 hr3740 => ?_)
    have es3742 : (yup m 2 2 ((m 2 2) + 1)) 256 9 = m 256 9 := rfl
    have tb3743 := hT.atp 256 9 0 6 rfl
    have es3744 : (yup m 2 2 ((m 2 2) + 1)) 256 10 = m 256 10 := rfl
    have tb3745 := hT.atp 256 10 0 10 rfl
    have es3746 : (yup m 2 2 ((m 2 2) + 1)) 256 15 = m 256 15 := rfl
    have tb3747 := hT.atp 256 15 0 48 rfl
    have e10 : (yup m 2 2 ((m 2 2) + 1)) 256 10 = m 256 10 := rfl
    refine y_callIB 30 [.ref 256, yI r3740] [] c70_27 rfl rfl rfl rfl rfl (ycanO km51 ko256) (t51_256 hT3723 (by omega) (by omega)) (fun rq3741 mq3741 nq3741 hq3741 => ?_)
    obtain ⟨rfl, hTq3741, hFq3741, hq3741⟩ := hq3741
    rw [e10] at hq3741
    rcases hq3741 with ⟨rfl, rfl⟩ | ⟨rfl, hq3741, h15, hr2, hr3, hMq3741, hNq3741⟩
    · refine y_if 38 33 c70_30 rfl rfl (yz_ne (by omega)) (fun hb3748 => ?_) (fun hb3748 => ?_)
      · exfalso; omega
      · refine y_aload 34 c70_33 rfl rfl rfl ?_
        have es3750 : (yup m 2 2 ((m 2 2) + 1)) 2 2 = (m 2 2) + 1 := rfl
        refine y_callIB 37 [.ref 2] [] c70_34 rfl rfl rfl rfl rfl (ycanO km43 ko2) (t43 hT3723) (fun rq3749 mq3749 nq3749 hq3749 => ?_)
        obtain ⟨rfl, hTq3749, hFq3749, hq3749⟩ := hq3749
        have hF3751 := hF3724.tr hFq3749 wFa_wMt256
        have es3752 : mq3749 2 2 = (m 2 2) + 1 := ((hFq3749 2 2 rfl).trans (yup_eq _ _ _ _))
        have es3753 : mq3749 256 16 = m 256 16 := ((hFq3749 256 16 rfl).trans (yup_na (by decide)))
        have tb3754 := hT.atp 256 16 0 40 rfl
        have es3755 : mq3749 256 12 = m 256 12 := ((hFq3749 256 12 rfl).trans (yup_na (by decide)))
        have tb3756 := hT.atp 256 12 0 12 rfl
        have es3757 : mq3749 256 13 = m 256 13 := ((hFq3749 256 13 rfl).trans (yup_na (by decide)))
        have tb3758 := hT.atp 256 13 0 8 rfl
        have es3759 : mq3749 256 10 = m 256 10 := ((hFq3749 256 10 rfl).trans (yup_na (by decide)))
        refine y_retI c70_37 (y_fit1 (by omega)) ⟨rfl, hTq3749, hF3751, by omega, fun z hz => ((hFq3749 265 z rfl).trans (yup_na (by decide))), fun hM => ((hM).na (by decide)).fr (fun k hk => hFq3749 _ _ wFa_n266) (fun k hk => hFq3749 _ _ wFa_n266), fun h1 => ?_⟩
        omega
    · have hF3760 := hF3724.tr hFq3741 wMe256_wMt256
      have ekm : mq3741 256 10 - 1 = m 256 10 := by omega
      have hr2' : mq3741 (266 + (mq3741 256 10 - 1).toNat) 2 = m 256 15 := by rw [ekm, hr2]; rfl
      have hr3' : mq3741 (266 + (mq3741 256 10 - 1).toNat) 3 = 0 := by rw [ekm]; exact hr3
      have hk1 : m 256 10 ≤ 9 := by have := hTq3741.atp 256 10 0 10 rfl; omega
      refine y_if 38 33 c70_30 rfl rfl (yz_ne (by omega)) (fun hb3761 => ?_) (fun hb3761 => ?_)
      · refine y_aload 39 c70_38 rfl rfl rfl ?_
        refine y_dup 40 c70_39 rfl rfl ?_
        refine y_getX 43 ((m 2 2) + 1) c70_40 rfl kf2_2 ((hFq3741 2 2 rfl).trans (yup_eq _ _ _ _)) ?_
        refine y_iconst 44 c70_43 rfl ?_
        refine y_iadd 45 c70_44 rfl ?_
        refine y_putI 48 c70_45 rfl kf2_2 (y_fit0 _) ?_
        have hT3762 := hTq3741.up 2 2 (((m 2 2) + 1) + 1) 0 320 rfl (by omega)
        have hF3763 := hF3760.up 2 2 (((m 2 2) + 1) + 1) rfl
        refine y_aload 49 c70_48 rfl rfl rfl ?_
        refine y_getS 52 (B := 256) c70_49 rfl kf2_1 (by rw [show (yup mq3741 2 2 (((m 2 2) + 1) + 1)) 2 1 = 0 from by have e : (yup mq3741 2 2 (((m 2 2) + 1) + 1)) 2 1 = m 2 1 := ((yup_nk (by decide)).trans ((hFq3741 2 1 rfl).trans (yup_nk (by decide)))); omega]; rfl) ?_
        refine y_getR 55 c70_52 rfl kf256_5 ?_
        refine y_aload 56 c70_55 rfl rfl rfl ?_
        refine y_getS 59 (B := 256) c70_56 rfl kf2_1 (by rw [show (yup mq3741 2 2 (((m 2 2) + 1) + 1)) 2 1 = 0 from by have e : (yup mq3741 2 2 (((m 2 2) + 1) + 1)) 2 1 = m 2 1 := ((yup_nk (by decide)).trans ((hFq3741 2 1 rfl).trans (yup_nk (by decide)))); omega]; rfl) ?_
        refine y_getX 62 (mq3741 256 10) c70_59 rfl kf256_10 rfl ?_
        have tb3764 := hTq3741.atp 256 10 0 10 rfl
        refine y_iconst 63 c70_62 rfl ?_
        refine y_isub 64 c70_63 rfl ?_
        refine y_aaload 65 c70_64 rfl kr262 (by omega) ?_
        refine y_astore 66 c70_65 rfl rfl rfl ?_
        refine y_aload 67 c70_66 rfl rfl rfl ?_
        refine y_aload 68 c70_67 rfl rfl rfl ?_
        refine y_getS 71 (B := 256) c70_68 rfl kf2_1 (by rw [show (yup mq3741 2 2 (((m 2 2) + 1) + 1)) 2 1 = 0 from by have e : (yup mq3741 2 2 (((m 2 2) + 1) + 1)) 2 1 = m 2 1 := ((yup_nk (by decide)).trans ((hFq3741 2 1 rfl).trans (yup_nk (by decide)))); omega]; rfl) ?_
        refine y_getX 74 (m 256 16) c70_71 rfl kf256_16 ((yup_na (by decide)).trans ((hFq3741 256 16 rfl).trans (yup_na (by decide)))) ?_
        have tb3765 := hT.atp 256 16 0 40 rfl
        refine y_putI 77 c70_74 rfl (ff266_4 (by omega)) (y_fit0 _) ?_
        have hT3766 := hT3762.up (266 + ((mq3741 256 10) - 1).toNat) 4 (m 256 16) 0 40 (ft266_4 (by omega)) (by omega)
        have hF3767 := hF3763.up (266 + ((mq3741 256 10) - 1).toNat) 4 (m 256 16) (wMt256_m (by omega))
        refine y_aload 78 c70_77 rfl rfl rfl ?_
        refine y_iconst 80 c70_78 rfl ?_
        have es3769 : (yup (yup mq3741 2 2 (((m 2 2) + 1) + 1)) (266 + ((mq3741 256 10) - 1).toNat) 4 (m 256 16)) 2 2 = ((m 2 2) + 1) + 1 := ((yup_na (by omega)).trans (yup_eq _ _ _ _))
        refine y_callIB 83 [.ref 2, yI 40] [] c70_80 rfl rfl rfl rfl rfl (ycanO km37 ko2) (t37 hT3766 he (by have e1 : (yup (yup mq3741 2 2 (((m 2 2) + 1) + 1)) (266 + ((mq3741 256 10) - 1).toNat) 4 (m 256 16)) 5 e.toNat = m 5 e.toNat := ((yup_na (by omega)).trans ((yup_na (by decide)).trans ((hFq3741 5 e.toNat rfl).trans (yup_na (by decide))))); omega) (by omega) (by omega)) (fun rq3768 mq3768 nq3768 hq3768 => ?_)
        obtain ⟨rfl, hTq3768, hFq3768, hq3768⟩ := hq3768
        have hF3770 := hF3767.tr hFq3768 wAt_wMt256
        refine y_if 114 86 c70_83 rfl rfl (yz_eq (by omega)) (fun hb3771 => ?_) (fun hb3771 => ?_)
        · refine y_iconst 115 c70_114 rfl ?_
          refine y_istore 116 c70_115 rfl rfl ?_
          refine y_aload 117 c70_116 rfl rfl rfl ?_
          refine y_aload 118 c70_117 rfl rfl rfl ?_
          refine y_getS 121 (B := 256) c70_118 rfl kf2_1 (by rw [show mq3768 2 1 = 0 from by have e : mq3768 2 1 = m 2 1 := ((hFq3768 2 1 rfl).trans ((yup_na (by omega)).trans ((yup_nk (by decide)).trans ((hFq3741 2 1 rfl).trans (yup_nk (by decide)))))); omega]; rfl) ?_
          refine y_getX 124 (m 256 16) c70_121 rfl kf256_16 ((hFq3768 256 16 rfl).trans ((yup_na (by omega)).trans ((yup_na (by decide)).trans ((hFq3741 256 16 rfl).trans (yup_na (by decide)))))) ?_
          refine y_putI 127 c70_124 rfl (ff266_5 (by omega)) (y_fit0 _) ?_
          have hT3772 := hTq3768.up (266 + ((mq3741 256 10) - 1).toNat) 5 (m 256 16) 0 40 (ft266_5 (by omega)) (by omega)
          have hF3773 := hF3770.up (266 + ((mq3741 256 10) - 1).toNat) 5 (m 256 16) (wMt256_m (by omega))
          refine y_iload 128 c70_127 rfl rfl ?_
          have es3774 : (yup mq3768 (266 + ((mq3741 256 10) - 1).toNat) 5 (m 256 16)) 2 2 = mq3768 2 2 := (yup_na (by omega))
          have tb3775 := hTq3768.atp 2 2 0 320 rfl
          have es3776 : (yup mq3768 (266 + ((mq3741 256 10) - 1).toNat) 5 (m 256 16)) 256 16 = m 256 16 := ((yup_na (by omega)).trans ((hFq3768 256 16 rfl).trans ((yup_na (by omega)).trans ((yup_na (by decide)).trans ((hFq3741 256 16 rfl).trans (yup_na (by decide)))))))
          have es3777 : (yup mq3768 (266 + ((mq3741 256 10) - 1).toNat) 5 (m 256 16)) 256 12 = m 256 12 := ((yup_na (by omega)).trans ((hFq3768 256 12 rfl).trans ((yup_na (by omega)).trans ((yup_na (by decide)).trans ((hFq3741 256 12 rfl).trans (yup_na (by decide)))))))
          have tb3778 := hT.atp 256 12 0 12 rfl
          have es3779 : (yup mq3768 (266 + ((mq3741 256 10) - 1).toNat) 5 (m 256 16)) 256 13 = m 256 13 := ((yup_na (by omega)).trans ((hFq3768 256 13 rfl).trans ((yup_na (by omega)).trans ((yup_na (by decide)).trans ((hFq3741 256 13 rfl).trans (yup_na (by decide)))))))
          have tb3780 := hT.atp 256 13 0 8 rfl
          have es3781 : (yup mq3768 (266 + ((mq3741 256 10) - 1).toNat) 5 (m 256 16)) 256 10 = mq3741 256 10 := ((yup_na (by omega)).trans ((hFq3768 256 10 rfl).trans ((yup_na (by omega)).trans (yup_na (by decide)))))
          refine y_retI c70_128 (y_fit1 (by omega)) ⟨rfl, hT3772, hF3773, by omega, fun z hz => ((yup_na (by omega)).trans ((hFq3768 265 z rfl).trans ((yup_na (by omega)).trans ((yup_na (by decide)).trans ((hFq3741 265 z rfl).trans (yup_na (by decide))))))), fun hM => ((((hMq3741 ((hM).na (by decide))).na (by decide)).fr (fun _ _ => yup_nk (by decide)) (fun _ _ => yup_nk (by decide))).fr (fun k hk => hFq3768 _ _ wAt_n266) (fun k hk => hFq3768 _ _ wAt_n266)).fr (fun _ _ => yup_nk (by decide)) (fun _ _ => yup_nk (by decide)), fun h1 => ?_⟩
          omega
        · refine y_aload 87 c70_86 rfl rfl rfl ?_
          have tb3783 := hTq3768.atp 2 2 0 320 rfl
          have es3784 : mq3768 2 1 = m 2 1 := ((hFq3768 2 1 rfl).trans ((yup_na (by omega)).trans ((yup_nk (by decide)).trans ((hFq3741 2 1 rfl).trans (yup_nk (by decide))))))
          have tb3785 := hT.atp 2 1 ((-1)) 1 rfl
          have es3786 : mq3768 256 10 = mq3741 256 10 := ((hFq3768 256 10 rfl).trans ((yup_na (by omega)).trans (yup_na (by decide))))
          have es3787 : mq3768 256 15 = mq3741 256 15 := ((hFq3768 256 15 rfl).trans ((yup_na (by omega)).trans (yup_na (by decide))))
          have tb3788 := hTq3741.atp 256 15 0 48 rfl
          have es3789 : mq3768 (266 + ((mq3741 256 10) - 1).toNat) 2 = mq3741 (266 + ((mq3741 256 10) - 1).toNat) 2 := ((hFq3768 (266 + ((mq3741 256 10) - 1).toNat) 2 wAt_n266).trans ((yup_nk (by decide)).trans (yup_na (by omega))))
          have tb3790 := hTq3741.atp (266 + ((mq3741 256 10) - 1).toNat) 2 0 46 (ft266_2 (by omega))
          have es3791 : mq3768 (266 + ((mq3741 256 10) - 1).toNat) 3 = mq3741 (266 + ((mq3741 256 10) - 1).toNat) 3 := ((hFq3768 (266 + ((mq3741 256 10) - 1).toNat) 3 wAt_n266).trans ((yup_nk (by decide)).trans (yup_na (by omega))))
          have tb3792 := hTq3741.atp (266 + ((mq3741 256 10) - 1).toNat) 3 0 2 (ft266_3 (by omega))
          refine y_callIB 90 [.ref 2] [] c70_87 rfl rfl rfl rfl rfl (ycanO km55 ko2) (t55_256 (k := ((mq3741 256 10) - 1)) hTq3768 he (by have e1 : mq3768 5 e.toNat = m 5 e.toNat := ((hFq3768 5 e.toNat rfl).trans ((yup_na (by omega)).trans ((yup_na (by decide)).trans ((hFq3741 5 e.toNat rfl).trans (yup_na (by decide)))))); omega) (by omega) (by omega) (by omega) (by omega) (by omega) (by omega)) (fun rq3782 mq3782 nq3782 hq3782 => ?_)
          obtain ⟨rfl, hTq3782, hFq3782, hq3782, hMq3782⟩ := hq3782
          have hF3793 := hF3770.tr hFq3782 wPr256_wMt256
          refine y_if 114 93 c70_90 rfl rfl (yz_eq (by omega)) (fun hb3794 => ?_) (fun hb3794 => ?_)
          · refine y_iconst 115 c70_114 rfl ?_
            refine y_istore 116 c70_115 rfl rfl ?_
            refine y_aload 117 c70_116 rfl rfl rfl ?_
            refine y_aload 118 c70_117 rfl rfl rfl ?_
            refine y_getS 121 (B := 256) c70_118 rfl kf2_1 (by rw [show mq3782 2 1 = 0 from by have e : mq3782 2 1 = m 2 1 := ((hFq3782 2 1 rfl).trans ((hFq3768 2 1 rfl).trans ((yup_na (by omega)).trans ((yup_nk (by decide)).trans ((hFq3741 2 1 rfl).trans (yup_nk (by decide))))))); omega]; rfl) ?_
            refine y_getX 124 (m 256 16) c70_121 rfl kf256_16 ((hFq3782 256 16 rfl).trans ((hFq3768 256 16 rfl).trans ((yup_na (by omega)).trans ((yup_na (by decide)).trans ((hFq3741 256 16 rfl).trans (yup_na (by decide))))))) ?_
            refine y_putI 127 c70_124 rfl (ff266_5 (by omega)) (y_fit0 _) ?_
            have hT3795 := hTq3782.up (266 + ((mq3741 256 10) - 1).toNat) 5 (m 256 16) 0 40 (ft266_5 (by omega)) (by omega)
            have hF3796 := hF3793.up (266 + ((mq3741 256 10) - 1).toNat) 5 (m 256 16) (wMt256_m (by omega))
            refine y_iload 128 c70_127 rfl rfl ?_
            have es3797 : (yup mq3782 (266 + ((mq3741 256 10) - 1).toNat) 5 (m 256 16)) 2 2 = mq3782 2 2 := (yup_na (by omega))
            have tb3798 := hTq3782.atp 2 2 0 320 rfl
            have es3799 : (yup mq3782 (266 + ((mq3741 256 10) - 1).toNat) 5 (m 256 16)) 256 16 = m 256 16 := ((yup_na (by omega)).trans ((hFq3782 256 16 rfl).trans ((hFq3768 256 16 rfl).trans ((yup_na (by omega)).trans ((yup_na (by decide)).trans ((hFq3741 256 16 rfl).trans (yup_na (by decide))))))))
            have es3800 : (yup mq3782 (266 + ((mq3741 256 10) - 1).toNat) 5 (m 256 16)) 256 12 = m 256 12 := ((yup_na (by omega)).trans ((hFq3782 256 12 rfl).trans ((hFq3768 256 12 rfl).trans ((yup_na (by omega)).trans ((yup_na (by decide)).trans ((hFq3741 256 12 rfl).trans (yup_na (by decide))))))))
            have tb3801 := hT.atp 256 12 0 12 rfl
            have es3802 : (yup mq3782 (266 + ((mq3741 256 10) - 1).toNat) 5 (m 256 16)) 256 13 = m 256 13 := ((yup_na (by omega)).trans ((hFq3782 256 13 rfl).trans ((hFq3768 256 13 rfl).trans ((yup_na (by omega)).trans ((yup_na (by decide)).trans ((hFq3741 256 13 rfl).trans (yup_na (by decide))))))))
            have tb3803 := hT.atp 256 13 0 8 rfl
            have es3804 : (yup mq3782 (266 + ((mq3741 256 10) - 1).toNat) 5 (m 256 16)) 256 10 = mq3741 256 10 := ((yup_na (by omega)).trans ((hFq3782 256 10 rfl).trans ((hFq3768 256 10 rfl).trans ((yup_na (by omega)).trans (yup_na (by decide))))))
            refine y_retI c70_128 (y_fit1 (by omega)) ⟨rfl, hT3795, hF3796, by omega, fun z hz => ((yup_na (by omega)).trans ((hFq3782 265 z rfl).trans ((hFq3768 265 z rfl).trans ((yup_na (by omega)).trans ((yup_na (by decide)).trans ((hFq3741 265 z rfl).trans (yup_na (by decide)))))))), fun hM => (hMq3782 ((((hMq3741 ((hM).na (by decide))).na (by decide)).fr (fun _ _ => yup_nk (by decide)) (fun _ _ => yup_nk (by decide))).fr (fun k hk => hFq3768 _ _ wAt_n266) (fun k hk => hFq3768 _ _ wAt_n266))).fr (fun _ _ => yup_nk (by decide)) (fun _ _ => yup_nk (by decide)), fun h1 => ?_⟩
            omega
          · refine y_aload 94 c70_93 rfl rfl rfl ?_
            refine y_iconst 96 c70_94 rfl ?_
            have tb3806 := hTq3782.atp 2 2 0 320 rfl
            refine y_callIB 99 [.ref 2, yI 41] [] c70_96 rfl rfl rfl rfl rfl (ycanO km37 ko2) (t37 hTq3782 he (by have e1 : mq3782 5 e.toNat = m 5 e.toNat := ((hFq3782 5 e.toNat rfl).trans ((hFq3768 5 e.toNat rfl).trans ((yup_na (by omega)).trans ((yup_na (by decide)).trans ((hFq3741 5 e.toNat rfl).trans (yup_na (by decide))))))); omega) (by omega) (by omega)) (fun rq3805 mq3805 nq3805 hq3805 => ?_)
            obtain ⟨rfl, hTq3805, hFq3805, hq3805⟩ := hq3805
            have hF3807 := hF3793.tr hFq3805 wAt_wMt256
            refine y_if 114 102 c70_99 rfl rfl (yz_eq (by omega)) (fun hb3808 => ?_) (fun hb3808 => ?_)
            · refine y_iconst 115 c70_114 rfl ?_
              refine y_istore 116 c70_115 rfl rfl ?_
              refine y_aload 117 c70_116 rfl rfl rfl ?_
              refine y_aload 118 c70_117 rfl rfl rfl ?_
              refine y_getS 121 (B := 256) c70_118 rfl kf2_1 (by rw [show mq3805 2 1 = 0 from by have e : mq3805 2 1 = m 2 1 := ((hFq3805 2 1 rfl).trans ((hFq3782 2 1 rfl).trans ((hFq3768 2 1 rfl).trans ((yup_na (by omega)).trans ((yup_nk (by decide)).trans ((hFq3741 2 1 rfl).trans (yup_nk (by decide)))))))); omega]; rfl) ?_
              refine y_getX 124 (m 256 16) c70_121 rfl kf256_16 ((hFq3805 256 16 rfl).trans ((hFq3782 256 16 rfl).trans ((hFq3768 256 16 rfl).trans ((yup_na (by omega)).trans ((yup_na (by decide)).trans ((hFq3741 256 16 rfl).trans (yup_na (by decide)))))))) ?_
              refine y_putI 127 c70_124 rfl (ff266_5 (by omega)) (y_fit0 _) ?_
              have hT3809 := hTq3805.up (266 + ((mq3741 256 10) - 1).toNat) 5 (m 256 16) 0 40 (ft266_5 (by omega)) (by omega)
              have hF3810 := hF3807.up (266 + ((mq3741 256 10) - 1).toNat) 5 (m 256 16) (wMt256_m (by omega))
              refine y_iload 128 c70_127 rfl rfl ?_
              have es3811 : (yup mq3805 (266 + ((mq3741 256 10) - 1).toNat) 5 (m 256 16)) 2 2 = mq3805 2 2 := (yup_na (by omega))
              have tb3812 := hTq3805.atp 2 2 0 320 rfl
              have es3813 : (yup mq3805 (266 + ((mq3741 256 10) - 1).toNat) 5 (m 256 16)) 256 16 = m 256 16 := ((yup_na (by omega)).trans ((hFq3805 256 16 rfl).trans ((hFq3782 256 16 rfl).trans ((hFq3768 256 16 rfl).trans ((yup_na (by omega)).trans ((yup_na (by decide)).trans ((hFq3741 256 16 rfl).trans (yup_na (by decide)))))))))
              have es3814 : (yup mq3805 (266 + ((mq3741 256 10) - 1).toNat) 5 (m 256 16)) 256 12 = m 256 12 := ((yup_na (by omega)).trans ((hFq3805 256 12 rfl).trans ((hFq3782 256 12 rfl).trans ((hFq3768 256 12 rfl).trans ((yup_na (by omega)).trans ((yup_na (by decide)).trans ((hFq3741 256 12 rfl).trans (yup_na (by decide)))))))))
              have tb3815 := hT.atp 256 12 0 12 rfl
              have es3816 : (yup mq3805 (266 + ((mq3741 256 10) - 1).toNat) 5 (m 256 16)) 256 13 = m 256 13 := ((yup_na (by omega)).trans ((hFq3805 256 13 rfl).trans ((hFq3782 256 13 rfl).trans ((hFq3768 256 13 rfl).trans ((yup_na (by omega)).trans ((yup_na (by decide)).trans ((hFq3741 256 13 rfl).trans (yup_na (by decide)))))))))
              have tb3817 := hT.atp 256 13 0 8 rfl
              have es3818 : (yup mq3805 (266 + ((mq3741 256 10) - 1).toNat) 5 (m 256 16)) 256 10 = mq3741 256 10 := ((yup_na (by omega)).trans ((hFq3805 256 10 rfl).trans ((hFq3782 256 10 rfl).trans ((hFq3768 256 10 rfl).trans ((yup_na (by omega)).trans (yup_na (by decide)))))))
              refine y_retI c70_128 (y_fit1 (by omega)) ⟨rfl, hT3809, hF3810, by omega, fun z hz => ((yup_na (by omega)).trans ((hFq3805 265 z rfl).trans ((hFq3782 265 z rfl).trans ((hFq3768 265 z rfl).trans ((yup_na (by omega)).trans ((yup_na (by decide)).trans ((hFq3741 265 z rfl).trans (yup_na (by decide))))))))), fun hM => ((hMq3782 ((((hMq3741 ((hM).na (by decide))).na (by decide)).fr (fun _ _ => yup_nk (by decide)) (fun _ _ => yup_nk (by decide))).fr (fun k hk => hFq3768 _ _ wAt_n266) (fun k hk => hFq3768 _ _ wAt_n266))).fr (fun k hk => hFq3805 _ _ wAt_n266) (fun k hk => hFq3805 _ _ wAt_n266)).fr (fun _ _ => yup_nk (by decide)) (fun _ _ => yup_nk (by decide)), fun h1 => ?_⟩
              omega
            · refine y_aload 103 c70_102 rfl rfl rfl ?_
              refine y_iconst 104 c70_103 rfl ?_
              have tb3820 := hTq3805.atp 2 2 0 320 rfl
              have es3821 : mq3805 2 1 = m 2 1 := ((hFq3805 2 1 rfl).trans ((hFq3782 2 1 rfl).trans ((hFq3768 2 1 rfl).trans ((yup_na (by omega)).trans ((yup_nk (by decide)).trans ((hFq3741 2 1 rfl).trans (yup_nk (by decide))))))))
              have es3822 : mq3805 256 10 = mq3741 256 10 := ((hFq3805 256 10 rfl).trans ((hFq3782 256 10 rfl).trans ((hFq3768 256 10 rfl).trans ((yup_na (by omega)).trans (yup_na (by decide))))))
              have es3823 : mq3805 256 12 = m 256 12 := ((hFq3805 256 12 rfl).trans ((hFq3782 256 12 rfl).trans ((hFq3768 256 12 rfl).trans ((yup_na (by omega)).trans ((yup_na (by decide)).trans ((hFq3741 256 12 rfl).trans (yup_na (by decide))))))))
              have tb3824 := hT.atp 256 12 0 12 rfl
              have es3825 : mq3805 256 13 = m 256 13 := ((hFq3805 256 13 rfl).trans ((hFq3782 256 13 rfl).trans ((hFq3768 256 13 rfl).trans ((yup_na (by omega)).trans ((yup_na (by decide)).trans ((hFq3741 256 13 rfl).trans (yup_na (by decide))))))))
              have tb3826 := hT.atp 256 13 0 8 rfl
              have es3827 : mq3805 256 16 = m 256 16 := ((hFq3805 256 16 rfl).trans ((hFq3782 256 16 rfl).trans ((hFq3768 256 16 rfl).trans ((yup_na (by omega)).trans ((yup_na (by decide)).trans ((hFq3741 256 16 rfl).trans (yup_na (by decide))))))))
              refine y_callIB 107 [.ref 2, yI 0] [] c70_104 rfl rfl rfl rfl rfl (ycanO km69 ko2) (t69_256 hTq3805 he (by have e1 : mq3805 5 e.toNat = m 5 e.toNat := ((hFq3805 5 e.toNat rfl).trans ((hFq3782 5 e.toNat rfl).trans ((hFq3768 5 e.toNat rfl).trans ((yup_na (by omega)).trans ((yup_na (by decide)).trans ((hFq3741 5 e.toNat rfl).trans (yup_na (by decide)))))))); omega) (by omega) (by omega) (by omega)) (fun rq3819 mq3819 nq3819 hq3819 => ?_)
              obtain ⟨rfl, hTq3819, hFq3819, hq3819, hZq3819, hGq3819⟩ := hq3819
              have es16q3819 : mq3805 256 16 = m 256 16 := ((hFq3805 256 16 rfl).trans ((hFq3782 256 16 rfl).trans ((hFq3768 256 16 rfl).trans ((yup_na (by omega)).trans ((yup_na (by decide)).trans ((hFq3741 256 16 rfl).trans (yup_na (by decide))))))))
              have hF3828 := hF3807.tr hFq3819 (by rw [es16q3819]; exact wBo256_wMt256)
              refine y_if 114 110 c70_107 rfl rfl (yz_eq (by omega)) (fun hb3829 => ?_) (fun hb3829 => ?_)
              · refine y_iconst 115 c70_114 rfl ?_
                refine y_istore 116 c70_115 rfl rfl ?_
                refine y_aload 117 c70_116 rfl rfl rfl ?_
                refine y_aload 118 c70_117 rfl rfl rfl ?_
                refine y_getS 121 (B := 256) c70_118 rfl kf2_1 (by rw [show mq3819 2 1 = 0 from by have e : mq3819 2 1 = m 2 1 := ((hFq3819 2 1 ((wBo256_lt (by decide)).trans rfl)).trans ((hFq3805 2 1 rfl).trans ((hFq3782 2 1 rfl).trans ((hFq3768 2 1 rfl).trans ((yup_na (by omega)).trans ((yup_nk (by decide)).trans ((hFq3741 2 1 rfl).trans (yup_nk (by decide))))))))); omega]; rfl) ?_
                refine y_getX 124 (mq3819 256 16) c70_121 rfl kf256_16 rfl ?_
                have tb3830 := hTq3819.atp 256 16 0 40 rfl
                refine y_putI 127 c70_124 rfl (ff266_5 (by omega)) (y_fit0 _) ?_
                have hT3831 := hTq3819.up (266 + ((mq3741 256 10) - 1).toNat) 5 (mq3819 256 16) 0 40 (ft266_5 (by omega)) (by omega)
                have hF3832 := hF3828.up (266 + ((mq3741 256 10) - 1).toNat) 5 (mq3819 256 16) (wMt256_m (by omega))
                refine y_iload 128 c70_127 rfl rfl ?_
                have es3833 : (yup mq3819 (266 + ((mq3741 256 10) - 1).toNat) 5 (mq3819 256 16)) 2 2 = mq3819 2 2 := (yup_na (by omega))
                have tb3834 := hTq3819.atp 2 2 0 320 rfl
                have es3835 : (yup mq3819 (266 + ((mq3741 256 10) - 1).toNat) 5 (mq3819 256 16)) 256 16 = mq3819 256 16 := (yup_na (by omega))
                have es3836 : (yup mq3819 (266 + ((mq3741 256 10) - 1).toNat) 5 (mq3819 256 16)) 256 12 = mq3819 256 12 := (yup_na (by omega))
                have tb3837 := hTq3819.atp 256 12 0 12 rfl
                have es3838 : (yup mq3819 (266 + ((mq3741 256 10) - 1).toNat) 5 (mq3819 256 16)) 256 13 = mq3819 256 13 := (yup_na (by omega))
                have tb3839 := hTq3819.atp 256 13 0 8 rfl
                have es3840 : (yup mq3819 (266 + ((mq3741 256 10) - 1).toNat) 5 (mq3819 256 16)) 256 10 = mq3741 256 10 := ((yup_na (by omega)).trans ((hFq3819 256 10 ((wBo256_lt (by decide)).trans rfl)).trans ((hFq3805 256 10 rfl).trans ((hFq3782 256 10 rfl).trans ((hFq3768 256 10 rfl).trans ((yup_na (by omega)).trans (yup_na (by decide))))))))
                refine y_retI c70_128 (y_fit1 (by omega)) ⟨rfl, hT3831, hF3832, by omega, fun z hz => ((yup_na (by omega)).trans ((hZq3819 z (by omega)).trans ((hFq3805 265 z rfl).trans ((hFq3782 265 z rfl).trans ((hFq3768 265 z rfl).trans ((yup_na (by omega)).trans ((yup_na (by decide)).trans ((hFq3741 265 z rfl).trans (yup_na (by decide)))))))))), fun hM => (((hMq3782 ((((hMq3741 ((hM).na (by decide))).na (by decide)).fr (fun _ _ => yup_nk (by decide)) (fun _ _ => yup_nk (by decide))).fr (fun k hk => hFq3768 _ _ wAt_n266) (fun k hk => hFq3768 _ _ wAt_n266))).fr (fun k hk => hFq3805 _ _ wAt_n266) (fun k hk => hFq3805 _ _ wAt_n266)).fr (fun k hk => hFq3819 _ _ (wBo256_n266 (by omega))) (fun k hk => hFq3819 _ _ (wBo256_n266 (by omega)))).fr (fun _ _ => yup_nk (by decide)) (fun _ _ => yup_nk (by decide)), fun h1 => ?_⟩
                omega
              · refine y_iconst 111 c70_110 rfl ?_
                refine y_goto 115 c70_111 rfl ?_
                refine y_istore 116 c70_115 rfl rfl ?_
                refine y_aload 117 c70_116 rfl rfl rfl ?_
                refine y_aload 118 c70_117 rfl rfl rfl ?_
                refine y_getS 121 (B := 256) c70_118 rfl kf2_1 (by rw [show mq3819 2 1 = 0 from by have e : mq3819 2 1 = m 2 1 := ((hFq3819 2 1 ((wBo256_lt (by decide)).trans rfl)).trans ((hFq3805 2 1 rfl).trans ((hFq3782 2 1 rfl).trans ((hFq3768 2 1 rfl).trans ((yup_na (by omega)).trans ((yup_nk (by decide)).trans ((hFq3741 2 1 rfl).trans (yup_nk (by decide))))))))); omega]; rfl) ?_
                refine y_getX 124 (mq3819 256 16) c70_121 rfl kf256_16 rfl ?_
                have tb3841 := hTq3819.atp 256 16 0 40 rfl
                refine y_putI 127 c70_124 rfl (ff266_5 (by omega)) (y_fit0 _) ?_
                have hT3842 := hTq3819.up (266 + ((mq3741 256 10) - 1).toNat) 5 (mq3819 256 16) 0 40 (ft266_5 (by omega)) (by omega)
                have hF3843 := hF3828.up (266 + ((mq3741 256 10) - 1).toNat) 5 (mq3819 256 16) (wMt256_m (by omega))
                refine y_iload 128 c70_127 rfl rfl ?_
                have es3844 : (yup mq3819 (266 + ((mq3741 256 10) - 1).toNat) 5 (mq3819 256 16)) 2 2 = mq3819 2 2 := (yup_na (by omega))
                have tb3845 := hTq3819.atp 2 2 0 320 rfl
                have es3846 : (yup mq3819 (266 + ((mq3741 256 10) - 1).toNat) 5 (mq3819 256 16)) 256 16 = mq3819 256 16 := (yup_na (by omega))
                have es3847 : (yup mq3819 (266 + ((mq3741 256 10) - 1).toNat) 5 (mq3819 256 16)) 256 12 = mq3819 256 12 := (yup_na (by omega))
                have tb3848 := hTq3819.atp 256 12 0 12 rfl
                have es3849 : (yup mq3819 (266 + ((mq3741 256 10) - 1).toNat) 5 (mq3819 256 16)) 256 13 = mq3819 256 13 := (yup_na (by omega))
                have tb3850 := hTq3819.atp 256 13 0 8 rfl
                have es3851 : (yup mq3819 (266 + ((mq3741 256 10) - 1).toNat) 5 (mq3819 256 16)) 256 10 = mq3741 256 10 := ((yup_na (by omega)).trans ((hFq3819 256 10 ((wBo256_lt (by decide)).trans rfl)).trans ((hFq3805 256 10 rfl).trans ((hFq3782 256 10 rfl).trans ((hFq3768 256 10 rfl).trans ((yup_na (by omega)).trans (yup_na (by decide))))))))
                refine y_retI c70_128 (y_fit1 (by omega)) ⟨rfl, hT3842, hF3843, by omega, fun z hz => ((yup_na (by omega)).trans ((hZq3819 z (by omega)).trans ((hFq3805 265 z rfl).trans ((hFq3782 265 z rfl).trans ((hFq3768 265 z rfl).trans ((yup_na (by omega)).trans ((yup_na (by decide)).trans ((hFq3741 265 z rfl).trans (yup_na (by decide)))))))))), fun hM => (((hMq3782 ((((hMq3741 ((hM).na (by decide))).na (by decide)).fr (fun _ _ => yup_nk (by decide)) (fun _ _ => yup_nk (by decide))).fr (fun k hk => hFq3768 _ _ wAt_n266) (fun k hk => hFq3768 _ _ wAt_n266))).fr (fun k hk => hFq3805 _ _ wAt_n266) (fun k hk => hFq3805 _ _ wAt_n266)).fr (fun k hk => hFq3819 _ _ (wBo256_n266 (by omega))) (fun k hk => hFq3819 _ _ (wBo256_n266 (by omega)))).fr (fun _ _ => yup_nk (by decide)) (fun _ _ => yup_nk (by decide)), fun h1 => ?_⟩
                obtain ⟨g1, n1⟩ := hGq3819 (by omega)
                have g2 := g1.fr (m' := yup mq3819 (266 + ((mq3741 256 10) - 1).toNat) 5 (mq3819 256 16)) (c3 := (yup mq3819 (266 + ((mq3741 256 10) - 1).toNat) 5 (mq3819 256 16)) 256 12) (fun j ja jb q _ => yup_na (by omega)) (fun z za zb => yup_na (by omega)) (by omega)
                have n2 := n1.fr (m' := yup mq3819 (266 + ((mq3741 256 10) - 1).toNat) 5 (mq3819 256 16)) (c2 := (yup mq3819 (266 + ((mq3741 256 10) - 1).toNat) 5 (mq3819 256 16)) 256 16) (fun j ja jb q => yup_na (by omega)) (by omega)
                refine ⟨by omega, cast (by congr 1 <;> omega) g2, cast (by congr 1 <;> omega) n2, fun j hj => ((yup_na (by omega)).trans ((hFq3819 _ _ (wBo256_n266 (by omega))).trans ((hFq3805 _ _ wAt_n266).trans ((hFq3782 _ _ wPr256_5).trans ((hFq3768 _ _ wAt_n266).trans ((yup_nk (by decide)).trans ((yup_na (by omega)).trans ((hNq3741 j).trans (yup_na (by omega)))))))))), ?_⟩
                rw [show (m 256 10).toNat = ((mq3741 256 10) - 1).toNat by omega, yup_eq]; omega
      · exfalso; omega

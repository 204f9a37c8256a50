section
/-! CONTRACTS: methods. Printed by wip/whole/gen90.py -/
set_option maxRecDepth 100000 in
theorem t8_go {L : Nat} {xs : Nat → Int32} {d nn : Nat} {m : yM}  : YC (gZ L xs) (d + 5) 8 [.retAddr 21] m nn (qP m nn (fun r => -2147483648 ≤ r ∧ r < 2147483648)) := by
  refine YC.mkB [some (.retAddr 21), none, none] kn8 rfl rfl ?_
  refine y_iconst 1 c8_0 rfl ?_
  refine y_istore 2 c8_1 rfl rfl ?_
  refine y_iconst 3 c8_2 rfl ?_
  refine y_istore 4 c8_3 rfl rfl ?_
  refine y_iload 5 c8_4 rfl rfl ?_
  refine y_aload 6 c8_5 rfl rfl rfl ?_
  refine y_inlB 9 [.retAddr 21] [yI 0] [some (.retAddr 21)] c8_6 rfl rfl rfl rfl rfl (ycanT km1 (show 20 % 2 = 0 ∧ 20 / 2 < gLit.length by decide)) kn1 rfl rfl ?_
  refine y_aload 1 c1_0 rfl rfl rfl ?_
  refine y_text 4 (j := 20) c1_1 rfl (show 20 % 2 = 0 ∧ 20 / 2 < gLit.length by decide) ?_
  refine y_blen 5 (j := 21) c1_4 rfl (show 21 % 2 = 1 ∧ 21 / 2 < gLit.length by decide) ?_
  refine y_top 2 (show ((gLit.getD (21 / 2) []).length : Int) = 2 by decide) ?_
  refine y_aload 6 c1_5 rfl rfl rfl ?_
  refine y_inlB 9 [.retAddr 21] [yI 2] [some (.retAddr 21)] c1_6 rfl rfl rfl rfl rfl (ycanT km0 (show 20 % 2 = 0 ∧ 20 / 2 < gLit.length by decide)) kn0 rfl rfl ?_
  refine y_static0 3 c0_0 rfl ?_
  refine y_if 13 6 c0_3 rfl rfl (yz_eq (by omega)) (fun hb3675 => ?_) (fun hb3675 => ?_)
  · exfalso; omega
  · refine y_aload 7 c0_6 rfl rfl rfl ?_
    refine y_coder 10 (j := 20) c0_7 rfl (show 20 % 2 = 0 ∧ 20 / 2 < gLit.length by decide) ?_
    refine y_goto 14 c0_10 rfl ?_
    refine y_ireturnK c0_14 rfl ?_
    refine y_ishr 10 c1_9 rfl ?_
    refine y_top 2 (by decide) ?_
    refine y_ireturnK c1_10 (y_fit0 _) ?_
    refine y_icmp 28 12 c8_9 rfl rfl (yc_ge (by omega) (by omega)) (fun hb3676 => ?_) (fun hb3676 => ?_)
    · exfalso; omega
    · refine y_iload 13 c8_12 rfl rfl ?_
      refine y_aload 14 c8_13 rfl rfl rfl ?_
      refine y_iload 15 c8_14 rfl rfl ?_
      refine y_inlB 18 [.retAddr 21, yI 0] [yI 0] [some (.retAddr 21), some (yI 0)] c8_15 rfl rfl rfl rfl rfl (ycanT km6 (show 20 % 2 = 0 ∧ 20 / 2 < gLit.length by decide)) kn6 rfl rfl ?_
      refine y_aload 1 c6_0 rfl rfl rfl ?_
      refine y_inlB 4 [.retAddr 21] [] [some (.retAddr 21)] c6_1 rfl rfl rfl rfl rfl (ycanT km2 (show 20 % 2 = 0 ∧ 20 / 2 < gLit.length by decide)) kn2 rfl rfl ?_
      refine y_static0 3 c2_0 rfl ?_
      refine y_if 17 6 c2_3 rfl rfl (yz_eq (by omega)) (fun hb3677 => ?_) (fun hb3677 => ?_)
      · exfalso; omega
      · refine y_aload 7 c2_6 rfl rfl rfl ?_
        refine y_coder 10 (j := 20) c2_7 rfl (show 20 % 2 = 0 ∧ 20 / 2 < gLit.length by decide) ?_
        refine y_if 17 13 c2_10 rfl rfl (yz_ne (by omega)) (fun hb3678 => ?_) (fun hb3678 => ?_)
        · exfalso; omega
        · refine y_iconst 14 c2_13 rfl ?_
          refine y_goto 18 c2_14 rfl ?_
          refine y_ireturnK c2_18 (y_fit1 (by omega)) ?_
          refine y_if 16 7 c6_4 rfl rfl (yz_eq (by omega)) (fun hb3679 => ?_) (fun hb3679 => ?_)
          · exfalso; omega
          · refine y_aload 8 c6_7 rfl rfl rfl ?_
            refine y_text 11 (j := 20) c6_8 rfl (show 20 % 2 = 0 ∧ 20 / 2 < gLit.length by decide) ?_
            refine y_iload 12 c6_11 rfl rfl ?_
            refine y_inlB 15 [.retAddr 22, yI 0] [] [some (.retAddr 22), some (yI 0)] c6_12 rfl rfl rfl rfl rfl (ycanS km5) kn5 rfl rfl ?_
            refine y_iload 1 c5_0 rfl rfl ?_
            refine y_aload 2 c5_1 rfl rfl rfl ?_
            refine y_blen 3 (j := 21) c5_2 rfl (show 21 % 2 = 1 ∧ 21 / 2 < gLit.length by decide) ?_
            refine y_top 2 (show ((gLit.getD (21 / 2) []).length : Int) = 2 by decide) ?_
            refine y_inlB 6 [yI 0, yI 2] [] [some (yI 0), some (yI 2)] c5_3 rfl rfl rfl rfl rfl (ycanS km4) kn4 rfl rfl ?_
            refine y_iload 1 c4_0 rfl rfl ?_
            refine y_iload 2 c4_1 rfl rfl ?_
            refine y_static1 5 c4_2 rfl ?_
            refine y_inlB 8 [yI 0, yI 2, .float 0] [] [some (yI 0), some (yI 2), some (.float 0)] c4_5 rfl rfl rfl rfl rfl (ycanS km3) kn3 rfl rfl ?_
            refine y_iload 1 c3_0 rfl rfl ?_
            refine y_if 9 4 c3_1 rfl rfl (yz_lt (by omega)) (fun hb3680 => ?_) (fun hb3680 => ?_)
            · exfalso; omega
            · refine y_iload 5 c3_4 rfl rfl ?_
              refine y_iload 6 c3_5 rfl rfl ?_
              refine y_icmp 16 9 c3_6 rfl rfl (yc_lt (by omega) (by omega)) (fun hb3681 => ?_) (fun hb3681 => ?_)
              · refine y_iload 17 c3_16 rfl rfl ?_
                refine y_ireturnK c3_17 (y_fit0 _) ?_
                refine y_pop 9 c4_8 rfl rfl ?_
                refine y_returnK c4_9 ?_
                refine y_aload 7 c5_6 rfl rfl rfl ?_
                refine y_iload 8 c5_7 rfl rfl ?_
                refine y_byte 9 (j := 21) c5_8 rfl (show 21 % 2 = 1 ∧ 21 / 2 < gLit.length by decide) (show (gLit.getD (21 / 2) []).length ≤ 100000 by decide) (show (0 : Int) ≤ 0 ∧ (0 : Int) < (gLit.getD (21 / 2) []).length by decide) ?_
                refine y_top 103 (show ((gLit.getD (21 / 2) []).getD (Int.toNat 0) 0).toInt = 103 by decide) ?_
                refine y_iconst 12 c5_9 rfl ?_
                refine y_iand 13 c5_12 rfl ?_
                refine y_top 103 (by decide) ?_
                refine y_i2cN 14 c5_13 rfl (by omega) ?_
                refine y_ireturnK c5_14 rfl ?_
                refine y_ireturnK c6_15 rfl ?_
                refine y_callP 21 [yI 0, yI 103] [] c8_18 rfl rfl rfl rfl rfl (ycanS km7) t7 (fun r3682 hr3682 => ?_)
                refine y_istore 22 c8_21 rfl rfl ?_
                refine y_iincN 25 1 c8_22 rfl rfl (by decide) rfl ?_
                refine y_goto 4 c8_25 rfl ?_
                refine y_iload 5 c8_4 rfl rfl ?_
                refine y_aload 6 c8_5 rfl rfl rfl ?_
                refine y_inlB 9 [.retAddr 21] [yI 1] [some (.retAddr 21)] c8_6 rfl rfl rfl rfl rfl (ycanT km1 (show 20 % 2 = 0 ∧ 20 / 2 < gLit.length by decide)) kn1 rfl rfl ?_
                refine y_aload 1 c1_0 rfl rfl rfl ?_
                refine y_text 4 (j := 20) c1_1 rfl (show 20 % 2 = 0 ∧ 20 / 2 < gLit.length by decide) ?_
                refine y_blen 5 (j := 21) c1_4 rfl (show 21 % 2 = 1 ∧ 21 / 2 < gLit.length by decide) ?_
                refine y_top 2 (show ((gLit.getD (21 / 2) []).length : Int) = 2 by decide) ?_
                refine y_aload 6 c1_5 rfl rfl rfl ?_
                refine y_inlB 9 [.retAddr 21] [yI 2] [some (.retAddr 21)] c1_6 rfl rfl rfl rfl rfl (ycanT km0 (show 20 % 2 = 0 ∧ 20 / 2 < gLit.length by decide)) kn0 rfl rfl ?_
                refine y_static0 3 c0_0 rfl ?_
                refine y_if 13 6 c0_3 rfl rfl (yz_eq (by omega)) (fun hb3683 => ?_) (fun hb3683 => ?_)
                · exfalso; omega
                · refine y_aload 7 c0_6 rfl rfl rfl ?_
                  refine y_coder 10 (j := 20) c0_7 rfl (show 20 % 2 = 0 ∧ 20 / 2 < gLit.length by decide) ?_
                  refine y_goto 14 c0_10 rfl ?_
                  refine y_ireturnK c0_14 rfl ?_
                  refine y_ishr 10 c1_9 rfl ?_
                  refine y_top 2 (by decide) ?_
                  refine y_ireturnK c1_10 (y_fit0 _) ?_
                  refine y_icmp 28 12 c8_9 rfl rfl (yc_ge (by omega) (by omega)) (fun hb3684 => ?_) (fun hb3684 => ?_)
                  · exfalso; omega
                  · refine y_iload 13 c8_12 rfl rfl ?_
                    refine y_aload 14 c8_13 rfl rfl rfl ?_
                    refine y_iload 15 c8_14 rfl rfl ?_
                    refine y_inlB 18 [.retAddr 21, yI 1] [yI r3682] [some (.retAddr 21), some (yI 1)] c8_15 rfl rfl rfl rfl rfl (ycanT km6 (show 20 % 2 = 0 ∧ 20 / 2 < gLit.length by decide)) kn6 rfl rfl ?_
                    refine y_aload 1 c6_0 rfl rfl rfl ?_
                    refine y_inlB 4 [.retAddr 21] [] [some (.retAddr 21)] c6_1 rfl rfl rfl rfl rfl (ycanT km2 (show 20 % 2 = 0 ∧ 20 / 2 < gLit.length by decide)) kn2 rfl rfl ?_
                    refine y_static0 3 c2_0 rfl ?_
                    refine y_if 17 6 c2_3 rfl rfl (yz_eq (by omega)) (fun hb3685 => ?_) (fun hb3685 => ?_)
                    · exfalso; omega
                    · refine y_aload 7 c2_6 rfl rfl rfl ?_
                      refine y_coder 10 (j := 20) c2_7 rfl (show 20 % 2 = 0 ∧ 20 / 2 < gLit.length by decide) ?_
                      refine y_if 17 13 c2_10 rfl rfl (yz_ne (by omega)) (fun hb3686 => ?_) (fun hb3686 => ?_)
                      · exfalso; omega
                      · refine y_iconst 14 c2_13 rfl ?_
                        refine y_goto 18 c2_14 rfl ?_
                        refine y_ireturnK c2_18 (y_fit1 (by omega)) ?_
                        refine y_if 16 7 c6_4 rfl rfl (yz_eq (by omega)) (fun hb3687 => ?_) (fun hb3687 => ?_)
                        · exfalso; omega
                        · refine y_aload 8 c6_7 rfl rfl rfl ?_
                          refine y_text 11 (j := 20) c6_8 rfl (show 20 % 2 = 0 ∧ 20 / 2 < gLit.length by decide) ?_
                          refine y_iload 12 c6_11 rfl rfl ?_
                          refine y_inlB 15 [.retAddr 22, yI 1] [] [some (.retAddr 22), some (yI 1)] c6_12 rfl rfl rfl rfl rfl (ycanS km5) kn5 rfl rfl ?_
                          refine y_iload 1 c5_0 rfl rfl ?_
                          refine y_aload 2 c5_1 rfl rfl rfl ?_
                          refine y_blen 3 (j := 21) c5_2 rfl (show 21 % 2 = 1 ∧ 21 / 2 < gLit.length by decide) ?_
                          refine y_top 2 (show ((gLit.getD (21 / 2) []).length : Int) = 2 by decide) ?_
                          refine y_inlB 6 [yI 1, yI 2] [] [some (yI 1), some (yI 2)] c5_3 rfl rfl rfl rfl rfl (ycanS km4) kn4 rfl rfl ?_
                          refine y_iload 1 c4_0 rfl rfl ?_
                          refine y_iload 2 c4_1 rfl rfl ?_
                          refine y_static1 5 c4_2 rfl ?_
                          refine y_inlB 8 [yI 1, yI 2, .float 0] [] [some (yI 1), some (yI 2), some (.float 0)] c4_5 rfl rfl rfl rfl rfl (ycanS km3) kn3 rfl rfl ?_
                          refine y_iload 1 c3_0 rfl rfl ?_
                          refine y_if 9 4 c3_1 rfl rfl (yz_lt (by omega)) (fun hb3688 => ?_) (fun hb3688 => ?_)
                          · exfalso; omega
                          · refine y_iload 5 c3_4 rfl rfl ?_
                            refine y_iload 6 c3_5 rfl rfl ?_
                            refine y_icmp 16 9 c3_6 rfl rfl (yc_lt (by omega) (by omega)) (fun hb3689 => ?_) (fun hb3689 => ?_)
                            · refine y_iload 17 c3_16 rfl rfl ?_
                              refine y_ireturnK c3_17 (y_fit0 _) ?_
                              refine y_pop 9 c4_8 rfl rfl ?_
                              refine y_returnK c4_9 ?_
                              refine y_aload 7 c5_6 rfl rfl rfl ?_
                              refine y_iload 8 c5_7 rfl rfl ?_
                              refine y_byte 9 (j := 21) c5_8 rfl (show 21 % 2 = 1 ∧ 21 / 2 < gLit.length by decide) (show (gLit.getD (21 / 2) []).length ≤ 100000 by decide) (show (0 : Int) ≤ 1 ∧ (1 : Int) < (gLit.getD (21 / 2) []).length by decide) ?_
                              refine y_top 111 (show ((gLit.getD (21 / 2) []).getD (Int.toNat 1) 0).toInt = 111 by decide) ?_
                              refine y_iconst 12 c5_9 rfl ?_
                              refine y_iand 13 c5_12 rfl ?_
                              refine y_top 111 (by decide) ?_
                              refine y_i2cN 14 c5_13 rfl (by omega) ?_
                              refine y_ireturnK c5_14 rfl ?_
                              refine y_ireturnK c6_15 rfl ?_
                              refine y_callP 21 [yI r3682, yI 111] [] c8_18 rfl rfl rfl rfl rfl (ycanS km7) t7 (fun r3690 hr3690 => ?_)
                              refine y_istore 22 c8_21 rfl rfl ?_
                              refine y_iincN 25 2 c8_22 rfl rfl (by decide) rfl ?_
                              refine y_goto 4 c8_25 rfl ?_
                              refine y_iload 5 c8_4 rfl rfl ?_
                              refine y_aload 6 c8_5 rfl rfl rfl ?_
                              refine y_inlB 9 [.retAddr 21] [yI 2] [some (.retAddr 21)] c8_6 rfl rfl rfl rfl rfl (ycanT km1 (show 20 % 2 = 0 ∧ 20 / 2 < gLit.length by decide)) kn1 rfl rfl ?_
                              refine y_aload 1 c1_0 rfl rfl rfl ?_
                              refine y_text 4 (j := 20) c1_1 rfl (show 20 % 2 = 0 ∧ 20 / 2 < gLit.length by decide) ?_
                              refine y_blen 5 (j := 21) c1_4 rfl (show 21 % 2 = 1 ∧ 21 / 2 < gLit.length by decide) ?_
                              refine y_top 2 (show ((gLit.getD (21 / 2) []).length : Int) = 2 by decide) ?_
                              refine y_aload 6 c1_5 rfl rfl rfl ?_
                              refine y_inlB 9 [.retAddr 21] [yI 2] [some (.retAddr 21)] c1_6 rfl rfl rfl rfl rfl (ycanT km0 (show 20 % 2 = 0 ∧ 20 / 2 < gLit.length by decide)) kn0 rfl rfl ?_
                              refine y_static0 3 c0_0 rfl ?_
                              refine y_if 13 6 c0_3 rfl rfl (yz_eq (by omega)) (fun hb3691 => ?_) (fun hb3691 => ?_)
                              · exfalso; omega
                              · refine y_aload 7 c0_6 rfl rfl rfl ?_
                                refine y_coder 10 (j := 20) c0_7 rfl (show 20 % 2 = 0 ∧ 20 / 2 < gLit.length by decide) ?_
                                refine y_goto 14 c0_10 rfl ?_
                                refine y_ireturnK c0_14 rfl ?_
                                refine y_ishr 10 c1_9 rfl ?_
                                refine y_top 2 (by decide) ?_
                                refine y_ireturnK c1_10 (y_fit0 _) ?_
                                refine y_icmp 28 12 c8_9 rfl rfl (yc_ge (by omega) (by omega)) (fun hb3692 => ?_) (fun hb3692 => ?_)
                                · refine y_iload 29 c8_28 rfl rfl ?_
                                  exact y_retP c8_29 (y_fit0 _) (by omega)
                                · exfalso; omega
                            · exfalso; omega
              · exfalso; omega
theorem t54k_256 {L : Nat} {xs : Nat → Int32} {d nn : Nat} {m : yM} {e : Int} (hT : Ty gT m) (he : 0 ≤ e ∧ e ≤ 320) (hE : m 5 e.toNat = 0) (ha : m 2 2 ≤ e) (hp : m 2 1 = 0) {k : Int} (hk : k = m 256 10 - 1) (hk0 : 0 ≤ k ∧ k ≤ 9) (hp3 : m (266 + k.toNat) 3 ≤ 1) (hr : m (266 + k.toNat) 2 + 2 + m (266 + k.toNat) 3 = m 256 15) : YC (gZ L xs) (d + 2) 54 [.ref 2] m nn (qI (fun r m' n' => n' = nn ∧ Ty gT m' ∧ Fr wPr256 m m' ∧ ((r = 0 ∨ r = 1) ∧ m' 2 2 ≤ e ∧ m' (266 + k.toNat) 2 = m (266 + k.toNat) 2 ∧ (r = 1 → m' (266 + k.toNat) 3 = m (266 + k.toNat) 3 + 1 ∧ m' 256 15 = m 256 15 + 1)) ∧ (MP 266 m → MP 266 m'))) := by
  subst hk
  exact t54_256 hT he hE ha hp (by omega) hp3 hr
set_option maxRecDepth 100000 in
theorem t55_256 {L : Nat} {xs : Nat → Int32} {d nn : Nat} {m : yM} {e : Int} (hT : Ty gT m) (he : 0 ≤ e ∧ e ≤ 320) (hE : m 5 e.toNat = 0) (ha : m 2 2 ≤ e) (hp : m 2 1 = 0) {k : Int} (hk : k = m 256 10 - 1) (hk0 : 0 ≤ k ∧ k ≤ 9) (hp3 : m (266 + k.toNat) 3 = 0) (hr : m (266 + k.toNat) 2 + 2 = m 256 15) : YC (gZ L xs) (d + 3) 55 [.ref 2] m nn (qI (fun r m' n' => n' = nn ∧ Ty gT m' ∧ Fr wPr256 m m' ∧ ((r = 0 ∨ r = 1) ∧ m' 2 2 ≤ e) ∧ (MP 266 m → MP 266 m'))) := by
  have tb2 := hT.atp 2 2 0 320 rfl
  refine YC.mkB [some (.ref 2)] kn55 rfl rfl ?_
  have hF : Fr wPr256 m m := Fr.rf
  refine y_aload 1 c55_0 rfl rfl rfl ?_
  have tb3693 := hT.atp 2 2 0 320 rfl
  refine y_callP 4 [.ref 2] [] c55_1 rfl rfl rfl rfl rfl (ycanO km38 ko2) (t38 hT he hE (by omega)) (fun r3694 hr3694 => ?_)
  refine y_iconst 6 c55_4 rfl ?_
  refine y_icmp 11 9 c55_6 rfl rfl (yc_ne (by omega) (by omega)) (fun hb3695 => ?_) (fun hb3695 => ?_)
  · refine y_aload 12 c55_11 rfl rfl rfl ?_
    have tb3697 := hT.atp 2 1 ((-1)) 1 rfl
    have tb3698 := hT.atp 256 10 0 10 rfl
    have tb3699 := hT.atp 256 15 0 48 rfl
    have tb3700 := hT.atp (266 + k.toNat) 2 0 46 (ft266_2 (by omega))
    have tb3701 := hT.atp (266 + k.toNat) 3 0 2 (ft266_3 (by omega))
    refine y_callIB 15 [.ref 2] [] c55_12 rfl rfl rfl rfl rfl (ycanO km54 ko2) (t54k_256 (k := k) hT he hE (by omega) (by omega) (by omega) (by omega) (by omega) (by omega)) (fun rq3696 mq3696 nq3696 hq3696 => ?_)
    obtain ⟨rfl, hTq3696, hFq3696, hq3696, hMq3696⟩ := hq3696
    have hF3702 := hF.tr hFq3696 (fun _ _ e => e)
    refine y_if 20 18 c55_15 rfl rfl (yz_ne (by omega)) (fun hb3703 => ?_) (fun hb3703 => ?_)
    · refine y_aload 21 c55_20 rfl rfl rfl ?_
      have tb3704 := hTq3696.atp 2 2 0 320 rfl
      refine y_callP 24 [.ref 2] [] c55_21 rfl rfl rfl rfl rfl (ycanO km38 ko2) (t38 hTq3696 he (by have e1 : mq3696 5 e.toNat = m 5 e.toNat := (hFq3696 5 e.toNat rfl); omega) (by omega)) (fun r3705 hr3705 => ?_)
      refine y_iconst 26 c55_24 rfl ?_
      refine y_icmp 31 29 c55_26 rfl rfl (yc_eq (by omega) (by omega)) (fun hb3706 => ?_) (fun hb3706 => ?_)
      · refine y_aload 32 c55_31 rfl rfl rfl ?_
        refine y_dup 33 c55_32 rfl rfl ?_
        refine y_getX 36 (mq3696 2 2) c55_33 rfl kf2_2 rfl ?_
        refine y_iconst 37 c55_36 rfl ?_
        refine y_iadd 38 c55_37 rfl ?_
        refine y_putI 41 c55_38 rfl kf2_2 (y_fit0 _) ?_
        have hT3707 := hTq3696.up 2 2 ((mq3696 2 2) + 1) 0 320 rfl (by omega)
        have hF3708 := hF3702.up 2 2 ((mq3696 2 2) + 1) rfl
        refine y_aload 42 c55_41 rfl rfl rfl ?_
        have es3710 : (yup mq3696 2 2 ((mq3696 2 2) + 1)) 2 2 = (mq3696 2 2) + 1 := rfl
        have es3711 : (yup mq3696 2 2 ((mq3696 2 2) + 1)) 2 1 = m 2 1 := ((yup_nk (by decide)).trans (hFq3696 2 1 rfl))
        have es3712 : (yup mq3696 2 2 ((mq3696 2 2) + 1)) 256 10 = m 256 10 := ((yup_na (by decide)).trans (hFq3696 256 10 rfl))
        have es3713 : (yup mq3696 2 2 ((mq3696 2 2) + 1)) 256 15 = mq3696 256 15 := rfl
        have tb3714 := hTq3696.atp 256 15 0 48 rfl
        have es3715 : (yup mq3696 2 2 ((mq3696 2 2) + 1)) (266 + k.toNat) 2 = mq3696 (266 + k.toNat) 2 := (yup_na (by omega))
        have tb3716 := hTq3696.atp (266 + k.toNat) 2 0 46 (ft266_2 (by omega))
        have es3717 : (yup mq3696 2 2 ((mq3696 2 2) + 1)) (266 + k.toNat) 3 = mq3696 (266 + k.toNat) 3 := (yup_na (by omega))
        have tb3718 := hTq3696.atp (266 + k.toNat) 3 0 2 (ft266_3 (by omega))
        refine y_callIB 45 [.ref 2] [] c55_42 rfl rfl rfl rfl rfl (ycanO km54 ko2) (t54k_256 (k := k) hT3707 he (by have e1 : (yup mq3696 2 2 ((mq3696 2 2) + 1)) 5 e.toNat = m 5 e.toNat := ((yup_na (by decide)).trans (hFq3696 5 e.toNat rfl)); omega) (by omega) (by omega) (by omega) (by omega) (by omega) (by omega)) (fun rq3709 mq3709 nq3709 hq3709 => ?_)
        obtain ⟨rfl, hTq3709, hFq3709, hq3709, hMq3709⟩ := hq3709
        have hF3719 := hF3708.tr hFq3709 (fun _ _ e => e)
        have tb3720 := hTq3709.atp 2 2 0 320 rfl
        exact y_retI c55_45 (y_fit1 (by omega)) ⟨rfl, hTq3709, hF3719, by omega, fun hM => hMq3709 ((hMq3696 (hM)).na (by decide))⟩
      · refine y_iconst 30 c55_29 rfl ?_
        exact y_retI c55_30 (y_fit1 (by omega)) ⟨rfl, hTq3696, hF3702, by omega, fun hM => hMq3696 (hM)⟩
    · refine y_iconst 19 c55_18 rfl ?_
      have tb3721 := hTq3696.atp 2 2 0 320 rfl
      exact y_retI c55_19 (y_fit1 (by omega)) ⟨rfl, hTq3696, hF3702, by omega, fun hM => hMq3696 (hM)⟩
  · refine y_iconst 10 c55_9 rfl ?_
    exact y_retI c55_10 (y_fit1 (by omega)) ⟨rfl, hT, hF, by omega, fun hM => hM⟩
def wMt0256 (a q : Nat) : Bool := (a == 2 && (q == 2 || q == 4)) || (a == 256 && (q == 10 || (decide (12 ≤ q) && decide (q ≤ 16)))) || a == 261 || a == 265 || decide (266 ≤ a ∧ a < 276)
def wMt256 (c a q : Nat) : Bool := ((a == 2 && (q == 2 || q == 4)) || (a == 256 && (q == 10 || (decide (12 ≤ q) && decide (q ≤ 16)))) || a == 261 || a == 265 || decide (266 ≤ a ∧ a < 276)) || decide (276 + c ≤ a ∧ a < 316)
theorem wMt256_lt {c a q : Nat} (h : a < 276) : wMt256 c a q = wMt0256 a q := by
  have e : decide (276 + c ≤ a ∧ a < 316) = false := by simp; omega
  simp only [wMt256, wMt0256, e, Bool.or_false]
theorem wMt256_m {c k q : Nat} (h : k < 10) : wMt256 c (266 + k) q = true := by
  simp [wMt256]
  omega
theorem wMt256_n {c j q : Nat} (h : j < c) : wMt256 c (276 + j) q = false := by
  cases e : wMt256 c (276 + j) q with
  | false => rfl
  | true => simp [wMt256] at e <;> omega
theorem wFa_wMt256 {c : Nat} : ∀ a q, wFa a q = true → wMt256 c a q = true := by
  intro a q h
  simp [wFa] at h
  simp [wMt256]
  omega
theorem wAt_wMt256 {c : Nat} : ∀ a q, wAt a q = true → wMt256 c a q = true := by
  intro a q h
  simp [wAt] at h
  simp [wMt256]
  omega
theorem wPr256_wMt256 {c : Nat} : ∀ a q, wPr256 a q = true → wMt256 c a q = true := by
  intro a q h
  simp [wPr256] at h
  simp [wMt256]
  omega
theorem wMe256_wMt256 {c : Nat} : ∀ a q, wMe256 a q = true → wMt256 c a q = true := by
  intro a q h
  simp [wMe256] at h
  simp [wMt256]
  omega
theorem wBo256_wMt256 {c : Nat} : ∀ a q, wBo256 c a q = true → wMt256 c a q = true := by
  intro a q h
  simp [wBo256] at h
  simp [wMt256]
  omega
theorem wPr256_n276 {j q : Nat} : wPr256 (276 + j) q = false := by
  cases h : wPr256 (276 + j) q with
  | false => rfl
  | true => simp [wPr256] at h <;> omega
theorem wMe256_n276 {j q : Nat} : wMe256 (276 + j) q = false := by
  cases h : wMe256 (276 + j) q with
  | false => rfl
  | true => simp [wMe256] at h <;> omega
theorem wBo256_n266 {c j q : Nat} (h : j < 10) : wBo256 c (266 + j) q = false := by
  cases h : wBo256 c (266 + j) q with
  | false => rfl
  | true => simp [wBo256] at h <;> omega
theorem wPr256_5 {j : Nat} : wPr256 (266 + j) 5 = false := by
  cases h : wPr256 (266 + j) 5 with
  | false => rfl
  | true => simp [wPr256] at h <;> omega
set_option maxRecDepth 100000 in
theorem t70_256 {L : Nat} {xs : Nat → Int32} {d nn : Nat} {m : yM} {e : Int} (hT : Ty gT m) (he : 0 ≤ e ∧ e ≤ 320) (hE : m 5 e.toNat = 0) (ha : m 2 2 ≤ e) (hp : m 2 1 = 0) (hc : 1 ≤ m 256 9) (hlt : m 2 2 < e) : YC (gZ L xs) (d + 13) 70 [.ref 2] m nn (qI (fun r m' n' => n' = nn ∧ Ty gT m' ∧ Fr (wMt256 (m 256 16).toNat) m m' ∧ ((r = 0 ∨ r = 1) ∧ m' 2 2 ≤ e ∧ m 256 16 ≤ m' 256 16 ∧ m 256 12 ≤ m' 256 12 ∧ m 256 13 ≤ m' 256 13 ∧ m 256 10 ≤ m' 256 10) ∧ (∀ z : Nat, (z : Int) < m 256 13 → m' 265 z = m 265 z) ∧ (MP 266 m → MP 266 m') ∧ (r = 1 → m' 256 10 = m 256 10 + 1 ∧ RG 276 265 m' (m 256 16) (m' 256 16) (m 256 12) (m' 256 12) (m 256 13) (m' 256 13) ∧ EN 276 m' (m 256 16) (m' 256 16) (m' 256 16) ∧ (∀ j : Nat, (j : Int) < m 256 10 → m' (266 + j) 5 = m (266 + j) 5) ∧ m' (266 + (m 256 10).toNat) 5 ≤ m' 256 16))) := by
  have tb2 := hT.atp 2 2 0 320 rfl
  have tb12 := hT.atp 256 12 0 12 rfl
  have tb13 := hT.atp 256 13 0 8 rfl
  have tb16 := hT.atp 256 16 0 40 rfl
  have tb10 := hT.atp 256 10 0 10 rfl
  refine YC.mkB [some (.ref 2), none, none] kn70 rfl rfl ?_
  have hF : Fr (wMt256 (m 256 16).toNat) m m := Fr.rf
  refine y_aload 1 c70_0 rfl rfl rfl ?_
  refine y_dup 2 c70_1 rfl rfl ?_
  refine y_getX 5 (m 2 2) c70_2 rfl kf2_2 rfl ?_
  have tb3722 := hT.atp 2 2 0 320 rfl
  refine y_iconst 6 c70_5 rfl ?_
  refine y_iadd 7 c70_6 rfl ?_
  refine y_putI 10 c70_7 rfl kf2_2 (y_fit0 _) ?_
  have hT3723 := hT.up 2 2 ((m 2 2) + 1) 0 320 rfl (by omega)
  have hF3724 := hF.up 2 2 ((m 2 2) + 1) rfl
  refine y_aload 11 c70_10 rfl rfl rfl ?_
  have es3725 : (yup m 2 2 ((m 2 2) + 1)) 2 2 = (m 2 2) + 1 := rfl
  refine y_callP 14 [.ref 2] [] c70_11 rfl rfl rfl rfl rfl (ycanO km38 ko2) (t38 hT3723 he (by have e1 : (yup m 2 2 ((m 2 2) + 1)) 5 e.toNat = m 5 e.toNat := (yup_na (by decide)); omega) (by omega)) (fun r3726 hr3726 => ?_)
  refine y_iconst 16 c70_14 rfl ?_
  refine y_icmp 33 19 c70_16 rfl rfl (yc_ne (by omega) (by omega)) (fun hb3727 => ?_) (fun hb3727 => ?_)
  · refine y_aload 34 c70_33 rfl rfl rfl ?_
    have es3729 : (yup m 2 2 ((m 2 2) + 1)) 2 2 = (m 2 2) + 1 := rfl
    refine y_callIB 37 [.ref 2] [] c70_34 rfl rfl rfl rfl rfl (ycanO km43 ko2) (t43 hT3723) (fun rq3728 mq3728 nq3728 hq3728 => ?_)
    obtain ⟨rfl, hTq3728, hFq3728, hq3728⟩ := hq3728
    have hF3730 := hF3724.tr hFq3728 wFa_wMt256
    have es3731 : mq3728 2 2 = (m 2 2) + 1 := ((hFq3728 2 2 rfl).trans (yup_eq _ _ _ _))
    have es3732 : mq3728 256 16 = m 256 16 := ((hFq3728 256 16 rfl).trans (yup_na (by decide)))
    have tb3733 := hT.atp 256 16 0 40 rfl
    have es3734 : mq3728 256 12 = m 256 12 := ((hFq3728 256 12 rfl).trans (yup_na (by decide)))
    have tb3735 := hT.atp 256 12 0 12 rfl
    have es3736 : mq3728 256 13 = m 256 13 := ((hFq3728 256 13 rfl).trans (yup_na (by decide)))
    have tb3737 := hT.atp 256 13 0 8 rfl
    have es3738 : mq3728 256 10 = m 256 10 := ((hFq3728 256 10 rfl).trans (yup_na (by decide)))
    have tb3739 := hT.atp 256 10 0 10 rfl
    refine y_retI c70_37 (y_fit1 (by omega)) ⟨rfl, hTq3728, hF3730, by omega, fun z hz => ((hFq3728 265 z rfl).trans (yup_na (by decide))), fun hM => ((hM).na (by decide)).fr (fun k hk => hFq3728 _ _ wFa_n266) (fun k hk => hFq3728 _ _ wFa_n266), fun h1 => ?_⟩
    omega
  · refine y_aload 20 c70_19 rfl rfl rfl ?_
    refine y_getS 23 (B := 256) c70_20 rfl kf2_1 (by rw [show (yup m 2 2 ((m 2 2) + 1)) 2 1 = 0 from by have e : (yup m 2 2 ((m 2 2) + 1)) 2 1 = m 2 1 := rfl; omega]; rfl) ?_
    refine y_aload 24 c70_23 rfl rfl rfl ?_
    refine y_callP 27 [.ref 2] [.ref 256] c70_24 rfl rfl rfl rfl rfl (ycanO km39 ko2) (t39 hT3723) (fun r3740 hr3740 => ?_)
    have es3742 : (yup m 2 2 ((m 2 2) + 1)) 256 9 = m 256 9 := rfl
    have tb3743 := hT.atp 256 9 0 6 rfl
    have es3744 : (yup m 2 2 ((m 2 2) + 1)) 256 10 = m 256 10 := rfl
    have tb3745 := hT.atp 256 10 0 10 rfl
    have es3746 : (yup m 2 2 ((m 2 2) + 1)) 256 15 = m 256 15 := rfl
    have tb3747 := hT.atp 256 15 0 48 rfl
    have e10 : (yup m 2 2 ((m 2 2) + 1)) 256 10 = m 256 10 := rfl
    refine y_callIB 30 [.ref 256, yI r3740] [] c70_27 rfl rfl rfl rfl rfl (ycanO km51 ko256) (t51_256 hT3723 (by omega) (by omega)) (fun rq3741 mq3741 nq3741 hq3741 => ?_)
    obtain ⟨rfl, hTq3741, hFq3741, hq3741⟩ := hq3741
    rw [e10] at hq3741
    rcases hq3741 with ⟨rfl, rfl⟩ | ⟨rfl, hq3741, h15, hr2, hr3, hMq3741, hNq3741⟩
    · refine y_if 38 33 c70_30 rfl rfl (yz_ne (by omega)) (fun hb3748 => ?_) (fun hb3748 => ?_)
      · exfalso; omega
      · refine y_aload 34 c70_33 rfl rfl rfl ?_
        have es3750 : (yup m 2 2 ((m 2 2) + 1)) 2 2 = (m 2 2) + 1 := rfl
        refine y_callIB 37 [.ref 2] [] c70_34 rfl rfl rfl rfl rfl (ycanO km43 ko2) (t43 hT3723) (fun rq3749 mq3749 nq3749 hq3749 => ?_)
        obtain ⟨rfl, hTq3749, hFq3749, hq3749⟩ := hq3749
        have hF3751 := hF3724.tr hFq3749 wFa_wMt256
        have es3752 : mq3749 2 2 = (m 2 2) + 1 := ((hFq3749 2 2 rfl).trans (yup_eq _ _ _ _))
        have es3753 : mq3749 256 16 = m 256 16 := ((hFq3749 256 16 rfl).trans (yup_na (by decide)))
        have tb3754 := hT.atp 256 16 0 40 rfl
        have es3755 : mq3749 256 12 = m 256 12 := ((hFq3749 256 12 rfl).trans (yup_na (by decide)))
        have tb3756 := hT.atp 256 12 0 12 rfl
        have es3757 : mq3749 256 13 = m 256 13 := ((hFq3749 256 13 rfl).trans (yup_na (by decide)))
        have tb3758 := hT.atp 256 13 0 8 rfl
        have es3759 : mq3749 256 10 = m 256 10 := ((hFq3749 256 10 rfl).trans (yup_na (by decide)))
        refine y_retI c70_37 (y_fit1 (by omega)) ⟨rfl, hTq3749, hF3751, by omega, fun z hz => ((hFq3749 265 z rfl).trans (yup_na (by decide))), fun hM => ((hM).na (by decide)).fr (fun k hk => hFq3749 _ _ wFa_n266) (fun k hk => hFq3749 _ _ wFa_n266), fun h1 => ?_⟩
        omega
    · have hF3760 := hF3724.tr hFq3741 wMe256_wMt256
      have ekm : mq3741 256 10 - 1 = m 256 10 := by omega
      have hr2' : mq3741 (266 + (mq3741 256 10 - 1).toNat) 2 = m 256 15 := by rw [ekm, hr2]; rfl
      have hr3' : mq3741 (266 + (mq3741 256 10 - 1).toNat) 3 = 0 := by rw [ekm]; exact hr3
      have hk1 : m 256 10 ≤ 9 := by have := hTq3741.atp 256 10 0 10 rfl; omega
      refine y_if 38 33 c70_30 rfl rfl (yz_ne (by omega)) (fun hb3761 => ?_) (fun hb3761 => ?_)
      · refine y_aload 39 c70_38 rfl rfl rfl ?_
        refine y_dup 40 c70_39 rfl rfl ?_
        refine y_getX 43 ((m 2 2) + 1) c70_40 rfl kf2_2 ((hFq3741 2 2 rfl).trans (yup_eq _ _ _ _)) ?_
        refine y_iconst 44 c70_43 rfl ?_
        refine y_iadd 45 c70_44 rfl ?_
        refine y_putI 48 c70_45 rfl kf2_2 (y_fit0 _) ?_
        have hT3762 := hTq3741.up 2 2 (((m 2 2) + 1) + 1) 0 320 rfl (by omega)
        have hF3763 := hF3760.up 2 2 (((m 2 2) + 1) + 1) rfl
        refine y_aload 49 c70_48 rfl rfl rfl ?_
        refine y_getS 52 (B := 256) c70_49 rfl kf2_1 (by rw [show (yup mq3741 2 2 (((m 2 2) + 1) + 1)) 2 1 = 0 from by have e : (yup mq3741 2 2 (((m 2 2) + 1) + 1)) 2 1 = m 2 1 := ((yup_nk (by decide)).trans ((hFq3741 2 1 rfl).trans (yup_nk (by decide)))); omega]; rfl) ?_
        refine y_getR 55 c70_52 rfl kf256_5 ?_
        refine y_aload 56 c70_55 rfl rfl rfl ?_
        refine y_getS 59 (B := 256) c70_56 rfl kf2_1 (by rw [show (yup mq3741 2 2 (((m 2 2) + 1) + 1)) 2 1 = 0 from by have e : (yup mq3741 2 2 (((m 2 2) + 1) + 1)) 2 1 = m 2 1 := ((yup_nk (by decide)).trans ((hFq3741 2 1 rfl).trans (yup_nk (by decide)))); omega]; rfl) ?_
        refine y_getX 62 (mq3741 256 10) c70_59 rfl kf256_10 rfl ?_
        have tb3764 := hTq3741.atp 256 10 0 10 rfl
        refine y_iconst 63 c70_62 rfl ?_
        refine y_isub 64 c70_63 rfl ?_
        refine y_aaload 65 c70_64 rfl kr262 (by omega) ?_
        refine y_astore 66 c70_65 rfl rfl rfl ?_
        refine y_aload 67 c70_66 rfl rfl rfl ?_
        refine y_aload 68 c70_67 rfl rfl rfl ?_
        refine y_getS 71 (B := 256) c70_68 rfl kf2_1 (by rw [show (yup mq3741 2 2 (((m 2 2) + 1) + 1)) 2 1 = 0 from by have e : (yup mq3741 2 2 (((m 2 2) + 1) + 1)) 2 1 = m 2 1 := ((yup_nk (by decide)).trans ((hFq3741 2 1 rfl).trans (yup_nk (by decide)))); omega]; rfl) ?_
        refine y_getX 74 (m 256 16) c70_71 rfl kf256_16 ((yup_na (by decide)).trans ((hFq3741 256 16 rfl).trans (yup_na (by decide)))) ?_
        have tb3765 := hT.atp 256 16 0 40 rfl
        refine y_putI 77 c70_74 rfl (ff266_4 (by omega)) (y_fit0 _) ?_
        have hT3766 := hT3762.up (266 + ((mq3741 256 10) - 1).toNat) 4 (m 256 16) 0 40 (ft266_4 (by omega)) (by omega)
        have hF3767 := hF3763.up (266 + ((mq3741 256 10) - 1).toNat) 4 (m 256 16) (wMt256_m (by omega))
        refine y_aload 78 c70_77 rfl rfl rfl ?_
        refine y_iconst 80 c70_78 rfl ?_
        have es3769 : (yup (yup mq3741 2 2 (((m 2 2) + 1) + 1)) (266 + ((mq3741 256 10) - 1).toNat) 4 (m 256 16)) 2 2 = ((m 2 2) + 1) + 1 := ((yup_na (by omega)).trans (yup_eq _ _ _ _))
        refine y_callIB 83 [.ref 2, yI 40] [] c70_80 rfl rfl rfl rfl rfl (ycanO km37 ko2) (t37 hT3766 he (by have e1 : (yup (yup mq3741 2 2 (((m 2 2) + 1) + 1)) (266 + ((mq3741 256 10) - 1).toNat) 4 (m 256 16)) 5 e.toNat = m 5 e.toNat := ((yup_na (by omega)).trans ((yup_na (by decide)).trans ((hFq3741 5 e.toNat rfl).trans (yup_na (by decide))))); omega) (by omega) (by omega)) (fun rq3768 mq3768 nq3768 hq3768 => ?_)
        obtain ⟨rfl, hTq3768, hFq3768, hq3768⟩ := hq3768
        have hF3770 := hF3767.tr hFq3768 wAt_wMt256
        refine y_if 114 86 c70_83 rfl rfl (yz_eq (by omega)) (fun hb3771 => ?_) (fun hb3771 => ?_)
        · refine y_iconst 115 c70_114 rfl ?_
          refine y_istore 116 c70_115 rfl rfl ?_
          refine y_aload 117 c70_116 rfl rfl rfl ?_
          refine y_aload 118 c70_117 rfl rfl rfl ?_
          refine y_getS 121 (B := 256) c70_118 rfl kf2_1 (by rw [show mq3768 2 1 = 0 from by have e : mq3768 2 1 = m 2 1 := ((hFq3768 2 1 rfl).trans ((yup_na (by omega)).trans ((yup_nk (by decide)).trans ((hFq3741 2 1 rfl).trans (yup_nk (by decide)))))); omega]; rfl) ?_
          refine y_getX 124 (m 256 16) c70_121 rfl kf256_16 ((hFq3768 256 16 rfl).trans ((yup_na (by omega)).trans ((yup_na (by decide)).trans ((hFq3741 256 16 rfl).trans (yup_na (by decide)))))) ?_
          refine y_putI 127 c70_124 rfl (ff266_5 (by omega)) (y_fit0 _) ?_
          have hT3772 := hTq3768.up (266 + ((mq3741 256 10) - 1).toNat) 5 (m 256 16) 0 40 (ft266_5 (by omega)) (by omega)
          have hF3773 := hF3770.up (266 + ((mq3741 256 10) - 1).toNat) 5 (m 256 16) (wMt256_m (by omega))
          refine y_iload 128 c70_127 rfl rfl ?_
          have es3774 : (yup mq3768 (266 + ((mq3741 256 10) - 1).toNat) 5 (m 256 16)) 2 2 = mq3768 2 2 := (yup_na (by omega))
          have tb3775 := hTq3768.atp 2 2 0 320 rfl
          have es3776 : (yup mq3768 (266 + ((mq3741 256 10) - 1).toNat) 5 (m 256 16)) 256 16 = m 256 16 := ((yup_na (by omega)).trans ((hFq3768 256 16 rfl).trans ((yup_na (by omega)).trans ((yup_na (by decide)).trans ((hFq3741 256 16 rfl).trans (yup_na (by decide)))))))
          have es3777 : (yup mq3768 (266 + ((mq3741 256 10) - 1).toNat) 5 (m 256 16)) 256 12 = m 256 12 := ((yup_na (by omega)).trans ((hFq3768 256 12 rfl).trans ((yup_na (by omega)).trans ((yup_na (by decide)).trans ((hFq3741 256 12 rfl).trans (yup_na (by decide)))))))
          have tb3778 := hT.atp 256 12 0 12 rfl
          have es3779 : (yup mq3768 (266 + ((mq3741 256 10) - 1).toNat) 5 (m 256 16)) 256 13 = m 256 13 := ((yup_na (by omega)).trans ((hFq3768 256 13 rfl).trans ((yup_na (by omega)).trans ((yup_na (by decide)).trans ((hFq3741 256 13 rfl).trans (yup_na (by decide)))))))
          have tb3780 := hT.atp 256 13 0 8 rfl
          have es3781 : (yup mq3768 (266 + ((mq3741 256 10) - 1).toNat) 5 (m 256 16)) 256 10 = mq3741 256 10 := ((yup_na (by omega)).trans ((hFq3768 256 10 rfl).trans ((yup_na (by omega)).trans (yup_na (by decide)))))
          refine y_retI c70_128 (y_fit1 (by omega)) ⟨rfl, hT3772, hF3773, by omega, fun z hz => ((yup_na (by omega)).trans ((hFq3768 265 z rfl).trans ((yup_na (by omega)).trans ((yup_na (by decide)).trans ((hFq3741 265 z rfl).trans (yup_na (by decide))))))), fun hM => ((((hMq3741 ((hM).na (by decide))).na (by decide)).fr (fun _ _ => yup_nk (by decide)) (fun _ _ => yup_nk (by decide))).fr (fun k hk => hFq3768 _ _ wAt_n266) (fun k hk => hFq3768 _ _ wAt_n266)).fr (fun _ _ => yup_nk (by decide)) (fun _ _ => yup_nk (by decide)), fun h1 => ?_⟩
          omega
        · refine y_aload 87 c70_86 rfl rfl rfl ?_
          have tb3783 := hTq3768.atp 2 2 0 320 rfl
          have es3784 : mq3768 2 1 = m 2 1 := ((hFq3768 2 1 rfl).trans ((yup_na (by omega)).trans ((yup_nk (by decide)).trans ((hFq3741 2 1 rfl).trans (yup_nk (by decide))))))
          have tb3785 := hT.atp 2 1 ((-1)) 1 rfl
          have es3786 : mq3768 256 10 = mq3741 256 10 := ((hFq3768 256 10 rfl).trans ((yup_na (by omega)).trans (yup_na (by decide))))
          have es3787 : mq3768 256 15 = mq3741 256 15 := ((hFq3768 256 15 rfl).trans ((yup_na (by omega)).trans (yup_na (by decide))))
          have tb3788 := hTq3741.atp 256 15 0 48 rfl
          have es3789 : mq3768 (266 + ((mq3741 256 10) - 1).toNat) 2 = mq3741 (266 + ((mq3741 256 10) - 1).toNat) 2 := ((hFq3768 (266 + ((mq3741 256 10) - 1).toNat) 2 wAt_n266).trans ((yup_nk (by decide)).trans (yup_na (by omega))))
          have tb3790 := hTq3741.atp (266 + ((mq3741 256 10) - 1).toNat) 2 0 46 (ft266_2 (by omega))
          have es3791 : mq3768 (266 + ((mq3741 256 10) - 1).toNat) 3 = mq3741 (266 + ((mq3741 256 10) - 1).toNat) 3 := ((hFq3768 (266 + ((mq3741 256 10) - 1).toNat) 3 wAt_n266).trans ((yup_nk (by decide)).trans (yup_na (by omega))))
          have tb3792 := hTq3741.atp (266 + ((mq3741 256 10) - 1).toNat) 3 0 2 (ft266_3 (by omega))
          refine y_callIB 90 [.ref 2] [] c70_87 rfl rfl rfl rfl rfl (ycanO km55 ko2) (t55_256 (k := ((mq3741 256 10) - 1)) hTq3768 he (by have e1 : mq3768 5 e.toNat = m 5 e.toNat := ((hFq3768 5 e.toNat rfl).trans ((yup_na (by omega)).trans ((yup_na (by decide)).trans ((hFq3741 5 e.toNat rfl).trans (yup_na (by decide)))))); omega) (by omega) (by omega) (by omega) (by omega) (by omega) (by omega)) (fun rq3782 mq3782 nq3782 hq3782 => ?_)
          obtain ⟨rfl, hTq3782, hFq3782, hq3782, hMq3782⟩ := hq3782
          have hF3793 := hF3770.tr hFq3782 wPr256_wMt256
          refine y_if 114 93 c70_90 rfl rfl (yz_eq (by omega)) (fun hb3794 => ?_) (fun hb3794 => ?_)
          · refine y_iconst 115 c70_114 rfl ?_
            refine y_istore 116 c70_115 rfl rfl ?_
            refine y_aload 117 c70_116 rfl rfl rfl ?_
            refine y_aload 118 c70_117 rfl rfl rfl ?_
            refine y_getS 121 (B := 256) c70_118 rfl kf2_1 (by rw [show mq3782 2 1 = 0 from by have e : mq3782 2 1 = m 2 1 := ((hFq3782 2 1 rfl).trans ((hFq3768 2 1 rfl).trans ((yup_na (by omega)).trans ((yup_nk (by decide)).trans ((hFq3741 2 1 rfl).trans (yup_nk (by decide))))))); omega]; rfl) ?_
            refine y_getX 124 (m 256 16) c70_121 rfl kf256_16 ((hFq3782 256 16 rfl).trans ((hFq3768 256 16 rfl).trans ((yup_na (by omega)).trans ((yup_na (by decide)).trans ((hFq3741 256 16 rfl).trans (yup_na (by decide))))))) ?_
            refine y_putI 127 c70_124 rfl (ff266_5 (by omega)) (y_fit0 _) ?_
            have hT3795 := hTq3782.up (266 + ((mq3741 256 10) - 1).toNat) 5 (m 256 16) 0 40 (ft266_5 (by omega)) (by omega)
            have hF3796 := hF3793.up (266 + ((mq3741 256 10) - 1).toNat) 5 (m 256 16) (wMt256_m (by omega))
            refine y_iload 128 c70_127 rfl rfl ?_
            have es3797 : (yup mq3782 (266 + ((mq3741 256 10) - 1).toNat) 5 (m 256 16)) 2 2 = mq3782 2 2 := (yup_na (by omega))
            have tb3798 := hTq3782.atp 2 2 0 320 rfl
            have es3799 : (yup mq3782 (266 + ((mq3741 256 10) - 1).toNat) 5 (m 256 16)) 256 16 = m 256 16 := ((yup_na (by omega)).trans ((hFq3782 256 16 rfl).trans ((hFq3768 256 16 rfl).trans ((yup_na (by omega)).trans ((yup_na (by decide)).trans ((hFq3741 256 16 rfl).trans (yup_na (by decide))))))))
            have es3800 : (yup mq3782 (266 + ((mq3741 256 10) - 1).toNat) 5 (m 256 16)) 256 12 = m 256 12 := ((yup_na (by omega)).trans ((hFq3782 256 12 rfl).trans ((hFq3768 256 12 rfl).trans ((yup_na (by omega)).trans ((yup_na (by decide)).trans ((hFq3741 256 12 rfl).trans (yup_na (by decide))))))))
            have tb3801 := hT.atp 256 12 0 12 rfl
            have es3802 : (yup mq3782 (266 + ((mq3741 256 10) - 1).toNat) 5 (m 256 16)) 256 13 = m 256 13 := ((yup_na (by omega)).trans ((hFq3782 256 13 rfl).trans ((hFq3768 256 13 rfl).trans ((yup_na (by omega)).trans ((yup_na (by decide)).trans ((hFq3741 256 13 rfl).trans (yup_na (by decide))))))))
            have tb3803 := hT.atp 256 13 0 8 rfl
            have es3804 : (yup mq3782 (266 + ((mq3741 256 10) - 1).toNat) 5 (m 256 16)) 256 10 = mq3741 256 10 := ((yup_na (by omega)).trans ((hFq3782 256 10 rfl).trans ((hFq3768 256 10 rfl).trans ((yup_na (by omega)).trans (yup_na (by decide))))))
            refine y_retI c70_128 (y_fit1 (by omega)) ⟨rfl, hT3795, hF3796, by omega, fun z hz => ((yup_na (by omega)).trans ((hFq3782 265 z rfl).trans ((hFq3768 265 z rfl).trans ((yup_na (by omega)).trans ((yup_na (by decide)).trans ((hFq3741 265 z rfl).trans (yup_na (by decide)))))))), fun hM => (hMq3782 ((((hMq3741 ((hM).na (by decide))).na (by decide)).fr (fun _ _ => yup_nk (by decide)) (fun _ _ => yup_nk (by decide))).fr (fun k hk => hFq3768 _ _ wAt_n266) (fun k hk => hFq3768 _ _ wAt_n266))).fr (fun _ _ => yup_nk (by decide)) (fun _ _ => yup_nk (by decide)), fun h1 => ?_⟩
            omega
          · refine y_aload 94 c70_93 rfl rfl rfl ?_
            refine y_iconst 96 c70_94 rfl ?_
            have tb3806 := hTq3782.atp 2 2 0 320 rfl
            refine y_callIB 99 [.ref 2, yI 41] [] c70_96 rfl rfl rfl rfl rfl (ycanO km37 ko2) (t37 hTq3782 he (by have e1 : mq3782 5 e.toNat = m 5 e.toNat := ((hFq3782 5 e.toNat rfl).trans ((hFq3768 5 e.toNat rfl).trans ((yup_na (by omega)).trans ((yup_na (by decide)).trans ((hFq3741 5 e.toNat rfl).trans (yup_na (by decide))))))); omega) (by omega) (by omega)) (fun rq3805 mq3805 nq3805 hq3805 => ?_)
            obtain ⟨rfl, hTq3805, hFq3805, hq3805⟩ := hq3805
            have hF3807 := hF3793.tr hFq3805 wAt_wMt256
            refine y_if 114 102 c70_99 rfl rfl (yz_eq (by omega)) (fun hb3808 => ?_) (fun hb3808 => ?_)
            · refine y_iconst 115 c70_114 rfl ?_
              refine y_istore 116 c70_115 rfl rfl ?_
              refine y_aload 117 c70_116 rfl rfl rfl ?_
              refine y_aload 118 c70_117 rfl rfl rfl ?_
              refine y_getS 121 (B := 256) c70_118 rfl kf2_1 (by rw [show mq3805 2 1 = 0 from by have e : mq3805 2 1 = m 2 1 := ((hFq3805 2 1 rfl).trans ((hFq3782 2 1 rfl).trans ((hFq3768 2 1 rfl).trans ((yup_na (by omega)).trans ((yup_nk (by decide)).trans ((hFq3741 2 1 rfl).trans (yup_nk (by decide)))))))); omega]; rfl) ?_
              refine y_getX 124 (m 256 16) c70_121 rfl kf256_16 ((hFq3805 256 16 rfl).trans ((hFq3782 256 16 rfl).trans ((hFq3768 256 16 rfl).trans ((yup_na (by omega)).trans ((yup_na (by decide)).trans ((hFq3741 256 16 rfl).trans (yup_na (by decide)))))))) ?_
              refine y_putI 127 c70_124 rfl (ff266_5 (by omega)) (y_fit0 _) ?_
              have hT3809 := hTq3805.up (266 + ((mq3741 256 10) - 1).toNat) 5 (m 256 16) 0 40 (ft266_5 (by omega)) (by omega)
              have hF3810 := hF3807.up (266 + ((mq3741 256 10) - 1).toNat) 5 (m 256 16) (wMt256_m (by omega))
              refine y_iload 128 c70_127 rfl rfl ?_
              have es3811 : (yup mq3805 (266 + ((mq3741 256 10) - 1).toNat) 5 (m 256 16)) 2 2 = mq3805 2 2 := (yup_na (by omega))
              have tb3812 := hTq3805.atp 2 2 0 320 rfl
              have es3813 : (yup mq3805 (266 + ((mq3741 256 10) - 1).toNat) 5 (m 256 16)) 256 16 = m 256 16 := ((yup_na (by omega)).trans ((hFq3805 256 16 rfl).trans ((hFq3782 256 16 rfl).trans ((hFq3768 256 16 rfl).trans ((yup_na (by omega)).trans ((yup_na (by decide)).trans ((hFq3741 256 16 rfl).trans (yup_na (by decide)))))))))
              have es3814 : (yup mq3805 (266 + ((mq3741 256 10) - 1).toNat) 5 (m 256 16)) 256 12 = m 256 12 := ((yup_na (by omega)).trans ((hFq3805 256 12 rfl).trans ((hFq3782 256 12 rfl).trans ((hFq3768 256 12 rfl).trans ((yup_na (by omega)).trans ((yup_na (by decide)).trans ((hFq3741 256 12 rfl).trans (yup_na (by decide)))))))))
              have tb3815 := hT.atp 256 12 0 12 rfl
              have es3816 : (yup mq3805 (266 + ((mq3741 256 10) - 1).toNat) 5 (m 256 16)) 256 13 = m 256 13 := ((yup_na (by omega)).trans ((hFq3805 256 13 rfl).trans ((hFq3782 256 13 rfl).trans ((hFq3768 256 13 rfl).trans ((yup_na (by omega)).trans ((yup_na (by decide)).trans ((hFq3741 256 13 rfl).trans (yup_na (by decide)))))))))
              have tb3817 := hT.atp 256 13 0 8 rfl
              have es3818 : (yup mq3805 (266 + ((mq3741 256 10) - 1).toNat) 5 (m 256 16)) 256 10 = mq3741 256 10 := ((yup_na (by omega)).trans ((hFq3805 256 10 rfl).trans ((hFq3782 256 10 rfl).trans ((hFq3768 256 10 rfl).trans ((yup_na (by omega)).trans (yup_na (by decide)))))))
              refine y_retI c70_128 (y_fit1 (by omega)) ⟨rfl, hT3809, hF3810, by omega, fun z hz => ((yup_na (by omega)).trans ((hFq3805 265 z rfl).trans ((hFq3782 265 z rfl).trans ((hFq3768 265 z rfl).trans ((yup_na (by omega)).trans ((yup_na (by decide)).trans ((hFq3741 265 z rfl).trans (yup_na (by decide))))))))), fun hM => ((hMq3782 ((((hMq3741 ((hM).na (by decide))).na (by decide)).fr (fun _ _ => yup_nk (by decide)) (fun _ _ => yup_nk (by decide))).fr (fun k hk => hFq3768 _ _ wAt_n266) (fun k hk => hFq3768 _ _ wAt_n266))).fr (fun k hk => hFq3805 _ _ wAt_n266) (fun k hk => hFq3805 _ _ wAt_n266)).fr (fun _ _ => yup_nk (by decide)) (fun _ _ => yup_nk (by decide)), fun h1 => ?_⟩
              omega
            · refine y_aload 103 c70_102 rfl rfl rfl ?_
              refine y_iconst 104 c70_103 rfl ?_
              have tb3820 := hTq3805.atp 2 2 0 320 rfl
              have es3821 : mq3805 2 1 = m 2 1 := ((hFq3805 2 1 rfl).trans ((hFq3782 2 1 rfl).trans ((hFq3768 2 1 rfl).trans ((yup_na (by omega)).trans ((yup_nk (by decide)).trans ((hFq3741 2 1 rfl).trans (yup_nk (by decide))))))))
              have es3822 : mq3805 256 10 = mq3741 256 10 := ((hFq3805 256 10 rfl).trans ((hFq3782 256 10 rfl).trans ((hFq3768 256 10 rfl).trans ((yup_na (by omega)).trans (yup_na (by decide))))))
              have es3823 : mq3805 256 12 = m 256 12 := ((hFq3805 256 12 rfl).trans ((hFq3782 256 12 rfl).trans ((hFq3768 256 12 rfl).trans ((yup_na (by omega)).trans ((yup_na (by decide)).trans ((hFq3741 256 12 rfl).trans (yup_na (by decide))))))))
              have tb3824 := hT.atp 256 12 0 12 rfl
              have es3825 : mq3805 256 13 = m 256 13 := ((hFq3805 256 13 rfl).trans ((hFq3782 256 13 rfl).trans ((hFq3768 256 13 rfl).trans ((yup_na (by omega)).trans ((yup_na (by decide)).trans ((hFq3741 256 13 rfl).trans (yup_na (by decide))))))))
              have tb3826 := hT.atp 256 13 0 8 rfl
              have es3827 : mq3805 256 16 = m 256 16 := ((hFq3805 256 16 rfl).trans ((hFq3782 256 16 rfl).trans ((hFq3768 256 16 rfl).trans ((yup_na (by omega)).trans ((yup_na (by decide)).trans ((hFq3741 256 16 rfl).trans (yup_na (by decide))))))))
              refine y_callIB 107 [.ref 2, yI 0] [] c70_104 rfl rfl rfl rfl rfl (ycanO km69 ko2) (t69_256 hTq3805 he (by have e1 : mq3805 5 e.toNat = m 5 e.toNat := ((hFq3805 5 e.toNat rfl).trans ((hFq3782 5 e.toNat rfl).trans ((hFq3768 5 e.toNat rfl).trans ((yup_na (by omega)).trans ((yup_na (by decide)).trans ((hFq3741 5 e.toNat rfl).trans (yup_na (by decide)))))))); omega) (by omega) (by omega) (by omega)) (fun rq3819 mq3819 nq3819 hq3819 => ?_)
              obtain ⟨rfl, hTq3819, hFq3819, hq3819, hZq3819, hGq3819⟩ := hq3819
              have es16q3819 : mq3805 256 16 = m 256 16 := ((hFq3805 256 16 rfl).trans ((hFq3782 256 16 rfl).trans ((hFq3768 256 16 rfl).trans ((yup_na (by omega)).trans ((yup_na (by decide)).trans ((hFq3741 256 16 rfl).trans (yup_na (by decide))))))))
              have hF3828 := hF3807.tr hFq3819 (by rw [es16q3819]; exact wBo256_wMt256)
              refine y_if 114 110 c70_107 rfl rfl (yz_eq (by omega)) (fun hb3829 => ?_) (fun hb3829 => ?_)
              · refine y_iconst 115 c70_114 rfl ?_
                refine y_istore 116 c70_115 rfl rfl ?_
                refine y_aload 117 c70_116 rfl rfl rfl ?_
                refine y_aload 118 c70_117 rfl rfl rfl ?_
                refine y_getS 121 (B := 256) c70_118 rfl kf2_1 (by rw [show mq3819 2 1 = 0 from by have e : mq3819 2 1 = m 2 1 := ((hFq3819 2 1 ((wBo256_lt (by decide)).trans rfl)).trans ((hFq3805 2 1 rfl).trans ((hFq3782 2 1 rfl).trans ((hFq3768 2 1 rfl).trans ((yup_na (by omega)).trans ((yup_nk (by decide)).trans ((hFq3741 2 1 rfl).trans (yup_nk (by decide))))))))); omega]; rfl) ?_
                refine y_getX 124 (mq3819 256 16) c70_121 rfl kf256_16 rfl ?_
                have tb3830 := hTq3819.atp 256 16 0 40 rfl
                refine y_putI 127 c70_124 rfl (ff266_5 (by omega)) (y_fit0 _) ?_
                have hT3831 := hTq3819.up (266 + ((mq3741 256 10) - 1).toNat) 5 (mq3819 256 16) 0 40 (ft266_5 (by omega)) (by omega)
                have hF3832 := hF3828.up (266 + ((mq3741 256 10) - 1).toNat) 5 (mq3819 256 16) (wMt256_m (by omega))
                refine y_iload 128 c70_127 rfl rfl ?_
                have es3833 : (yup mq3819 (266 + ((mq3741 256 10) - 1).toNat) 5 (mq3819 256 16)) 2 2 = mq3819 2 2 := (yup_na (by omega))
                have tb3834 := hTq3819.atp 2 2 0 320 rfl
                have es3835 : (yup mq3819 (266 + ((mq3741 256 10) - 1).toNat) 5 (mq3819 256 16)) 256 16 = mq3819 256 16 := (yup_na (by omega))
                have es3836 : (yup mq3819 (266 + ((mq3741 256 10) - 1).toNat) 5 (mq3819 256 16)) 256 12 = mq3819 256 12 := (yup_na (by omega))
                have tb3837 := hTq3819.atp 256 12 0 12 rfl
                have es3838 : (yup mq3819 (266 + ((mq3741 256 10) - 1).toNat) 5 (mq3819 256 16)) 256 13 = mq3819 256 13 := (yup_na (by omega))
                have tb3839 := hTq3819.atp 256 13 0 8 rfl
                have es3840 : (yup mq3819 (266 + ((mq3741 256 10) - 1).toNat) 5 (mq3819 256 16)) 256 10 = mq3741 256 10 := ((yup_na (by omega)).trans ((hFq3819 256 10 ((wBo256_lt (by decide)).trans rfl)).trans ((hFq3805 256 10 rfl).trans ((hFq3782 256 10 rfl).trans ((hFq3768 256 10 rfl).trans ((yup_na (by omega)).trans (yup_na (by decide))))))))
                refine y_retI c70_128 (y_fit1 (by omega)) ⟨rfl, hT3831, hF3832, by omega, fun z hz => ((yup_na (by omega)).trans ((hZq3819 z (by omega)).trans ((hFq3805 265 z rfl).trans ((hFq3782 265 z rfl).trans ((hFq3768 265 z rfl).trans ((yup_na (by omega)).trans ((yup_na (by decide)).trans ((hFq3741 265 z rfl).trans (yup_na (by decide)))))))))), fun hM => (((hMq3782 ((((hMq3741 ((hM).na (by decide))).na (by decide)).fr (fun _ _ => yup_nk (by decide)) (fun _ _ => yup_nk (by decide))).fr (fun k hk => hFq3768 _ _ wAt_n266) (fun k hk => hFq3768 _ _ wAt_n266))).fr (fun k hk => hFq3805 _ _ wAt_n266) (fun k hk => hFq3805 _ _ wAt_n266)).fr (fun k hk => hFq3819 _ _ (wBo256_n266 (by omega))) (fun k hk => hFq3819 _ _ (wBo256_n266 (by omega)))).fr (fun _ _ => yup_nk (by decide)) (fun _ _ => yup_nk (by decide)), fun h1 => ?_⟩
                omega
              · refine y_iconst 111 c70_110 rfl ?_
                refine y_goto 115 c70_111 rfl ?_
                refine y_istore 116 c70_115 rfl rfl ?_
                refine y_aload 117 c70_116 rfl rfl rfl ?_
                refine y_aload 118 c70_117 rfl rfl rfl ?_
                refine y_getS 121 (B := 256) c70_118 rfl kf2_1 (by rw [show mq3819 2 1 = 0 from by have e : mq3819 2 1 = m 2 1 := ((hFq3819 2 1 ((wBo256_lt (by decide)).trans rfl)).trans ((hFq3805 2 1 rfl).trans ((hFq3782 2 1 rfl).trans ((hFq3768 2 1 rfl).trans ((yup_na (by omega)).trans ((yup_nk (by decide)).trans ((hFq3741 2 1 rfl).trans (yup_nk (by decide))))))))); omega]; rfl) ?_
                refine y_getX 124 (mq3819 256 16) c70_121 rfl kf256_16 rfl ?_
                have tb3841 := hTq3819.atp 256 16 0 40 rfl
                refine y_putI 127 c70_124 rfl (ff266_5 (by omega)) (y_fit0 _) ?_
                have hT3842 := hTq3819.up (266 + ((mq3741 256 10) - 1).toNat) 5 (mq3819 256 16) 0 40 (ft266_5 (by omega)) (by omega)
                have hF3843 := hF3828.up (266 + ((mq3741 256 10) - 1).toNat) 5 (mq3819 256 16) (wMt256_m (by omega))
                refine y_iload 128 c70_127 rfl rfl ?_
                have es3844 : (yup mq3819 (266 + ((mq3741 256 10) - 1).toNat) 5 (mq3819 256 16)) 2 2 = mq3819 2 2 := (yup_na (by omega))
                have tb3845 := hTq3819.atp 2 2 0 320 rfl
                have es3846 : (yup mq3819 (266 + ((mq3741 256 10) - 1).toNat) 5 (mq3819 256 16)) 256 16 = mq3819 256 16 := (yup_na (by omega))
                have es3847 : (yup mq3819 (266 + ((mq3741 256 10) - 1).toNat) 5 (mq3819 256 16)) 256 12 = mq3819 256 12 := (yup_na (by omega))
                have tb3848 := hTq3819.atp 256 12 0 12 rfl
                have es3849 : (yup mq3819 (266 + ((mq3741 256 10) - 1).toNat) 5 (mq3819 256 16)) 256 13 = mq3819 256 13 := (yup_na (by omega))
                have tb3850 := hTq3819.atp 256 13 0 8 rfl
                have es3851 : (yup mq3819 (266 + ((mq3741 256 10) - 1).toNat) 5 (mq3819 256 16)) 256 10 = mq3741 256 10 := ((yup_na (by omega)).trans ((hFq3819 256 10 ((wBo256_lt (by decide)).trans rfl)).trans ((hFq3805 256 10 rfl).trans ((hFq3782 256 10 rfl).trans ((hFq3768 256 10 rfl).trans ((yup_na (by omega)).trans (yup_na (by decide))))))))
                refine y_retI c70_128 (y_fit1 (by omega)) ⟨rfl, hT3842, hF3843, by omega, fun z hz => ((yup_na (by omega)).trans ((hZq3819 z (by omega)).trans ((hFq3805 265 z rfl).trans ((hFq3782 265 z rfl).trans ((hFq3768 265 z rfl).trans ((yup_na (by omega)).trans ((yup_na (by decide)).trans ((hFq3741 265 z rfl).trans (yup_na (by decide)))))))))), fun hM => (((hMq3782 ((((hMq3741 ((hM).na (by decide))).na (by decide)).fr (fun _ _ => yup_nk (by decide)) (fun _ _ => yup_nk (by decide))).fr (fun k hk => hFq3768 _ _ wAt_n266) (fun k hk => hFq3768 _ _ wAt_n266))).fr (fun k hk => hFq3805 _ _ wAt_n266) (fun k hk => hFq3805 _ _ wAt_n266)).fr (fun k hk => hFq3819 _ _ (wBo256_n266 (by omega))) (fun k hk => hFq3819 _ _ (wBo256_n266 (by omega)))).fr (fun _ _ => yup_nk (by decide)) (fun _ _ => yup_nk (by decide)), fun h1 => ?_⟩
                obtain ⟨g1, n1⟩ := hGq3819 (by omega)
                have g2 := g1.fr (m' := yup mq3819 (266 + ((mq3741 256 10) - 1).toNat) 5 (mq3819 256 16)) (c3 := (yup mq3819 (266 + ((mq3741 256 10) - 1).toNat) 5 (mq3819 256 16)) 256 12) (fun j ja jb q _ => yup_na (by omega)) (fun z za zb => yup_na (by omega)) (by omega)
                have n2 := n1.fr (m' := yup mq3819 (266 + ((mq3741 256 10) - 1).toNat) 5 (mq3819 256 16)) (c2 := (yup mq3819 (266 + ((mq3741 256 10) - 1).toNat) 5 (mq3819 256 16)) 256 16) (fun j ja jb q => yup_na (by omega)) (by omega)
                refine ⟨by omega, cast (by congr 1 <;> omega) g2, cast (by congr 1 <;> omega) n2, fun j hj => ((yup_na (by omega)).trans ((hFq3819 _ _ (wBo256_n266 (by omega))).trans ((hFq3805 _ _ wAt_n266).trans ((hFq3782 _ _ wPr256_5).trans ((hFq3768 _ _ wAt_n266).trans ((yup_nk (by decide)).trans ((yup_na (by omega)).trans ((hNq3741 j).trans (yup_na (by omega)))))))))), ?_⟩
                rw [show (m 256 10).toNat = ((mq3741 256 10) - 1).toNat by omega, yup_eq]; omega
      · exfalso; omega
end
section
/-! CONTRACTS: methods. Printed by wip/whole/gen90.py -/
theorem t54k_316 {L : Nat} {xs : Nat → Int32} {d nn : Nat} {m : yM} {e : Int} (hT : Ty gT m) (he : 0 ≤ e ∧ e ≤ 320) (hE : m 5 e.toNat = 0) (ha : m 2 2 ≤ e) (hp : m 2 1 = 1) {k : Int} (hk : k = m 316 10 - 1) (hk0 : 0 ≤ k ∧ k ≤ 9) (hp3 : m (326 + k.toNat) 3 ≤ 1) (hr : m (326 + k.toNat) 2 + 2 + m (326 + k.toNat) 3 = m 316 15) : YC (gZ L xs) (d + 2) 54 [.ref 2] m nn (qI (fun r m' n' => n' = nn ∧ Ty gT m' ∧ Fr wPr316 m m' ∧ ((r = 0 ∨ r = 1) ∧ m' 2 2 ≤ e ∧ m' (326 + k.toNat) 2 = m (326 + k.toNat) 2 ∧ (r = 1 → m' (326 + k.toNat) 3 = m (326 + k.toNat) 3 + 1 ∧ m' 316 15 = m 316 15 + 1)) ∧ (MP 326 m → MP 326 m'))) := by
  subst hk
  exact t54_316 hT he hE ha hp (by omega) hp3 hr
set_option maxRecDepth 100000 in
theorem t55_316 {L : Nat} {xs : Nat → Int32} {d nn : Nat} {m : yM} {e : Int} (hT : Ty gT m) (he : 0 ≤ e ∧ e ≤ 320) (hE : m 5 e.toNat = 0) (ha : m 2 2 ≤ e) (hp : m 2 1 = 1) {k : Int} (hk : k = m 316 10 - 1) (hk0 : 0 ≤ k ∧ k ≤ 9) (hp3 : m (326 + k.toNat) 3 = 0) (hr : m (326 + k.toNat) 2 + 2 = m 316 15) : YC (gZ L xs) (d + 3) 55 [.ref 2] m nn (qI (fun r m' n' => n' = nn ∧ Ty gT m' ∧ Fr wPr316 m m' ∧ ((r = 0 ∨ r = 1) ∧ m' 2 2 ≤ e) ∧ (MP 326 m → MP 326 m'))) := by
  have tb2 := hT.atp 2 2 0 320 rfl
  refine YC.mkB [some (.ref 2)] kn55 rfl rfl ?_
  have hF : Fr wPr316 m m := Fr.rf
  refine y_aload 1 c55_0 rfl rfl rfl ?_
  have tb3852 := hT.atp 2 2 0 320 rfl
  refine y_callP 4 [.ref 2] [] c55_1 rfl rfl rfl rfl rfl (ycanO km38 ko2) (t38 hT he hE (by omega)) (fun r3853 hr3853 => ?_)
  refine y_iconst 6 c55_4 rfl ?_
  refine y_icmp 11 9 c55_6 rfl rfl (yc_ne (by omega) (by omega)) (fun hb3854 => ?_) (fun hb3854 => ?_)
  · refine y_aload 12 c55_11 rfl rfl rfl ?_
    have tb3856 := hT.atp 2 1 ((-1)) 1 rfl
    have tb3857 := hT.atp 316 10 0 10 rfl
    have tb3858 := hT.atp 316 15 0 48 rfl
    have tb3859 := hT.atp (326 + k.toNat) 2 0 46 (ft326_2 (by omega))
    have tb3860 := hT.atp (326 + k.toNat) 3 0 2 (ft326_3 (by omega))
    refine y_callIB 15 [.ref 2] [] c55_12 rfl rfl rfl rfl rfl (ycanO km54 ko2) (t54k_316 (k := k) hT he hE (by omega) (by omega) (by omega) (by omega) (by omega) (by omega)) (fun rq3855 mq3855 nq3855 hq3855 => ?_)
    obtain ⟨rfl, hTq3855, hFq3855, hq3855, hMq3855⟩ := hq3855
    have hF3861 := hF.tr hFq3855 (fun _ _ e => e)
    refine y_if 20 18 c55_15 rfl rfl (yz_ne (by omega)) (fun hb3862 => ?_) (fun hb3862 => ?_)
    · refine y_aload 21 c55_20 rfl rfl rfl ?_
      have tb3863 := hTq3855.atp 2 2 0 320 rfl
      refine y_callP 24 [.ref 2] [] c55_21 rfl rfl rfl rfl rfl (ycanO km38 ko2) (t38 hTq3855 he (by have e1 : mq3855 5 e.toNat = m 5 e.toNat := (hFq3855 5 e.toNat rfl); omega) (by omega)) (fun r3864 hr3864 => ?_)
      refine y_iconst 26 c55_24 rfl ?_
      refine y_icmp 31 29 c55_26 rfl rfl (yc_eq (by omega) (by omega)) (fun hb3865 => ?_) (fun hb3865 => ?_)
      · refine y_aload 32 c55_31 rfl rfl rfl ?_
        refine y_dup 33 c55_32 rfl rfl ?_
        refine y_getX 36 (mq3855 2 2) c55_33 rfl kf2_2 rfl ?_
        refine y_iconst 37 c55_36 rfl ?_
        refine y_iadd 38 c55_37 rfl ?_
        refine y_putI 41 c55_38 rfl kf2_2 (y_fit0 _) ?_
        have hT3866 := hTq3855.up 2 2 ((mq3855 2 2) + 1) 0 320 rfl (by omega)
        have hF3867 := hF3861.up 2 2 ((mq3855 2 2) + 1) rfl
        refine y_aload 42 c55_41 rfl rfl rfl ?_
        have es3869 : (yup mq3855 2 2 ((mq3855 2 2) + 1)) 2 2 = (mq3855 2 2) + 1 := rfl
        have es3870 : (yup mq3855 2 2 ((mq3855 2 2) + 1)) 2 1 = m 2 1 := ((yup_nk (by decide)).trans (hFq3855 2 1 rfl))
        have es3871 : (yup mq3855 2 2 ((mq3855 2 2) + 1)) 316 10 = m 316 10 := ((yup_na (by decide)).trans (hFq3855 316 10 rfl))
        have es3872 : (yup mq3855 2 2 ((mq3855 2 2) + 1)) 316 15 = mq3855 316 15 := rfl
        have tb3873 := hTq3855.atp 316 15 0 48 rfl
        have es3874 : (yup mq3855 2 2 ((mq3855 2 2) + 1)) (326 + k.toNat) 2 = mq3855 (326 + k.toNat) 2 := (yup_na (by omega))
        have tb3875 := hTq3855.atp (326 + k.toNat) 2 0 46 (ft326_2 (by omega))
        have es3876 : (yup mq3855 2 2 ((mq3855 2 2) + 1)) (326 + k.toNat) 3 = mq3855 (326 + k.toNat) 3 := (yup_na (by omega))
        have tb3877 := hTq3855.atp (326 + k.toNat) 3 0 2 (ft326_3 (by omega))
        refine y_callIB 45 [.ref 2] [] c55_42 rfl rfl rfl rfl rfl (ycanO km54 ko2) (t54k_316 (k := k) hT3866 he (by have e1 : (yup mq3855 2 2 ((mq3855 2 2) + 1)) 5 e.toNat = m 5 e.toNat := ((yup_na (by decide)).trans (hFq3855 5 e.toNat rfl)); omega) (by omega) (by omega) (by omega) (by omega) (by omega) (by omega)) (fun rq3868 mq3868 nq3868 hq3868 => ?_)
        obtain ⟨rfl, hTq3868, hFq3868, hq3868, hMq3868⟩ := hq3868
        have hF3878 := hF3867.tr hFq3868 (fun _ _ e => e)
        have tb3879 := hTq3868.atp 2 2 0 320 rfl
        exact y_retI c55_45 (y_fit1 (by omega)) ⟨rfl, hTq3868, hF3878, by omega, fun hM => hMq3868 ((hMq3855 (hM)).na (by decide))⟩
      · refine y_iconst 30 c55_29 rfl ?_
        exact y_retI c55_30 (y_fit1 (by omega)) ⟨rfl, hTq3855, hF3861, by omega, fun hM => hMq3855 (hM)⟩
    · refine y_iconst 19 c55_18 rfl ?_
      have tb3880 := hTq3855.atp 2 2 0 320 rfl
      exact y_retI c55_19 (y_fit1 (by omega)) ⟨rfl, hTq3855, hF3861, by omega, fun hM => hMq3855 (hM)⟩
  · refine y_iconst 10 c55_9 rfl ?_
    exact y_retI c55_10 (y_fit1 (by omega)) ⟨rfl, hT, hF, by omega, fun hM => hM⟩
def wMt0316 (a q : Nat) : Bool := (a == 2 && (q == 2 || q == 4)) || (a == 316 && (q == 10 || (decide (12 ≤ q) && decide (q ≤ 16)))) || a == 321 || a == 325 || decide (326 ≤ a ∧ a < 336)
def wMt316 (c a q : Nat) : Bool := ((a == 2 && (q == 2 || q == 4)) || (a == 316 && (q == 10 || (decide (12 ≤ q) && decide (q ≤ 16)))) || a == 321 || a == 325 || decide (326 ≤ a ∧ a < 336)) || decide (336 + c ≤ a ∧ a < 376)
theorem wMt316_lt {c a q : Nat} (h : a < 336) : wMt316 c a q = wMt0316 a q := by
  have e : decide (336 + c ≤ a ∧ a < 376) = false := by simp; omega
  simp only [wMt316, wMt0316, e, Bool.or_false]
theorem wMt316_m {c k q : Nat} (h : k < 10) : wMt316 c (326 + k) q = true := by
  simp [wMt316]
  omega
theorem wMt316_n {c j q : Nat} (h : j < c) : wMt316 c (336 + j) q = false := by
  cases e : wMt316 c (336 + j) q with
  | false => rfl
  | true => simp [wMt316] at e <;> omega
theorem wFa_wMt316 {c : Nat} : ∀ a q, wFa a q = true → wMt316 c a q = true := by
  intro a q h
  simp [wFa] at h
  simp [wMt316]
  omega
theorem wAt_wMt316 {c : Nat} : ∀ a q, wAt a q = true → wMt316 c a q = true := by
  intro a q h
  simp [wAt] at h
  simp [wMt316]
  omega
theorem wPr316_wMt316 {c : Nat} : ∀ a q, wPr316 a q = true → wMt316 c a q = true := by
  intro a q h
  simp [wPr316] at h
  simp [wMt316]
  omega
theorem wMe316_wMt316 {c : Nat} : ∀ a q, wMe316 a q = true → wMt316 c a q = true := by
  intro a q h
  simp [wMe316] at h
  simp [wMt316]
  omega
theorem wBo316_wMt316 {c : Nat} : ∀ a q, wBo316 c a q = true → wMt316 c a q = true := by
  intro a q h
  simp [wBo316] at h
  simp [wMt316]
  omega
theorem wPr316_n336 {j q : Nat} : wPr316 (336 + j) q = false := by
  cases h : wPr316 (336 + j) q with
  | false => rfl
  | true => simp [wPr316] at h <;> omega
theorem wMe316_n336 {j q : Nat} : wMe316 (336 + j) q = false := by
  cases h : wMe316 (336 + j) q with
  | false => rfl
  | true => simp [wMe316] at h <;> omega
theorem wBo316_n326 {c j q : Nat} (h : j < 10) : wBo316 c (326 + j) q = false := by
  cases h : wBo316 c (326 + j) q with
  | false => rfl
  | true => simp [wBo316] at h <;> omega
theorem wPr316_5 {j : Nat} : wPr316 (326 + j) 5 = false := by
  cases h : wPr316 (326 + j) 5 with
  | false => rfl
  | true => simp [wPr316] at h <;> omega
set_option maxRecDepth 100000 in
theorem t70_316 {L : Nat} {xs : Nat → Int32} {d nn : Nat} {m : yM} {e : Int} (hT : Ty gT m) (he : 0 ≤ e ∧ e ≤ 320) (hE : m 5 e.toNat = 0) (ha : m 2 2 ≤ e) (hp : m 2 1 = 1) (hc : 1 ≤ m 316 9) (hlt : m 2 2 < e) : YC (gZ L xs) (d + 13) 70 [.ref 2] m nn (qI (fun r m' n' => n' = nn ∧ Ty gT m' ∧ Fr (wMt316 (m 316 16).toNat) m m' ∧ ((r = 0 ∨ r = 1) ∧ m' 2 2 ≤ e ∧ m 316 16 ≤ m' 316 16 ∧ m 316 12 ≤ m' 316 12 ∧ m 316 13 ≤ m' 316 13 ∧ m 316 10 ≤ m' 316 10) ∧ (∀ z : Nat, (z : Int) < m 316 13 → m' 325 z = m 325 z) ∧ (MP 326 m → MP 326 m') ∧ (r = 1 → m' 316 10 = m 316 10 + 1 ∧ RG 336 325 m' (m 316 16) (m' 316 16) (m 316 12) (m' 316 12) (m 316 13) (m' 316 13) ∧ EN 336 m' (m 316 16) (m' 316 16) (m' 316 16) ∧ (∀ j : Nat, (j : Int) < m 316 10 → m' (326 + j) 5 = m (326 + j) 5) ∧ m' (326 + (m 316 10).toNat) 5 ≤ m' 316 16))) := by
  have tb2 := hT.atp 2 2 0 320 rfl
  have tb12 := hT.atp 316 12 0 12 rfl
  have tb13 := hT.atp 316 13 0 8 rfl
  have tb16 := hT.atp 316 16 0 40 rfl
  have tb10 := hT.atp 316 10 0 10 rfl
  refine YC.mkB [some (.ref 2), none, none] kn70 rfl rfl ?_
  have hF : Fr (wMt316 (m 316 16).toNat) m m := Fr.rf
  refine y_aload 1 c70_0 rfl rfl rfl ?_
  refine y_dup 2 c70_1 rfl rfl ?_
  refine y_getX 5 (m 2 2) c70_2 rfl kf2_2 rfl ?_
  have tb3881 := hT.atp 2 2 0 320 rfl
  refine y_iconst 6 c70_5 rfl ?_
  refine y_iadd 7 c70_6 rfl ?_
  refine y_putI 10 c70_7 rfl kf2_2 (y_fit0 _) ?_
  have hT3882 := hT.up 2 2 ((m 2 2) + 1) 0 320 rfl (by omega)
  have hF3883 := hF.up 2 2 ((m 2 2) + 1) rfl
  refine y_aload 11 c70_10 rfl rfl rfl ?_
  have es3884 : (yup m 2 2 ((m 2 2) + 1)) 2 2 = (m 2 2) + 1 := rfl
  refine y_callP 14 [.ref 2] [] c70_11 rfl rfl rfl rfl rfl (ycanO km38 ko2) (t38 hT3882 he (by have e1 : (yup m 2 2 ((m 2 2) + 1)) 5 e.toNat = m 5 e.toNat := (yup_na (by decide)); omega) (by omega)) (fun r3885 hr3885 => ?_)
  refine y_iconst 16 c70_14 rfl ?_
  refine y_icmp 33 19 c70_16 rfl rfl (yc_ne (by omega) (by omega)) (fun hb3886 => ?_) (fun hb3886 => ?_)
  · refine y_aload 34 c70_33 rfl rfl rfl ?_
    have es3888 : (yup m 2 2 ((m 2 2) + 1)) 2 2 = (m 2 2) + 1 := rfl
    refine y_callIB 37 [.ref 2] [] c70_34 rfl rfl rfl rfl rfl (ycanO km43 ko2) (t43 hT3882) (fun rq3887 mq3887 nq3887 hq3887 => ?_)
    obtain ⟨rfl, hTq3887, hFq3887, hq3887⟩ := hq3887
    have hF3889 := hF3883.tr hFq3887 wFa_wMt316
    have es3890 : mq3887 2 2 = (m 2 2) + 1 := ((hFq3887 2 2 rfl).trans (yup_eq _ _ _ _))
    have es3891 : mq3887 316 16 = m 316 16 := ((hFq3887 316 16 rfl).trans (yup_na (by decide)))
    have tb3892 := hT.atp 316 16 0 40 rfl
    have es3893 : mq3887 316 12 = m 316 12 := ((hFq3887 316 12 rfl).trans (yup_na (by decide)))
    have tb3894 := hT.atp 316 12 0 12 rfl
    have es3895 : mq3887 316 13 = m 316 13 := ((hFq3887 316 13 rfl).trans (yup_na (by decide)))
    have tb3896 := hT.atp 316 13 0 8 rfl
    have es3897 : mq3887 316 10 = m 316 10 := ((hFq3887 316 10 rfl).trans (yup_na (by decide)))
    have tb3898 := hT.atp 316 10 0 10 rfl
    refine y_retI c70_37 (y_fit1 (by omega)) ⟨rfl, hTq3887, hF3889, by omega, fun z hz => ((hFq3887 325 z rfl).trans (yup_na (by decide))), fun hM => ((hM).na (by decide)).fr (fun k hk => hFq3887 _ _ wFa_n326) (fun k hk => hFq3887 _ _ wFa_n326), fun h1 => ?_⟩
    omega
  · refine y_aload 20 c70_19 rfl rfl rfl ?_
    refine y_getS 23 (B := 316) c70_20 rfl kf2_1 (by rw [show (yup m 2 2 ((m 2 2) + 1)) 2 1 = 1 from by have e : (yup m 2 2 ((m 2 2) + 1)) 2 1 = m 2 1 := rfl; omega]; rfl) ?_
    refine y_aload 24 c70_23 rfl rfl rfl ?_
    refine y_callP 27 [.ref 2] [.ref 316] c70_24 rfl rfl rfl rfl rfl (ycanO km39 ko2) (t39 hT3882) (fun r3899 hr3899 => ?_)
    have es3901 : (yup m 2 2 ((m 2 2) + 1)) 316 9 = m 316 9 := rfl
    have tb3902 := hT.atp 316 9 0 6 rfl
    have es3903 : (yup m 2 2 ((m 2 2) + 1)) 316 10 = m 316 10 := rfl
    have tb3904 := hT.atp 316 10 0 10 rfl
    have es3905 : (yup m 2 2 ((m 2 2) + 1)) 316 15 = m 316 15 := rfl
    have tb3906 := hT.atp 316 15 0 48 rfl
    have e10 : (yup m 2 2 ((m 2 2) + 1)) 316 10 = m 316 10 := rfl
    refine y_callIB 30 [.ref 316, yI r3899] [] c70_27 rfl rfl rfl rfl rfl (ycanO km51 ko316) (t51_316 hT3882 (by omega) (by omega)) (fun rq3900 mq3900 nq3900 hq3900 => ?_)
    obtain ⟨rfl, hTq3900, hFq3900, hq3900⟩ := hq3900
    rw [e10] at hq3900
    rcases hq3900 with ⟨rfl, rfl⟩ | ⟨rfl, hq3900, h15, hr2, hr3, hMq3900, hNq3900⟩
    · refine y_if 38 33 c70_30 rfl rfl (yz_ne (by omega)) (fun hb3907 => ?_) (fun hb3907 => ?_)
      · exfalso; omega
      · refine y_aload 34 c70_33 rfl rfl rfl ?_
        have es3909 : (yup m 2 2 ((m 2 2) + 1)) 2 2 = (m 2 2) + 1 := rfl
        refine y_callIB 37 [.ref 2] [] c70_34 rfl rfl rfl rfl rfl (ycanO km43 ko2) (t43 hT3882) (fun rq3908 mq3908 nq3908 hq3908 => ?_)
        obtain ⟨rfl, hTq3908, hFq3908, hq3908⟩ := hq3908
        have hF3910 := hF3883.tr hFq3908 wFa_wMt316
        have es3911 : mq3908 2 2 = (m 2 2) + 1 := ((hFq3908 2 2 rfl).trans (yup_eq _ _ _ _))
        have es3912 : mq3908 316 16 = m 316 16 := ((hFq3908 316 16 rfl).trans (yup_na (by decide)))
        have tb3913 := hT.atp 316 16 0 40 rfl
        have es3914 : mq3908 316 12 = m 316 12 := ((hFq3908 316 12 rfl).trans (yup_na (by decide)))
        have tb3915 := hT.atp 316 12 0 12 rfl
        have es3916 : mq3908 316 13 = m 316 13 := ((hFq3908 316 13 rfl).trans (yup_na (by decide)))
        have tb3917 := hT.atp 316 13 0 8 rfl
        have es3918 : mq3908 316 10 = m 316 10 := ((hFq3908 316 10 rfl).trans (yup_na (by decide)))
        refine y_retI c70_37 (y_fit1 (by omega)) ⟨rfl, hTq3908, hF3910, by omega, fun z hz => ((hFq3908 325 z rfl).trans (yup_na (by decide))), fun hM => ((hM).na (by decide)).fr (fun k hk => hFq3908 _ _ wFa_n326) (fun k hk => hFq3908 _ _ wFa_n326), fun h1 => ?_⟩
        omega
    · have hF3919 := hF3883.tr hFq3900 wMe316_wMt316
      have ekm : mq3900 316 10 - 1 = m 316 10 := by omega
      have hr2' : mq3900 (326 + (mq3900 316 10 - 1).toNat) 2 = m 316 15 := by rw [ekm, hr2]; rfl
      have hr3' : mq3900 (326 + (mq3900 316 10 - 1).toNat) 3 = 0 := by rw [ekm]; exact hr3
      have hk1 : m 316 10 ≤ 9 := by have := hTq3900.atp 316 10 0 10 rfl; omega
      refine y_if 38 33 c70_30 rfl rfl (yz_ne (by omega)) (fun hb3920 => ?_) (fun hb3920 => ?_)
      · refine y_aload 39 c70_38 rfl rfl rfl ?_
        refine y_dup 40 c70_39 rfl rfl ?_
        refine y_getX 43 ((m 2 2) + 1) c70_40 rfl kf2_2 ((hFq3900 2 2 rfl).trans (yup_eq _ _ _ _)) ?_
        refine y_iconst 44 c70_43 rfl ?_
        refine y_iadd 45 c70_44 rfl ?_
        refine y_putI 48 c70_45 rfl kf2_2 (y_fit0 _) ?_
        have hT3921 := hTq3900.up 2 2 (((m 2 2) + 1) + 1) 0 320 rfl (by omega)
        have hF3922 := hF3919.up 2 2 (((m 2 2) + 1) + 1) rfl
        refine y_aload 49 c70_48 rfl rfl rfl ?_
        refine y_getS 52 (B := 316) c70_49 rfl kf2_1 (by rw [show (yup mq3900 2 2 (((m 2 2) + 1) + 1)) 2 1 = 1 from by have e : (yup mq3900 2 2 (((m 2 2) + 1) + 1)) 2 1 = m 2 1 := ((yup_nk (by decide)).trans ((hFq3900 2 1 rfl).trans (yup_nk (by decide)))); omega]; rfl) ?_
        refine y_getR 55 c70_52 rfl kf316_5 ?_
        refine y_aload 56 c70_55 rfl rfl rfl ?_
        refine y_getS 59 (B := 316) c70_56 rfl kf2_1 (by rw [show (yup mq3900 2 2 (((m 2 2) + 1) + 1)) 2 1 = 1 from by have e : (yup mq3900 2 2 (((m 2 2) + 1) + 1)) 2 1 = m 2 1 := ((yup_nk (by decide)).trans ((hFq3900 2 1 rfl).trans (yup_nk (by decide)))); omega]; rfl) ?_
        refine y_getX 62 (mq3900 316 10) c70_59 rfl kf316_10 rfl ?_
        have tb3923 := hTq3900.atp 316 10 0 10 rfl
        refine y_iconst 63 c70_62 rfl ?_
        refine y_isub 64 c70_63 rfl ?_
        refine y_aaload 65 c70_64 rfl kr322 (by omega) ?_
        refine y_astore 66 c70_65 rfl rfl rfl ?_
        refine y_aload 67 c70_66 rfl rfl rfl ?_
        refine y_aload 68 c70_67 rfl rfl rfl ?_
        refine y_getS 71 (B := 316) c70_68 rfl kf2_1 (by rw [show (yup mq3900 2 2 (((m 2 2) + 1) + 1)) 2 1 = 1 from by have e : (yup mq3900 2 2 (((m 2 2) + 1) + 1)) 2 1 = m 2 1 := ((yup_nk (by decide)).trans ((hFq3900 2 1 rfl).trans (yup_nk (by decide)))); omega]; rfl) ?_
        refine y_getX 74 (m 316 16) c70_71 rfl kf316_16 ((yup_na (by decide)).trans ((hFq3900 316 16 rfl).trans (yup_na (by decide)))) ?_
        have tb3924 := hT.atp 316 16 0 40 rfl
        refine y_putI 77 c70_74 rfl (ff326_4 (by omega)) (y_fit0 _) ?_
        have hT3925 := hT3921.up (326 + ((mq3900 316 10) - 1).toNat) 4 (m 316 16) 0 40 (ft326_4 (by omega)) (by omega)
        have hF3926 := hF3922.up (326 + ((mq3900 316 10) - 1).toNat) 4 (m 316 16) (wMt316_m (by omega))
        refine y_aload 78 c70_77 rfl rfl rfl ?_
        refine y_iconst 80 c70_78 rfl ?_
        have es3928 : (yup (yup mq3900 2 2 (((m 2 2) + 1) + 1)) (326 + ((mq3900 316 10) - 1).toNat) 4 (m 316 16)) 2 2 = ((m 2 2) + 1) + 1 := ((yup_na (by omega)).trans (yup_eq _ _ _ _))
        refine y_callIB 83 [.ref 2, yI 40] [] c70_80 rfl rfl rfl rfl rfl (ycanO km37 ko2) (t37 hT3925 he (by have e1 : (yup (yup mq3900 2 2 (((m 2 2) + 1) + 1)) (326 + ((mq3900 316 10) - 1).toNat) 4 (m 316 16)) 5 e.toNat = m 5 e.toNat := ((yup_na (by omega)).trans ((yup_na (by decide)).trans ((hFq3900 5 e.toNat rfl).trans (yup_na (by decide))))); omega) (by omega) (by omega)) (fun rq3927 mq3927 nq3927 hq3927 => ?_)
        obtain ⟨rfl, hTq3927, hFq3927, hq3927⟩ := hq3927
        have hF3929 := hF3926.tr hFq3927 wAt_wMt316
        refine y_if 114 86 c70_83 rfl rfl (yz_eq (by omega)) (fun hb3930 => ?_) (fun hb3930 => ?_)
        · refine y_iconst 115 c70_114 rfl ?_
          refine y_istore 116 c70_115 rfl rfl ?_
          refine y_aload 117 c70_116 rfl rfl rfl ?_
          refine y_aload 118 c70_117 rfl rfl rfl ?_
          refine y_getS 121 (B := 316) c70_118 rfl kf2_1 (by rw [show mq3927 2 1 = 1 from by have e : mq3927 2 1 = m 2 1 := ((hFq3927 2 1 rfl).trans ((yup_na (by omega)).trans ((yup_nk (by decide)).trans ((hFq3900 2 1 rfl).trans (yup_nk (by decide)))))); omega]; rfl) ?_
          refine y_getX 124 (m 316 16) c70_121 rfl kf316_16 ((hFq3927 316 16 rfl).trans ((yup_na (by omega)).trans ((yup_na (by decide)).trans ((hFq3900 316 16 rfl).trans (yup_na (by decide)))))) ?_
          refine y_putI 127 c70_124 rfl (ff326_5 (by omega)) (y_fit0 _) ?_
          have hT3931 := hTq3927.up (326 + ((mq3900 316 10) - 1).toNat) 5 (m 316 16) 0 40 (ft326_5 (by omega)) (by omega)
          have hF3932 := hF3929.up (326 + ((mq3900 316 10) - 1).toNat) 5 (m 316 16) (wMt316_m (by omega))
          refine y_iload 128 c70_127 rfl rfl ?_
          have es3933 : (yup mq3927 (326 + ((mq3900 316 10) - 1).toNat) 5 (m 316 16)) 2 2 = mq3927 2 2 := (yup_na (by omega))
          have tb3934 := hTq3927.atp 2 2 0 320 rfl
          have es3935 : (yup mq3927 (326 + ((mq3900 316 10) - 1).toNat) 5 (m 316 16)) 316 16 = m 316 16 := ((yup_na (by omega)).trans ((hFq3927 316 16 rfl).trans ((yup_na (by omega)).trans ((yup_na (by decide)).trans ((hFq3900 316 16 rfl).trans (yup_na (by decide)))))))
          have es3936 : (yup mq3927 (326 + ((mq3900 316 10) - 1).toNat) 5 (m 316 16)) 316 12 = m 316 12 := ((yup_na (by omega)).trans ((hFq3927 316 12 rfl).trans ((yup_na (by omega)).trans ((yup_na (by decide)).trans ((hFq3900 316 12 rfl).trans (yup_na (by decide)))))))
          have tb3937 := hT.atp 316 12 0 12 rfl
          have es3938 : (yup mq3927 (326 + ((mq3900 316 10) - 1).toNat) 5 (m 316 16)) 316 13 = m 316 13 := ((yup_na (by omega)).trans ((hFq3927 316 13 rfl).trans ((yup_na (by omega)).trans ((yup_na (by decide)).trans ((hFq3900 316 13 rfl).trans (yup_na (by decide)))))))
          have tb3939 := hT.atp 316 13 0 8 rfl
          have es3940 : (yup mq3927 (326 + ((mq3900 316 10) - 1).toNat) 5 (m 316 16)) 316 10 = mq3900 316 10 := ((yup_na (by omega)).trans ((hFq3927 316 10 rfl).trans ((yup_na (by omega)).trans (yup_na (by decide)))))
          refine y_retI c70_128 (y_fit1 (by omega)) ⟨rfl, hT3931, hF3932, by omega, fun z hz => ((yup_na (by omega)).trans ((hFq3927 325 z rfl).trans ((yup_na (by omega)).trans ((yup_na (by decide)).trans ((hFq3900 325 z rfl).trans (yup_na (by decide))))))), fun hM => ((((hMq3900 ((hM).na (by decide))).na (by decide)).fr (fun _ _ => yup_nk (by decide)) (fun _ _ => yup_nk (by decide))).fr (fun k hk => hFq3927 _ _ wAt_n326) (fun k hk => hFq3927 _ _ wAt_n326)).fr (fun _ _ => yup_nk (by decide)) (fun _ _ => yup_nk (by decide)), fun h1 => ?_⟩
          omega
        · refine y_aload 87 c70_86 rfl rfl rfl ?_
          have tb3942 := hTq3927.atp 2 2 0 320 rfl
          have es3943 : mq3927 2 1 = m 2 1 := ((hFq3927 2 1 rfl).trans ((yup_na (by omega)).trans ((yup_nk (by decide)).trans ((hFq3900 2 1 rfl).trans (yup_nk (by decide))))))
          have tb3944 := hT.atp 2 1 ((-1)) 1 rfl
          have es3945 : mq3927 316 10 = mq3900 316 10 := ((hFq3927 316 10 rfl).trans ((yup_na (by omega)).trans (yup_na (by decide))))
          have es3946 : mq3927 316 15 = mq3900 316 15 := ((hFq3927 316 15 rfl).trans ((yup_na (by omega)).trans (yup_na (by decide))))
          have tb3947 := hTq3900.atp 316 15 0 48 rfl
          have es3948 : mq3927 (326 + ((mq3900 316 10) - 1).toNat) 2 = mq3900 (326 + ((mq3900 316 10) - 1).toNat) 2 := ((hFq3927 (326 + ((mq3900 316 10) - 1).toNat) 2 wAt_n326).trans ((yup_nk (by decide)).trans (yup_na (by omega))))
          have tb3949 := hTq3900.atp (326 + ((mq3900 316 10) - 1).toNat) 2 0 46 (ft326_2 (by omega))
          have es3950 : mq3927 (326 + ((mq3900 316 10) - 1).toNat) 3 = mq3900 (326 + ((mq3900 316 10) - 1).toNat) 3 := ((hFq3927 (326 + ((mq3900 316 10) - 1).toNat) 3 wAt_n326).trans ((yup_nk (by decide)).trans (yup_na (by omega))))
          have tb3951 := hTq3900.atp (326 + ((mq3900 316 10) - 1).toNat) 3 0 2 (ft326_3 (by omega))
          refine y_callIB 90 [.ref 2] [] c70_87 rfl rfl rfl rfl rfl (ycanO km55 ko2) (t55_316 (k := ((mq3900 316 10) - 1)) hTq3927 he (by have e1 : mq3927 5 e.toNat = m 5 e.toNat := ((hFq3927 5 e.toNat rfl).trans ((yup_na (by omega)).trans ((yup_na (by decide)).trans ((hFq3900 5 e.toNat rfl).trans (yup_na (by decide)))))); omega) (by omega) (by omega) (by omega) (by omega) (by omega) (by omega)) (fun rq3941 mq3941 nq3941 hq3941 => ?_)
          obtain ⟨rfl, hTq3941, hFq3941, hq3941, hMq3941⟩ := hq3941
          have hF3952 := hF3929.tr hFq3941 wPr316_wMt316
          refine y_if 114 93 c70_90 rfl rfl (yz_eq (by omega)) (fun hb3953 => ?_) (fun hb3953 => ?_)
          · refine y_iconst 115 c70_114 rfl ?_
            refine y_istore 116 c70_115 rfl rfl ?_
            refine y_aload 117 c70_116 rfl rfl rfl ?_
            refine y_aload 118 c70_117 rfl rfl rfl ?_
            refine y_getS 121 (B := 316) c70_118 rfl kf2_1 (by rw [show mq3941 2 1 = 1 from by have e : mq3941 2 1 = m 2 1 := ((hFq3941 2 1 rfl).trans ((hFq3927 2 1 rfl).trans ((yup_na (by omega)).trans ((yup_nk (by decide)).trans ((hFq3900 2 1 rfl).trans (yup_nk (by decide))))))); omega]; rfl) ?_
            refine y_getX 124 (m 316 16) c70_121 rfl kf316_16 ((hFq3941 316 16 rfl).trans ((hFq3927 316 16 rfl).trans ((yup_na (by omega)).trans ((yup_na (by decide)).trans ((hFq3900 316 16 rfl).trans (yup_na (by decide))))))) ?_
            refine y_putI 127 c70_124 rfl (ff326_5 (by omega)) (y_fit0 _) ?_
            have hT3954 := hTq3941.up (326 + ((mq3900 316 10) - 1).toNat) 5 (m 316 16) 0 40 (ft326_5 (by omega)) (by omega)
            have hF3955 := hF3952.up (326 + ((mq3900 316 10) - 1).toNat) 5 (m 316 16) (wMt316_m (by omega))
            refine y_iload 128 c70_127 rfl rfl ?_
            have es3956 : (yup mq3941 (326 + ((mq3900 316 10) - 1).toNat) 5 (m 316 16)) 2 2 = mq3941 2 2 := (yup_na (by omega))
            have tb3957 := hTq3941.atp 2 2 0 320 rfl
            have es3958 : (yup mq3941 (326 + ((mq3900 316 10) - 1).toNat) 5 (m 316 16)) 316 16 = m 316 16 := ((yup_na (by omega)).trans ((hFq3941 316 16 rfl).trans ((hFq3927 316 16 rfl).trans ((yup_na (by omega)).trans ((yup_na (by decide)).trans ((hFq3900 316 16 rfl).trans (yup_na (by decide))))))))
            have es3959 : (yup mq3941 (326 + ((mq3900 316 10) - 1).toNat) 5 (m 316 16)) 316 12 = m 316 12 := ((yup_na (by omega)).trans ((hFq3941 316 12 rfl).trans ((hFq3927 316 12 rfl).trans ((yup_na (by omega)).trans ((yup_na (by decide)).trans ((hFq3900 316 12 rfl).trans (yup_na (by decide))))))))
            have tb3960 := hT.atp 316 12 0 12 rfl
            have es3961 : (yup mq3941 (326 + ((mq3900 316 10) - 1).toNat) 5 (m 316 16)) 316 13 = m 316 13 := ((yup_na (by omega)).trans ((hFq3941 316 13 rfl).trans ((hFq3927 316 13 rfl).trans ((yup_na (by omega)).trans ((yup_na (by decide)).trans ((hFq3900 316 13 rfl).trans (yup_na (by decide))))))))
            have tb3962 := hT.atp 316 13 0 8 rfl
            have es3963 : (yup mq3941 (326 + ((mq3900 316 10) - 1).toNat) 5 (m 316 16)) 316 10 = mq3900 316 10 := ((yup_na (by omega)).trans ((hFq3941 316 10 rfl).trans ((hFq3927 316 10 rfl).trans ((yup_na (by omega)).trans (yup_na (by decide))))))
            refine y_retI c70_128 (y_fit1 (by omega)) ⟨rfl, hT3954, hF3955, by omega, fun z hz => ((yup_na (by omega)).trans ((hFq3941 325 z rfl).trans ((hFq3927 325 z rfl).trans ((yup_na (by omega)).trans ((yup_na (by decide)).trans ((hFq3900 325 z rfl).trans (yup_na (by decide)))))))), fun hM => (hMq3941 ((((hMq3900 ((hM).na (by decide))).na (by decide)).fr (fun _ _ => yup_nk (by decide)) (fun _ _ => yup_nk (by decide))).fr (fun k hk => hFq3927 _ _ wAt_n326) (fun k hk => hFq3927 _ _ wAt_n326))).fr (fun _ _ => yup_nk (by decide)) (fun _ _ => yup_nk (by decide)), fun h1 => ?_⟩
            omega
          · refine y_aload 94 c70_93 rfl rfl rfl ?_
            refine y_iconst 96 c70_94 rfl ?_
            have tb3965 := hTq3941.atp 2 2 0 320 rfl
            refine y_callIB 99 [.ref 2, yI 41] [] c70_96 rfl rfl rfl rfl rfl (ycanO km37 ko2) (t37 hTq3941 he (by have e1 : mq3941 5 e.toNat = m 5 e.toNat := ((hFq3941 5 e.toNat rfl).trans ((hFq3927 5 e.toNat rfl).trans ((yup_na (by omega)).trans ((yup_na (by decide)).trans ((hFq3900 5 e.toNat rfl).trans (yup_na (by decide))))))); omega) (by omega) (by omega)) (fun rq3964 mq3964 nq3964 hq3964 => ?_)
            obtain ⟨rfl, hTq3964, hFq3964, hq3964⟩ := hq3964
            have hF3966 := hF3952.tr hFq3964 wAt_wMt316
            refine y_if 114 102 c70_99 rfl rfl (yz_eq (by omega)) (fun hb3967 => ?_) (fun hb3967 => ?_)
            · refine y_iconst 115 c70_114 rfl ?_
              refine y_istore 116 c70_115 rfl rfl ?_
              refine y_aload 117 c70_116 rfl rfl rfl ?_
              refine y_aload 118 c70_117 rfl rfl rfl ?_
              refine y_getS 121 (B := 316) c70_118 rfl kf2_1 (by rw [show mq3964 2 1 = 1 from by have e : mq3964 2 1 = m 2 1 := ((hFq3964 2 1 rfl).trans ((hFq3941 2 1 rfl).trans ((hFq3927 2 1 rfl).trans ((yup_na (by omega)).trans ((yup_nk (by decide)).trans ((hFq3900 2 1 rfl).trans (yup_nk (by decide)))))))); omega]; rfl) ?_
              refine y_getX 124 (m 316 16) c70_121 rfl kf316_16 ((hFq3964 316 16 rfl).trans ((hFq3941 316 16 rfl).trans ((hFq3927 316 16 rfl).trans ((yup_na (by omega)).trans ((yup_na (by decide)).trans ((hFq3900 316 16 rfl).trans (yup_na (by decide)))))))) ?_
              refine y_putI 127 c70_124 rfl (ff326_5 (by omega)) (y_fit0 _) ?_
              have hT3968 := hTq3964.up (326 + ((mq3900 316 10) - 1).toNat) 5 (m 316 16) 0 40 (ft326_5 (by omega)) (by omega)
              have hF3969 := hF3966.up (326 + ((mq3900 316 10) - 1).toNat) 5 (m 316 16) (wMt316_m (by omega))
              refine y_iload 128 c70_127 rfl rfl ?_
              have es3970 : (yup mq3964 (326 + ((mq3900 316 10) - 1).toNat) 5 (m 316 16)) 2 2 = mq3964 2 2 := (yup_na (by omega))
              have tb3971 := hTq3964.atp 2 2 0 320 rfl
              have es3972 : (yup mq3964 (326 + ((mq3900 316 10) - 1).toNat) 5 (m 316 16)) 316 16 = m 316 16 := ((yup_na (by omega)).trans ((hFq3964 316 16 rfl).trans ((hFq3941 316 16 rfl).trans ((hFq3927 316 16 rfl).trans ((yup_na (by omega)).trans ((yup_na (by decide)).trans ((hFq3900 316 16 rfl).trans (yup_na (by decide)))))))))
              have es3973 : (yup mq3964 (326 + ((mq3900 316 10) - 1).toNat) 5 (m 316 16)) 316 12 = m 316 12 := ((yup_na (by omega)).trans ((hFq3964 316 12 rfl).trans ((hFq3941 316 12 rfl).trans ((hFq3927 316 12 rfl).trans ((yup_na (by omega)).trans ((yup_na (by decide)).trans ((hFq3900 316 12 rfl).trans (yup_na (by decide)))))))))
              have tb3974 := hT.atp 316 12 0 12 rfl
              have es3975 : (yup mq3964 (326 + ((mq3900 316 10) - 1).toNat) 5 (m 316 16)) 316 13 = m 316 13 := ((yup_na (by omega)).trans ((hFq3964 316 13 rfl).trans ((hFq3941 316 13 rfl).trans ((hFq3927 316 13 rfl).trans ((yup_na (by omega)).trans ((yup_na (by decide)).trans ((hFq3900 316 13 rfl).trans (yup_na (by decide)))))))))
              have tb3976 := hT.atp 316 13 0 8 rfl
              have es3977 : (yup mq3964 (326 + ((mq3900 316 10) - 1).toNat) 5 (m 316 16)) 316 10 = mq3900 316 10 := ((yup_na (by omega)).trans ((hFq3964 316 10 rfl).trans ((hFq3941 316 10 rfl).trans ((hFq3927 316 10 rfl).trans ((yup_na (by omega)).trans (yup_na (by decide)))))))
              refine y_retI c70_128 (y_fit1 (by omega)) ⟨rfl, hT3968, hF3969, by omega, fun z hz => ((yup_na (by omega)).trans ((hFq3964 325 z rfl).trans ((hFq3941 325 z rfl).trans ((hFq3927 325 z rfl).trans ((yup_na (by omega)).trans ((yup_na (by decide)).trans ((hFq3900 325 z rfl).trans (yup_na (by decide))))))))), fun hM => ((hMq3941 ((((hMq3900 ((hM).na (by decide))).na (by decide)).fr (fun _ _ => yup_nk (by decide)) (fun _ _ => yup_nk (by decide))).fr (fun k hk => hFq3927 _ _ wAt_n326) (fun k hk => hFq3927 _ _ wAt_n326))).fr (fun k hk => hFq3964 _ _ wAt_n326) (fun k hk => hFq3964 _ _ wAt_n326)).fr (fun _ _ => yup_nk (by decide)) (fun _ _ => yup_nk (by decide)), fun h1 => ?_⟩
              omega
            · refine y_aload 103 c70_102 rfl rfl rfl ?_
              refine y_iconst 104 c70_103 rfl ?_
              have tb3979 := hTq3964.atp 2 2 0 320 rfl
              have es3980 : mq3964 2 1 = m 2 1 := ((hFq3964 2 1 rfl).trans ((hFq3941 2 1 rfl).trans ((hFq3927 2 1 rfl).trans ((yup_na (by omega)).trans ((yup_nk (by decide)).trans ((hFq3900 2 1 rfl).trans (yup_nk (by decide))))))))
              have es3981 : mq3964 316 10 = mq3900 316 10 := ((hFq3964 316 10 rfl).trans ((hFq3941 316 10 rfl).trans ((hFq3927 316 10 rfl).trans ((yup_na (by omega)).trans (yup_na (by decide))))))
              have es3982 : mq3964 316 12 = m 316 12 := ((hFq3964 316 12 rfl).trans ((hFq3941 316 12 rfl).trans ((hFq3927 316 12 rfl).trans ((yup_na (by omega)).trans ((yup_na (by decide)).trans ((hFq3900 316 12 rfl).trans (yup_na (by decide))))))))
              have tb3983 := hT.atp 316 12 0 12 rfl
              have es3984 : mq3964 316 13 = m 316 13 := ((hFq3964 316 13 rfl).trans ((hFq3941 316 13 rfl).trans ((hFq3927 316 13 rfl).trans ((yup_na (by omega)).trans ((yup_na (by decide)).trans ((hFq3900 316 13 rfl).trans (yup_na (by decide))))))))
              have tb3985 := hT.atp 316 13 0 8 rfl
              have es3986 : mq3964 316 16 = m 316 16 := ((hFq3964 316 16 rfl).trans ((hFq3941 316 16 rfl).trans ((hFq3927 316 16 rfl).trans ((yup_na (by omega)).trans ((yup_na (by decide)).trans ((hFq3900 316 16 rfl).trans (yup_na (by decide))))))))
              refine y_callIB 107 [.ref 2, yI 0] [] c70_104 rfl rfl rfl rfl rfl (ycanO km69 ko2) (t69_316 hTq3964 he (by have e1 : mq3964 5 e.toNat = m 5 e.toNat := ((hFq3964 5 e.toNat rfl).trans ((hFq3941 5 e.toNat rfl).trans ((hFq3927 5 e.toNat rfl).trans ((yup_na (by omega)).trans ((yup_na (by decide)).trans ((hFq3900 5 e.toNat rfl).trans (yup_na (by decide)))))))); omega) (by omega) (by omega) (by omega)) (fun rq3978 mq3978 nq3978 hq3978 => ?_)
              obtain ⟨rfl, hTq3978, hFq3978, hq3978, hZq3978, hGq3978⟩ := hq3978
              have es16q3978 : mq3964 316 16 = m 316 16 := ((hFq3964 316 16 rfl).trans ((hFq3941 316 16 rfl).trans ((hFq3927 316 16 rfl).trans ((yup_na (by omega)).trans ((yup_na (by decide)).trans ((hFq3900 316 16 rfl).trans (yup_na (by decide))))))))
              have hF3987 := hF3966.tr hFq3978 (by rw [es16q3978]; exact wBo316_wMt316)
              refine y_if 114 110 c70_107 rfl rfl (yz_eq (by omega)) (fun hb3988 => ?_) (fun hb3988 => ?_)
              · refine y_iconst 115 c70_114 rfl ?_
                refine y_istore 116 c70_115 rfl rfl ?_
                refine y_aload 117 c70_116 rfl rfl rfl ?_
                refine y_aload 118 c70_117 rfl rfl rfl ?_
                refine y_getS 121 (B := 316) c70_118 rfl kf2_1 (by rw [show mq3978 2 1 = 1 from by have e : mq3978 2 1 = m 2 1 := ((hFq3978 2 1 ((wBo316_lt (by decide)).trans rfl)).trans ((hFq3964 2 1 rfl).trans ((hFq3941 2 1 rfl).trans ((hFq3927 2 1 rfl).trans ((yup_na (by omega)).trans ((yup_nk (by decide)).trans ((hFq3900 2 1 rfl).trans (yup_nk (by decide))))))))); omega]; rfl) ?_
                refine y_getX 124 (mq3978 316 16) c70_121 rfl kf316_16 rfl ?_
                have tb3989 := hTq3978.atp 316 16 0 40 rfl
                refine y_putI 127 c70_124 rfl (ff326_5 (by omega)) (y_fit0 _) ?_
                have hT3990 := hTq3978.up (326 + ((mq3900 316 10) - 1).toNat) 5 (mq3978 316 16) 0 40 (ft326_5 (by omega)) (by omega)
                have hF3991 := hF3987.up (326 + ((mq3900 316 10) - 1).toNat) 5 (mq3978 316 16) (wMt316_m (by omega))
                refine y_iload 128 c70_127 rfl rfl ?_
                have es3992 : (yup mq3978 (326 + ((mq3900 316 10) - 1).toNat) 5 (mq3978 316 16)) 2 2 = mq3978 2 2 := (yup_na (by omega))
                have tb3993 := hTq3978.atp 2 2 0 320 rfl
                have es3994 : (yup mq3978 (326 + ((mq3900 316 10) - 1).toNat) 5 (mq3978 316 16)) 316 16 = mq3978 316 16 := (yup_na (by omega))
                have es3995 : (yup mq3978 (326 + ((mq3900 316 10) - 1).toNat) 5 (mq3978 316 16)) 316 12 = mq3978 316 12 := (yup_na (by omega))
                have tb3996 := hTq3978.atp 316 12 0 12 rfl
                have es3997 : (yup mq3978 (326 + ((mq3900 316 10) - 1).toNat) 5 (mq3978 316 16)) 316 13 = mq3978 316 13 := (yup_na (by omega))
                have tb3998 := hTq3978.atp 316 13 0 8 rfl
                have es3999 : (yup mq3978 (326 + ((mq3900 316 10) - 1).toNat) 5 (mq3978 316 16)) 316 10 = mq3900 316 10 := ((yup_na (by omega)).trans ((hFq3978 316 10 ((wBo316_lt (by decide)).trans rfl)).trans ((hFq3964 316 10 rfl).trans ((hFq3941 316 10 rfl).trans ((hFq3927 316 10 rfl).trans ((yup_na (by omega)).trans (yup_na (by decide))))))))
                refine y_retI c70_128 (y_fit1 (by omega)) ⟨rfl, hT3990, hF3991, by omega, fun z hz => ((yup_na (by omega)).trans ((hZq3978 z (by omega)).trans ((hFq3964 325 z rfl).trans ((hFq3941 325 z rfl).trans ((hFq3927 325 z rfl).trans ((yup_na (by omega)).trans ((yup_na (by decide)).trans ((hFq3900 325 z rfl).trans (yup_na (by decide)))))))))), fun hM => (((hMq3941 ((((hMq3900 ((hM).na (by decide))).na (by decide)).fr (fun _ _ => yup_nk (by decide)) (fun _ _ => yup_nk (by decide))).fr (fun k hk => hFq3927 _ _ wAt_n326) (fun k hk => hFq3927 _ _ wAt_n326))).fr (fun k hk => hFq3964 _ _ wAt_n326) (fun k hk => hFq3964 _ _ wAt_n326)).fr (fun k hk => hFq3978 _ _ (wBo316_n326 (by omega))) (fun k hk => hFq3978 _ _ (wBo316_n326 (by omega)))).fr (fun _ _ => yup_nk (by decide)) (fun _ _ => yup_nk (by decide)), fun h1 => ?_⟩
                omega
              · refine y_iconst 111 c70_110 rfl ?_
                refine y_goto 115 c70_111 rfl ?_
                refine y_istore 116 c70_115 rfl rfl ?_
                refine y_aload 117 c70_116 rfl rfl rfl ?_
                refine y_aload 118 c70_117 rfl rfl rfl ?_
                refine y_getS 121 (B := 316) c70_118 rfl kf2_1 (by rw [show mq3978 2 1 = 1 from by have e : mq3978 2 1 = m 2 1 := ((hFq3978 2 1 ((wBo316_lt (by decide)).trans rfl)).trans ((hFq3964 2 1 rfl).trans ((hFq3941 2 1 rfl).trans ((hFq3927 2 1 rfl).trans ((yup_na (by omega)).trans ((yup_nk (by decide)).trans ((hFq3900 2 1 rfl).trans (yup_nk (by decide))))))))); omega]; rfl) ?_
                refine y_getX 124 (mq3978 316 16) c70_121 rfl kf316_16 rfl ?_
                have tb4000 := hTq3978.atp 316 16 0 40 rfl
                refine y_putI 127 c70_124 rfl (ff326_5 (by omega)) (y_fit0 _) ?_
                have hT4001 := hTq3978.up (326 + ((mq3900 316 10) - 1).toNat) 5 (mq3978 316 16) 0 40 (ft326_5 (by omega)) (by omega)
                have hF4002 := hF3987.up (326 + ((mq3900 316 10) - 1).toNat) 5 (mq3978 316 16) (wMt316_m (by omega))
                refine y_iload 128 c70_127 rfl rfl ?_
                have es4003 : (yup mq3978 (326 + ((mq3900 316 10) - 1).toNat) 5 (mq3978 316 16)) 2 2 = mq3978 2 2 := (yup_na (by omega))
                have tb4004 := hTq3978.atp 2 2 0 320 rfl
                have es4005 : (yup mq3978 (326 + ((mq3900 316 10) - 1).toNat) 5 (mq3978 316 16)) 316 16 = mq3978 316 16 := (yup_na (by omega))
                have es4006 : (yup mq3978 (326 + ((mq3900 316 10) - 1).toNat) 5 (mq3978 316 16)) 316 12 = mq3978 316 12 := (yup_na (by omega))
                have tb4007 := hTq3978.atp 316 12 0 12 rfl
                have es4008 : (yup mq3978 (326 + ((mq3900 316 10) - 1).toNat) 5 (mq3978 316 16)) 316 13 = mq3978 316 13 := (yup_na (by omega))
                have tb4009 := hTq3978.atp 316 13 0 8 rfl
                have es4010 : (yup mq3978 (326 + ((mq3900 316 10) - 1).toNat) 5 (mq3978 316 16)) 316 10 = mq3900 316 10 := ((yup_na (by omega)).trans ((hFq3978 316 10 ((wBo316_lt (by decide)).trans rfl)).trans ((hFq3964 316 10 rfl).trans ((hFq3941 316 10 rfl).trans ((hFq3927 316 10 rfl).trans ((yup_na (by omega)).trans (yup_na (by decide))))))))
                refine y_retI c70_128 (y_fit1 (by omega)) ⟨rfl, hT4001, hF4002, by omega, fun z hz => ((yup_na (by omega)).trans ((hZq3978 z (by omega)).trans ((hFq3964 325 z rfl).trans ((hFq3941 325 z rfl).trans ((hFq3927 325 z rfl).trans ((yup_na (by omega)).trans ((yup_na (by decide)).trans ((hFq3900 325 z rfl).trans (yup_na (by decide)))))))))), fun hM => (((hMq3941 ((((hMq3900 ((hM).na (by decide))).na (by decide)).fr (fun _ _ => yup_nk (by decide)) (fun _ _ => yup_nk (by decide))).fr (fun k hk => hFq3927 _ _ wAt_n326) (fun k hk => hFq3927 _ _ wAt_n326))).fr (fun k hk => hFq3964 _ _ wAt_n326) (fun k hk => hFq3964 _ _ wAt_n326)).fr (fun k hk => hFq3978 _ _ (wBo316_n326 (by omega))) (fun k hk => hFq3978 _ _ (wBo316_n326 (by omega)))).fr (fun _ _ => yup_nk (by decide)) (fun _ _ => yup_nk (by decide)), fun h1 => ?_⟩
                obtain ⟨g1, n1⟩ := hGq3978 (by omega)
                have g2 := g1.fr (m' := yup mq3978 (326 + ((mq3900 316 10) - 1).toNat) 5 (mq3978 316 16)) (c3 := (yup mq3978 (326 + ((mq3900 316 10) - 1).toNat) 5 (mq3978 316 16)) 316 12) (fun j ja jb q _ => yup_na (by omega)) (fun z za zb => yup_na (by omega)) (by omega)
                have n2 := n1.fr (m' := yup mq3978 (326 + ((mq3900 316 10) - 1).toNat) 5 (mq3978 316 16)) (c2 := (yup mq3978 (326 + ((mq3900 316 10) - 1).toNat) 5 (mq3978 316 16)) 316 16) (fun j ja jb q => yup_na (by omega)) (by omega)
                refine ⟨by omega, cast (by congr 1 <;> omega) g2, cast (by congr 1 <;> omega) n2, fun j hj => ((yup_na (by omega)).trans ((hFq3978 _ _ (wBo316_n326 (by omega))).trans ((hFq3964 _ _ wAt_n326).trans ((hFq3941 _ _ wPr316_5).trans ((hFq3927 _ _ wAt_n326).trans ((yup_nk (by decide)).trans ((yup_na (by omega)).trans ((hNq3900 j).trans (yup_na (by omega)))))))))), ?_⟩
                rw [show (m 316 10).toNat = ((mq3900 316 10) - 1).toNat by omega, yup_eq]; omega
      · exfalso; omega
end
section
/-! CONTRACTS: resolve, parse. Printed by wip/whole/gen91.py -/
def wRs256 (a q : Nat) : Bool := (a == 256 && q == 17) || a == 264 || (decide (276 ≤ a ∧ a < 316) && (q == 6 || q == 7))
theorem wRs256_6 {k : Nat} (h : k < 40) : wRs256 (276 + k) 6 = true := by
  simp [wRs256]
  omega
theorem wRs256_7 {k : Nat} (h : k < 40) : wRs256 (276 + k) 7 = true := by
  simp [wRs256]
  omega
set_option maxRecDepth 100000 in
theorem t73a_256 {L : Nat} {xs : Nat → Int32} {d nn : Nat} {m : yM} (hT : Ty gT m) : ∀ (k : Nat) (i : Int) (x2 : Option Value) (mi : yM), m 256 16 - i = k → 0 ≤ i ∧ i ≤ m 256 16 → Ty gT mi → Fr wRs256 m mi → RG 276 265 mi 0 (m 256 16) 0 (m 256 12) 0 (m 256 13) → NL 276 mi 0 i → YW (gZ L xs) 73 (d + 7) 2 [some (.ref 256), some (yI i), x2] [] mi nn (qI (fun r m' n' => n' = nn ∧ Ty gT m' ∧ Fr wRs256 m m' ∧ (-1 ≤ r ∧ r ≤ 320) ∧ (r = -1 → RG 276 265 m' 0 (m 256 16) 0 (m 256 12) 0 (m 256 13) ∧ NL 276 m' 0 (m 256 16) ∧ m' 256 17 < m 256 10))) := by
  intro k
  induction k using Nat.strongRecOn with
  | ind k ih =>
    intro i x2 mi hk hi hTi hFi hR hN
    have tb16 := hT.atp 256 16 0 40 rfl
    refine y_iload 3 c73_2 rfl rfl ?_
    refine y_aload 4 c73_3 rfl rfl rfl ?_
    refine y_getX 7 (m 256 16) c73_4 rfl kf256_16 (hFi 256 16 rfl) ?_
    refine y_icmp 118 10 c73_7 rfl rfl (yc_ge (by omega) (by omega)) (fun hb4011 => ?_) (fun hb4011 => ?_)
    · have es4012 : mi 256 10 = m 256 10 := (hFi 256 10 rfl)
      have tb4013 := hT.atp 256 10 0 10 rfl
      refine y_aload 119 c73_118 rfl rfl rfl ?_
      refine y_aload 120 c73_119 rfl rfl rfl ?_
      refine y_iconst 121 c73_120 rfl ?_
      refine y_ldc 123 c73_121 rfl (show 10 < gLit.length by decide) ?_
      refine y_callP 126 [.retAddr 21] [yI 0, .ref 256, .ref 256] c73_123 rfl rfl rfl rfl rfl (ycanS km8) t8_go (fun r4014 hr4014 => ?_)
      refine y_iconst 127 c73_126 rfl ?_
      refine y_callP 130 [.ref 256, yI 0, yI r4014, yI 0] [.ref 256] c73_127 rfl rfl rfl rfl rfl (ycanO km72 ko256) (t72_256 hTi (by omega) (by omega) (by omega)) (fun r4015 hr4015 => ?_)
      refine y_putI 133 c73_130 rfl kf256_17 (y_fit0 _) ?_
      have hT4016 := hTi.up 256 17 r4015 ((-1)) 9 rfl (by omega)
      have hF4017 := hFi.up 256 17 r4015 rfl
      refine y_iconst 134 c73_133 rfl ?_
      exact y_retI c73_134 (y_fit0 _) ⟨rfl, hT4016, hF4017, by omega, fun _ => ⟨hR.ext (fun j q _ _ => yup_na (by omega)) (fun j _ => yup_na (by omega)) (fun z => yup_na (by omega)), cast (by congr 1 <;> omega) (hN.fr (m' := yup mi 256 17 r4015) (fun j ja jb => ⟨yup_na (by omega), yup_na (by omega)⟩)), by rw [yup_eq]; have e10 := hFi 256 10 rfl; omega⟩⟩
    · have hsi := (hR.1 i.toNat (by omega) (by omega)).1
      have hs5 : mi (276 + i.toNat) 0 = 5 → 0 ≤ mi (276 + i.toNat) 6 := fun h5 => (hsi.2.2.2.1 h5).2
      refine y_aload 11 c73_10 rfl rfl rfl ?_
      refine y_getR 14 c73_11 rfl kf256_6 ?_
      refine y_iload 15 c73_14 rfl rfl ?_
      refine y_aaload 16 c73_15 rfl kr263 (by omega) ?_
      refine y_astore 17 c73_16 rfl rfl rfl ?_
      refine y_aload 18 c73_17 rfl rfl rfl ?_
      refine y_getX 21 (mi (276 + i.toNat) 0) c73_18 rfl (ff276_0 (by omega)) rfl ?_
      have tb4018 := hTi.atp (276 + i.toNat) 0 0 9 (ft276_0 (by omega))
      refine y_iconst 23 c73_21 rfl ?_
      refine y_icmp 34 26 c73_23 rfl rfl (yc_eq (by omega) (by omega)) (fun hb4019 => ?_) (fun hb4019 => ?_)
      · refine y_aload 35 c73_34 rfl rfl rfl ?_
        refine y_aload 36 c73_35 rfl rfl rfl ?_
        refine y_aload 37 c73_36 rfl rfl rfl ?_
        refine y_getX 40 (mi (276 + i.toNat) 4) c73_37 rfl (ff276_4 (by omega)) rfl ?_
        have tb4020 := hTi.atp (276 + i.toNat) 4 ((-2147483648)) 2147483647 (ft276_4 (by omega))
        have es4021 : mi 256 11 = m 256 11 := (hFi 256 11 rfl)
        have tb4022 := hT.atp 256 11 0 8 rfl
        refine y_callP 43 [.ref 256, yI (mi (276 + i.toNat) 4)] [.ref (276 + i.toNat)] c73_40 rfl rfl rfl rfl rfl (ycanO km46 ko256) (t46_256 hTi (by omega)) (fun r4023 hr4023 => ?_)
        refine y_putI 46 c73_43 rfl (ff276_6 (by omega)) (y_fit0 _) ?_
        have hT4024 := hTi.up (276 + i.toNat) 6 r4023 ((-1)) 11 (ft276_6 (by omega)) (by omega)
        have hF4025 := hFi.up (276 + i.toNat) 6 r4023 (wRs256_6 (by omega))
        refine y_goto 112 c73_46 rfl ?_
        refine y_iinc 115 c73_112 rfl rfl rfl ?_
        refine y_goto 2 c73_115 rfl ?_
        exact ih (m 256 16 - (i + 1) : Int).toNat (by omega) (i + 1) _  _ (by omega) (by omega) hT4024 hF4025 (hR.ext (fun j q h6 h7 => yup_nk h6) (fun j hj => yup_na (fun e => by have hj2 : j = i.toNat := (by omega); subst hj2; omega)) (fun z => yup_na (by omega))) (NL.snoc (k := i) (hN.fr (fun j ja jb => ⟨(yup_na (by omega)), (yup_na (by omega))⟩)) rfl (by omega) (by rw [yup_nk (by decide), yup_eq]; omega))
      · refine y_aload 27 c73_26 rfl rfl rfl ?_
        refine y_getX 30 (mi (276 + i.toNat) 0) c73_27 rfl (ff276_0 (by omega)) rfl ?_
        refine y_iconst 31 c73_30 rfl ?_
        refine y_icmp 49 34 c73_31 rfl rfl (yc_ne (by omega) (by omega)) (fun hb4026 => ?_) (fun hb4026 => ?_)
        · refine y_aload 50 c73_49 rfl rfl rfl ?_
          refine y_getX 53 (mi (276 + i.toNat) 0) c73_50 rfl (ff276_0 (by omega)) rfl ?_
          refine y_iconst 54 c73_53 rfl ?_
          refine y_icmp 66 57 c73_54 rfl rfl (yc_eq (by omega) (by omega)) (fun hb4027 => ?_) (fun hb4027 => ?_)
          · refine y_aload 67 c73_66 rfl rfl rfl ?_
            refine y_aload 68 c73_67 rfl rfl rfl ?_
            refine y_aload 69 c73_68 rfl rfl rfl ?_
            refine y_getX 72 (mi (276 + i.toNat) 4) c73_69 rfl (ff276_4 (by omega)) rfl ?_
            have tb4028 := hTi.atp (276 + i.toNat) 4 ((-2147483648)) 2147483647 (ft276_4 (by omega))
            have es4029 : mi 256 9 = m 256 9 := (hFi 256 9 rfl)
            have tb4030 := hT.atp 256 9 0 6 rfl
            refine y_callP 75 [.ref 256, yI (mi (276 + i.toNat) 4)] [.ref (276 + i.toNat)] c73_72 rfl rfl rfl rfl rfl (ycanO km41 ko256) (t41_256 hTi (by omega)) (fun r4031 hr4031 => ?_)
            refine y_putI 78 c73_75 rfl (ff276_7 (by omega)) (y_fit0 _) ?_
            have hT4032 := hTi.up (276 + i.toNat) 7 r4031 ((-1)) 5 (ft276_7 (by omega)) (by omega)
            have hF4033 := hFi.up (276 + i.toNat) 7 r4031 (wRs256_7 (by omega))
            refine y_aload 79 c73_78 rfl rfl rfl ?_
            refine y_getX 82 r4031 c73_79 rfl (ff276_7 (by omega)) (yup_eq _ _ _ _) ?_
            refine y_iconst 83 c73_82 rfl ?_
            refine y_icmp 91 86 c73_83 rfl rfl (yc_ne (by omega) (by omega)) (fun hb4034 => ?_) (fun hb4034 => ?_)
            · refine y_aload 92 c73_91 rfl rfl rfl ?_
              refine y_getX 95 (mi (276 + i.toNat) 0) c73_92 rfl (ff276_0 (by omega)) (yup_nk (by decide)) ?_
              refine y_iconst 96 c73_95 rfl ?_
              refine y_icmp 112 99 c73_96 rfl rfl (yc_ne (by omega) (by omega)) (fun hb4035 => ?_) (fun hb4035 => ?_)
              · exfalso; omega
              · refine y_aload 100 c73_99 rfl rfl rfl ?_
                refine y_getR 103 c73_100 rfl kf256_7 ?_
                refine y_aload 104 c73_103 rfl rfl rfl ?_
                refine y_getX 107 (mi (276 + i.toNat) 6) c73_104 rfl (ff276_6 (by omega)) (yup_nk (by decide)) ?_
                have tb4036 := hTi.atp (276 + i.toNat) 6 ((-1)) 11 (ft276_6 (by omega))
                refine y_aload 108 c73_107 rfl rfl rfl ?_
                refine y_getX 111 r4031 c73_108 rfl (ff276_7 (by omega)) (yup_eq _ _ _ _) ?_
                refine y_iastore 112 c73_111 rfl ka264 (by omega) (y_nar0 _) ?_
                have hT4037 := hT4032.up 264 ((mi (276 + i.toNat) 6).toNat) r4031 0 5 rfl (by omega)
                have hF4038 := hF4033.up 264 ((mi (276 + i.toNat) 6).toNat) r4031 rfl
                refine y_iinc 115 c73_112 rfl rfl rfl ?_
                refine y_goto 2 c73_115 rfl ?_
                exact ih (m 256 16 - (i + 1) : Int).toNat (by omega) (i + 1) _  _ (by omega) (by omega) hT4037 hF4038 (hR.ext (fun j q h6 h7 => (yup_na (by omega)).trans (yup_nk h7)) (fun j hj => (yup_na (by omega)).trans (yup_nk (by decide))) (fun z => (yup_na (by omega)).trans (yup_na (by omega)))) (NL.snoc (k := i) (hN.fr (fun j ja jb => ⟨((yup_na (by omega)).trans (yup_na (by omega))), ((yup_na (by omega)).trans (yup_na (by omega)))⟩)) rfl (by omega) (by rw [yup_na (by omega), yup_nk (by decide), yup_na (by omega), yup_nk (by decide)]; omega))
            · refine y_aload 87 c73_86 rfl rfl rfl ?_
              refine y_getX 90 (mi (276 + i.toNat) 5) c73_87 rfl (ff276_5 (by omega)) (yup_nk (by decide)) ?_
              have tb4039 := hTi.atp (276 + i.toNat) 5 0 320 (ft276_5 (by omega))
              exact y_retI c73_90 (y_fit0 _) ⟨rfl, hT4032, hF4033, by omega, fun h1 => by omega⟩
          · refine y_aload 58 c73_57 rfl rfl rfl ?_
            refine y_getX 61 (mi (276 + i.toNat) 0) c73_58 rfl (ff276_0 (by omega)) rfl ?_
            refine y_iconst 63 c73_61 rfl ?_
            refine y_icmp 112 66 c73_63 rfl rfl (yc_ne (by omega) (by omega)) (fun hb4040 => ?_) (fun hb4040 => ?_)
            · refine y_iinc 115 c73_112 rfl rfl rfl ?_
              refine y_goto 2 c73_115 rfl ?_
              exact ih (m 256 16 - (i + 1) : Int).toNat (by omega) (i + 1) _  _ (by omega) (by omega) hTi hFi hR (NL.snoc (k := i) (hN.fr (fun j ja jb => ⟨rfl, rfl⟩)) rfl (by omega) (by omega))
            · refine y_aload 67 c73_66 rfl rfl rfl ?_
              refine y_aload 68 c73_67 rfl rfl rfl ?_
              refine y_aload 69 c73_68 rfl rfl rfl ?_
              refine y_getX 72 (mi (276 + i.toNat) 4) c73_69 rfl (ff276_4 (by omega)) rfl ?_
              have tb4041 := hTi.atp (276 + i.toNat) 4 ((-2147483648)) 2147483647 (ft276_4 (by omega))
              have es4042 : mi 256 9 = m 256 9 := (hFi 256 9 rfl)
              have tb4043 := hT.atp 256 9 0 6 rfl
              refine y_callP 75 [.ref 256, yI (mi (276 + i.toNat) 4)] [.ref (276 + i.toNat)] c73_72 rfl rfl rfl rfl rfl (ycanO km41 ko256) (t41_256 hTi (by omega)) (fun r4044 hr4044 => ?_)
              refine y_putI 78 c73_75 rfl (ff276_7 (by omega)) (y_fit0 _) ?_
              have hT4045 := hTi.up (276 + i.toNat) 7 r4044 ((-1)) 5 (ft276_7 (by omega)) (by omega)
              have hF4046 := hFi.up (276 + i.toNat) 7 r4044 (wRs256_7 (by omega))
              refine y_aload 79 c73_78 rfl rfl rfl ?_
              refine y_getX 82 r4044 c73_79 rfl (ff276_7 (by omega)) (yup_eq _ _ _ _) ?_
              refine y_iconst 83 c73_82 rfl ?_
              refine y_icmp 91 86 c73_83 rfl rfl (yc_ne (by omega) (by omega)) (fun hb4047 => ?_) (fun hb4047 => ?_)
              · refine y_aload 92 c73_91 rfl rfl rfl ?_
                refine y_getX 95 (mi (276 + i.toNat) 0) c73_92 rfl (ff276_0 (by omega)) (yup_nk (by decide)) ?_
                refine y_iconst 96 c73_95 rfl ?_
                refine y_icmp 112 99 c73_96 rfl rfl (yc_ne (by omega) (by omega)) (fun hb4048 => ?_) (fun hb4048 => ?_)
                · refine y_iinc 115 c73_112 rfl rfl rfl ?_
                  refine y_goto 2 c73_115 rfl ?_
                  exact ih (m 256 16 - (i + 1) : Int).toNat (by omega) (i + 1) _  _ (by omega) (by omega) hT4045 hF4046 (hR.ext (fun j q h6 h7 => yup_nk h7) (fun j hj => yup_nk (by decide)) (fun z => yup_na (by omega))) (NL.snoc (k := i) (hN.fr (fun j ja jb => ⟨(yup_na (by omega)), (yup_na (by omega))⟩)) rfl (by omega) (by rw [yup_nk (by decide), yup_nk (by decide)]; omega))
                · exfalso; omega
              · refine y_aload 87 c73_86 rfl rfl rfl ?_
                refine y_getX 90 (mi (276 + i.toNat) 5) c73_87 rfl (ff276_5 (by omega)) (yup_nk (by decide)) ?_
                have tb4049 := hTi.atp (276 + i.toNat) 5 0 320 (ft276_5 (by omega))
                exact y_retI c73_90 (y_fit0 _) ⟨rfl, hT4045, hF4046, by omega, fun h1 => by omega⟩
        · refine y_aload 35 c73_34 rfl rfl rfl ?_
          refine y_aload 36 c73_35 rfl rfl rfl ?_
          refine y_aload 37 c73_36 rfl rfl rfl ?_
          refine y_getX 40 (mi (276 + i.toNat) 4) c73_37 rfl (ff276_4 (by omega)) rfl ?_
          have tb4050 := hTi.atp (276 + i.toNat) 4 ((-2147483648)) 2147483647 (ft276_4 (by omega))
          have es4051 : mi 256 11 = m 256 11 := (hFi 256 11 rfl)
          have tb4052 := hT.atp 256 11 0 8 rfl
          refine y_callP 43 [.ref 256, yI (mi (276 + i.toNat) 4)] [.ref (276 + i.toNat)] c73_40 rfl rfl rfl rfl rfl (ycanO km46 ko256) (t46_256 hTi (by omega)) (fun r4053 hr4053 => ?_)
          refine y_putI 46 c73_43 rfl (ff276_6 (by omega)) (y_fit0 _) ?_
          have hT4054 := hTi.up (276 + i.toNat) 6 r4053 ((-1)) 11 (ft276_6 (by omega)) (by omega)
          have hF4055 := hFi.up (276 + i.toNat) 6 r4053 (wRs256_6 (by omega))
          refine y_goto 112 c73_46 rfl ?_
          refine y_iinc 115 c73_112 rfl rfl rfl ?_
          refine y_goto 2 c73_115 rfl ?_
          exact ih (m 256 16 - (i + 1) : Int).toNat (by omega) (i + 1) _  _ (by omega) (by omega) hT4054 hF4055 (hR.ext (fun j q h6 h7 => yup_nk h6) (fun j hj => yup_na (fun e => by have hj2 : j = i.toNat := (by omega); subst hj2; omega)) (fun z => yup_na (by omega))) (NL.snoc (k := i) (hN.fr (fun j ja jb => ⟨(yup_na (by omega)), (yup_na (by omega))⟩)) rfl (by omega) (by rw [yup_nk (by decide), yup_eq]; omega))
set_option maxRecDepth 100000 in
theorem t73_256 {L : Nat} {xs : Nat → Int32} {d nn : Nat} {m : yM} (hT : Ty gT m) (hR : RG 276 265 m 0 (m 256 16) 0 (m 256 12) 0 (m 256 13)) : YC (gZ L xs) (d + 7) 73 [.ref 256] m nn (qI (fun r m' n' => n' = nn ∧ Ty gT m' ∧ Fr wRs256 m m' ∧ (-1 ≤ r ∧ r ≤ 320) ∧ (r = -1 → RG 276 265 m' 0 (m 256 16) 0 (m 256 12) 0 (m 256 13) ∧ NL 276 m' 0 (m 256 16) ∧ m' 256 17 < m 256 10))) := by
  refine YC.mkB [some (.ref 256), none, none] kn73 rfl rfl ?_
  refine y_iconst 1 c73_0 rfl ?_
  refine y_istore 2 c73_1 rfl rfl ?_
  have tb16 := hT.atp 256 16 0 40 rfl
  exact t73a_256 hT (m 256 16 - 0).toNat 0 none m (by omega) (by omega) hT Fr.rf hR (NL.nil (by omega))
def wPl256 (a q : Nat) : Bool := (a == 2 && (q == 2 || q == 3 || q == 4)) || decide (256 ≤ a ∧ a < 316)
def wPs256 (a _q : Nat) : Bool := a == 2 || a == 3 || a == 5 || a == 6 || a == 7 || decide (256 ≤ a ∧ a < 316)
theorem wFa_wPl256 : ∀ a q, wFa a q = true → wPl256 a q = true := by
  intro a q h
  simp [wFa] at h
  simp [wPl256]
  omega
theorem wAt_wPl256 : ∀ a q, wAt a q = true → wPl256 a q = true := by
  intro a q h
  simp [wAt] at h
  simp [wPl256]
  omega
theorem wHd256_wPl256 : ∀ a q, wHd256 a q = true → wPl256 a q = true := by
  intro a q h
  simp [wHd256] at h
  simp [wPl256]
  omega
theorem wFd256_wPl256 : ∀ a q, wFd256 a q = true → wPl256 a q = true := by
  intro a q h
  simp [wFd256] at h
  simp [wPl256]
  omega
theorem wRs256_wPl256 : ∀ a q, wRs256 a q = true → wPl256 a q = true := by
  intro a q h
  simp [wRs256] at h
  simp [wPl256]
  omega
theorem wMt256_wPl256 {c : Nat} : ∀ a q, wMt256 c a q = true → wPl256 a q = true := by
  intro a q h
  simp [wMt256] at h
  simp [wPl256]
  omega
theorem wTok_wPs256 : ∀ a q, wTok a q = true → wPs256 a q = true := by
  intro a q h
  simp [wTok] at h
  simp [wPs256]
  omega
theorem wCn256_wPs256 : ∀ a q, wCn256 a q = true → wPs256 a q = true := by
  intro a q h
  simp [wCn256] at h
  simp [wPs256]
  omega
theorem wPl256_wPs256 : ∀ a q, wPl256 a q = true → wPs256 a q = true := by
  intro a q h
  simp [wPl256] at h
  simp [wPs256]
  omega
theorem wHd256_n266 {j q : Nat} : wHd256 (266 + j) q = false := by
  cases h : wHd256 (266 + j) q with
  | false => rfl
  | true => simp [wHd256] at h <;> omega
theorem wHd256_n276 {j q : Nat} : wHd256 (276 + j) q = false := by
  cases h : wHd256 (276 + j) q with
  | false => rfl
  | true => simp [wHd256] at h <;> omega
theorem wFd256_n266 {j q : Nat} : wFd256 (266 + j) q = false := by
  cases h : wFd256 (266 + j) q with
  | false => rfl
  | true => simp [wFd256] at h <;> omega
theorem wFd256_n276 {j q : Nat} : wFd256 (276 + j) q = false := by
  cases h : wFd256 (276 + j) q with
  | false => rfl
  | true => simp [wFd256] at h <;> omega
theorem wRs256_n266 {j q : Nat} (h : j < 10) : wRs256 (266 + j) q = false := by
  cases h : wRs256 (266 + j) q with
  | false => rfl
  | true => simp [wRs256] at h <;> omega
theorem wRs256_e {j q : Nat} (h : q ≠ 6 ∧ q ≠ 7) : wRs256 (276 + j) q = false := by
  cases h : wRs256 (276 + j) q with
  | false => rfl
  | true => simp [wRs256] at h <;> omega
/-- what was read so far is sound -/
def SO256 (m : yM) : Prop := 1 ≤ m 256 9 ∧ RG 276 265 m 0 (m 256 16) 0 (m 256 12) 0 (m 256 13) ∧ EN 276 m 0 (m 256 16) (m 256 16) ∧ ES 266 m (m 256 10) (m 256 16)
theorem SO256.fr {m m' : yM} (h : SO256 m) (h9 : 1 ≤ m' 256 9) (h10 : m' 256 10 = m 256 10) (h12 : m' 256 12 = m 256 12) (h13 : m' 256 13 = m 256 13) (h16 : m' 256 16 = m 256 16) (e : ∀ j q, m' (276 + j) q = m (276 + j) q) (em : ∀ j q, m' (266 + j) q = m (266 + j) q) (ez : ∀ z, m' 265 z = m 265 z) : SO256 m' := by
  obtain ⟨-, g2, g3, g4⟩ := h
  unfold SO256
  rw [h10, h12, h13, h16]
  exact ⟨h9, g2.fr (fun j _ _ q _ => e j q) (fun z _ _ => ez z) (Int.le_refl _), g3.fr (fun j _ _ q => e j q) (Int.le_refl _), g4.fr (fun j _ => em j 5) (Int.le_refl _)⟩
theorem SO256.app {m m' : yM} (h : SO256 m) (h9 : m' 256 9 = m 256 9) (hb : 0 ≤ m 256 16 ∧ m 256 16 ≤ m' 256 16 ∧ 0 ≤ m 256 12 ∧ m 256 12 ≤ m' 256 12 ∧ 0 ≤ m 256 10) (h10 : m' 256 10 = m 256 10 + 1) (hF : Fr (wMt256 (m 256 16).toNat) m m') (hz : ∀ z : Nat, (z : Int) < m 256 13 → m' 265 z = m 265 z) (hR : RG 276 265 m' (m 256 16) (m' 256 16) (m 256 12) (m' 256 12) (m 256 13) (m' 256 13)) (hE : EN 276 m' (m 256 16) (m' 256 16) (m' 256 16)) (h5 : ∀ j : Nat, (j : Int) < m 256 10 → m' (266 + j) 5 = m (266 + j) 5) (h6 : m' (266 + (m 256 10).toNat) 5 ≤ m' 256 16) : SO256 m' := by
  obtain ⟨g1, g2, g3, g4⟩ := h
  refine ⟨by omega, ?_, ?_, ?_⟩
  · have k1 := g2.fr (m' := m') (c3 := m 256 12) (fun j ja jb q _ => hF _ _ (wMt256_n (by omega))) (fun z za zb => hz z zb) (Int.le_refl _)
    exact RG.app k1 hR (by omega) (by omega) (by omega)
  · have k1 := g3.fr (m' := m') (c2 := m' 256 16) (fun j ja jb q => hF _ _ (wMt256_n (by omega))) (by omega)
    exact EN.app k1 hE
  · rw [h10]
    exact ES.snoc (g4.fr h5 (by omega)) (by omega) h6
set_option maxRecDepth 100000 in
set_option maxHeartbeats 1000000 in
theorem t74a_256 {L : Nat} {xs : Nat → Int32} {d nn : Nat} {m : yM} {e : Int} (hT : Ty gT m) (he : 0 ≤ e ∧ e ≤ 320) (hE : m 5 e.toNat = 0) (ha : m 2 2 ≤ e) (hp : m 2 1 = 0) {n : Int} : ∀ (k : Nat) (g i : Int) (mi : yM), 320 - i = k → 0 ≤ i ∧ i ≤ 320 → g = 0 ∨ g = 1 → Ty gT mi → Fr wPl256 m mi → mi 2 2 ≤ e → MP 266 mi → (g = 1 → SO256 mi) → YW (gZ L xs) 74 (d + 14) 40 [some (.ref 2), some (.ref 1), some (yI n), some (.ref 256), some (yI g), some (yI i)] [] mi nn (qI (fun r m' n' => n' = nn ∧ Ty gT m' ∧ Fr wPl256 m m' ∧ (-1 ≤ r ∧ r ≤ 320) ∧ MP 266 m' ∧ (r = -1 → PS 256 m'))) := by
  intro k
  induction k using Nat.strongRecOn with
  | ind k ih =>
    intro g i mi hk hi0 hg0 hTi hFi h22 hMP hS
    have ti256_9 := hTi.atp 256 9 0 6 rfl
    have ti256_10 := hTi.atp 256 10 0 10 rfl
    have ti256_12 := hTi.atp 256 12 0 12 rfl
    have ti256_13 := hTi.atp 256 13 0 8 rfl
    have ti256_16 := hTi.atp 256 16 0 40 rfl
    have ti2_2 := hTi.atp 2 2 0 320 rfl
    refine y_iload 42 c74_40 rfl rfl ?_
    refine y_iconst 45 c74_42 rfl ?_
    refine y_icmp 139 48 c74_45 rfl rfl (yc_ge (by omega) (by omega)) (fun hb4056 => ?_) (fun hb4056 => ?_)
    · refine y_iload 141 c74_139 rfl rfl ?_
      refine y_if 154 144 c74_141 rfl rfl (yz_eq (by omega)) (fun hb4057 => ?_) (fun hb4057 => ?_)
      · refine y_aload 155 c74_154 rfl rfl rfl ?_
        refine y_getX 158 (mi 2 4) c74_155 rfl kf2_4 rfl ?_
        have tb4058 := hTi.atp 2 4 0 320 rfl
        exact y_retI c74_158 (y_fit0 _) ⟨rfl, hTi, hFi, by omega, hMP, fun h1 => by omega⟩
      · refine y_aload 145 c74_144 rfl rfl rfl ?_
        refine y_getS 148 (B := 256) c74_145 rfl kf2_1 (by first | rfl | (rw [show mi 2 1 = 0 from by have e : mi 2 1 = m 2 1 := (hFi 2 1 rfl); omega]; rfl)) ?_
        obtain ⟨hs9, hs1, hs2, hs3⟩ := hS (by omega)
        refine y_callIB 151 [.ref 256] [] c74_148 rfl rfl rfl rfl rfl (ycanO km73 ko256) (t73_256 hTi hs1) (fun rq4059 mq4059 nq4059 hq4059 => ?_)
        obtain ⟨rfl, hTq4059, hFq4059, hq4059, hGq4059⟩ := hq4059
        have hF4060 := hFi.tr hFq4059 wRs256_wPl256
        have hMP2 : MP 266 mq4059 := hMP.fr (fun k hk => hFq4059 _ _ (wRs256_n266 hk)) (fun k hk => hFq4059 _ _ (wRs256_n266 hk))
        refine y_goto 158 c74_151 rfl ?_
        have es4061 : mq4059 256 10 = mi 256 10 := (hFq4059 256 10 rfl)
        have es4062 : mq4059 256 12 = mi 256 12 := (hFq4059 256 12 rfl)
        have es4063 : mq4059 256 13 = mi 256 13 := (hFq4059 256 13 rfl)
        have es4064 : mq4059 256 16 = mi 256 16 := (hFq4059 256 16 rfl)
        refine y_retI c74_158 (y_fit0 _) ⟨rfl, hTq4059, hF4060, by omega, hMP2, fun h1 => ?_⟩
        obtain ⟨g1, g2, g3⟩ := hGq4059 h1
        unfold PS
        rw [hFq4059 256 16 rfl, hFq4059 256 12 rfl, hFq4059 256 13 rfl, hFq4059 256 10 rfl]
        exact ⟨g1, hs2.fr' (fun j q hq => hFq4059 _ _ (wRs256_e hq)), g2, hMP2, hs3.fr (fun j hj => hFq4059 _ _ (wRs256_n266 (by omega))) (Int.le_refl _), g3⟩
    · refine y_iload 50 c74_48 rfl rfl ?_
      refine y_if 139 53 c74_50 rfl rfl (yz_eq (by omega)) (fun hb4065 => ?_) (fun hb4065 => ?_)
      · refine y_iload 141 c74_139 rfl rfl ?_
        refine y_if 154 144 c74_141 rfl rfl (yz_eq (by omega)) (fun hb4066 => ?_) (fun hb4066 => ?_)
        · refine y_aload 155 c74_154 rfl rfl rfl ?_
          refine y_getX 158 (mi 2 4) c74_155 rfl kf2_4 rfl ?_
          have tb4067 := hTi.atp 2 4 0 320 rfl
          exact y_retI c74_158 (y_fit0 _) ⟨rfl, hTi, hFi, by omega, hMP, fun h1 => by omega⟩
        · exfalso; omega
      · have hs9 := (hS (by omega)).1
        refine y_aload 54 c74_53 rfl rfl rfl ?_
        refine y_getX 57 (mi 2 3) c74_54 rfl kf2_3 rfl ?_
        have tb4068 := hTi.atp 2 3 0 1 rfl
        refine y_if 139 60 c74_57 rfl rfl (yz_ne (by omega)) (fun hb4069 => ?_) (fun hb4069 => ?_)
        · refine y_iload 141 c74_139 rfl rfl ?_
          refine y_if 154 144 c74_141 rfl rfl (yz_eq (by omega)) (fun hb4070 => ?_) (fun hb4070 => ?_)
          · exfalso; omega
          · refine y_aload 145 c74_144 rfl rfl rfl ?_
            refine y_getS 148 (B := 256) c74_145 rfl kf2_1 (by first | rfl | (rw [show mi 2 1 = 0 from by have e : mi 2 1 = m 2 1 := (hFi 2 1 rfl); omega]; rfl)) ?_
            obtain ⟨hs9, hs1, hs2, hs3⟩ := hS (by omega)
            refine y_callIB 151 [.ref 256] [] c74_148 rfl rfl rfl rfl rfl (ycanO km73 ko256) (t73_256 hTi hs1) (fun rq4071 mq4071 nq4071 hq4071 => ?_)
            obtain ⟨rfl, hTq4071, hFq4071, hq4071, hGq4071⟩ := hq4071
            have hF4072 := hFi.tr hFq4071 wRs256_wPl256
            have hMP2 : MP 266 mq4071 := hMP.fr (fun k hk => hFq4071 _ _ (wRs256_n266 hk)) (fun k hk => hFq4071 _ _ (wRs256_n266 hk))
            refine y_goto 158 c74_151 rfl ?_
            have es4073 : mq4071 256 10 = mi 256 10 := (hFq4071 256 10 rfl)
            have es4074 : mq4071 256 12 = mi 256 12 := (hFq4071 256 12 rfl)
            have es4075 : mq4071 256 13 = mi 256 13 := (hFq4071 256 13 rfl)
            have es4076 : mq4071 256 16 = mi 256 16 := (hFq4071 256 16 rfl)
            refine y_retI c74_158 (y_fit0 _) ⟨rfl, hTq4071, hF4072, by omega, hMP2, fun h1 => ?_⟩
            obtain ⟨g1, g2, g3⟩ := hGq4071 h1
            unfold PS
            rw [hFq4071 256 16 rfl, hFq4071 256 12 rfl, hFq4071 256 13 rfl, hFq4071 256 10 rfl]
            exact ⟨g1, hs2.fr' (fun j q hq => hFq4071 _ _ (wRs256_e hq)), g2, hMP2, hs3.fr (fun j hj => hFq4071 _ _ (wRs256_n266 (by omega))) (Int.le_refl _), g3⟩
        · refine y_aload 61 c74_60 rfl rfl rfl ?_
          refine y_callP 64 [.ref 2] [] c74_61 rfl rfl rfl rfl rfl (ycanO km38 ko2) (t38 hTi he (by have e1 : mi 5 e.toNat = m 5 e.toNat := (hFi 5 e.toNat rfl); omega) (by omega)) (fun r4077 hr4077 => ?_)
          by_cases hk4078 : r4077 = 2
          · refine y_top 2 hk4078 ?_
            refine y_lsw 100 c74_64 (by decide) rfl rfl ?_
            refine y_aload 101 c74_100 rfl rfl rfl ?_
            have es4080 : mi 2 1 = m 2 1 := (hFi 2 1 rfl)
            have tb4081 := hT.atp 2 1 ((-1)) 1 rfl
            refine y_callIB 104 [.ref 2] [] c74_101 rfl rfl rfl rfl rfl (ycanO km49 ko2) (t49_256 hTi he (by have e1 : mi 5 e.toNat = m 5 e.toNat := (hFi 5 e.toNat rfl); omega) (by omega) (by omega) (by omega) (by omega)) (fun rq4079 mq4079 nq4079 hq4079 => ?_)
            obtain ⟨rfl, hTq4079, hFq4079, hq4079⟩ := hq4079
            have hF4082 := hFi.tr hFq4079 wFd256_wPl256
            refine y_istore 106 c74_104 rfl rfl ?_
            refine y_goto 133 c74_106 rfl ?_
            refine y_iinc 136 c74_133 rfl rfl rfl ?_
            refine y_goto 40 c74_136 rfl ?_
            have tb4083 := hTq4079.atp 2 2 0 320 rfl
            have es4084 : mq4079 256 9 = mi 256 9 := (hFq4079 256 9 rfl)
            have es4085 : mq4079 256 10 = mi 256 10 := (hFq4079 256 10 rfl)
            have es4086 : mq4079 256 12 = mi 256 12 := (hFq4079 256 12 rfl)
            have es4087 : mq4079 256 13 = mi 256 13 := (hFq4079 256 13 rfl)
            have es4088 : mq4079 256 16 = mi 256 16 := (hFq4079 256 16 rfl)
            refine ih (320 - (i + 1 : Int)).toNat (by omega) rq4079 (i + 1) _ (by omega) (by omega) (by omega) hTq4079 hF4082 (by omega) (hMP.fr (fun k hk => hFq4079 _ _ wFd256_n266) (fun k hk => hFq4079 _ _ wFd256_n266)) (fun h1 => ?_)
            exact (hS (by omega)).fr (by omega) (by omega) (by omega) (by omega) (by omega) (fun j q => hFq4079 _ _ wFd256_n276) (fun j q => hFq4079 _ _ wFd256_n266) (fun z => hFq4079 265 z rfl)
          by_cases hk4089 : r4077 = 3
          · refine y_top 3 hk4089 ?_
            refine y_lsw 109 c74_64 (by decide) rfl rfl ?_
            refine y_aload 110 c74_109 rfl rfl rfl ?_
            have es4091 : mi 2 1 = m 2 1 := (hFi 2 1 rfl)
            have tb4092 := hT.atp 2 1 ((-1)) 1 rfl
            refine y_callIB 113 [.ref 2] [] c74_110 rfl rfl rfl rfl rfl (ycanO km70 ko2) (t70_256 hTi he (by have e1 : mi 5 e.toNat = m 5 e.toNat := (hFi 5 e.toNat rfl); omega) (by omega) (by omega) (by omega) (by omega)) (fun rq4090 mq4090 nq4090 hq4090 => ?_)
            obtain ⟨rfl, hTq4090, hFq4090, hq4090, hZq4090, hMq4090, hGq4090⟩ := hq4090
            have hF4093 := hFi.tr hFq4090 wMt256_wPl256
            refine y_istore 115 c74_113 rfl rfl ?_
            refine y_goto 133 c74_115 rfl ?_
            refine y_iinc 136 c74_133 rfl rfl rfl ?_
            refine y_goto 40 c74_136 rfl ?_
            have tb4094 := hTq4090.atp 2 2 0 320 rfl
            have es4095 : mq4090 256 9 = mi 256 9 := (hFq4090 256 9 ((wMt256_lt (by decide)).trans rfl))
            have tb4096 := hTq4090.atp 256 10 0 10 rfl
            have tb4097 := hTq4090.atp 256 12 0 12 rfl
            have tb4098 := hTq4090.atp 256 13 0 8 rfl
            have tb4099 := hTq4090.atp 256 16 0 40 rfl
            refine ih (320 - (i + 1 : Int)).toNat (by omega) rq4090 (i + 1) _ (by omega) (by omega) (by omega) hTq4090 hF4093 (by omega) (hMq4090 hMP) (fun h1 => ?_)
            obtain ⟨g1, g2, g3, g4, g5⟩ := hGq4090 (by omega)
            exact (hS (by omega)).app (by omega) (by omega) g1 hFq4090 hZq4090 g2 g3 g4 g5
          by_cases hk4100 : r4077 = 125
          · refine y_top 125 hk4100 ?_
            refine y_lsw 118 c74_64 (by decide) rfl rfl ?_
            refine y_aload 119 c74_118 rfl rfl rfl ?_
            have es4102 : mi 2 1 = m 2 1 := (hFi 2 1 rfl)
            have tb4103 := hT.atp 2 1 ((-1)) 1 rfl
            refine y_callIB 122 [.ref 2] [] c74_119 rfl rfl rfl rfl rfl (ycanO km71 ko2) (t71_256 hTi he (by have e1 : mi 5 e.toNat = m 5 e.toNat := (hFi 5 e.toNat rfl); omega) (by omega) (by omega) (by omega) (by omega)) (fun rq4101 mq4101 nq4101 hq4101 => ?_)
            obtain ⟨rfl, hTq4101, hFq4101, hq4101⟩ := hq4101
            have hF4104 := hFi.tr hFq4101 wHd256_wPl256
            refine y_istore 124 c74_122 rfl rfl ?_
            refine y_goto 133 c74_124 rfl ?_
            refine y_iinc 136 c74_133 rfl rfl rfl ?_
            refine y_goto 40 c74_136 rfl ?_
            have tb4105 := hTq4101.atp 2 2 0 320 rfl
            have tb4106 := hTq4101.atp 256 9 0 6 rfl
            have es4107 : mq4101 256 10 = mi 256 10 := (hFq4101 256 10 rfl)
            have es4108 : mq4101 256 12 = mi 256 12 := (hFq4101 256 12 rfl)
            have es4109 : mq4101 256 13 = mi 256 13 := (hFq4101 256 13 rfl)
            have es4110 : mq4101 256 16 = mi 256 16 := (hFq4101 256 16 rfl)
            refine ih (320 - (i + 1 : Int)).toNat (by omega) rq4101 (i + 1) _ (by omega) (by omega) (by omega) hTq4101 hF4104 (by omega) (hMP.fr (fun k hk => hFq4101 _ _ wHd256_n266) (fun k hk => hFq4101 _ _ wHd256_n266)) (fun h1 => ?_)
            exact (hS (by omega)).fr (by omega) (by omega) (by omega) (by omega) (by omega) (fun j q => hFq4101 _ _ wHd256_n276) (fun j q => hFq4101 _ _ wHd256_n266) (fun z => hFq4101 265 z rfl)
          refine y_lsw 127 c74_64 (by omega) (by simp only [Op.lookupswitch.offset]; split <;> first | omega | (split <;> first | omega | (split <;> first | omega | rfl))) rfl ?_
          refine y_aload 128 c74_127 rfl rfl rfl ?_
          have es4112 : mi 2 1 = m 2 1 := (hFi 2 1 rfl)
          have tb4113 := hT.atp 2 1 ((-1)) 1 rfl
          refine y_callIB 131 [.ref 2] [] c74_128 rfl rfl rfl rfl rfl (ycanO km43 ko2) (t43 hTi) (fun rq4111 mq4111 nq4111 hq4111 => ?_)
          obtain ⟨rfl, hTq4111, hFq4111, hq4111⟩ := hq4111
          have hF4114 := hFi.tr hFq4111 wFa_wPl256
          refine y_istore 133 c74_131 rfl rfl ?_
          refine y_iinc 136 c74_133 rfl rfl rfl ?_
          refine y_goto 40 c74_136 rfl ?_
          have es4115 : mq4111 2 2 = mi 2 2 := (hFq4111 2 2 rfl)
          have es4116 : mq4111 256 9 = mi 256 9 := (hFq4111 256 9 rfl)
          have es4117 : mq4111 256 10 = mi 256 10 := (hFq4111 256 10 rfl)
          have es4118 : mq4111 256 12 = mi 256 12 := (hFq4111 256 12 rfl)
          have es4119 : mq4111 256 13 = mi 256 13 := (hFq4111 256 13 rfl)
          have es4120 : mq4111 256 16 = mi 256 16 := (hFq4111 256 16 rfl)
          refine ih (320 - (i + 1 : Int)).toNat (by omega) rq4111 (i + 1) _ (by omega) (by omega) (by omega) hTq4111 hF4114 (by omega) (hMP.fr (fun k hk => hFq4111 _ _ wFa_n266) (fun k hk => hFq4111 _ _ wFa_n266)) (fun h1 => ?_)
          exact (hS (by omega)).fr (by omega) (by omega) (by omega) (by omega) (by omega) (fun j q => hFq4111 _ _ wFa_n276) (fun j q => hFq4111 _ _ wFa_n266) (fun z => hFq4111 265 z rfl)
theorem wCn256_h {a q : Nat} (h : 256 < a) : wCn256 a q = false := by
  cases h : wCn256 a q with
  | false => rfl
  | true => simp [wCn256] at h <;> omega
theorem wTok_h {a q : Nat} (h : 7 < a) : wTok a q = false := by
  cases h : wTok a q with
  | false => rfl
  | true => simp [wTok] at h <;> omega
set_option maxRecDepth 100000 in
theorem t74h_256 {L : Nat} {xs : Nat → Int32} {d nn : Nat} {m : yM} {m0 : yM} {e : Int} (hT : Ty gT m) (he : 0 ≤ e ∧ e ≤ 320) (hE : m 5 e.toNat = 0) (ha : m 2 2 ≤ e) (hp : m 2 1 = 0) (h22 : m 2 2 = 0) (h16 : m 256 16 = 0 ∧ m 256 10 = 0) (h13 : m 256 13 = 0) {n : Int} (hF0 : Fr wPs256 m0 m) (hM : MP 266 m) : YW (gZ L xs) 74 (d + 14) 31 [some (.ref 2), some (.ref 1), some (yI n), some (.ref 256), none, none] [] m nn (qI (fun r m' n' => n' = nn ∧ Ty gT m' ∧ Fr wPs256 m0 m' ∧ (-1 ≤ r ∧ r ≤ 320) ∧ MP 266 m' ∧ (r = -1 → PS 256 m'))) := by
  have hF : Fr wPl256 m m := Fr.rf
  have tb9 := hT.atp 256 9 0 6 rfl
  refine y_aload 32 c74_31 rfl rfl rfl ?_
  have tb4122 := hT.atp 2 2 0 320 rfl
  have tb4123 := hT.atp 256 9 0 6 rfl
  have tb4124 := hT.atp 2 1 ((-1)) 1 rfl
  have tb4125 := hT.atp 2 3 0 1 rfl
  refine y_callIB 35 [.ref 2] [] c74_32 rfl rfl rfl rfl rfl (ycanO km45 ko2) (t45_256 hT he hE (by omega) (by omega)) (fun rq4121 mq4121 nq4121 hq4121 => ?_)
  obtain ⟨rfl, hTq4121, hFq4121, hq4121⟩ := hq4121
  have hF4126 := hF.tr hFq4121 wHd256_wPl256
  refine y_istore 37 c74_35 rfl rfl ?_
  refine y_iconst 38 c74_37 rfl ?_
  refine y_istore 40 c74_38 rfl rfl ?_
  have tb4127 := hTq4121.atp 256 9 0 6 rfl
  have es4128 : mq4121 256 10 = m 256 10 := (hFq4121 256 10 rfl)
  have tb4129 := hT.atp 256 10 0 10 rfl
  have es4130 : mq4121 256 12 = m 256 12 := (hFq4121 256 12 rfl)
  have tb4131 := hT.atp 256 12 0 12 rfl
  have es4132 : mq4121 256 13 = m 256 13 := (hFq4121 256 13 rfl)
  have tb4133 := hT.atp 256 13 0 8 rfl
  have es4134 : mq4121 256 16 = m 256 16 := (hFq4121 256 16 rfl)
  have tb4135 := hT.atp 256 16 0 40 rfl
  have es4136 : mq4121 2 1 = m 2 1 := (hFq4121 2 1 rfl)
  have tb4137 := hTq4121.atp 2 2 0 320 rfl
  refine YW.mono (t74a_256 hT he hE ha hp 320 rq4121 0 _ (by omega) (by omega) (by omega) hTq4121 hF4126 (by omega) (hM.fr (fun k hk => hFq4121 _ _ wHd256_n266) (fun k hk => hFq4121 _ _ wHd256_n266)) (fun h1 => ⟨by omega, RG.nil (by omega) (by omega), EN.nil (by omega), ES.nil (by omega)⟩)) (fun r m2 n2 hq => ?_)
  obtain ⟨x0, rfl, rfl, k1, k2, k3, k4, k5⟩ := hq
  exact ⟨x0, rfl, rfl, k1, hF0.tr k2 wPl256_wPs256, k3, k4, k5⟩
set_option maxRecDepth 100000 in
theorem t74_256 {L : Nat} {xs : Nat → Int32} {d nn : Nat} {m : yM} {n : Int} (hT : Ty gT m) (hn : 0 ≤ n ∧ n ≤ 320) (hM : MP 266 m) : YC (gZ L xs) (d + 14) 74 [.ref 2, .ref 1, yI n, .ref 256] m nn (qI (fun r m' n' => n' = nn ∧ Ty gT m' ∧ Fr wPs256 m m' ∧ (-1 ≤ r ∧ r ≤ 320) ∧ MP 266 m' ∧ (r = -1 → PS 256 m'))) := by
  refine YC.mkB [some (.ref 2), some (.ref 1), some (yI n), some (.ref 256), none, none] kn74 rfl rfl ?_
  have hF : Fr wPs256 m m := Fr.rf
  refine y_aload 1 c74_0 rfl rfl rfl ?_
  refine y_aload 2 c74_1 rfl rfl rfl ?_
  refine y_putS 5 0 c74_2 rfl kf2_1 rfl ?_
  have hT4138 := hT.up 2 1 0 ((-1)) 1 rfl (by omega)
  have hF4139 := hF.up 2 1 0 rfl
  refine y_aload 6 c74_5 rfl rfl rfl ?_
  refine y_getS 9 (B := 256) c74_6 rfl kf2_1 (by first | rfl | (rw [show (yup m 2 1 0) 2 1 = 0 from by have e : (yup m 2 1 0) 2 1 = 0 := rfl; omega]; rfl)) ?_
  refine y_callUB 12 [.ref 256] [] c74_9 rfl rfl rfl rfl rfl (ycanO km30 ko256) (t30_256 hT4138) (fun mq4140 nq4140 hq4140 => ?_)
  obtain ⟨rfl, hTq4140, hFq4140, hq4140⟩ := hq4140
  have hF4141 := hF4139.tr hFq4140 wCn256_wPs256
  refine y_aload 13 c74_12 rfl rfl rfl ?_
  refine y_getR 16 c74_13 rfl kf2_0 ?_
  refine y_aload 17 c74_16 rfl rfl rfl ?_
  refine y_iload 18 c74_17 rfl rfl ?_
  refine y_callUB 21 [.ref 3, .ref 1, yI n] [] c74_18 rfl rfl rfl rfl rfl (ycanO km36 ko3) (t36 hTq4140 n hn) (fun mq4142 nq4142 hq4142 => ?_)
  obtain ⟨rfl, hTq4142, hFq4142, e, he0, he1, hsz, hEe⟩ := hq4142
  have hF4143 := hF4141.tr hFq4142 wTok_wPs256
  refine y_aload 22 c74_21 rfl rfl rfl ?_
  refine y_iconst 23 c74_22 rfl ?_
  refine y_putI 26 c74_23 rfl kf2_2 (y_fit0 _) ?_
  have hT4144 := hTq4142.up 2 2 0 0 320 rfl (by omega)
  have hF4145 := hF4143.up 2 2 0 rfl
  refine y_aload 27 c74_26 rfl rfl rfl ?_
  refine y_iconst 28 c74_27 rfl ?_
  refine y_putI 31 c74_28 rfl kf2_3 (y_fit1 (by omega)) ?_
  have hT4146 := hT4144.up 2 3 0 0 1 rfl (by omega)
  have hF4147 := hF4145.up 2 3 0 rfl
  have es4148 : (yup (yup mq4142 2 2 0) 2 3 0) 256 9 = mq4140 256 9 := ((yup_na (by decide)).trans ((yup_na (by decide)).trans (hFq4142 256 9 rfl)))
  have tb4149 := hTq4140.atp 256 9 0 6 rfl
  have es4150 : (yup (yup mq4142 2 2 0) 2 3 0) 256 10 = mq4140 256 10 := ((yup_na (by decide)).trans ((yup_na (by decide)).trans (hFq4142 256 10 rfl)))
  have tb4151 := hTq4140.atp 256 10 0 10 rfl
  have es4152 : (yup (yup mq4142 2 2 0) 2 3 0) 256 12 = mq4140 256 12 := ((yup_na (by decide)).trans ((yup_na (by decide)).trans (hFq4142 256 12 rfl)))
  have tb4153 := hTq4140.atp 256 12 0 12 rfl
  have es4154 : (yup (yup mq4142 2 2 0) 2 3 0) 256 13 = mq4140 256 13 := ((yup_na (by decide)).trans ((yup_na (by decide)).trans (hFq4142 256 13 rfl)))
  have tb4155 := hTq4140.atp 256 13 0 8 rfl
  have es4156 : (yup (yup mq4142 2 2 0) 2 3 0) 256 16 = mq4140 256 16 := ((yup_na (by decide)).trans ((yup_na (by decide)).trans (hFq4142 256 16 rfl)))
  have tb4157 := hTq4140.atp 256 16 0 40 rfl
  have es4158 : (yup (yup mq4142 2 2 0) 2 3 0) 2 1 = 0 := ((yup_nk (by decide)).trans ((yup_nk (by decide)).trans ((hFq4142 2 1 rfl).trans ((hFq4140 2 1 rfl).trans (yup_eq _ _ _ _)))))
  have es4159 : (yup (yup mq4142 2 2 0) 2 3 0) 2 2 = 0 := rfl
  have hE2 : (yup (yup mq4142 2 2 0) 2 3 0) 5 e.toNat = 0 := by have e1 : (yup (yup mq4142 2 2 0) 2 3 0) 5 e.toNat = _ := ((yup_na (by decide)).trans (yup_na (by decide))); omega
  have hM2 : MP 266 (yup (yup mq4142 2 2 0) 2 3 0) := (((((hM).na (by decide)).fr (fun k hk => hFq4140 _ _ (wCn256_h (by omega))) (fun k hk => hFq4140 _ _ (wCn256_h (by omega)))).fr (fun k hk => hFq4142 _ _ (wTok_h (by omega))) (fun k hk => hFq4142 _ _ (wTok_h (by omega)))).na (by decide)).na (by decide)
  exact t74h_256 hT4146 ⟨he0, he1⟩ hE2 (by omega) (by omega) (by omega) (by omega) (by omega) hF4147 hM2
end
section
/-! CONTRACTS: resolve, parse. Printed by wip/whole/gen91.py -/
def wRs316 (a q : Nat) : Bool := (a == 316 && q == 17) || a == 324 || (decide (336 ≤ a ∧ a < 376) && (q == 6 || q == 7))
theorem wRs316_6 {k : Nat} (h : k < 40) : wRs316 (336 + k) 6 = true := by
  simp [wRs316]
  omega
theorem wRs316_7 {k : Nat} (h : k < 40) : wRs316 (336 + k) 7 = true := by
  simp [wRs316]
  omega
set_option maxRecDepth 100000 in
theorem t73a_316 {L : Nat} {xs : Nat → Int32} {d nn : Nat} {m : yM} (hT : Ty gT m) : ∀ (k : Nat) (i : Int) (x2 : Option Value) (mi : yM), m 316 16 - i = k → 0 ≤ i ∧ i ≤ m 316 16 → Ty gT mi → Fr wRs316 m mi → RG 336 325 mi 0 (m 316 16) 0 (m 316 12) 0 (m 316 13) → NL 336 mi 0 i → YW (gZ L xs) 73 (d + 7) 2 [some (.ref 316), some (yI i), x2] [] mi nn (qI (fun r m' n' => n' = nn ∧ Ty gT m' ∧ Fr wRs316 m m' ∧ (-1 ≤ r ∧ r ≤ 320) ∧ (r = -1 → RG 336 325 m' 0 (m 316 16) 0 (m 316 12) 0 (m 316 13) ∧ NL 336 m' 0 (m 316 16) ∧ m' 316 17 < m 316 10))) := by
  intro k
  induction k using Nat.strongRecOn with
  | ind k ih =>
    intro i x2 mi hk hi hTi hFi hR hN
    have tb16 := hT.atp 316 16 0 40 rfl
    refine y_iload 3 c73_2 rfl rfl ?_
    refine y_aload 4 c73_3 rfl rfl rfl ?_
    refine y_getX 7 (m 316 16) c73_4 rfl kf316_16 (hFi 316 16 rfl) ?_
    refine y_icmp 118 10 c73_7 rfl rfl (yc_ge (by omega) (by omega)) (fun hb4160 => ?_) (fun hb4160 => ?_)
    · have es4161 : mi 316 10 = m 316 10 := (hFi 316 10 rfl)
      have tb4162 := hT.atp 316 10 0 10 rfl
      refine y_aload 119 c73_118 rfl rfl rfl ?_
      refine y_aload 120 c73_119 rfl rfl rfl ?_
      refine y_iconst 121 c73_120 rfl ?_
      refine y_ldc 123 c73_121 rfl (show 10 < gLit.length by decide) ?_
      refine y_callP 126 [.retAddr 21] [yI 0, .ref 316, .ref 316] c73_123 rfl rfl rfl rfl rfl (ycanS km8) t8_go (fun r4163 hr4163 => ?_)
      refine y_iconst 127 c73_126 rfl ?_
      refine y_callP 130 [.ref 316, yI 0, yI r4163, yI 0] [.ref 316] c73_127 rfl rfl rfl rfl rfl (ycanO km72 ko316) (t72_316 hTi (by omega) (by omega) (by omega)) (fun r4164 hr4164 => ?_)
      refine y_putI 133 c73_130 rfl kf316_17 (y_fit0 _) ?_
      have hT4165 := hTi.up 316 17 r4164 ((-1)) 9 rfl (by omega)
      have hF4166 := hFi.up 316 17 r4164 rfl
      refine y_iconst 134 c73_133 rfl ?_
      exact y_retI c73_134 (y_fit0 _) ⟨rfl, hT4165, hF4166, by omega, fun _ => ⟨hR.ext (fun j q _ _ => yup_na (by omega)) (fun j _ => yup_na (by omega)) (fun z => yup_na (by omega)), cast (by congr 1 <;> omega) (hN.fr (m' := yup mi 316 17 r4164) (fun j ja jb => ⟨yup_na (by omega), yup_na (by omega)⟩)), by rw [yup_eq]; have e10 := hFi 316 10 rfl; omega⟩⟩
    · have hsi := (hR.1 i.toNat (by omega) (by omega)).1
      have hs5 : mi (336 + i.toNat) 0 = 5 → 0 ≤ mi (336 + i.toNat) 6 := fun h5 => (hsi.2.2.2.1 h5).2
      refine y_aload 11 c73_10 rfl rfl rfl ?_
      refine y_getR 14 c73_11 rfl kf316_6 ?_
      refine y_iload 15 c73_14 rfl rfl ?_
      refine y_aaload 16 c73_15 rfl kr323 (by omega) ?_
      refine y_astore 17 c73_16 rfl rfl rfl ?_
      refine y_aload 18 c73_17 rfl rfl rfl ?_
      refine y_getX 21 (mi (336 + i.toNat) 0) c73_18 rfl (ff336_0 (by omega)) rfl ?_
      have tb4167 := hTi.atp (336 + i.toNat) 0 0 9 (ft336_0 (by omega))
      refine y_iconst 23 c73_21 rfl ?_
      refine y_icmp 34 26 c73_23 rfl rfl (yc_eq (by omega) (by omega)) (fun hb4168 => ?_) (fun hb4168 => ?_)
      · refine y_aload 35 c73_34 rfl rfl rfl ?_
        refine y_aload 36 c73_35 rfl rfl rfl ?_
        refine y_aload 37 c73_36 rfl rfl rfl ?_
        refine y_getX 40 (mi (336 + i.toNat) 4) c73_37 rfl (ff336_4 (by omega)) rfl ?_
        have tb4169 := hTi.atp (336 + i.toNat) 4 ((-2147483648)) 2147483647 (ft336_4 (by omega))
        have es4170 : mi 316 11 = m 316 11 := (hFi 316 11 rfl)
        have tb4171 := hT.atp 316 11 0 8 rfl
        refine y_callP 43 [.ref 316, yI (mi (336 + i.toNat) 4)] [.ref (336 + i.toNat)] c73_40 rfl rfl rfl rfl rfl (ycanO km46 ko316) (t46_316 hTi (by omega)) (fun r4172 hr4172 => ?_)
        refine y_putI 46 c73_43 rfl (ff336_6 (by omega)) (y_fit0 _) ?_
        have hT4173 := hTi.up (336 + i.toNat) 6 r4172 ((-1)) 11 (ft336_6 (by omega)) (by omega)
        have hF4174 := hFi.up (336 + i.toNat) 6 r4172 (wRs316_6 (by omega))
        refine y_goto 112 c73_46 rfl ?_
        refine y_iinc 115 c73_112 rfl rfl rfl ?_
        refine y_goto 2 c73_115 rfl ?_
        exact ih (m 316 16 - (i + 1) : Int).toNat (by omega) (i + 1) _  _ (by omega) (by omega) hT4173 hF4174 (hR.ext (fun j q h6 h7 => yup_nk h6) (fun j hj => yup_na (fun e => by have hj2 : j = i.toNat := (by omega); subst hj2; omega)) (fun z => yup_na (by omega))) (NL.snoc (k := i) (hN.fr (fun j ja jb => ⟨(yup_na (by omega)), (yup_na (by omega))⟩)) rfl (by omega) (by rw [yup_nk (by decide), yup_eq]; omega))
      · refine y_aload 27 c73_26 rfl rfl rfl ?_
        refine y_getX 30 (mi (336 + i.toNat) 0) c73_27 rfl (ff336_0 (by omega)) rfl ?_
        refine y_iconst 31 c73_30 rfl ?_
        refine y_icmp 49 34 c73_31 rfl rfl (yc_ne (by omega) (by omega)) (fun hb4175 => ?_) (fun hb4175 => ?_)
        · refine y_aload 50 c73_49 rfl rfl rfl ?_
          refine y_getX 53 (mi (336 + i.toNat) 0) c73_50 rfl (ff336_0 (by omega)) rfl ?_
          refine y_iconst 54 c73_53 rfl ?_
          refine y_icmp 66 57 c73_54 rfl rfl (yc_eq (by omega) (by omega)) (fun hb4176 => ?_) (fun hb4176 => ?_)
          · refine y_aload 67 c73_66 rfl rfl rfl ?_
            refine y_aload 68 c73_67 rfl rfl rfl ?_
            refine y_aload 69 c73_68 rfl rfl rfl ?_
            refine y_getX 72 (mi (336 + i.toNat) 4) c73_69 rfl (ff336_4 (by omega)) rfl ?_
            have tb4177 := hTi.atp (336 + i.toNat) 4 ((-2147483648)) 2147483647 (ft336_4 (by omega))
            have es4178 : mi 316 9 = m 316 9 := (hFi 316 9 rfl)
            have tb4179 := hT.atp 316 9 0 6 rfl
            refine y_callP 75 [.ref 316, yI (mi (336 + i.toNat) 4)] [.ref (336 + i.toNat)] c73_72 rfl rfl rfl rfl rfl (ycanO km41 ko316) (t41_316 hTi (by omega)) (fun r4180 hr4180 => ?_)
            refine y_putI 78 c73_75 rfl (ff336_7 (by omega)) (y_fit0 _) ?_
            have hT4181 := hTi.up (336 + i.toNat) 7 r4180 ((-1)) 5 (ft336_7 (by omega)) (by omega)
            have hF4182 := hFi.up (336 + i.toNat) 7 r4180 (wRs316_7 (by omega))
            refine y_aload 79 c73_78 rfl rfl rfl ?_
            refine y_getX 82 r4180 c73_79 rfl (ff336_7 (by omega)) (yup_eq _ _ _ _) ?_
            refine y_iconst 83 c73_82 rfl ?_
            refine y_icmp 91 86 c73_83 rfl rfl (yc_ne (by omega) (by omega)) (fun hb4183 => ?_) (fun hb4183 => ?_)
            · refine y_aload 92 c73_91 rfl rfl rfl ?_
              refine y_getX 95 (mi (336 + i.toNat) 0) c73_92 rfl (ff336_0 (by omega)) (yup_nk (by decide)) ?_
              refine y_iconst 96 c73_95 rfl ?_
              refine y_icmp 112 99 c73_96 rfl rfl (yc_ne (by omega) (by omega)) (fun hb4184 => ?_) (fun hb4184 => ?_)
              · exfalso; omega
              · refine y_aload 100 c73_99 rfl rfl rfl ?_
                refine y_getR 103 c73_100 rfl kf316_7 ?_
                refine y_aload 104 c73_103 rfl rfl rfl ?_
                refine y_getX 107 (mi (336 + i.toNat) 6) c73_104 rfl (ff336_6 (by omega)) (yup_nk (by decide)) ?_
                have tb4185 := hTi.atp (336 + i.toNat) 6 ((-1)) 11 (ft336_6 (by omega))
                refine y_aload 108 c73_107 rfl rfl rfl ?_
                refine y_getX 111 r4180 c73_108 rfl (ff336_7 (by omega)) (yup_eq _ _ _ _) ?_
                refine y_iastore 112 c73_111 rfl ka324 (by omega) (y_nar0 _) ?_
                have hT4186 := hT4181.up 324 ((mi (336 + i.toNat) 6).toNat) r4180 0 5 rfl (by omega)
                have hF4187 := hF4182.up 324 ((mi (336 + i.toNat) 6).toNat) r4180 rfl
                refine y_iinc 115 c73_112 rfl rfl rfl ?_
                refine y_goto 2 c73_115 rfl ?_
                exact ih (m 316 16 - (i + 1) : Int).toNat (by omega) (i + 1) _  _ (by omega) (by omega) hT4186 hF4187 (hR.ext (fun j q h6 h7 => (yup_na (by omega)).trans (yup_nk h7)) (fun j hj => (yup_na (by omega)).trans (yup_nk (by decide))) (fun z => (yup_na (by omega)).trans (yup_na (by omega)))) (NL.snoc (k := i) (hN.fr (fun j ja jb => ⟨((yup_na (by omega)).trans (yup_na (by omega))), ((yup_na (by omega)).trans (yup_na (by omega)))⟩)) rfl (by omega) (by rw [yup_na (by omega), yup_nk (by decide), yup_na (by omega), yup_nk (by decide)]; omega))
            · refine y_aload 87 c73_86 rfl rfl rfl ?_
              refine y_getX 90 (mi (336 + i.toNat) 5) c73_87 rfl (ff336_5 (by omega)) (yup_nk (by decide)) ?_
              have tb4188 := hTi.atp (336 + i.toNat) 5 0 320 (ft336_5 (by omega))
              exact y_retI c73_90 (y_fit0 _) ⟨rfl, hT4181, hF4182, by omega, fun h1 => by omega⟩
          · refine y_aload 58 c73_57 rfl rfl rfl ?_
            refine y_getX 61 (mi (336 + i.toNat) 0) c73_58 rfl (ff336_0 (by omega)) rfl ?_
            refine y_iconst 63 c73_61 rfl ?_
            refine y_icmp 112 66 c73_63 rfl rfl (yc_ne (by omega) (by omega)) (fun hb4189 => ?_) (fun hb4189 => ?_)
            · refine y_iinc 115 c73_112 rfl rfl rfl ?_
              refine y_goto 2 c73_115 rfl ?_
              exact ih (m 316 16 - (i + 1) : Int).toNat (by omega) (i + 1) _  _ (by omega) (by omega) hTi hFi hR (NL.snoc (k := i) (hN.fr (fun j ja jb => ⟨rfl, rfl⟩)) rfl (by omega) (by omega))
            · refine y_aload 67 c73_66 rfl rfl rfl ?_
              refine y_aload 68 c73_67 rfl rfl rfl ?_
              refine y_aload 69 c73_68 rfl rfl rfl ?_
              refine y_getX 72 (mi (336 + i.toNat) 4) c73_69 rfl (ff336_4 (by omega)) rfl ?_
              have tb4190 := hTi.atp (336 + i.toNat) 4 ((-2147483648)) 2147483647 (ft336_4 (by omega))
              have es4191 : mi 316 9 = m 316 9 := (hFi 316 9 rfl)
              have tb4192 := hT.atp 316 9 0 6 rfl
              refine y_callP 75 [.ref 316, yI (mi (336 + i.toNat) 4)] [.ref (336 + i.toNat)] c73_72 rfl rfl rfl rfl rfl (ycanO km41 ko316) (t41_316 hTi (by omega)) (fun r4193 hr4193 => ?_)
              refine y_putI 78 c73_75 rfl (ff336_7 (by omega)) (y_fit0 _) ?_
              have hT4194 := hTi.up (336 + i.toNat) 7 r4193 ((-1)) 5 (ft336_7 (by omega)) (by omega)
              have hF4195 := hFi.up (336 + i.toNat) 7 r4193 (wRs316_7 (by omega))
              refine y_aload 79 c73_78 rfl rfl rfl ?_
              refine y_getX 82 r4193 c73_79 rfl (ff336_7 (by omega)) (yup_eq _ _ _ _) ?_
              refine y_iconst 83 c73_82 rfl ?_
              refine y_icmp 91 86 c73_83 rfl rfl (yc_ne (by omega) (by omega)) (fun hb4196 => ?_) (fun hb4196 => ?_)
              · refine y_aload 92 c73_91 rfl rfl rfl ?_
                refine y_getX 95 (mi (336 + i.toNat) 0) c73_92 rfl (ff336_0 (by omega)) (yup_nk (by decide)) ?_
                refine y_iconst 96 c73_95 rfl ?_
                refine y_icmp 112 99 c73_96 rfl rfl (yc_ne (by omega) (by omega)) (fun hb4197 => ?_) (fun hb4197 => ?_)
                · refine y_iinc 115 c73_112 rfl rfl rfl ?_
                  refine y_goto 2 c73_115 rfl ?_
                  exact ih (m 316 16 - (i + 1) : Int).toNat (by omega) (i + 1) _  _ (by omega) (by omega) hT4194 hF4195 (hR.ext (fun j q h6 h7 => yup_nk h7) (fun j hj => yup_nk (by decide)) (fun z => yup_na (by omega))) (NL.snoc (k := i) (hN.fr (fun j ja jb => ⟨(yup_na (by omega)), (yup_na (by omega))⟩)) rfl (by omega) (by rw [yup_nk (by decide), yup_nk (by decide)]; omega))
                · exfalso; omega
              · refine y_aload 87 c73_86 rfl rfl rfl ?_
                refine y_getX 90 (mi (336 + i.toNat) 5) c73_87 rfl (ff336_5 (by omega)) (yup_nk (by decide)) ?_
                have tb4198 := hTi.atp (336 + i.toNat) 5 0 320 (ft336_5 (by omega))
                exact y_retI c73_90 (y_fit0 _) ⟨rfl, hT4194, hF4195, by omega, fun h1 => by omega⟩
        · refine y_aload 35 c73_34 rfl rfl rfl ?_
          refine y_aload 36 c73_35 rfl rfl rfl ?_
          refine y_aload 37 c73_36 rfl rfl rfl ?_
          refine y_getX 40 (mi (336 + i.toNat) 4) c73_37 rfl (ff336_4 (by omega)) rfl ?_
          have tb4199 := hTi.atp (336 + i.toNat) 4 ((-2147483648)) 2147483647 (ft336_4 (by omega))
          have es4200 : mi 316 11 = m 316 11 := (hFi 316 11 rfl)
          have tb4201 := hT.atp 316 11 0 8 rfl
          refine y_callP 43 [.ref 316, yI (mi (336 + i.toNat) 4)] [.ref (336 + i.toNat)] c73_40 rfl rfl rfl rfl rfl (ycanO km46 ko316) (t46_316 hTi (by omega)) (fun r4202 hr4202 => ?_)
          refine y_putI 46 c73_43 rfl (ff336_6 (by omega)) (y_fit0 _) ?_
          have hT4203 := hTi.up (336 + i.toNat) 6 r4202 ((-1)) 11 (ft336_6 (by omega)) (by omega)
          have hF4204 := hFi.up (336 + i.toNat) 6 r4202 (wRs316_6 (by omega))
          refine y_goto 112 c73_46 rfl ?_
          refine y_iinc 115 c73_112 rfl rfl rfl ?_
          refine y_goto 2 c73_115 rfl ?_
          exact ih (m 316 16 - (i + 1) : Int).toNat (by omega) (i + 1) _  _ (by omega) (by omega) hT4203 hF4204 (hR.ext (fun j q h6 h7 => yup_nk h6) (fun j hj => yup_na (fun e => by have hj2 : j = i.toNat := (by omega); subst hj2; omega)) (fun z => yup_na (by omega))) (NL.snoc (k := i) (hN.fr (fun j ja jb => ⟨(yup_na (by omega)), (yup_na (by omega))⟩)) rfl (by omega) (by rw [yup_nk (by decide), yup_eq]; omega))
set_option maxRecDepth 100000 in
theorem t73_316 {L : Nat} {xs : Nat → Int32} {d nn : Nat} {m : yM} (hT : Ty gT m) (hR : RG 336 325 m 0 (m 316 16) 0 (m 316 12) 0 (m 316 13)) : YC (gZ L xs) (d + 7) 73 [.ref 316] m nn (qI (fun r m' n' => n' = nn ∧ Ty gT m' ∧ Fr wRs316 m m' ∧ (-1 ≤ r ∧ r ≤ 320) ∧ (r = -1 → RG 336 325 m' 0 (m 316 16) 0 (m 316 12) 0 (m 316 13) ∧ NL 336 m' 0 (m 316 16) ∧ m' 316 17 < m 316 10))) := by
  refine YC.mkB [some (.ref 316), none, none] kn73 rfl rfl ?_
  refine y_iconst 1 c73_0 rfl ?_
  refine y_istore 2 c73_1 rfl rfl ?_
  have tb16 := hT.atp 316 16 0 40 rfl
  exact t73a_316 hT (m 316 16 - 0).toNat 0 none m (by omega) (by omega) hT Fr.rf hR (NL.nil (by omega))
def wPl316 (a q : Nat) : Bool := (a == 2 && (q == 2 || q == 3 || q == 4)) || decide (316 ≤ a ∧ a < 376)
def wPs316 (a _q : Nat) : Bool := a == 2 || a == 3 || a == 5 || a == 6 || a == 7 || decide (316 ≤ a ∧ a < 376)
theorem wFa_wPl316 : ∀ a q, wFa a q = true → wPl316 a q = true := by
  intro a q h
  simp [wFa] at h
  simp [wPl316]
  omega
theorem wAt_wPl316 : ∀ a q, wAt a q = true → wPl316 a q = true := by
  intro a q h
  simp [wAt] at h
  simp [wPl316]
  omega
theorem wHd316_wPl316 : ∀ a q, wHd316 a q = true → wPl316 a q = true := by
  intro a q h
  simp [wHd316] at h
  simp [wPl316]
  omega
theorem wFd316_wPl316 : ∀ a q, wFd316 a q = true → wPl316 a q = true := by
  intro a q h
  simp [wFd316] at h
  simp [wPl316]
  omega
theorem wRs316_wPl316 : ∀ a q, wRs316 a q = true → wPl316 a q = true := by
  intro a q h
  simp [wRs316] at h
  simp [wPl316]
  omega
theorem wMt316_wPl316 {c : Nat} : ∀ a q, wMt316 c a q = true → wPl316 a q = true := by
  intro a q h
  simp [wMt316] at h
  simp [wPl316]
  omega
theorem wTok_wPs316 : ∀ a q, wTok a q = true → wPs316 a q = true := by
  intro a q h
  simp [wTok] at h
  simp [wPs316]
  omega
theorem wCn316_wPs316 : ∀ a q, wCn316 a q = true → wPs316 a q = true := by
  intro a q h
  simp [wCn316] at h
  simp [wPs316]
  omega
theorem wPl316_wPs316 : ∀ a q, wPl316 a q = true → wPs316 a q = true := by
  intro a q h
  simp [wPl316] at h
  simp [wPs316]
  omega
theorem wHd316_n326 {j q : Nat} : wHd316 (326 + j) q = false := by
  cases h : wHd316 (326 + j) q with
  | false => rfl
  | true => simp [wHd316] at h <;> omega
theorem wHd316_n336 {j q : Nat} : wHd316 (336 + j) q = false := by
  cases h : wHd316 (336 + j) q with
  | false => rfl
  | true => simp [wHd316] at h <;> omega
theorem wFd316_n326 {j q : Nat} : wFd316 (326 + j) q = false := by
  cases h : wFd316 (326 + j) q with
  | false => rfl
  | true => simp [wFd316] at h <;> omega
theorem wFd316_n336 {j q : Nat} : wFd316 (336 + j) q = false := by
  cases h : wFd316 (336 + j) q with
  | false => rfl
  | true => simp [wFd316] at h <;> omega
theorem wRs316_n326 {j q : Nat} (h : j < 10) : wRs316 (326 + j) q = false := by
  cases h : wRs316 (326 + j) q with
  | false => rfl
  | true => simp [wRs316] at h <;> omega
theorem wRs316_e {j q : Nat} (h : q ≠ 6 ∧ q ≠ 7) : wRs316 (336 + j) q = false := by
  cases h : wRs316 (336 + j) q with
  | false => rfl
  | true => simp [wRs316] at h <;> omega
/-- what was read so far is sound -/
def SO316 (m : yM) : Prop := 1 ≤ m 316 9 ∧ RG 336 325 m 0 (m 316 16) 0 (m 316 12) 0 (m 316 13) ∧ EN 336 m 0 (m 316 16) (m 316 16) ∧ ES 326 m (m 316 10) (m 316 16)
theorem SO316.fr {m m' : yM} (h : SO316 m) (h9 : 1 ≤ m' 316 9) (h10 : m' 316 10 = m 316 10) (h12 : m' 316 12 = m 316 12) (h13 : m' 316 13 = m 316 13) (h16 : m' 316 16 = m 316 16) (e : ∀ j q, m' (336 + j) q = m (336 + j) q) (em : ∀ j q, m' (326 + j) q = m (326 + j) q) (ez : ∀ z, m' 325 z = m 325 z) : SO316 m' := by
  obtain ⟨-, g2, g3, g4⟩ := h
  unfold SO316
  rw [h10, h12, h13, h16]
  exact ⟨h9, g2.fr (fun j _ _ q _ => e j q) (fun z _ _ => ez z) (Int.le_refl _), g3.fr (fun j _ _ q => e j q) (Int.le_refl _), g4.fr (fun j _ => em j 5) (Int.le_refl _)⟩
theorem SO316.app {m m' : yM} (h : SO316 m) (h9 : m' 316 9 = m 316 9) (hb : 0 ≤ m 316 16 ∧ m 316 16 ≤ m' 316 16 ∧ 0 ≤ m 316 12 ∧ m 316 12 ≤ m' 316 12 ∧ 0 ≤ m 316 10) (h10 : m' 316 10 = m 316 10 + 1) (hF : Fr (wMt316 (m 316 16).toNat) m m') (hz : ∀ z : Nat, (z : Int) < m 316 13 → m' 325 z = m 325 z) (hR : RG 336 325 m' (m 316 16) (m' 316 16) (m 316 12) (m' 316 12) (m 316 13) (m' 316 13)) (hE : EN 336 m' (m 316 16) (m' 316 16) (m' 316 16)) (h5 : ∀ j : Nat, (j : Int) < m 316 10 → m' (326 + j) 5 = m (326 + j) 5) (h6 : m' (326 + (m 316 10).toNat) 5 ≤ m' 316 16) : SO316 m' := by
  obtain ⟨g1, g2, g3, g4⟩ := h
  refine ⟨by omega, ?_, ?_, ?_⟩
  · have k1 := g2.fr (m' := m') (c3 := m 316 12) (fun j ja jb q _ => hF _ _ (wMt316_n (by omega))) (fun z za zb => hz z zb) (Int.le_refl _)
    exact RG.app k1 hR (by omega) (by omega) (by omega)
  · have k1 := g3.fr (m' := m') (c2 := m' 316 16) (fun j ja jb q => hF _ _ (wMt316_n (by omega))) (by omega)
    exact EN.app k1 hE
  · rw [h10]
    exact ES.snoc (g4.fr h5 (by omega)) (by omega) h6
set_option maxRecDepth 100000 in
set_option maxHeartbeats 1000000 in
theorem t74a_316 {L : Nat} {xs : Nat → Int32} {d nn : Nat} {m : yM} {e : Int} (hT : Ty gT m) (he : 0 ≤ e ∧ e ≤ 320) (hE : m 5 e.toNat = 0) (ha : m 2 2 ≤ e) (hp : m 2 1 = 1) {n : Int} : ∀ (k : Nat) (g i : Int) (mi : yM), 320 - i = k → 0 ≤ i ∧ i ≤ 320 → g = 0 ∨ g = 1 → Ty gT mi → Fr wPl316 m mi → mi 2 2 ≤ e → MP 326 mi → (g = 1 → SO316 mi) → YW (gZ L xs) 74 (d + 14) 40 [some (.ref 2), some (.ref 1), some (yI n), some (.ref 316), some (yI g), some (yI i)] [] mi nn (qI (fun r m' n' => n' = nn ∧ Ty gT m' ∧ Fr wPl316 m m' ∧ (-1 ≤ r ∧ r ≤ 320) ∧ MP 326 m' ∧ (r = -1 → PS 316 m'))) := by
  intro k
  induction k using Nat.strongRecOn with
  | ind k ih =>
    intro g i mi hk hi0 hg0 hTi hFi h22 hMP hS
    have ti316_9 := hTi.atp 316 9 0 6 rfl
    have ti316_10 := hTi.atp 316 10 0 10 rfl
    have ti316_12 := hTi.atp 316 12 0 12 rfl
    have ti316_13 := hTi.atp 316 13 0 8 rfl
    have ti316_16 := hTi.atp 316 16 0 40 rfl
    have ti2_2 := hTi.atp 2 2 0 320 rfl
    refine y_iload 42 c74_40 rfl rfl ?_
    refine y_iconst 45 c74_42 rfl ?_
    refine y_icmp 139 48 c74_45 rfl rfl (yc_ge (by omega) (by omega)) (fun hb4205 => ?_) (fun hb4205 => ?_)
    · refine y_iload 141 c74_139 rfl rfl ?_
      refine y_if 154 144 c74_141 rfl rfl (yz_eq (by omega)) (fun hb4206 => ?_) (fun hb4206 => ?_)
      · refine y_aload 155 c74_154 rfl rfl rfl ?_
        refine y_getX 158 (mi 2 4) c74_155 rfl kf2_4 rfl ?_
        have tb4207 := hTi.atp 2 4 0 320 rfl
        exact y_retI c74_158 (y_fit0 _) ⟨rfl, hTi, hFi, by omega, hMP, fun h1 => by omega⟩
      · refine y_aload 145 c74_144 rfl rfl rfl ?_
        refine y_getS 148 (B := 316) c74_145 rfl kf2_1 (by first | rfl | (rw [show mi 2 1 = 1 from by have e : mi 2 1 = m 2 1 := (hFi 2 1 rfl); omega]; rfl)) ?_
        obtain ⟨hs9, hs1, hs2, hs3⟩ := hS (by omega)
        refine y_callIB 151 [.ref 316] [] c74_148 rfl rfl rfl rfl rfl (ycanO km73 ko316) (t73_316 hTi hs1) (fun rq4208 mq4208 nq4208 hq4208 => ?_)
        obtain ⟨rfl, hTq4208, hFq4208, hq4208, hGq4208⟩ := hq4208
        have hF4209 := hFi.tr hFq4208 wRs316_wPl316
        have hMP2 : MP 326 mq4208 := hMP.fr (fun k hk => hFq4208 _ _ (wRs316_n326 hk)) (fun k hk => hFq4208 _ _ (wRs316_n326 hk))
        refine y_goto 158 c74_151 rfl ?_
        have es4210 : mq4208 316 10 = mi 316 10 := (hFq4208 316 10 rfl)
        have es4211 : mq4208 316 12 = mi 316 12 := (hFq4208 316 12 rfl)
        have es4212 : mq4208 316 13 = mi 316 13 := (hFq4208 316 13 rfl)
        have es4213 : mq4208 316 16 = mi 316 16 := (hFq4208 316 16 rfl)
        refine y_retI c74_158 (y_fit0 _) ⟨rfl, hTq4208, hF4209, by omega, hMP2, fun h1 => ?_⟩
        obtain ⟨g1, g2, g3⟩ := hGq4208 h1
        unfold PS
        rw [hFq4208 316 16 rfl, hFq4208 316 12 rfl, hFq4208 316 13 rfl, hFq4208 316 10 rfl]
        exact ⟨g1, hs2.fr' (fun j q hq => hFq4208 _ _ (wRs316_e hq)), g2, hMP2, hs3.fr (fun j hj => hFq4208 _ _ (wRs316_n326 (by omega))) (Int.le_refl _), g3⟩
    · refine y_iload 50 c74_48 rfl rfl ?_
      refine y_if 139 53 c74_50 rfl rfl (yz_eq (by omega)) (fun hb4214 => ?_) (fun hb4214 => ?_)
      · refine y_iload 141 c74_139 rfl rfl ?_
        refine y_if 154 144 c74_141 rfl rfl (yz_eq (by omega)) (fun hb4215 => ?_) (fun hb4215 => ?_)
        · refine y_aload 155 c74_154 rfl rfl rfl ?_
          refine y_getX 158 (mi 2 4) c74_155 rfl kf2_4 rfl ?_
          have tb4216 := hTi.atp 2 4 0 320 rfl
          exact y_retI c74_158 (y_fit0 _) ⟨rfl, hTi, hFi, by omega, hMP, fun h1 => by omega⟩
        · exfalso; omega
      · have hs9 := (hS (by omega)).1
        refine y_aload 54 c74_53 rfl rfl rfl ?_
        refine y_getX 57 (mi 2 3) c74_54 rfl kf2_3 rfl ?_
        have tb4217 := hTi.atp 2 3 0 1 rfl
        refine y_if 139 60 c74_57 rfl rfl (yz_ne (by omega)) (fun hb4218 => ?_) (fun hb4218 => ?_)
        · refine y_iload 141 c74_139 rfl rfl ?_
          refine y_if 154 144 c74_141 rfl rfl (yz_eq (by omega)) (fun hb4219 => ?_) (fun hb4219 => ?_)
          · exfalso; omega
          · refine y_aload 145 c74_144 rfl rfl rfl ?_
            refine y_getS 148 (B := 316) c74_145 rfl kf2_1 (by first | rfl | (rw [show mi 2 1 = 1 from by have e : mi 2 1 = m 2 1 := (hFi 2 1 rfl); omega]; rfl)) ?_
            obtain ⟨hs9, hs1, hs2, hs3⟩ := hS (by omega)
            refine y_callIB 151 [.ref 316] [] c74_148 rfl rfl rfl rfl rfl (ycanO km73 ko316) (t73_316 hTi hs1) (fun rq4220 mq4220 nq4220 hq4220 => ?_)
            obtain ⟨rfl, hTq4220, hFq4220, hq4220, hGq4220⟩ := hq4220
            have hF4221 := hFi.tr hFq4220 wRs316_wPl316
            have hMP2 : MP 326 mq4220 := hMP.fr (fun k hk => hFq4220 _ _ (wRs316_n326 hk)) (fun k hk => hFq4220 _ _ (wRs316_n326 hk))
            refine y_goto 158 c74_151 rfl ?_
            have es4222 : mq4220 316 10 = mi 316 10 := (hFq4220 316 10 rfl)
            have es4223 : mq4220 316 12 = mi 316 12 := (hFq4220 316 12 rfl)
            have es4224 : mq4220 316 13 = mi 316 13 := (hFq4220 316 13 rfl)
            have es4225 : mq4220 316 16 = mi 316 16 := (hFq4220 316 16 rfl)
            refine y_retI c74_158 (y_fit0 _) ⟨rfl, hTq4220, hF4221, by omega, hMP2, fun h1 => ?_⟩
            obtain ⟨g1, g2, g3⟩ := hGq4220 h1
            unfold PS
            rw [hFq4220 316 16 rfl, hFq4220 316 12 rfl, hFq4220 316 13 rfl, hFq4220 316 10 rfl]
            exact ⟨g1, hs2.fr' (fun j q hq => hFq4220 _ _ (wRs316_e hq)), g2, hMP2, hs3.fr (fun j hj => hFq4220 _ _ (wRs316_n326 (by omega))) (Int.le_refl _), g3⟩
        · refine y_aload 61 c74_60 rfl rfl rfl ?_
          refine y_callP 64 [.ref 2] [] c74_61 rfl rfl rfl rfl rfl (ycanO km38 ko2) (t38 hTi he (by have e1 : mi 5 e.toNat = m 5 e.toNat := (hFi 5 e.toNat rfl); omega) (by omega)) (fun r4226 hr4226 => ?_)
          by_cases hk4227 : r4226 = 2
          · refine y_top 2 hk4227 ?_
            refine y_lsw 100 c74_64 (by decide) rfl rfl ?_
            refine y_aload 101 c74_100 rfl rfl rfl ?_
            have es4229 : mi 2 1 = m 2 1 := (hFi 2 1 rfl)
            have tb4230 := hT.atp 2 1 ((-1)) 1 rfl
            refine y_callIB 104 [.ref 2] [] c74_101 rfl rfl rfl rfl rfl (ycanO km49 ko2) (t49_316 hTi he (by have e1 : mi 5 e.toNat = m 5 e.toNat := (hFi 5 e.toNat rfl); omega) (by omega) (by omega) (by omega) (by omega)) (fun rq4228 mq4228 nq4228 hq4228 => ?_)
            obtain ⟨rfl, hTq4228, hFq4228, hq4228⟩ := hq4228
            have hF4231 := hFi.tr hFq4228 wFd316_wPl316
            refine y_istore 106 c74_104 rfl rfl ?_
            refine y_goto 133 c74_106 rfl ?_
            refine y_iinc 136 c74_133 rfl rfl rfl ?_
            refine y_goto 40 c74_136 rfl ?_
            have tb4232 := hTq4228.atp 2 2 0 320 rfl
            have es4233 : mq4228 316 9 = mi 316 9 := (hFq4228 316 9 rfl)
            have es4234 : mq4228 316 10 = mi 316 10 := (hFq4228 316 10 rfl)
            have es4235 : mq4228 316 12 = mi 316 12 := (hFq4228 316 12 rfl)
            have es4236 : mq4228 316 13 = mi 316 13 := (hFq4228 316 13 rfl)
            have es4237 : mq4228 316 16 = mi 316 16 := (hFq4228 316 16 rfl)
            refine ih (320 - (i + 1 : Int)).toNat (by omega) rq4228 (i + 1) _ (by omega) (by omega) (by omega) hTq4228 hF4231 (by omega) (hMP.fr (fun k hk => hFq4228 _ _ wFd316_n326) (fun k hk => hFq4228 _ _ wFd316_n326)) (fun h1 => ?_)
            exact (hS (by omega)).fr (by omega) (by omega) (by omega) (by omega) (by omega) (fun j q => hFq4228 _ _ wFd316_n336) (fun j q => hFq4228 _ _ wFd316_n326) (fun z => hFq4228 325 z rfl)
          by_cases hk4238 : r4226 = 3
          · refine y_top 3 hk4238 ?_
            refine y_lsw 109 c74_64 (by decide) rfl rfl ?_
            refine y_aload 110 c74_109 rfl rfl rfl ?_
            have es4240 : mi 2 1 = m 2 1 := (hFi 2 1 rfl)
            have tb4241 := hT.atp 2 1 ((-1)) 1 rfl
            refine y_callIB 113 [.ref 2] [] c74_110 rfl rfl rfl rfl rfl (ycanO km70 ko2) (t70_316 hTi he (by have e1 : mi 5 e.toNat = m 5 e.toNat := (hFi 5 e.toNat rfl); omega) (by omega) (by omega) (by omega) (by omega)) (fun rq4239 mq4239 nq4239 hq4239 => ?_)
            obtain ⟨rfl, hTq4239, hFq4239, hq4239, hZq4239, hMq4239, hGq4239⟩ := hq4239
            have hF4242 := hFi.tr hFq4239 wMt316_wPl316
            refine y_istore 115 c74_113 rfl rfl ?_
            refine y_goto 133 c74_115 rfl ?_
            refine y_iinc 136 c74_133 rfl rfl rfl ?_
            refine y_goto 40 c74_136 rfl ?_
            have tb4243 := hTq4239.atp 2 2 0 320 rfl
            have es4244 : mq4239 316 9 = mi 316 9 := (hFq4239 316 9 ((wMt316_lt (by decide)).trans rfl))
            have tb4245 := hTq4239.atp 316 10 0 10 rfl
            have tb4246 := hTq4239.atp 316 12 0 12 rfl
            have tb4247 := hTq4239.atp 316 13 0 8 rfl
            have tb4248 := hTq4239.atp 316 16 0 40 rfl
            refine ih (320 - (i + 1 : Int)).toNat (by omega) rq4239 (i + 1) _ (by omega) (by omega) (by omega) hTq4239 hF4242 (by omega) (hMq4239 hMP) (fun h1 => ?_)
            obtain ⟨g1, g2, g3, g4, g5⟩ := hGq4239 (by omega)
            exact (hS (by omega)).app (by omega) (by omega) g1 hFq4239 hZq4239 g2 g3 g4 g5
          by_cases hk4249 : r4226 = 125
          · refine y_top 125 hk4249 ?_
            refine y_lsw 118 c74_64 (by decide) rfl rfl ?_
            refine y_aload 119 c74_118 rfl rfl rfl ?_
            have es4251 : mi 2 1 = m 2 1 := (hFi 2 1 rfl)
            have tb4252 := hT.atp 2 1 ((-1)) 1 rfl
            refine y_callIB 122 [.ref 2] [] c74_119 rfl rfl rfl rfl rfl (ycanO km71 ko2) (t71_316 hTi he (by have e1 : mi 5 e.toNat = m 5 e.toNat := (hFi 5 e.toNat rfl); omega) (by omega) (by omega) (by omega) (by omega)) (fun rq4250 mq4250 nq4250 hq4250 => ?_)
            obtain ⟨rfl, hTq4250, hFq4250, hq4250⟩ := hq4250
            have hF4253 := hFi.tr hFq4250 wHd316_wPl316
            refine y_istore 124 c74_122 rfl rfl ?_
            refine y_goto 133 c74_124 rfl ?_
            refine y_iinc 136 c74_133 rfl rfl rfl ?_
            refine y_goto 40 c74_136 rfl ?_
            have tb4254 := hTq4250.atp 2 2 0 320 rfl
            have tb4255 := hTq4250.atp 316 9 0 6 rfl
            have es4256 : mq4250 316 10 = mi 316 10 := (hFq4250 316 10 rfl)
            have es4257 : mq4250 316 12 = mi 316 12 := (hFq4250 316 12 rfl)
            have es4258 : mq4250 316 13 = mi 316 13 := (hFq4250 316 13 rfl)
            have es4259 : mq4250 316 16 = mi 316 16 := (hFq4250 316 16 rfl)
            refine ih (320 - (i + 1 : Int)).toNat (by omega) rq4250 (i + 1) _ (by omega) (by omega) (by omega) hTq4250 hF4253 (by omega) (hMP.fr (fun k hk => hFq4250 _ _ wHd316_n326) (fun k hk => hFq4250 _ _ wHd316_n326)) (fun h1 => ?_)
            exact (hS (by omega)).fr (by omega) (by omega) (by omega) (by omega) (by omega) (fun j q => hFq4250 _ _ wHd316_n336) (fun j q => hFq4250 _ _ wHd316_n326) (fun z => hFq4250 325 z rfl)
          refine y_lsw 127 c74_64 (by omega) (by simp only [Op.lookupswitch.offset]; split <;> first | omega | (split <;> first | omega | (split <;> first | omega | rfl))) rfl ?_
          refine y_aload 128 c74_127 rfl rfl rfl ?_
          have es4261 : mi 2 1 = m 2 1 := (hFi 2 1 rfl)
          have tb4262 := hT.atp 2 1 ((-1)) 1 rfl
          refine y_callIB 131 [.ref 2] [] c74_128 rfl rfl rfl rfl rfl (ycanO km43 ko2) (t43 hTi) (fun rq4260 mq4260 nq4260 hq4260 => ?_)
          obtain ⟨rfl, hTq4260, hFq4260, hq4260⟩ := hq4260
          have hF4263 := hFi.tr hFq4260 wFa_wPl316
          refine y_istore 133 c74_131 rfl rfl ?_
          refine y_iinc 136 c74_133 rfl rfl rfl ?_
          refine y_goto 40 c74_136 rfl ?_
          have es4264 : mq4260 2 2 = mi 2 2 := (hFq4260 2 2 rfl)
          have es4265 : mq4260 316 9 = mi 316 9 := (hFq4260 316 9 rfl)
          have es4266 : mq4260 316 10 = mi 316 10 := (hFq4260 316 10 rfl)
          have es4267 : mq4260 316 12 = mi 316 12 := (hFq4260 316 12 rfl)
          have es4268 : mq4260 316 13 = mi 316 13 := (hFq4260 316 13 rfl)
          have es4269 : mq4260 316 16 = mi 316 16 := (hFq4260 316 16 rfl)
          refine ih (320 - (i + 1 : Int)).toNat (by omega) rq4260 (i + 1) _ (by omega) (by omega) (by omega) hTq4260 hF4263 (by omega) (hMP.fr (fun k hk => hFq4260 _ _ wFa_n326) (fun k hk => hFq4260 _ _ wFa_n326)) (fun h1 => ?_)
          exact (hS (by omega)).fr (by omega) (by omega) (by omega) (by omega) (by omega) (fun j q => hFq4260 _ _ wFa_n336) (fun j q => hFq4260 _ _ wFa_n326) (fun z => hFq4260 325 z rfl)
theorem wCn316_h {a q : Nat} (h : 316 < a) : wCn316 a q = false := by
  cases h : wCn316 a q with
  | false => rfl
  | true => simp [wCn316] at h <;> omega
set_option maxRecDepth 100000 in
theorem t74h_316 {L : Nat} {xs : Nat → Int32} {d nn : Nat} {m : yM} {m0 : yM} {e : Int} (hT : Ty gT m) (he : 0 ≤ e ∧ e ≤ 320) (hE : m 5 e.toNat = 0) (ha : m 2 2 ≤ e) (hp : m 2 1 = 1) (h22 : m 2 2 = 0) (h16 : m 316 16 = 0 ∧ m 316 10 = 0) (h13 : m 316 13 = 0) {n : Int} (hF0 : Fr wPs316 m0 m) (hM : MP 326 m) : YW (gZ L xs) 74 (d + 14) 31 [some (.ref 2), some (.ref 1), some (yI n), some (.ref 316), none, none] [] m nn (qI (fun r m' n' => n' = nn ∧ Ty gT m' ∧ Fr wPs316 m0 m' ∧ (-1 ≤ r ∧ r ≤ 320) ∧ MP 326 m' ∧ (r = -1 → PS 316 m'))) := by
  have hF : Fr wPl316 m m := Fr.rf
  have tb9 := hT.atp 316 9 0 6 rfl
  refine y_aload 32 c74_31 rfl rfl rfl ?_
  have tb4271 := hT.atp 2 2 0 320 rfl
  have tb4272 := hT.atp 316 9 0 6 rfl
  have tb4273 := hT.atp 2 1 ((-1)) 1 rfl
  have tb4274 := hT.atp 2 3 0 1 rfl
  refine y_callIB 35 [.ref 2] [] c74_32 rfl rfl rfl rfl rfl (ycanO km45 ko2) (t45_316 hT he hE (by omega) (by omega)) (fun rq4270 mq4270 nq4270 hq4270 => ?_)
  obtain ⟨rfl, hTq4270, hFq4270, hq4270⟩ := hq4270
  have hF4275 := hF.tr hFq4270 wHd316_wPl316
  refine y_istore 37 c74_35 rfl rfl ?_
  refine y_iconst 38 c74_37 rfl ?_
  refine y_istore 40 c74_38 rfl rfl ?_
  have tb4276 := hTq4270.atp 316 9 0 6 rfl
  have es4277 : mq4270 316 10 = m 316 10 := (hFq4270 316 10 rfl)
  have tb4278 := hT.atp 316 10 0 10 rfl
  have es4279 : mq4270 316 12 = m 316 12 := (hFq4270 316 12 rfl)
  have tb4280 := hT.atp 316 12 0 12 rfl
  have es4281 : mq4270 316 13 = m 316 13 := (hFq4270 316 13 rfl)
  have tb4282 := hT.atp 316 13 0 8 rfl
  have es4283 : mq4270 316 16 = m 316 16 := (hFq4270 316 16 rfl)
  have tb4284 := hT.atp 316 16 0 40 rfl
  have es4285 : mq4270 2 1 = m 2 1 := (hFq4270 2 1 rfl)
  have tb4286 := hTq4270.atp 2 2 0 320 rfl
  refine YW.mono (t74a_316 hT he hE ha hp 320 rq4270 0 _ (by omega) (by omega) (by omega) hTq4270 hF4275 (by omega) (hM.fr (fun k hk => hFq4270 _ _ wHd316_n326) (fun k hk => hFq4270 _ _ wHd316_n326)) (fun h1 => ⟨by omega, RG.nil (by omega) (by omega), EN.nil (by omega), ES.nil (by omega)⟩)) (fun r m2 n2 hq => ?_)
  obtain ⟨x0, rfl, rfl, k1, k2, k3, k4, k5⟩ := hq
  exact ⟨x0, rfl, rfl, k1, hF0.tr k2 wPl316_wPs316, k3, k4, k5⟩
set_option maxRecDepth 100000 in
theorem t74_316 {L : Nat} {xs : Nat → Int32} {d nn : Nat} {m : yM} {n : Int} (hT : Ty gT m) (hn : 0 ≤ n ∧ n ≤ 320) (hM : MP 326 m) : YC (gZ L xs) (d + 14) 74 [.ref 2, .ref 1, yI n, .ref 316] m nn (qI (fun r m' n' => n' = nn ∧ Ty gT m' ∧ Fr wPs316 m m' ∧ (-1 ≤ r ∧ r ≤ 320) ∧ MP 326 m' ∧ (r = -1 → PS 316 m'))) := by
  refine YC.mkB [some (.ref 2), some (.ref 1), some (yI n), some (.ref 316), none, none] kn74 rfl rfl ?_
  have hF : Fr wPs316 m m := Fr.rf
  refine y_aload 1 c74_0 rfl rfl rfl ?_
  refine y_aload 2 c74_1 rfl rfl rfl ?_
  refine y_putS 5 1 c74_2 rfl kf2_1 rfl ?_
  have hT4287 := hT.up 2 1 1 ((-1)) 1 rfl (by omega)
  have hF4288 := hF.up 2 1 1 rfl
  refine y_aload 6 c74_5 rfl rfl rfl ?_
  refine y_getS 9 (B := 316) c74_6 rfl kf2_1 (by first | rfl | (rw [show (yup m 2 1 1) 2 1 = 1 from by have e : (yup m 2 1 1) 2 1 = 1 := rfl; omega]; rfl)) ?_
  refine y_callUB 12 [.ref 316] [] c74_9 rfl rfl rfl rfl rfl (ycanO km30 ko316) (t30_316 hT4287) (fun mq4289 nq4289 hq4289 => ?_)
  obtain ⟨rfl, hTq4289, hFq4289, hq4289⟩ := hq4289
  have hF4290 := hF4288.tr hFq4289 wCn316_wPs316
  refine y_aload 13 c74_12 rfl rfl rfl ?_
  refine y_getR 16 c74_13 rfl kf2_0 ?_
  refine y_aload 17 c74_16 rfl rfl rfl ?_
  refine y_iload 18 c74_17 rfl rfl ?_
  refine y_callUB 21 [.ref 3, .ref 1, yI n] [] c74_18 rfl rfl rfl rfl rfl (ycanO km36 ko3) (t36 hTq4289 n hn) (fun mq4291 nq4291 hq4291 => ?_)
  obtain ⟨rfl, hTq4291, hFq4291, e, he0, he1, hsz, hEe⟩ := hq4291
  have hF4292 := hF4290.tr hFq4291 wTok_wPs316
  refine y_aload 22 c74_21 rfl rfl rfl ?_
  refine y_iconst 23 c74_22 rfl ?_
  refine y_putI 26 c74_23 rfl kf2_2 (y_fit0 _) ?_
  have hT4293 := hTq4291.up 2 2 0 0 320 rfl (by omega)
  have hF4294 := hF4292.up 2 2 0 rfl
  refine y_aload 27 c74_26 rfl rfl rfl ?_
  refine y_iconst 28 c74_27 rfl ?_
  refine y_putI 31 c74_28 rfl kf2_3 (y_fit1 (by omega)) ?_
  have hT4295 := hT4293.up 2 3 0 0 1 rfl (by omega)
  have hF4296 := hF4294.up 2 3 0 rfl
  have es4297 : (yup (yup mq4291 2 2 0) 2 3 0) 316 9 = mq4289 316 9 := ((yup_na (by decide)).trans ((yup_na (by decide)).trans (hFq4291 316 9 rfl)))
  have tb4298 := hTq4289.atp 316 9 0 6 rfl
  have es4299 : (yup (yup mq4291 2 2 0) 2 3 0) 316 10 = mq4289 316 10 := ((yup_na (by decide)).trans ((yup_na (by decide)).trans (hFq4291 316 10 rfl)))
  have tb4300 := hTq4289.atp 316 10 0 10 rfl
  have es4301 : (yup (yup mq4291 2 2 0) 2 3 0) 316 12 = mq4289 316 12 := ((yup_na (by decide)).trans ((yup_na (by decide)).trans (hFq4291 316 12 rfl)))
  have tb4302 := hTq4289.atp 316 12 0 12 rfl
  have es4303 : (yup (yup mq4291 2 2 0) 2 3 0) 316 13 = mq4289 316 13 := ((yup_na (by decide)).trans ((yup_na (by decide)).trans (hFq4291 316 13 rfl)))
  have tb4304 := hTq4289.atp 316 13 0 8 rfl
  have es4305 : (yup (yup mq4291 2 2 0) 2 3 0) 316 16 = mq4289 316 16 := ((yup_na (by decide)).trans ((yup_na (by decide)).trans (hFq4291 316 16 rfl)))
  have tb4306 := hTq4289.atp 316 16 0 40 rfl
  have es4307 : (yup (yup mq4291 2 2 0) 2 3 0) 2 1 = 1 := ((yup_nk (by decide)).trans ((yup_nk (by decide)).trans ((hFq4291 2 1 rfl).trans ((hFq4289 2 1 rfl).trans (yup_eq _ _ _ _)))))
  have es4308 : (yup (yup mq4291 2 2 0) 2 3 0) 2 2 = 0 := rfl
  have hE2 : (yup (yup mq4291 2 2 0) 2 3 0) 5 e.toNat = 0 := by have e1 : (yup (yup mq4291 2 2 0) 2 3 0) 5 e.toNat = _ := ((yup_na (by decide)).trans (yup_na (by decide))); omega
  have hM2 : MP 326 (yup (yup mq4291 2 2 0) 2 3 0) := (((((hM).na (by decide)).fr (fun k hk => hFq4289 _ _ (wCn316_h (by omega))) (fun k hk => hFq4289 _ _ (wCn316_h (by omega)))).fr (fun k hk => hFq4291 _ _ (wTok_h (by omega))) (fun k hk => hFq4291 _ _ (wTok_h (by omega)))).na (by decide)).na (by decide)
  exact t74h_316 hT4295 ⟨he0, he1⟩ hE2 (by omega) (by omega) (by omega) (by omega) (by omega) hF4296 hM2
end
section
/-! THE FACTS: what they may write; a call goes only where its arguments fit -/
def wFx (a q : Nat) : Bool := (a == 8 && q == 6) || decide (9 ≤ a ∧ a < 169)
def wFy (a q : Nat) : Bool := (a == 8 && q == 6) || decide (9 ≤ a ∧ a < 59) || decide (71 ≤ a ∧ a < 169)
theorem wFx_h {a q : Nat} (h : 169 ≤ a) : wFx a q = false := by
  cases e : wFx a q with
  | false => rfl
  | true => simp [wFx] at e <;> omega
theorem wFy_h {a q : Nat} (h : 169 ≤ a) : wFy a q = false := by
  cases e : wFy a q with
  | false => rfl
  | true => simp [wFy] at e <;> omega
theorem wFy_g {j q : Nat} (h : j < 12) : wFy (59 + j) q = false := by
  cases e : wFy (59 + j) q with
  | false => rfl
  | true => simp [wFy] at e <;> omega
theorem wTe_wFy {R : Nat} (h : (9 ≤ R ∧ R < 59) ∨ (71 ≤ R ∧ R < 169)) : ∀ a q, wTe R a q = true → wFy a q = true := by
  intro a q e
  simp [wTe] at e
  simp [wFy]
  omega
theorem wTe_wFx {R : Nat} (h : 9 ≤ R ∧ R < 169) : ∀ a q, wTe R a q = true → wFx a q = true := by
  intro a q e
  simp [wTe] at e
  simp [wFx]
  omega
theorem wRo_wFx {R : Nat} (h : 9 ≤ R ∧ R < 169) : ∀ a q, wRo R a q = true → wFx a q = true := by
  intro a q e
  simp [wRo] at e
  simp [wFx]
  omega
theorem wFy_wFx : ∀ a q, wFy a q = true → wFx a q = true := by
  intro a q e
  simp [wFy] at e
  simp [wFx]
  omega
theorem wRo_n {R a q : Nat} (h : a ≠ R) : wRo R a q = false := by
  cases e : wRo R a q with
  | false => rfl
  | true => simp [wRo] at e; omega
def GO (A B S : Nat) (m : yM) : Prop := ∀ k : Nat, (k : Int) < m A 16 → m (S + k) 0 = 4 → ∀ i : Nat, (i : Int) < m A 10 → m (59 + (m (S + k) 6).toNat) i ≠ -1 → m (B + i) 3 = m (S + k) 8
section GOL
variable {A B S : Nat} {m m' : yM}
theorem GO.fr (h : GO A B S m) (hA : 169 ≤ A ∧ 169 ≤ B ∧ 169 ≤ S) (hn : ∀ k : Nat, (k : Int) < m A 16 → m (S + k) 6 ≤ 11) (F : Fr wFy m m') : GO A B S m' := by
  intro k hk h4 i hi hne
  rw [F A 16 (wFy_h (by omega))] at hk
  rw [F A 10 (wFy_h (by omega))] at hi
  rw [F (S + k) 0 (wFy_h (by omega))] at h4
  have := hn k hk
  rw [F (S + k) 6 (wFy_h (by omega)), F _ i (wFy_g (by omega))] at hne
  rw [F (B + i) 3 (wFy_h (by omega)), F (S + k) 8 (wFy_h (by omega))]
  exact h k hk h4 i hi hne
theorem GO.tell {k R : Nat} {j : Int} (h : GO A B S m) (hA : 169 ≤ A ∧ 169 ≤ B ∧ 169 ≤ S) (hn : ∀ k : Nat, (k : Int) < m A 16 → m (S + k) 6 ≤ 11) (hi : ∀ k' : Nat, (k' : Int) < m A 16 → m (S + k') 0 = 4 → m (S + k') 6 = m (S + k) 6 → k' = k) (h0 : ∀ k' : Nat, (k' : Int) < m A 16 → m (S + k') 0 = 4 → 0 ≤ m (S + k') 6) (hk0 : 0 ≤ m (S + k) 6) (hk1 : m (S + k) 6 ≤ 11) (F : Fr (wTe R) m m') (hR : R = 59 + (m (S + k) 6).toNat) (hq : ∀ q, q ≠ j.toNat → m' R q = m R q) (hj : m (B + j.toNat) 3 = m (S + k) 8) : GO A B S m' := by
  have e : ∀ a q, 169 ≤ a → m' a q = m a q := fun a q ha => F a q (wTe_n (by omega) (by omega))
  intro k' hk' h4 i hii hne
  rw [e A 16 (by omega)] at hk'
  rw [e A 10 (by omega)] at hii
  rw [e (S + k') 0 (by omega)] at h4
  rw [e (S + k') 6 (by omega)] at hne
  rw [e (B + i) 3 (by omega), e (S + k') 8 (by omega)]
  have z0 := h0 k' hk' h4
  by_cases q : m (S + k') 6 = m (S + k) 6
  · have := hi k' hk' h4 q
    subst this
    by_cases q2 : i = j.toNat
    · subst q2
      exact hj
    · rw [← hR, hq i q2, hR] at hne
      exact h k' hk' h4 i hii hne
  · rw [F _ i (wTe_n (by omega) (by omega))] at hne
    exact h k' hk' h4 i hii hne
end GOL
end
section
/-! CONTRACTS: the facts. Printed by wip/whole/gen92.py -/
def wRw (B n a _q : Nat) : Bool := decide (B ≤ a ∧ a < B + n)
theorem wRo_wRw {B n R : Nat} (h : B ≤ R ∧ R < B + n) : ∀ a q, wRo R a q = true → wRw B n a q = true := by
  intro a q e
  simp [wRo] at e
  simp [wRw]
  omega
theorem wRw_wFx {B n : Nat} (h : 9 ≤ B ∧ B + n ≤ 169) : ∀ a q, wRw B n a q = true → wFx a q = true := by
  intro a q e
  simp [wRw] at e
  simp [wFx]
  omega
theorem wRw_n {B n a q : Nat} (h : ¬ (B ≤ a ∧ a < B + n)) : wRw B n a q = false := by
  cases e : wRw B n a q with
  | false => rfl
  | true => simp [wRw] at e; omega
set_option maxRecDepth 100000 in
theorem t76a_9 {L : Nat} {xs : Nat → Int32} {d nn : Nat} {m : yM} (hT : Ty gT m) : ∀ (km : Nat) (i : Int) (mi : yM), 48 - i = km → 0 ≤ i ∧ i ≤ 48 → Ty gT mi → Fr (wRw 10 48) m mi → (∀ j q, j < i.toNat → q < 12 → mi (10 + j) q = -1) → YW (gZ L xs) 76 (d + 1) 2 [some (.ref 9), some (yI i)] [] mi nn (qU (fun m' n' => n' = nn ∧ Ty gT m' ∧ Fr (wRw 10 48) m m' ∧ ∀ j q, j < 48 → q < 12 → m' (10 + j) q = -1)) := by
  intro km
  induction km using Nat.strongRecOn with
  | ind km ih =>
    intro i mi hk hi hTi hFi hz
    refine y_iload 3 c76_2 rfl rfl ?_
    refine y_aload 4 c76_3 rfl rfl rfl ?_
    refine y_rlen 5 c76_4 rfl kr9 ?_
    refine y_icmp 21 8 c76_5 rfl rfl (yc_ge (by omega) (by omega)) (fun hb4309 => ?_) (fun hb4309 => ?_)
    · exact y_retU c76_21 ⟨rfl, hTi, hFi, fun j q hj hq => hz j q (by omega) hq⟩
    · refine y_aload 9 c76_8 rfl rfl rfl ?_
      refine y_iload 10 c76_9 rfl rfl ?_
      refine y_aaload 11 c76_10 rfl kr9 (by omega) ?_
      refine y_iconst 12 c76_11 rfl ?_
      refine y_callUB 15 [.ref (10 + i.toNat), yI ((-1))] [] c76_12 rfl rfl rfl rfl rfl (ycanS km75) (t75 hTi (fa10 (by omega)) (fun _ => fz10 (by omega)) (by decide) (by omega)) (fun mq4310 nq4310 hq4310 => ?_)
      obtain ⟨rfl, hTq4310, hFq4310, hq4310⟩ := hq4310
      have hF4311 := hFi.tr hFq4310 (wRo_wRw (by omega))
      refine y_iinc 18 c76_15 rfl rfl rfl ?_
      refine y_goto 2 c76_18 rfl ?_
      exact ih (48 - (i + 1) : Int).toNat (by omega) (i + 1)  _ (by omega) (by omega) hTq4310 hF4311 (fun j q hj hq => by
          by_cases e : j = i.toNat
          · subst e; exact hq4310 q hq
          · rw [hFq4310 _ _ (wRo_n (by omega))]; exact hz j q (by omega) hq)
set_option maxRecDepth 100000 in
theorem t76_9 {L : Nat} {xs : Nat → Int32} {d nn : Nat} {m : yM} (hT : Ty gT m) : YC (gZ L xs) (d + 1) 76 [.ref 9] m nn (qU (fun m' n' => n' = nn ∧ Ty gT m' ∧ Fr (wRw 10 48) m m' ∧ ∀ j q, j < 48 → q < 12 → m' (10 + j) q = -1)) := by
  refine YC.mkB [some (.ref 9), none] kn76 rfl rfl ?_
  refine y_iconst 1 c76_0 rfl ?_
  refine y_istore 2 c76_1 rfl rfl ?_
  exact t76a_9 hT 48 0 m (by omega) (by omega) hT Fr.rf (fun j q hj hq => by simp at hj)
set_option maxRecDepth 100000 in
theorem t76a_58 {L : Nat} {xs : Nat → Int32} {d nn : Nat} {m : yM} (hT : Ty gT m) : ∀ (km : Nat) (i : Int) (mi : yM), 12 - i = km → 0 ≤ i ∧ i ≤ 12 → Ty gT mi → Fr (wRw 59 12) m mi → (∀ j q, j < i.toNat → q < 10 → mi (59 + j) q = -1) → YW (gZ L xs) 76 (d + 1) 2 [some (.ref 58), some (yI i)] [] mi nn (qU (fun m' n' => n' = nn ∧ Ty gT m' ∧ Fr (wRw 59 12) m m' ∧ ∀ j q, j < 12 → q < 10 → m' (59 + j) q = -1)) := by
  intro km
  induction km using Nat.strongRecOn with
  | ind km ih =>
    intro i mi hk hi hTi hFi hz
    refine y_iload 3 c76_2 rfl rfl ?_
    refine y_aload 4 c76_3 rfl rfl rfl ?_
    refine y_rlen 5 c76_4 rfl kr58 ?_
    refine y_icmp 21 8 c76_5 rfl rfl (yc_ge (by omega) (by omega)) (fun hb4312 => ?_) (fun hb4312 => ?_)
    · exact y_retU c76_21 ⟨rfl, hTi, hFi, fun j q hj hq => hz j q (by omega) hq⟩
    · refine y_aload 9 c76_8 rfl rfl rfl ?_
      refine y_iload 10 c76_9 rfl rfl ?_
      refine y_aaload 11 c76_10 rfl kr58 (by omega) ?_
      refine y_iconst 12 c76_11 rfl ?_
      refine y_callUB 15 [.ref (59 + i.toNat), yI ((-1))] [] c76_12 rfl rfl rfl rfl rfl (ycanS km75) (t75 hTi (fa59 (by omega)) (fun _ => fz59 (by omega)) (by decide) (by omega)) (fun mq4313 nq4313 hq4313 => ?_)
      obtain ⟨rfl, hTq4313, hFq4313, hq4313⟩ := hq4313
      have hF4314 := hFi.tr hFq4313 (wRo_wRw (by omega))
      refine y_iinc 18 c76_15 rfl rfl rfl ?_
      refine y_goto 2 c76_18 rfl ?_
      exact ih (12 - (i + 1) : Int).toNat (by omega) (i + 1)  _ (by omega) (by omega) hTq4313 hF4314 (fun j q hj hq => by
          by_cases e : j = i.toNat
          · subst e; exact hq4313 q hq
          · rw [hFq4313 _ _ (wRo_n (by omega))]; exact hz j q (by omega) hq)
set_option maxRecDepth 100000 in
theorem t76_58 {L : Nat} {xs : Nat → Int32} {d nn : Nat} {m : yM} (hT : Ty gT m) : YC (gZ L xs) (d + 1) 76 [.ref 58] m nn (qU (fun m' n' => n' = nn ∧ Ty gT m' ∧ Fr (wRw 59 12) m m' ∧ ∀ j q, j < 12 → q < 10 → m' (59 + j) q = -1)) := by
  refine YC.mkB [some (.ref 58), none] kn76 rfl rfl ?_
  refine y_iconst 1 c76_0 rfl ?_
  refine y_istore 2 c76_1 rfl rfl ?_
  exact t76a_58 hT 12 0 m (by omega) (by omega) hT Fr.rf (fun j q hj hq => by simp at hj)
set_option maxRecDepth 100000 in
theorem t76a_72 {L : Nat} {xs : Nat → Int32} {d nn : Nat} {m : yM} (hT : Ty gT m) : ∀ (km : Nat) (i : Int) (mi : yM), 96 - i = km → 0 ≤ i ∧ i ≤ 96 → Ty gT mi → Fr (wRw 73 96) m mi → (∀ j q, j < i.toNat → q < 12 → mi (73 + j) q = -1) → YW (gZ L xs) 76 (d + 1) 2 [some (.ref 72), some (yI i)] [] mi nn (qU (fun m' n' => n' = nn ∧ Ty gT m' ∧ Fr (wRw 73 96) m m' ∧ ∀ j q, j < 96 → q < 12 → m' (73 + j) q = -1)) := by
  intro km
  induction km using Nat.strongRecOn with
  | ind km ih =>
    intro i mi hk hi hTi hFi hz
    refine y_iload 3 c76_2 rfl rfl ?_
    refine y_aload 4 c76_3 rfl rfl rfl ?_
    refine y_rlen 5 c76_4 rfl kr72 ?_
    refine y_icmp 21 8 c76_5 rfl rfl (yc_ge (by omega) (by omega)) (fun hb4315 => ?_) (fun hb4315 => ?_)
    · exact y_retU c76_21 ⟨rfl, hTi, hFi, fun j q hj hq => hz j q (by omega) hq⟩
    · refine y_aload 9 c76_8 rfl rfl rfl ?_
      refine y_iload 10 c76_9 rfl rfl ?_
      refine y_aaload 11 c76_10 rfl kr72 (by omega) ?_
      refine y_iconst 12 c76_11 rfl ?_
      refine y_callUB 15 [.ref (73 + i.toNat), yI ((-1))] [] c76_12 rfl rfl rfl rfl rfl (ycanS km75) (t75 hTi (fa73 (by omega)) (fun _ => fz73 (by omega)) (by decide) (by omega)) (fun mq4316 nq4316 hq4316 => ?_)
      obtain ⟨rfl, hTq4316, hFq4316, hq4316⟩ := hq4316
      have hF4317 := hFi.tr hFq4316 (wRo_wRw (by omega))
      refine y_iinc 18 c76_15 rfl rfl rfl ?_
      refine y_goto 2 c76_18 rfl ?_
      exact ih (96 - (i + 1) : Int).toNat (by omega) (i + 1)  _ (by omega) (by omega) hTq4316 hF4317 (fun j q hj hq => by
          by_cases e : j = i.toNat
          · subst e; exact hq4316 q hq
          · rw [hFq4316 _ _ (wRo_n (by omega))]; exact hz j q (by omega) hq)
set_option maxRecDepth 100000 in
theorem t76_72 {L : Nat} {xs : Nat → Int32} {d nn : Nat} {m : yM} (hT : Ty gT m) : YC (gZ L xs) (d + 1) 76 [.ref 72] m nn (qU (fun m' n' => n' = nn ∧ Ty gT m' ∧ Fr (wRw 73 96) m m' ∧ ∀ j q, j < 96 → q < 12 → m' (73 + j) q = -1)) := by
  refine YC.mkB [some (.ref 72), none] kn76 rfl rfl ?_
  refine y_iconst 1 c76_0 rfl ?_
  refine y_istore 2 c76_1 rfl rfl ?_
  exact t76a_72 hT 96 0 m (by omega) (by omega) hT Fr.rf (fun j q hj hq => by simp at hj)
set_option maxRecDepth 100000 in
theorem t77 {L : Nat} {xs : Nat → Int32} {d nn : Nat} {m : yM} (hT : Ty gT m) : YC (gZ L xs) (d + 2) 77 [.ref 8] m nn (qU (fun m' n' => n' = nn ∧ Ty gT m' ∧ Fr wFx m m' ∧ m' 8 6 = 0 ∧ ∀ j q, j < 12 → q < 10 → m' (59 + j) q = -1)) := by
  refine YC.mkB [some (.ref 8)] kn77 rfl rfl ?_
  have hF : Fr wFx m m := Fr.rf
  refine y_aload 1 c77_0 rfl rfl rfl ?_
  refine y_getR 4 c77_1 rfl kf8_0 ?_
  refine y_callUB 7 [.ref 9] [] c77_4 rfl rfl rfl rfl rfl (ycanS km76) (t76_9 hT) (fun mq4318 nq4318 hq4318 => ?_)
  obtain ⟨rfl, hTq4318, hFq4318, hq4318⟩ := hq4318
  have hF4319 := hF.tr hFq4318 (wRw_wFx (by decide))
  refine y_aload 8 c77_7 rfl rfl rfl ?_
  refine y_getR 11 c77_8 rfl kf8_1 ?_
  refine y_callUB 14 [.ref 58] [] c77_11 rfl rfl rfl rfl rfl (ycanS km76) (t76_58 hTq4318) (fun mq4320 nq4320 hq4320 => ?_)
  obtain ⟨rfl, hTq4320, hFq4320, hq4320⟩ := hq4320
  have hF4321 := hF4319.tr hFq4320 (wRw_wFx (by decide))
  refine y_aload 15 c77_14 rfl rfl rfl ?_
  refine y_getR 18 c77_15 rfl kf8_3 ?_
  refine y_callUB 21 [.ref 72] [] c77_18 rfl rfl rfl rfl rfl (ycanS km76) (t76_72 hTq4320) (fun mq4322 nq4322 hq4322 => ?_)
  obtain ⟨rfl, hTq4322, hFq4322, hq4322⟩ := hq4322
  have hF4323 := hF4321.tr hFq4322 (wRw_wFx (by decide))
  refine y_aload 22 c77_21 rfl rfl rfl ?_
  refine y_getR 25 c77_22 rfl kf8_2 ?_
  refine y_iconst 26 c77_25 rfl ?_
  refine y_callUB 29 [.ref 71, yI ((-1))] [] c77_26 rfl rfl rfl rfl rfl (ycanS km75) (t75 hTq4322 ka71 (fun _ => rfl) (by decide) (by omega)) (fun mq4324 nq4324 hq4324 => ?_)
  obtain ⟨rfl, hTq4324, hFq4324, hq4324⟩ := hq4324
  have hF4325 := hF4323.tr hFq4324 (wRo_wFx (by decide))
  refine y_aload 30 c77_29 rfl rfl rfl ?_
  refine y_iconst 31 c77_30 rfl ?_
  refine y_putI 34 c77_31 rfl kf8_6 (y_fit0 _) ?_
  have hT4326 := hTq4324.up 8 6 0 0 2001 rfl (by omega)
  have hF4327 := hF4325.up 8 6 0 rfl
  exact y_retU c77_34 ⟨rfl, hT4326, hF4327, rfl, fun j q hj hq => (yup_na (by omega)).trans ((hFq4324 _ _ (wRo_n (by omega))).trans ((hFq4322 _ _ (wRw_n (by omega))).trans (hq4320 j q hj hq)))⟩
end

/-! CONTRACTS: the model, classes. Printed by wip/whole/gen9b.py -/
set_option maxRecDepth 100000 in
theorem t126_0 {L : Nat} {xs : Nat → Int32} {d nn : Nat} {m : yM} (hT : Ty gT m) (hl : m 376 6 ≤ m 376 1) (hn : m 376 18 = 1) (h8 : m 376 8 < 0) (hC : XD 0 m) (hc1 : 1 ≤ m 383 0) (h3 : m 376 3 ≠ 0) : YC (gZ L xs) (d + 6) 126 [.ref 376] m nn (qU (fun m' n' => n' = nn ∧ Ty gT m' ∧ Fr wMh0 m m' ∧ m' 376 6 ≤ m' 376 1 ∧ (0 ≤ m' 376 8 ∨ (m' 376 8 < 0 ∧ mu m' < mu m ∧ m' 384 0 = m 384 0 + 1 ∧ XD 0 m')))) := by
  have tb8 := hT.atp 376 8 (-1) 320 rfl
  have hU := hC.2.2.2.1
  have tc383 := hT.atp 383 0 0 6 rfl
  have tc384 := hT.atp 384 0 0 10 rfl
  have tc385 := hT.atp 385 0 0 8 rfl
  have tc389 := hT.atp 389 0 0 48 rfl
  have tc390 := hT.atp 390 0 0 125 rfl
  refine YC.mkB [some (.ref 376), none, none, none, none, none, none] kn126 rfl rfl ?_
  have hF : Fr wMh0 m m := Fr.rf
  refine y_aload 1 c126_0 rfl rfl rfl ?_
  have tb11625 := hT.atp 376 18 0 1 rfl
  refine y_callP 4 [.ref 376] [] c126_1 rfl rfl rfl rfl rfl (ycanO km96 ko376) (t96_0 (by omega)) (fun r11624 hr11624 => ?_)
  subst hr11624
  refine y_istore 5 c126_4 rfl rfl ?_
  refine y_aload 6 c126_5 rfl rfl rfl ?_
  refine y_getR 9 c126_6 rfl kf376_20 ?_
  refine y_iload 10 c126_9 rfl rfl ?_
  refine y_iaX 11 (m 383 0) c126_10 rfl ka383 (by decide) rfl ?_
  refine y_iconst 12 c126_11 rfl ?_
  refine y_isub 13 c126_12 rfl ?_
  refine y_istore 14 c126_13 rfl rfl ?_
  refine y_aload 15 c126_14 rfl rfl rfl ?_
  have tb11627 := hT.atp 376 1 0 320 rfl
  have tb11628 := hT.atp 376 3 0 3 rfl
  have tb11629 := hT.atp 376 6 0 320 rfl
  have tb11630 := hT.atp 376 8 ((-1)) 320 rfl
  refine y_callUB 18 [.ref 376] [] c126_15 rfl rfl rfl rfl rfl (ycanO km99 ko376) (t99u hT (by omega)) (fun mq11626 nq11626 hq11626 => ?_)
  obtain ⟨rfl, hTq11626, hFq11626, hq11626⟩ := hq11626
  have x1q11626 : mq11626 376 1 = m 376 1 := (hFq11626 376 1 rfl)
  have hF11631 := hF.tr hFq11626 wNx_wMh0
  refine y_aload 19 c126_18 rfl rfl rfl ?_
  have tb11632 := hTq11626.atp 376 3 0 3 rfl
  refine y_callP 22 [.ref 376] [] c126_19 rfl rfl rfl rfl rfl (ycanO km115 ko376) (t115 hTq11626) (fun r11633 hr11633 => ?_)
  refine y_if 65 25 c126_22 rfl rfl (yz_eq (by omega)) (fun hb11634 => ?_) (fun hb11634 => ?_)
  · refine y_iconst 66 c126_65 rfl ?_
    refine y_istore 67 c126_66 rfl rfl ?_
    refine y_aload 68 c126_67 rfl rfl rfl ?_
    refine y_getX 71 (mq11626 376 4) c126_68 rfl kf376_4 rfl ?_
    have tb11635 := hTq11626.atp 376 4 ((-2147483648)) 2147483647 rfl
    refine y_istore 73 c126_71 rfl rfl ?_
    refine y_aload 74 c126_73 rfl rfl rfl ?_
    refine y_iload 75 c126_74 rfl rfl ?_
    have es11637 : mq11626 376 1 = m 376 1 := (hFq11626 376 1 rfl)
    have tb11638 := hTq11626.atp 376 6 0 320 rfl
    have es11639 : mq11626 376 8 = m 376 8 := (hFq11626 376 8 rfl)
    refine y_callIB 78 [.ref 376, yI 0] [] c126_75 rfl rfl rfl rfl rfl (ycanO km105 ko376) (t105 (g := 0) hTq11626 (by omega) (by omega)) (fun rq11636 mq11636 nq11636 hq11636 => ?_)
    obtain ⟨rfl, hTq11636, hFq11636, hq11636⟩ := hq11636
    have x1q11636 : mq11636 376 1 = m 376 1 := ((hFq11636 376 1 rfl).trans (hFq11626 376 1 rfl))
    have hF11640 := hF11631.tr hFq11636 wNw_wMh0
    refine y_if 82 81 c126_78 rfl rfl (yz_ne (by omega)) (fun hb11641 => ?_) (fun hb11641 => ?_)
    · exfalso; omega
    · have es11642 : mq11636 376 1 = m 376 1 := ((hFq11636 376 1 rfl).trans (hFq11626 376 1 rfl))
      have tb11643 := hTq11636.atp 376 3 0 3 rfl
      have tb11644 := hTq11636.atp 376 6 0 320 rfl
      have tb11645 := hTq11636.atp 376 8 ((-1)) 320 rfl
      have es11646 : mq11636 384 0 = m 384 0 := ((hFq11636 384 0 rfl).trans (hFq11626 384 0 rfl))
      have es11647 : mq11636 389 0 = m 389 0 := ((hFq11636 389 0 rfl).trans (hFq11626 389 0 rfl))
      have es11648 : mq11636 376 14 = m 376 14 := ((hFq11636 376 14 rfl).trans (hFq11626 376 14 rfl))
      have tb11649 := hT.atp 376 14 0 46 rfl
      exact y_retU c126_81 ⟨rfl, hTq11636, hF11640, by omega, Or.inl (by omega)⟩
  · refine y_aload 26 c126_25 rfl rfl rfl ?_
    refine y_getR 29 c126_26 rfl kf376_21 ?_
    refine y_iload 30 c126_29 rfl rfl ?_
    refine y_iaX 31 (m 384 0) c126_30 rfl ka384 (by decide) (hFq11626 384 0 rfl) ?_
    refine y_iconst 33 c126_31 rfl ?_
    refine y_icmp 65 36 c126_33 rfl rfl (yc_ge (by omega) (by omega)) (fun hb11650 => ?_) (fun hb11650 => ?_)
    · refine y_iconst 66 c126_65 rfl ?_
      refine y_istore 67 c126_66 rfl rfl ?_
      refine y_aload 68 c126_67 rfl rfl rfl ?_
      refine y_getX 71 (mq11626 376 4) c126_68 rfl kf376_4 rfl ?_
      have tb11651 := hTq11626.atp 376 4 ((-2147483648)) 2147483647 rfl
      refine y_istore 73 c126_71 rfl rfl ?_
      refine y_aload 74 c126_73 rfl rfl rfl ?_
      refine y_iload 75 c126_74 rfl rfl ?_
      have es11653 : mq11626 376 1 = m 376 1 := (hFq11626 376 1 rfl)
      have tb11654 := hTq11626.atp 376 6 0 320 rfl
      have es11655 : mq11626 376 8 = m 376 8 := (hFq11626 376 8 rfl)
      refine y_callIB 78 [.ref 376, yI 0] [] c126_75 rfl rfl rfl rfl rfl (ycanO km105 ko376) (t105 (g := 0) hTq11626 (by omega) (by omega)) (fun rq11652 mq11652 nq11652 hq11652 => ?_)
      obtain ⟨rfl, hTq11652, hFq11652, hq11652⟩ := hq11652
      have x1q11652 : mq11652 376 1 = m 376 1 := ((hFq11652 376 1 rfl).trans (hFq11626 376 1 rfl))
      have hF11656 := hF11631.tr hFq11652 wNw_wMh0
      refine y_if 82 81 c126_78 rfl rfl (yz_ne (by omega)) (fun hb11657 => ?_) (fun hb11657 => ?_)
      · exfalso; omega
      · have es11658 : mq11652 376 1 = m 376 1 := ((hFq11652 376 1 rfl).trans (hFq11626 376 1 rfl))
        have tb11659 := hTq11652.atp 376 3 0 3 rfl
        have tb11660 := hTq11652.atp 376 6 0 320 rfl
        have tb11661 := hTq11652.atp 376 8 ((-1)) 320 rfl
        have es11662 : mq11652 384 0 = m 384 0 := ((hFq11652 384 0 rfl).trans (hFq11626 384 0 rfl))
        have es11663 : mq11652 389 0 = m 389 0 := ((hFq11652 389 0 rfl).trans (hFq11626 389 0 rfl))
        have es11664 : mq11652 376 14 = m 376 14 := ((hFq11652 376 14 rfl).trans (hFq11626 376 14 rfl))
        have tb11665 := hT.atp 376 14 0 46 rfl
        exact y_retU c126_81 ⟨rfl, hTq11652, hF11656, by omega, Or.inl (by omega)⟩
    · refine y_aload 37 c126_36 rfl rfl rfl ?_
      refine y_getR 40 c126_37 rfl kf376_26 ?_
      refine y_iload 41 c126_40 rfl rfl ?_
      refine y_iaX 42 (m 389 0) c126_41 rfl ka389 (by decide) (hFq11626 389 0 rfl) ?_
      refine y_iconst 44 c126_42 rfl ?_
      refine y_icmp 65 47 c126_44 rfl rfl (yc_ge (by omega) (by omega)) (fun hb11666 => ?_) (fun hb11666 => ?_)
      · refine y_iconst 66 c126_65 rfl ?_
        refine y_istore 67 c126_66 rfl rfl ?_
        refine y_aload 68 c126_67 rfl rfl rfl ?_
        refine y_getX 71 (mq11626 376 4) c126_68 rfl kf376_4 rfl ?_
        have tb11667 := hTq11626.atp 376 4 ((-2147483648)) 2147483647 rfl
        refine y_istore 73 c126_71 rfl rfl ?_
        refine y_aload 74 c126_73 rfl rfl rfl ?_
        refine y_iload 75 c126_74 rfl rfl ?_
        have es11669 : mq11626 376 1 = m 376 1 := (hFq11626 376 1 rfl)
        have tb11670 := hTq11626.atp 376 6 0 320 rfl
        have es11671 : mq11626 376 8 = m 376 8 := (hFq11626 376 8 rfl)
        refine y_callIB 78 [.ref 376, yI 0] [] c126_75 rfl rfl rfl rfl rfl (ycanO km105 ko376) (t105 (g := 0) hTq11626 (by omega) (by omega)) (fun rq11668 mq11668 nq11668 hq11668 => ?_)
        obtain ⟨rfl, hTq11668, hFq11668, hq11668⟩ := hq11668
        have x1q11668 : mq11668 376 1 = m 376 1 := ((hFq11668 376 1 rfl).trans (hFq11626 376 1 rfl))
        have hF11672 := hF11631.tr hFq11668 wNw_wMh0
        refine y_if 82 81 c126_78 rfl rfl (yz_ne (by omega)) (fun hb11673 => ?_) (fun hb11673 => ?_)
        · exfalso; omega
        · have es11674 : mq11668 376 1 = m 376 1 := ((hFq11668 376 1 rfl).trans (hFq11626 376 1 rfl))
          have tb11675 := hTq11668.atp 376 3 0 3 rfl
          have tb11676 := hTq11668.atp 376 6 0 320 rfl
          have tb11677 := hTq11668.atp 376 8 ((-1)) 320 rfl
          have es11678 : mq11668 384 0 = m 384 0 := ((hFq11668 384 0 rfl).trans (hFq11626 384 0 rfl))
          have es11679 : mq11668 389 0 = m 389 0 := ((hFq11668 389 0 rfl).trans (hFq11626 389 0 rfl))
          have es11680 : mq11668 376 14 = m 376 14 := ((hFq11668 376 14 rfl).trans (hFq11626 376 14 rfl))
          have tb11681 := hT.atp 376 14 0 46 rfl
          exact y_retU c126_81 ⟨rfl, hTq11668, hF11672, by omega, Or.inl (by omega)⟩
      · refine y_aload 48 c126_47 rfl rfl rfl ?_
        refine y_iload 49 c126_48 rfl rfl ?_
        refine y_iload 50 c126_49 rfl rfl ?_
        refine y_aload 51 c126_50 rfl rfl rfl ?_
        refine y_getX 54 (mq11626 376 4) c126_51 rfl kf376_4 rfl ?_
        have tb11682 := hTq11626.atp 376 4 ((-2147483648)) 2147483647 rfl
        refine y_iconst 55 c126_54 rfl ?_
        have es11683 : mq11626 383 0 = m 383 0 := (hFq11626 383 0 rfl)
        have es11684 : mq11626 384 0 = m 384 0 := (hFq11626 384 0 rfl)
        refine y_callP 58 [.ref 376, yI 0, yI ((m 383 0) - 1), yI (mq11626 376 4), yI 1] [] c126_55 rfl rfl rfl rfl rfl (ycanO km123 ko376) (t123_0 hTq11626 (by rw [show mq11626 383 0 = m 383 0 from (hFq11626 383 0 rfl)]; exact hU.fr (fun q => (hFq11626 392 q rfl))) (by omega) (by omega) (by omega)) (fun r11685 hr11685 => ?_)
        refine y_if 65 61 c126_58 rfl rfl (yz_ge (by omega)) (fun hb11686 => ?_) (fun hb11686 => ?_)
        · refine y_iconst 66 c126_65 rfl ?_
          refine y_istore 67 c126_66 rfl rfl ?_
          refine y_aload 68 c126_67 rfl rfl rfl ?_
          refine y_getX 71 (mq11626 376 4) c126_68 rfl kf376_4 rfl ?_
          refine y_istore 73 c126_71 rfl rfl ?_
          refine y_aload 74 c126_73 rfl rfl rfl ?_
          refine y_iload 75 c126_74 rfl rfl ?_
          have es11688 : mq11626 376 1 = m 376 1 := (hFq11626 376 1 rfl)
          have tb11689 := hTq11626.atp 376 6 0 320 rfl
          have es11690 : mq11626 376 8 = m 376 8 := (hFq11626 376 8 rfl)
          refine y_callIB 78 [.ref 376, yI 0] [] c126_75 rfl rfl rfl rfl rfl (ycanO km105 ko376) (t105 (g := 0) hTq11626 (by omega) (by omega)) (fun rq11687 mq11687 nq11687 hq11687 => ?_)
          obtain ⟨rfl, hTq11687, hFq11687, hq11687⟩ := hq11687
          have x1q11687 : mq11687 376 1 = m 376 1 := ((hFq11687 376 1 rfl).trans (hFq11626 376 1 rfl))
          have hF11691 := hF11631.tr hFq11687 wNw_wMh0
          refine y_if 82 81 c126_78 rfl rfl (yz_ne (by omega)) (fun hb11692 => ?_) (fun hb11692 => ?_)
          · exfalso; omega
          · have es11693 : mq11687 376 1 = m 376 1 := ((hFq11687 376 1 rfl).trans (hFq11626 376 1 rfl))
            have tb11694 := hTq11687.atp 376 3 0 3 rfl
            have tb11695 := hTq11687.atp 376 6 0 320 rfl
            have tb11696 := hTq11687.atp 376 8 ((-1)) 320 rfl
            have es11697 : mq11687 384 0 = m 384 0 := ((hFq11687 384 0 rfl).trans (hFq11626 384 0 rfl))
            have es11698 : mq11687 389 0 = m 389 0 := ((hFq11687 389 0 rfl).trans (hFq11626 389 0 rfl))
            have es11699 : mq11687 376 14 = m 376 14 := ((hFq11687 376 14 rfl).trans (hFq11626 376 14 rfl))
            have tb11700 := hT.atp 376 14 0 46 rfl
            exact y_retU c126_81 ⟨rfl, hTq11687, hF11691, by omega, Or.inl (by omega)⟩
        · refine y_iconst 62 c126_61 rfl ?_
          refine y_goto 66 c126_62 rfl ?_
          refine y_istore 67 c126_66 rfl rfl ?_
          refine y_aload 68 c126_67 rfl rfl rfl ?_
          refine y_getX 71 (mq11626 376 4) c126_68 rfl kf376_4 rfl ?_
          refine y_istore 73 c126_71 rfl rfl ?_
          refine y_aload 74 c126_73 rfl rfl rfl ?_
          refine y_iload 75 c126_74 rfl rfl ?_
          have es11702 : mq11626 376 1 = m 376 1 := (hFq11626 376 1 rfl)
          have tb11703 := hTq11626.atp 376 6 0 320 rfl
          have es11704 : mq11626 376 8 = m 376 8 := (hFq11626 376 8 rfl)
          refine y_callIB 78 [.ref 376, yI 1] [] c126_75 rfl rfl rfl rfl rfl (ycanO km105 ko376) (t105 (g := 1) hTq11626 (by omega) (by omega)) (fun rq11701 mq11701 nq11701 hq11701 => ?_)
          obtain ⟨rfl, hTq11701, hFq11701, hq11701⟩ := hq11701
          have x1q11701 : mq11701 376 1 = m 376 1 := ((hFq11701 376 1 rfl).trans (hFq11626 376 1 rfl))
          have hF11705 := hF11631.tr hFq11701 wNw_wMh0
          refine y_if 82 81 c126_78 rfl rfl (yz_ne (by omega)) (fun hb11706 => ?_) (fun hb11706 => ?_)
          · refine y_iconst 84 c126_82 rfl ?_
            refine y_iload 85 c126_84 rfl rfl ?_
            refine y_imul 86 c126_85 rfl ?_
            refine y_top 0 (by decide) ?_
            refine y_aload 87 c126_86 rfl rfl rfl ?_
            refine y_getR 90 c126_87 rfl kf376_21 ?_
            refine y_iload 91 c126_90 rfl rfl ?_
            refine y_iaX 92 (m 384 0) c126_91 rfl ka384 (by decide) ((hFq11701 384 0 rfl).trans (hFq11626 384 0 rfl)) ?_
            refine y_iadd 93 c126_92 rfl ?_
            refine y_istore 95 c126_93 rfl rfl ?_
            refine y_aload 96 c126_95 rfl rfl rfl ?_
            refine y_getR 99 c126_96 rfl kf376_32 ?_
            refine y_iload 101 c126_99 rfl rfl ?_
            refine y_iload 103 c126_101 rfl rfl ?_
            refine y_iastore 104 c126_103 rfl ka395 (by omega) (y_nar0 _) ?_
            have hT11707 := hTq11701.up 395 ((0 + (m 384 0)).toNat) (mq11626 376 4) ((-2147483648)) 2147483647 rfl (by omega)
            have hF11708 := hF11705.up 395 ((0 + (m 384 0)).toNat) (mq11626 376 4) (wMh0_395 (by omega))
            refine y_aload 105 c126_104 rfl rfl rfl ?_
            refine y_getR 108 c126_105 rfl kf376_33 ?_
            refine y_iload 110 c126_108 rfl rfl ?_
            refine y_iload 111 c126_110 rfl rfl ?_
            refine y_iastore 112 c126_111 rfl ka396 (by omega) (y_nar0 _) ?_
            have hT11709 := hT11707.up 396 ((0 + (m 384 0)).toNat) ((m 383 0) - 1) 0 5 rfl (by omega)
            have hF11710 := hF11708.up 396 ((0 + (m 384 0)).toNat) ((m 383 0) - 1) (wMh0_396 (by omega))
            refine y_aload 113 c126_112 rfl rfl rfl ?_
            refine y_getR 116 c126_113 rfl kf376_34 ?_
            refine y_iload 118 c126_116 rfl rfl ?_
            refine y_iconst 119 c126_118 rfl ?_
            refine y_iastore 120 c126_119 rfl ka397 (by omega) (y_nar0 _) ?_
            have hT11711 := hT11709.up 397 ((0 + (m 384 0)).toNat) 0 0 2 rfl (by omega)
            have hF11712 := hF11710.up 397 ((0 + (m 384 0)).toNat) 0 (wMh0_397 (by omega))
            refine y_aload 121 c126_120 rfl rfl rfl ?_
            refine y_getR 124 c126_121 rfl kf376_36 ?_
            refine y_iload 126 c126_124 rfl rfl ?_
            refine y_aload 127 c126_126 rfl rfl rfl ?_
            refine y_getR 130 c126_127 rfl kf376_27 ?_
            refine y_iload 131 c126_130 rfl rfl ?_
            refine y_iaX 132 (m 390 0) c126_131 rfl ka390 (by decide) ((yup_na (by decide)).trans ((yup_na (by decide)).trans ((yup_na (by decide)).trans ((hFq11701 390 0 rfl).trans (hFq11626 390 0 rfl))))) ?_
            refine y_iastore 133 c126_132 rfl ka399 (by omega) (y_nar0 _) ?_
            have hT11713 := hT11711.up 399 ((0 + (m 384 0)).toNat) (m 390 0) 0 125 rfl (by omega)
            have hF11714 := hF11712.up 399 ((0 + (m 384 0)).toNat) (m 390 0) (wMh0_399 (by omega))
            refine y_aload 134 c126_133 rfl rfl rfl ?_
            refine y_aload 135 c126_134 rfl rfl rfl ?_
            refine y_iconst 136 c126_135 rfl ?_
            have es11716 : (yup (yup (yup (yup mq11701 395 ((0 + (m 384 0)).toNat) (mq11626 376 4)) 396 ((0 + (m 384 0)).toNat) ((m 383 0) - 1)) 397 ((0 + (m 384 0)).toNat) 0) 399 ((0 + (m 384 0)).toNat) (m 390 0)) 376 1 = m 376 1 := ((yup_na (by decide)).trans ((yup_na (by decide)).trans ((yup_na (by decide)).trans ((yup_na (by decide)).trans ((hFq11701 376 1 rfl).trans (hFq11626 376 1 rfl))))))
            have es11717 : (yup (yup (yup (yup mq11701 395 ((0 + (m 384 0)).toNat) (mq11626 376 4)) 396 ((0 + (m 384 0)).toNat) ((m 383 0) - 1)) 397 ((0 + (m 384 0)).toNat) 0) 399 ((0 + (m 384 0)).toNat) (m 390 0)) 376 3 = mq11701 376 3 := rfl
            have tb11718 := hTq11701.atp 376 3 0 3 rfl
            have es11719 : (yup (yup (yup (yup mq11701 395 ((0 + (m 384 0)).toNat) (mq11626 376 4)) 396 ((0 + (m 384 0)).toNat) ((m 383 0) - 1)) 397 ((0 + (m 384 0)).toNat) 0) 399 ((0 + (m 384 0)).toNat) (m 390 0)) 376 6 = mq11701 376 6 := rfl
            have tb11720 := hTq11701.atp 376 6 0 320 rfl
            have es11721 : (yup (yup (yup (yup mq11701 395 ((0 + (m 384 0)).toNat) (mq11626 376 4)) 396 ((0 + (m 384 0)).toNat) ((m 383 0) - 1)) 397 ((0 + (m 384 0)).toNat) 0) 399 ((0 + (m 384 0)).toNat) (m 390 0)) 376 8 = mq11701 376 8 := rfl
            have tb11722 := hTq11701.atp 376 8 ((-1)) 320 rfl
            have es11723 : (yup (yup (yup (yup mq11701 395 ((0 + (m 384 0)).toNat) (mq11626 376 4)) 396 ((0 + (m 384 0)).toNat) ((m 383 0) - 1)) 397 ((0 + (m 384 0)).toNat) 0) 399 ((0 + (m 384 0)).toNat) (m 390 0)) 376 18 = m 376 18 := ((yup_na (by decide)).trans ((yup_na (by decide)).trans ((yup_na (by decide)).trans ((yup_na (by decide)).trans ((hFq11701 376 18 rfl).trans (hFq11626 376 18 rfl))))))
            have es11724 : (yup (yup (yup (yup mq11701 395 ((0 + (m 384 0)).toNat) (mq11626 376 4)) 396 ((0 + (m 384 0)).toNat) ((m 383 0) - 1)) 397 ((0 + (m 384 0)).toNat) 0) 399 ((0 + (m 384 0)).toNat) (m 390 0)) 389 0 = m 389 0 := ((yup_na (by decide)).trans ((yup_na (by decide)).trans ((yup_na (by decide)).trans ((yup_na (by decide)).trans ((hFq11701 389 0 rfl).trans (hFq11626 389 0 rfl))))))
            have em11725 : mu (yup (yup (yup (yup mq11701 395 ((0 + (m 384 0)).toNat) (mq11626 376 4)) 396 ((0 + (m 384 0)).toNat) ((m 383 0) - 1)) 397 ((0 + (m 384 0)).toNat) 0) 399 ((0 + (m 384 0)).toNat) (m 390 0)) = mu mq11701 := mu_fr ((yup_na (by decide)).trans ((yup_na (by decide)).trans ((yup_na (by decide)).trans (yup_na (by decide))))) ((yup_na (by decide)).trans ((yup_na (by decide)).trans ((yup_na (by decide)).trans (yup_na (by decide))))) ((yup_na (by decide)).trans ((yup_na (by decide)).trans ((yup_na (by decide)).trans (yup_na (by decide)))))
            refine y_callIB 139 [.ref 376, yI ((-1))] [.ref 376] c126_136 rfl rfl rfl rfl rfl (ycanO km124 ko376) (t124_0 hT11713 (by omega) (by omega) (by omega)) (fun rq11715 mq11715 nq11715 hq11715 => ?_)
            obtain ⟨rfl, hTq11715, hFq11715, hq11715⟩ := hq11715
            have x1q11715 : mq11715 376 1 = m 376 1 := ((hFq11715 376 1 rfl).trans ((yup_na (by decide)).trans ((yup_na (by decide)).trans ((yup_na (by decide)).trans ((yup_na (by decide)).trans ((hFq11701 376 1 rfl).trans (hFq11626 376 1 rfl)))))))
            have hF11726 := hF11714.tr hFq11715 wVp0_wMh0
            refine y_putI 142 c126_139 rfl kf376_14 (y_fit0 _) ?_
            have hT11727 := hTq11715.up 376 14 rq11715 0 46 rfl (by omega)
            have hF11728 := hF11726.up 376 14 rq11715 rfl
            refine y_aload 143 c126_142 rfl rfl rfl ?_
            refine y_getR 146 c126_143 rfl kf376_35 ?_
            refine y_iload 148 c126_146 rfl rfl ?_
            refine y_aload 149 c126_148 rfl rfl rfl ?_
            refine y_getX 152 rq11715 c126_149 rfl kf376_14 rfl ?_
            refine y_iastore 153 c126_152 rfl ka398 (by omega) (y_nar0 _) ?_
            have hT11729 := hT11727.up 398 ((0 + (m 384 0)).toNat) rq11715 0 46 rfl (by omega)
            have hF11730 := hF11728.up 398 ((0 + (m 384 0)).toNat) rq11715 (wMh0_398 (by omega))
            refine y_aload 154 c126_153 rfl rfl rfl ?_
            refine y_iconst 155 c126_154 rfl ?_
            have es11732 : (yup (yup mq11715 376 14 rq11715) 398 ((0 + (m 384 0)).toNat) rq11715) 376 1 = m 376 1 := ((yup_na (by decide)).trans ((yup_nk (by decide)).trans ((hFq11715 376 1 rfl).trans ((yup_na (by decide)).trans ((yup_na (by decide)).trans ((yup_na (by decide)).trans ((yup_na (by decide)).trans ((hFq11701 376 1 rfl).trans (hFq11626 376 1 rfl)))))))))
            have es11733 : (yup (yup mq11715 376 14 rq11715) 398 ((0 + (m 384 0)).toNat) rq11715) 376 3 = mq11701 376 3 := ((yup_na (by decide)).trans ((yup_nk (by decide)).trans ((hFq11715 376 3 rfl).trans ((yup_na (by decide)).trans ((yup_na (by decide)).trans ((yup_na (by decide)).trans (yup_na (by decide))))))))
            have es11734 : (yup (yup mq11715 376 14 rq11715) 398 ((0 + (m 384 0)).toNat) rq11715) 376 6 = mq11701 376 6 := ((yup_na (by decide)).trans ((yup_nk (by decide)).trans ((hFq11715 376 6 rfl).trans ((yup_na (by decide)).trans ((yup_na (by decide)).trans ((yup_na (by decide)).trans (yup_na (by decide))))))))
            have es11735 : (yup (yup mq11715 376 14 rq11715) 398 ((0 + (m 384 0)).toNat) rq11715) 376 8 = mq11701 376 8 := ((yup_na (by decide)).trans ((yup_nk (by decide)).trans ((hFq11715 376 8 rfl).trans ((yup_na (by decide)).trans ((yup_na (by decide)).trans ((yup_na (by decide)).trans (yup_na (by decide))))))))
            have es11736 : (yup (yup mq11715 376 14 rq11715) 398 ((0 + (m 384 0)).toNat) rq11715) 376 18 = m 376 18 := ((yup_na (by decide)).trans ((yup_nk (by decide)).trans ((hFq11715 376 18 rfl).trans ((yup_na (by decide)).trans ((yup_na (by decide)).trans ((yup_na (by decide)).trans ((yup_na (by decide)).trans ((hFq11701 376 18 rfl).trans (hFq11626 376 18 rfl)))))))))
            have es11737 : (yup (yup mq11715 376 14 rq11715) 398 ((0 + (m 384 0)).toNat) rq11715) 389 0 = mq11715 389 0 := rfl
            have tb11738 := hTq11715.atp 389 0 0 48 rfl
            have em11739 : mu (yup (yup mq11715 376 14 rq11715) 398 ((0 + (m 384 0)).toNat) rq11715) = mu mq11701 := mu_fr ((yup_na (by decide)).trans ((yup_nk (by decide)).trans ((hFq11715 376 1 rfl).trans ((yup_na (by decide)).trans ((yup_na (by decide)).trans ((yup_na (by decide)).trans (yup_na (by decide)))))))) ((yup_na (by decide)).trans ((yup_nk (by decide)).trans ((hFq11715 376 3 rfl).trans ((yup_na (by decide)).trans ((yup_na (by decide)).trans ((yup_na (by decide)).trans (yup_na (by decide)))))))) ((yup_na (by decide)).trans ((yup_nk (by decide)).trans ((hFq11715 376 6 rfl).trans ((yup_na (by decide)).trans ((yup_na (by decide)).trans ((yup_na (by decide)).trans (yup_na (by decide))))))))
            refine y_callIB 158 [.ref 376, yI ((-1))] [] c126_155 rfl rfl rfl rfl rfl (ycanO km124 ko376) (t124_0 hT11729 (by omega) (by omega) (by omega)) (fun rq11731 mq11731 nq11731 hq11731 => ?_)
            obtain ⟨rfl, hTq11731, hFq11731, hq11731⟩ := hq11731
            have x1q11731 : mq11731 376 1 = m 376 1 := ((hFq11731 376 1 rfl).trans ((yup_na (by decide)).trans ((yup_nk (by decide)).trans ((hFq11715 376 1 rfl).trans ((yup_na (by decide)).trans ((yup_na (by decide)).trans ((yup_na (by decide)).trans ((yup_na (by decide)).trans ((hFq11701 376 1 rfl).trans (hFq11626 376 1 rfl))))))))))
            have hF11740 := hF11730.tr hFq11731 wVp0_wMh0
            refine y_istore 160 c126_158 rfl rfl ?_
            refine y_aload 161 c126_160 rfl rfl rfl ?_
            refine y_getR 164 c126_161 rfl kf376_21 ?_
            refine y_iload 165 c126_164 rfl rfl ?_
            refine y_dup2 166 c126_165 rfl ⟨rfl, rfl⟩ ?_
            refine y_iaX 167 (m 384 0) c126_166 rfl ka384 (by decide) ((hFq11731 384 0 rfl).trans ((yup_na (by decide)).trans ((yup_na (by decide)).trans ((hFq11715 384 0 rfl).trans ((yup_na (by decide)).trans ((yup_na (by decide)).trans ((yup_na (by decide)).trans ((yup_na (by decide)).trans ((hFq11701 384 0 rfl).trans (hFq11626 384 0 rfl)))))))))) ?_
            refine y_iconst 168 c126_167 rfl ?_
            refine y_iadd 169 c126_168 rfl ?_
            refine y_iastore 170 c126_169 rfl ka384 (by omega) (y_nar0 _) ?_
            have hT11741 := hTq11731.up 384 ((0 : Int).toNat) ((m 384 0) + 1) 0 10 rfl (by omega)
            have hF11742 := hF11740.up 384 ((0 : Int).toNat) ((m 384 0) + 1) rfl
            refine y_aload 171 c126_170 rfl rfl rfl ?_
            refine y_iconst 173 c126_171 rfl ?_
            have es11744 : (yup mq11731 384 ((0 : Int).toNat) ((m 384 0) + 1)) 376 1 = m 376 1 := ((yup_na (by decide)).trans ((hFq11731 376 1 rfl).trans ((yup_na (by decide)).trans ((yup_nk (by decide)).trans ((hFq11715 376 1 rfl).trans ((yup_na (by decide)).trans ((yup_na (by decide)).trans ((yup_na (by decide)).trans ((yup_na (by decide)).trans ((hFq11701 376 1 rfl).trans (hFq11626 376 1 rfl)))))))))))
            have es11745 : (yup mq11731 384 ((0 : Int).toNat) ((m 384 0) + 1)) 376 3 = mq11701 376 3 := ((yup_na (by decide)).trans ((hFq11731 376 3 rfl).trans ((yup_na (by decide)).trans ((yup_nk (by decide)).trans ((hFq11715 376 3 rfl).trans ((yup_na (by decide)).trans ((yup_na (by decide)).trans ((yup_na (by decide)).trans (yup_na (by decide))))))))))
            have es11746 : (yup mq11731 384 ((0 : Int).toNat) ((m 384 0) + 1)) 376 6 = mq11701 376 6 := ((yup_na (by decide)).trans ((hFq11731 376 6 rfl).trans ((yup_na (by decide)).trans ((yup_nk (by decide)).trans ((hFq11715 376 6 rfl).trans ((yup_na (by decide)).trans ((yup_na (by decide)).trans ((yup_na (by decide)).trans (yup_na (by decide))))))))))
            have es11747 : (yup mq11731 384 ((0 : Int).toNat) ((m 384 0) + 1)) 376 8 = mq11701 376 8 := ((yup_na (by decide)).trans ((hFq11731 376 8 rfl).trans ((yup_na (by decide)).trans ((yup_nk (by decide)).trans ((hFq11715 376 8 rfl).trans ((yup_na (by decide)).trans ((yup_na (by decide)).trans ((yup_na (by decide)).trans (yup_na (by decide))))))))))
            have em11748 : mu (yup mq11731 384 ((0 : Int).toNat) ((m 384 0) + 1)) = mu mq11701 := mu_fr ((yup_na (by decide)).trans ((hFq11731 376 1 rfl).trans ((yup_na (by decide)).trans ((yup_nk (by decide)).trans ((hFq11715 376 1 rfl).trans ((yup_na (by decide)).trans ((yup_na (by decide)).trans ((yup_na (by decide)).trans (yup_na (by decide)))))))))) ((yup_na (by decide)).trans ((hFq11731 376 3 rfl).trans ((yup_na (by decide)).trans ((yup_nk (by decide)).trans ((hFq11715 376 3 rfl).trans ((yup_na (by decide)).trans ((yup_na (by decide)).trans ((yup_na (by decide)).trans (yup_na (by decide)))))))))) ((yup_na (by decide)).trans ((hFq11731 376 6 rfl).trans ((yup_na (by decide)).trans ((yup_nk (by decide)).trans ((hFq11715 376 6 rfl).trans ((yup_na (by decide)).trans ((yup_na (by decide)).trans ((yup_na (by decide)).trans (yup_na (by decide))))))))))
            refine y_callIB 176 [.ref 376, yI 40] [] c126_173 rfl rfl rfl rfl rfl (ycanO km118 ko376) (t118 hT11741 (by omega) (by omega)) (fun rq11743 mq11743 nq11743 hq11743 => ?_)
            obtain ⟨rfl, hTq11743, hFq11743, hq11743⟩ := hq11743
            have x1q11743 : mq11743 376 1 = m 376 1 := ((hFq11743 376 1 rfl).trans ((yup_na (by decide)).trans ((hFq11731 376 1 rfl).trans ((yup_na (by decide)).trans ((yup_nk (by decide)).trans ((hFq11715 376 1 rfl).trans ((yup_na (by decide)).trans ((yup_na (by decide)).trans ((yup_na (by decide)).trans ((yup_na (by decide)).trans ((hFq11701 376 1 rfl).trans (hFq11626 376 1 rfl))))))))))))
            have hF11749 := hF11742.tr hFq11743 wNw_wMh0
            refine y_if 180 179 c126_176 rfl rfl (yz_ne (by omega)) (fun hb11750 => ?_) (fun hb11750 => ?_)
            · refine y_aload 181 c126_180 rfl rfl rfl ?_
              have tb11751 := hTq11743.atp 376 3 0 3 rfl
              refine y_callP 184 [.ref 376] [] c126_181 rfl rfl rfl rfl rfl (ycanO km115 ko376) (t115 hTq11743) (fun r11752 hr11752 => ?_)
              refine y_if 193 187 c126_184 rfl rfl (yz_eq (by omega)) (fun hb11753 => ?_) (fun hb11753 => ?_)
              · refine y_aload 194 c126_193 rfl rfl rfl ?_
                refine y_getX 197 (mq11743 376 8) c126_194 rfl kf376_8 rfl ?_
                have tb11754 := hTq11743.atp 376 8 ((-1)) 320 rfl
                refine y_if 209 200 c126_197 rfl rfl (yz_ge (by omega)) (fun hb11755 => ?_) (fun hb11755 => ?_)
                · have es11756 : mq11743 376 1 = m 376 1 := ((hFq11743 376 1 rfl).trans ((yup_na (by decide)).trans ((hFq11731 376 1 rfl).trans ((yup_na (by decide)).trans ((yup_nk (by decide)).trans ((hFq11715 376 1 rfl).trans ((yup_na (by decide)).trans ((yup_na (by decide)).trans ((yup_na (by decide)).trans ((yup_na (by decide)).trans ((hFq11701 376 1 rfl).trans (hFq11626 376 1 rfl))))))))))))
                  have tb11757 := hTq11743.atp 376 6 0 320 rfl
                  have es11758 : mq11743 384 0 = (m 384 0) + 1 := ((hFq11743 384 0 rfl).trans (yup_eq _ _ _ _))
                  have es11759 : mq11743 389 0 = mq11731 389 0 := ((hFq11743 389 0 rfl).trans (yup_na (by decide)))
                  have tb11760 := hTq11731.atp 389 0 0 48 rfl
                  have es11761 : mq11743 376 14 = rq11715 := ((hFq11743 376 14 rfl).trans ((yup_na (by decide)).trans ((hFq11731 376 14 rfl).trans ((yup_na (by decide)).trans (yup_eq _ _ _ _)))))
                  exact y_retU c126_209 ⟨rfl, hTq11743, hF11749, by omega, Or.inl (by omega)⟩
                · refine y_aload 201 c126_200 rfl rfl rfl ?_
                  refine y_iconst 203 c126_201 rfl ?_
                  have es11763 : mq11743 376 1 = m 376 1 := ((hFq11743 376 1 rfl).trans ((yup_na (by decide)).trans ((hFq11731 376 1 rfl).trans ((yup_na (by decide)).trans ((yup_nk (by decide)).trans ((hFq11715 376 1 rfl).trans ((yup_na (by decide)).trans ((yup_na (by decide)).trans ((yup_na (by decide)).trans ((yup_na (by decide)).trans ((hFq11701 376 1 rfl).trans (hFq11626 376 1 rfl))))))))))))
                  have tb11764 := hTq11743.atp 376 6 0 320 rfl
                  refine y_callIB 206 [.ref 376, yI 41] [] c126_203 rfl rfl rfl rfl rfl (ycanO km118 ko376) (t118 hTq11743 (by omega) (by omega)) (fun rq11762 mq11762 nq11762 hq11762 => ?_)
                  obtain ⟨rfl, hTq11762, hFq11762, hq11762⟩ := hq11762
                  have x1q11762 : mq11762 376 1 = m 376 1 := ((hFq11762 376 1 rfl).trans ((hFq11743 376 1 rfl).trans ((yup_na (by decide)).trans ((hFq11731 376 1 rfl).trans ((yup_na (by decide)).trans ((yup_nk (by decide)).trans ((hFq11715 376 1 rfl).trans ((yup_na (by decide)).trans ((yup_na (by decide)).trans ((yup_na (by decide)).trans ((yup_na (by decide)).trans ((hFq11701 376 1 rfl).trans (hFq11626 376 1 rfl)))))))))))))
                  have hF11765 := hF11749.tr hFq11762 wNw_wMh0
                  refine y_if 210 209 c126_206 rfl rfl (yz_ne (by omega)) (fun hb11766 => ?_) (fun hb11766 => ?_)
                  · refine y_aload 211 c126_210 rfl rfl rfl ?_
                    refine y_iconst 213 c126_211 rfl ?_
                    have es11768 : mq11762 376 1 = m 376 1 := ((hFq11762 376 1 rfl).trans ((hFq11743 376 1 rfl).trans ((yup_na (by decide)).trans ((hFq11731 376 1 rfl).trans ((yup_na (by decide)).trans ((yup_nk (by decide)).trans ((hFq11715 376 1 rfl).trans ((yup_na (by decide)).trans ((yup_na (by decide)).trans ((yup_na (by decide)).trans ((yup_na (by decide)).trans ((hFq11701 376 1 rfl).trans (hFq11626 376 1 rfl)))))))))))))
                    have tb11769 := hTq11762.atp 376 3 0 3 rfl
                    have tb11770 := hTq11762.atp 376 6 0 320 rfl
                    have tb11771 := hTq11762.atp 376 8 ((-1)) 320 rfl
                    refine y_callIB 216 [.ref 376, yI 123] [] c126_213 rfl rfl rfl rfl rfl (ycanO km118 ko376) (t118 hTq11762 (by omega) (by omega)) (fun rq11767 mq11767 nq11767 hq11767 => ?_)
                    obtain ⟨rfl, hTq11767, hFq11767, hq11767⟩ := hq11767
                    have x1q11767 : mq11767 376 1 = m 376 1 := ((hFq11767 376 1 rfl).trans ((hFq11762 376 1 rfl).trans ((hFq11743 376 1 rfl).trans ((yup_na (by decide)).trans ((hFq11731 376 1 rfl).trans ((yup_na (by decide)).trans ((yup_nk (by decide)).trans ((hFq11715 376 1 rfl).trans ((yup_na (by decide)).trans ((yup_na (by decide)).trans ((yup_na (by decide)).trans ((yup_na (by decide)).trans ((hFq11701 376 1 rfl).trans (hFq11626 376 1 rfl))))))))))))))
                    have hF11772 := hF11765.tr hFq11767 wNw_wMh0
                    refine y_if 220 219 c126_216 rfl rfl (yz_ne (by omega)) (fun hb11773 => ?_) (fun hb11773 => ?_)
                    · have es11774 : mq11767 376 1 = m 376 1 := ((hFq11767 376 1 rfl).trans ((hFq11762 376 1 rfl).trans ((hFq11743 376 1 rfl).trans ((yup_na (by decide)).trans ((hFq11731 376 1 rfl).trans ((yup_na (by decide)).trans ((yup_nk (by decide)).trans ((hFq11715 376 1 rfl).trans ((yup_na (by decide)).trans ((yup_na (by decide)).trans ((yup_na (by decide)).trans ((yup_na (by decide)).trans ((hFq11701 376 1 rfl).trans (hFq11626 376 1 rfl))))))))))))))
                      have tb11775 := hTq11767.atp 376 3 0 3 rfl
                      have tb11776 := hTq11767.atp 376 6 0 320 rfl
                      have tb11777 := hTq11767.atp 376 8 ((-1)) 320 rfl
                      have es11778 : mq11767 384 0 = (m 384 0) + 1 := ((hFq11767 384 0 rfl).trans ((hFq11762 384 0 rfl).trans ((hFq11743 384 0 rfl).trans (yup_eq _ _ _ _))))
                      have es11779 : mq11767 389 0 = mq11731 389 0 := ((hFq11767 389 0 rfl).trans ((hFq11762 389 0 rfl).trans ((hFq11743 389 0 rfl).trans (yup_na (by decide)))))
                      have tb11780 := hTq11731.atp 389 0 0 48 rfl
                      have es11781 : mq11767 376 14 = rq11715 := ((hFq11767 376 14 rfl).trans ((hFq11762 376 14 rfl).trans ((hFq11743 376 14 rfl).trans ((yup_na (by decide)).trans ((hFq11731 376 14 rfl).trans ((yup_na (by decide)).trans (yup_eq _ _ _ _)))))))
                      have a397 : mq11767 397 (10 * 0 + (m 384 0).toNat) = 0 := by rw [show 10 * 0 + (m 384 0).toNat = (0 + (m 384 0)).toNat by omega]; exact ((hFq11767 397 _ rfl).trans ((hFq11762 397 _ rfl).trans ((hFq11743 397 _ rfl).trans ((yup_na (by decide)).trans ((hFq11731 397 _ rfl).trans ((yup_na (by decide)).trans ((yup_na (by decide)).trans ((hFq11715 397 _ rfl).trans ((yup_na (by decide)).trans (yup_eq _ _ _ _))))))))))
                      have a398 : mq11767 398 (10 * 0 + (m 384 0).toNat) = rq11715 := by rw [show 10 * 0 + (m 384 0).toNat = (0 + (m 384 0)).toNat by omega]; exact ((hFq11767 398 _ rfl).trans ((hFq11762 398 _ rfl).trans ((hFq11743 398 _ rfl).trans ((yup_na (by decide)).trans ((hFq11731 398 _ rfl).trans (yup_eq _ _ _ _))))))
                      have a399 : mq11767 399 (10 * 0 + (m 384 0).toNat) = m 390 0 := by rw [show 10 * 0 + (m 384 0).toNat = (0 + (m 384 0)).toNat by omega]; exact ((hFq11767 399 _ rfl).trans ((hFq11762 399 _ rfl).trans ((hFq11743 399 _ rfl).trans ((yup_na (by decide)).trans ((hFq11731 399 _ rfl).trans ((yup_na (by decide)).trans ((yup_na (by decide)).trans ((hFq11715 399 _ rfl).trans (yup_eq _ _ _ _)))))))))
                      have hx : XD 0 mq11767 := XD.meth hC (by omega) (fun a q ha h1 h2 h3 h4 => hF11772 a q (wMh0_C a q ha h1 h2 h3 h4)) (by omega) (fun k hk => ⟨((hFq11767 397 _ rfl).trans ((hFq11762 397 _ rfl).trans ((hFq11743 397 _ rfl).trans ((yup_na (by decide)).trans ((hFq11731 397 _ rfl).trans ((yup_na (by decide)).trans ((yup_na (by decide)).trans ((hFq11715 397 _ rfl).trans ((yup_na (by decide)).trans ((yup_nk (by omega)).trans ((yup_na (by decide)).trans ((yup_na (by decide)).trans ((hFq11701 397 _ rfl).trans (hFq11626 397 _ rfl)))))))))))))), ((hFq11767 398 _ rfl).trans ((hFq11762 398 _ rfl).trans ((hFq11743 398 _ rfl).trans ((yup_na (by decide)).trans ((hFq11731 398 _ rfl).trans ((yup_nk (by omega)).trans ((yup_na (by decide)).trans ((hFq11715 398 _ rfl).trans ((yup_na (by decide)).trans ((yup_na (by decide)).trans ((yup_na (by decide)).trans ((yup_na (by decide)).trans ((hFq11701 398 _ rfl).trans (hFq11626 398 _ rfl)))))))))))))), ((hFq11767 399 _ rfl).trans ((hFq11762 399 _ rfl).trans ((hFq11743 399 _ rfl).trans ((yup_na (by decide)).trans ((hFq11731 399 _ rfl).trans ((yup_na (by decide)).trans ((yup_na (by decide)).trans ((hFq11715 399 _ rfl).trans ((yup_nk (by omega)).trans ((yup_na (by decide)).trans ((yup_na (by decide)).trans ((yup_na (by decide)).trans ((hFq11701 399 _ rfl).trans (hFq11626 399 _ rfl))))))))))))))⟩) (by omega)
                      exact y_retU c126_220 ⟨rfl, hTq11767, hF11772, by omega, Or.inr ⟨by omega, by omega, by omega, hx⟩⟩
                    · have es11782 : mq11767 376 1 = m 376 1 := ((hFq11767 376 1 rfl).trans ((hFq11762 376 1 rfl).trans ((hFq11743 376 1 rfl).trans ((yup_na (by decide)).trans ((hFq11731 376 1 rfl).trans ((yup_na (by decide)).trans ((yup_nk (by decide)).trans ((hFq11715 376 1 rfl).trans ((yup_na (by decide)).trans ((yup_na (by decide)).trans ((yup_na (by decide)).trans ((yup_na (by decide)).trans ((hFq11701 376 1 rfl).trans (hFq11626 376 1 rfl))))))))))))))
                      have tb11783 := hTq11767.atp 376 3 0 3 rfl
                      have tb11784 := hTq11767.atp 376 6 0 320 rfl
                      have tb11785 := hTq11767.atp 376 8 ((-1)) 320 rfl
                      have es11786 : mq11767 384 0 = (m 384 0) + 1 := ((hFq11767 384 0 rfl).trans ((hFq11762 384 0 rfl).trans ((hFq11743 384 0 rfl).trans (yup_eq _ _ _ _))))
                      have es11787 : mq11767 389 0 = mq11731 389 0 := ((hFq11767 389 0 rfl).trans ((hFq11762 389 0 rfl).trans ((hFq11743 389 0 rfl).trans (yup_na (by decide)))))
                      have tb11788 := hTq11731.atp 389 0 0 48 rfl
                      have es11789 : mq11767 376 14 = rq11715 := ((hFq11767 376 14 rfl).trans ((hFq11762 376 14 rfl).trans ((hFq11743 376 14 rfl).trans ((yup_na (by decide)).trans ((hFq11731 376 14 rfl).trans ((yup_na (by decide)).trans (yup_eq _ _ _ _)))))))
                      exact y_retU c126_219 ⟨rfl, hTq11767, hF11772, by omega, Or.inl (by omega)⟩
                  · have es11790 : mq11762 376 1 = m 376 1 := ((hFq11762 376 1 rfl).trans ((hFq11743 376 1 rfl).trans ((yup_na (by decide)).trans ((hFq11731 376 1 rfl).trans ((yup_na (by decide)).trans ((yup_nk (by decide)).trans ((hFq11715 376 1 rfl).trans ((yup_na (by decide)).trans ((yup_na (by decide)).trans ((yup_na (by decide)).trans ((yup_na (by decide)).trans ((hFq11701 376 1 rfl).trans (hFq11626 376 1 rfl)))))))))))))
                    have tb11791 := hTq11762.atp 376 3 0 3 rfl
                    have tb11792 := hTq11762.atp 376 6 0 320 rfl
                    have tb11793 := hTq11762.atp 376 8 ((-1)) 320 rfl
                    have es11794 : mq11762 384 0 = (m 384 0) + 1 := ((hFq11762 384 0 rfl).trans ((hFq11743 384 0 rfl).trans (yup_eq _ _ _ _)))
                    have es11795 : mq11762 389 0 = mq11731 389 0 := ((hFq11762 389 0 rfl).trans ((hFq11743 389 0 rfl).trans (yup_na (by decide))))
                    have tb11796 := hTq11731.atp 389 0 0 48 rfl
                    have es11797 : mq11762 376 14 = rq11715 := ((hFq11762 376 14 rfl).trans ((hFq11743 376 14 rfl).trans ((yup_na (by decide)).trans ((hFq11731 376 14 rfl).trans ((yup_na (by decide)).trans (yup_eq _ _ _ _))))))
                    exact y_retU c126_209 ⟨rfl, hTq11762, hF11765, by omega, Or.inl (by omega)⟩
              · refine y_aload 188 c126_187 rfl rfl rfl ?_
                refine y_iload 190 c126_188 rfl rfl ?_
                have es11799 : mq11743 376 1 = m 376 1 := ((hFq11743 376 1 rfl).trans ((yup_na (by decide)).trans ((hFq11731 376 1 rfl).trans ((yup_na (by decide)).trans ((yup_nk (by decide)).trans ((hFq11715 376 1 rfl).trans ((yup_na (by decide)).trans ((yup_na (by decide)).trans ((yup_na (by decide)).trans ((yup_na (by decide)).trans ((hFq11701 376 1 rfl).trans (hFq11626 376 1 rfl))))))))))))
                have tb11800 := hTq11743.atp 376 6 0 320 rfl
                have tb11801 := hTq11743.atp 376 8 ((-1)) 320 rfl
                have es11802 : mq11743 389 0 = mq11731 389 0 := ((hFq11743 389 0 rfl).trans (yup_na (by decide)))
                have tb11803 := hTq11731.atp 389 0 0 48 rfl
                have es11804 : mq11743 376 14 = rq11715 := ((hFq11743 376 14 rfl).trans ((yup_na (by decide)).trans ((hFq11731 376 14 rfl).trans ((yup_na (by decide)).trans (yup_eq _ _ _ _)))))
                have es11805 : mq11743 384 0 = (m 384 0) + 1 := ((hFq11743 384 0 rfl).trans (yup_eq _ _ _ _))
                have es11806 : mq11743 376 18 = m 376 18 := ((hFq11743 376 18 rfl).trans ((yup_na (by decide)).trans ((hFq11731 376 18 rfl).trans ((yup_na (by decide)).trans ((yup_nk (by decide)).trans ((hFq11715 376 18 rfl).trans ((yup_na (by decide)).trans ((yup_na (by decide)).trans ((yup_na (by decide)).trans ((yup_na (by decide)).trans ((hFq11701 376 18 rfl).trans (hFq11626 376 18 rfl))))))))))))
                have a398 : mq11743 398 (0 + (m 384 0)).toNat = rq11715 := ((hFq11743 398 _ rfl).trans ((yup_na (by decide)).trans ((hFq11731 398 _ rfl).trans (yup_eq _ _ _ _))))
                have a397 : mq11743 397 (0 + (m 384 0)).toNat = 0 := ((hFq11743 397 _ rfl).trans ((yup_na (by decide)).trans ((hFq11731 397 _ rfl).trans ((yup_na (by decide)).trans ((yup_na (by decide)).trans ((hFq11715 397 _ rfl).trans ((yup_na (by decide)).trans (yup_eq _ _ _ _))))))))
                refine y_callUB 193 [.ref 376, yI (0 + (m 384 0))] [] c126_190 rfl rfl rfl rfl rfl (ycanO km125 ko376) (t125_0 (k := 0 + (m 384 0)) hTq11743 (by omega) (by omega) (by omega) (by omega) (by omega) (by omega)) (fun mq11798 nq11798 hq11798 => ?_)
                obtain ⟨rfl, hTq11798, hFq11798, hlq11798, hq11798, hzq11798⟩ := hq11798
                have x1q11798 : mq11798 376 1 = m 376 1 := ((hFq11798 376 1 rfl).trans ((hFq11743 376 1 rfl).trans ((yup_na (by decide)).trans ((hFq11731 376 1 rfl).trans ((yup_na (by decide)).trans ((yup_nk (by decide)).trans ((hFq11715 376 1 rfl).trans ((yup_na (by decide)).trans ((yup_na (by decide)).trans ((yup_na (by decide)).trans ((yup_na (by decide)).trans ((hFq11701 376 1 rfl).trans (hFq11626 376 1 rfl)))))))))))))
                have hF11807 := hF11749.tr hFq11798 wPz0_wMh0
                refine y_aload 194 c126_193 rfl rfl rfl ?_
                refine y_getX 197 (mq11798 376 8) c126_194 rfl kf376_8 rfl ?_
                have tb11808 := hTq11798.atp 376 8 ((-1)) 320 rfl
                refine y_if 209 200 c126_197 rfl rfl (yz_ge (by omega)) (fun hb11809 => ?_) (fun hb11809 => ?_)
                · have es11810 : mq11798 376 1 = m 376 1 := ((hFq11798 376 1 rfl).trans ((hFq11743 376 1 rfl).trans ((yup_na (by decide)).trans ((hFq11731 376 1 rfl).trans ((yup_na (by decide)).trans ((yup_nk (by decide)).trans ((hFq11715 376 1 rfl).trans ((yup_na (by decide)).trans ((yup_na (by decide)).trans ((yup_na (by decide)).trans ((yup_na (by decide)).trans ((hFq11701 376 1 rfl).trans (hFq11626 376 1 rfl)))))))))))))
                  have tb11811 := hTq11798.atp 376 3 0 3 rfl
                  have tb11812 := hTq11798.atp 376 6 0 320 rfl
                  have es11813 : mq11798 384 0 = (m 384 0) + 1 := ((hFq11798 384 0 rfl).trans ((hFq11743 384 0 rfl).trans (yup_eq _ _ _ _)))
                  have tb11814 := hTq11798.atp 389 0 0 48 rfl
                  have es11815 : mq11798 376 14 = rq11715 := ((hFq11798 376 14 rfl).trans ((hFq11743 376 14 rfl).trans ((yup_na (by decide)).trans ((hFq11731 376 14 rfl).trans ((yup_na (by decide)).trans (yup_eq _ _ _ _))))))
                  exact y_retU c126_209 ⟨rfl, hTq11798, hF11807, by omega, Or.inl (by omega)⟩
                · refine y_aload 201 c126_200 rfl rfl rfl ?_
                  refine y_iconst 203 c126_201 rfl ?_
                  have es11817 : mq11798 376 1 = m 376 1 := ((hFq11798 376 1 rfl).trans ((hFq11743 376 1 rfl).trans ((yup_na (by decide)).trans ((hFq11731 376 1 rfl).trans ((yup_na (by decide)).trans ((yup_nk (by decide)).trans ((hFq11715 376 1 rfl).trans ((yup_na (by decide)).trans ((yup_na (by decide)).trans ((yup_na (by decide)).trans ((yup_na (by decide)).trans ((hFq11701 376 1 rfl).trans (hFq11626 376 1 rfl)))))))))))))
                  have tb11818 := hTq11798.atp 376 3 0 3 rfl
                  have tb11819 := hTq11798.atp 376 6 0 320 rfl
                  refine y_callIB 206 [.ref 376, yI 41] [] c126_203 rfl rfl rfl rfl rfl (ycanO km118 ko376) (t118 hTq11798 (by omega) (by omega)) (fun rq11816 mq11816 nq11816 hq11816 => ?_)
                  obtain ⟨rfl, hTq11816, hFq11816, hq11816⟩ := hq11816
                  have x1q11816 : mq11816 376 1 = m 376 1 := ((hFq11816 376 1 rfl).trans ((hFq11798 376 1 rfl).trans ((hFq11743 376 1 rfl).trans ((yup_na (by decide)).trans ((hFq11731 376 1 rfl).trans ((yup_na (by decide)).trans ((yup_nk (by decide)).trans ((hFq11715 376 1 rfl).trans ((yup_na (by decide)).trans ((yup_na (by decide)).trans ((yup_na (by decide)).trans ((yup_na (by decide)).trans ((hFq11701 376 1 rfl).trans (hFq11626 376 1 rfl))))))))))))))
                  have hF11820 := hF11807.tr hFq11816 wNw_wMh0
                  refine y_if 210 209 c126_206 rfl rfl (yz_ne (by omega)) (fun hb11821 => ?_) (fun hb11821 => ?_)
                  · refine y_aload 211 c126_210 rfl rfl rfl ?_
                    refine y_iconst 213 c126_211 rfl ?_
                    have es11823 : mq11816 376 1 = m 376 1 := ((hFq11816 376 1 rfl).trans ((hFq11798 376 1 rfl).trans ((hFq11743 376 1 rfl).trans ((yup_na (by decide)).trans ((hFq11731 376 1 rfl).trans ((yup_na (by decide)).trans ((yup_nk (by decide)).trans ((hFq11715 376 1 rfl).trans ((yup_na (by decide)).trans ((yup_na (by decide)).trans ((yup_na (by decide)).trans ((yup_na (by decide)).trans ((hFq11701 376 1 rfl).trans (hFq11626 376 1 rfl))))))))))))))
                    have tb11824 := hTq11816.atp 376 3 0 3 rfl
                    have tb11825 := hTq11816.atp 376 6 0 320 rfl
                    have tb11826 := hTq11816.atp 376 8 ((-1)) 320 rfl
                    refine y_callIB 216 [.ref 376, yI 123] [] c126_213 rfl rfl rfl rfl rfl (ycanO km118 ko376) (t118 hTq11816 (by omega) (by omega)) (fun rq11822 mq11822 nq11822 hq11822 => ?_)
                    obtain ⟨rfl, hTq11822, hFq11822, hq11822⟩ := hq11822
                    have x1q11822 : mq11822 376 1 = m 376 1 := ((hFq11822 376 1 rfl).trans ((hFq11816 376 1 rfl).trans ((hFq11798 376 1 rfl).trans ((hFq11743 376 1 rfl).trans ((yup_na (by decide)).trans ((hFq11731 376 1 rfl).trans ((yup_na (by decide)).trans ((yup_nk (by decide)).trans ((hFq11715 376 1 rfl).trans ((yup_na (by decide)).trans ((yup_na (by decide)).trans ((yup_na (by decide)).trans ((yup_na (by decide)).trans ((hFq11701 376 1 rfl).trans (hFq11626 376 1 rfl)))))))))))))))
                    have hF11827 := hF11820.tr hFq11822 wNw_wMh0
                    refine y_if 220 219 c126_216 rfl rfl (yz_ne (by omega)) (fun hb11828 => ?_) (fun hb11828 => ?_)
                    · have es11829 : mq11822 376 1 = m 376 1 := ((hFq11822 376 1 rfl).trans ((hFq11816 376 1 rfl).trans ((hFq11798 376 1 rfl).trans ((hFq11743 376 1 rfl).trans ((yup_na (by decide)).trans ((hFq11731 376 1 rfl).trans ((yup_na (by decide)).trans ((yup_nk (by decide)).trans ((hFq11715 376 1 rfl).trans ((yup_na (by decide)).trans ((yup_na (by decide)).trans ((yup_na (by decide)).trans ((yup_na (by decide)).trans ((hFq11701 376 1 rfl).trans (hFq11626 376 1 rfl)))))))))))))))
                      have tb11830 := hTq11822.atp 376 3 0 3 rfl
                      have tb11831 := hTq11822.atp 376 6 0 320 rfl
                      have tb11832 := hTq11822.atp 376 8 ((-1)) 320 rfl
                      have es11833 : mq11822 384 0 = (m 384 0) + 1 := ((hFq11822 384 0 rfl).trans ((hFq11816 384 0 rfl).trans ((hFq11798 384 0 rfl).trans ((hFq11743 384 0 rfl).trans (yup_eq _ _ _ _)))))
                      have es11834 : mq11822 389 0 = mq11798 389 0 := ((hFq11822 389 0 rfl).trans (hFq11816 389 0 rfl))
                      have tb11835 := hTq11798.atp 389 0 0 48 rfl
                      have es11836 : mq11822 376 14 = rq11715 := ((hFq11822 376 14 rfl).trans ((hFq11816 376 14 rfl).trans ((hFq11798 376 14 rfl).trans ((hFq11743 376 14 rfl).trans ((yup_na (by decide)).trans ((hFq11731 376 14 rfl).trans ((yup_na (by decide)).trans (yup_eq _ _ _ _))))))))
                      have a397 : mq11822 397 (10 * 0 + (m 384 0).toNat) = mq11798 397 (0 + (m 384 0)).toNat := by rw [show 10 * 0 + (m 384 0).toNat = (0 + (m 384 0)).toNat by omega]; exact ((hFq11822 397 _ rfl).trans (hFq11816 397 _ rfl))
                      have a398 : mq11822 398 (10 * 0 + (m 384 0).toNat) = rq11715 := by rw [show 10 * 0 + (m 384 0).toNat = (0 + (m 384 0)).toNat by omega]; exact ((hFq11822 398 _ rfl).trans ((hFq11816 398 _ rfl).trans ((hFq11798 398 _ rfl).trans ((hFq11743 398 _ rfl).trans ((yup_na (by decide)).trans ((hFq11731 398 _ rfl).trans (yup_eq _ _ _ _)))))))
                      have a399 : mq11822 399 (10 * 0 + (m 384 0).toNat) = m 390 0 := by rw [show 10 * 0 + (m 384 0).toNat = (0 + (m 384 0)).toNat by omega]; exact ((hFq11822 399 _ rfl).trans ((hFq11816 399 _ rfl).trans ((hFq11798 399 _ rfl).trans ((hFq11743 399 _ rfl).trans ((yup_na (by decide)).trans ((hFq11731 399 _ rfl).trans ((yup_na (by decide)).trans ((yup_na (by decide)).trans ((hFq11715 399 _ rfl).trans (yup_eq _ _ _ _))))))))))
                      have hx : XD 0 mq11822 := XD.meth hC (by omega) (fun a q ha h1 h2 h3 h4 => hF11827 a q (wMh0_C a q ha h1 h2 h3 h4)) (by omega) (fun k hk => ⟨((hFq11822 397 _ rfl).trans ((hFq11816 397 _ rfl).trans ((hzq11798 _ (by omega)).trans ((hFq11743 397 _ rfl).trans ((yup_na (by decide)).trans ((hFq11731 397 _ rfl).trans ((yup_na (by decide)).trans ((yup_na (by decide)).trans ((hFq11715 397 _ rfl).trans ((yup_na (by decide)).trans ((yup_nk (by omega)).trans ((yup_na (by decide)).trans ((yup_na (by decide)).trans ((hFq11701 397 _ rfl).trans (hFq11626 397 _ rfl))))))))))))))), ((hFq11822 398 _ rfl).trans ((hFq11816 398 _ rfl).trans ((hFq11798 398 _ rfl).trans ((hFq11743 398 _ rfl).trans ((yup_na (by decide)).trans ((hFq11731 398 _ rfl).trans ((yup_nk (by omega)).trans ((yup_na (by decide)).trans ((hFq11715 398 _ rfl).trans ((yup_na (by decide)).trans ((yup_na (by decide)).trans ((yup_na (by decide)).trans ((yup_na (by decide)).trans ((hFq11701 398 _ rfl).trans (hFq11626 398 _ rfl))))))))))))))), ((hFq11822 399 _ rfl).trans ((hFq11816 399 _ rfl).trans ((hFq11798 399 _ rfl).trans ((hFq11743 399 _ rfl).trans ((yup_na (by decide)).trans ((hFq11731 399 _ rfl).trans ((yup_na (by decide)).trans ((yup_na (by decide)).trans ((hFq11715 399 _ rfl).trans ((yup_nk (by omega)).trans ((yup_na (by decide)).trans ((yup_na (by decide)).trans ((yup_na (by decide)).trans ((hFq11701 399 _ rfl).trans (hFq11626 399 _ rfl)))))))))))))))⟩) (by omega)
                      exact y_retU c126_220 ⟨rfl, hTq11822, hF11827, by omega, Or.inr ⟨by omega, by omega, by omega, hx⟩⟩
                    · have es11837 : mq11822 376 1 = m 376 1 := ((hFq11822 376 1 rfl).trans ((hFq11816 376 1 rfl).trans ((hFq11798 376 1 rfl).trans ((hFq11743 376 1 rfl).trans ((yup_na (by decide)).trans ((hFq11731 376 1 rfl).trans ((yup_na (by decide)).trans ((yup_nk (by decide)).trans ((hFq11715 376 1 rfl).trans ((yup_na (by decide)).trans ((yup_na (by decide)).trans ((yup_na (by decide)).trans ((yup_na (by decide)).trans ((hFq11701 376 1 rfl).trans (hFq11626 376 1 rfl)))))))))))))))
                      have tb11838 := hTq11822.atp 376 3 0 3 rfl
                      have tb11839 := hTq11822.atp 376 6 0 320 rfl
                      have tb11840 := hTq11822.atp 376 8 ((-1)) 320 rfl
                      have es11841 : mq11822 384 0 = (m 384 0) + 1 := ((hFq11822 384 0 rfl).trans ((hFq11816 384 0 rfl).trans ((hFq11798 384 0 rfl).trans ((hFq11743 384 0 rfl).trans (yup_eq _ _ _ _)))))
                      have es11842 : mq11822 389 0 = mq11798 389 0 := ((hFq11822 389 0 rfl).trans (hFq11816 389 0 rfl))
                      have tb11843 := hTq11798.atp 389 0 0 48 rfl
                      have es11844 : mq11822 376 14 = rq11715 := ((hFq11822 376 14 rfl).trans ((hFq11816 376 14 rfl).trans ((hFq11798 376 14 rfl).trans ((hFq11743 376 14 rfl).trans ((yup_na (by decide)).trans ((hFq11731 376 14 rfl).trans ((yup_na (by decide)).trans (yup_eq _ _ _ _))))))))
                      exact y_retU c126_219 ⟨rfl, hTq11822, hF11827, by omega, Or.inl (by omega)⟩
                  · have es11845 : mq11816 376 1 = m 376 1 := ((hFq11816 376 1 rfl).trans ((hFq11798 376 1 rfl).trans ((hFq11743 376 1 rfl).trans ((yup_na (by decide)).trans ((hFq11731 376 1 rfl).trans ((yup_na (by decide)).trans ((yup_nk (by decide)).trans ((hFq11715 376 1 rfl).trans ((yup_na (by decide)).trans ((yup_na (by decide)).trans ((yup_na (by decide)).trans ((yup_na (by decide)).trans ((hFq11701 376 1 rfl).trans (hFq11626 376 1 rfl))))))))))))))
                    have tb11846 := hTq11816.atp 376 3 0 3 rfl
                    have tb11847 := hTq11816.atp 376 6 0 320 rfl
                    have tb11848 := hTq11816.atp 376 8 ((-1)) 320 rfl
                    have es11849 : mq11816 384 0 = (m 384 0) + 1 := ((hFq11816 384 0 rfl).trans ((hFq11798 384 0 rfl).trans ((hFq11743 384 0 rfl).trans (yup_eq _ _ _ _))))
                    have es11850 : mq11816 389 0 = mq11798 389 0 := (hFq11816 389 0 rfl)
                    have tb11851 := hTq11798.atp 389 0 0 48 rfl
                    have es11852 : mq11816 376 14 = rq11715 := ((hFq11816 376 14 rfl).trans ((hFq11798 376 14 rfl).trans ((hFq11743 376 14 rfl).trans ((yup_na (by decide)).trans ((hFq11731 376 14 rfl).trans ((yup_na (by decide)).trans (yup_eq _ _ _ _)))))))
                    exact y_retU c126_209 ⟨rfl, hTq11816, hF11820, by omega, Or.inl (by omega)⟩
            · have es11853 : mq11743 376 1 = m 376 1 := ((hFq11743 376 1 rfl).trans ((yup_na (by decide)).trans ((hFq11731 376 1 rfl).trans ((yup_na (by decide)).trans ((yup_nk (by decide)).trans ((hFq11715 376 1 rfl).trans ((yup_na (by decide)).trans ((yup_na (by decide)).trans ((yup_na (by decide)).trans ((yup_na (by decide)).trans ((hFq11701 376 1 rfl).trans (hFq11626 376 1 rfl))))))))))))
              have tb11854 := hTq11743.atp 376 3 0 3 rfl
              have tb11855 := hTq11743.atp 376 6 0 320 rfl
              have tb11856 := hTq11743.atp 376 8 ((-1)) 320 rfl
              have es11857 : mq11743 384 0 = (m 384 0) + 1 := ((hFq11743 384 0 rfl).trans (yup_eq _ _ _ _))
              have es11858 : mq11743 389 0 = mq11731 389 0 := ((hFq11743 389 0 rfl).trans (yup_na (by decide)))
              have tb11859 := hTq11731.atp 389 0 0 48 rfl
              have es11860 : mq11743 376 14 = rq11715 := ((hFq11743 376 14 rfl).trans ((yup_na (by decide)).trans ((hFq11731 376 14 rfl).trans ((yup_na (by decide)).trans (yup_eq _ _ _ _)))))
              exact y_retU c126_179 ⟨rfl, hTq11743, hF11749, by omega, Or.inl (by omega)⟩
          · have es11861 : mq11701 376 1 = m 376 1 := ((hFq11701 376 1 rfl).trans (hFq11626 376 1 rfl))
            have tb11862 := hTq11701.atp 376 3 0 3 rfl
            have tb11863 := hTq11701.atp 376 6 0 320 rfl
            have tb11864 := hTq11701.atp 376 8 ((-1)) 320 rfl
            have es11865 : mq11701 384 0 = m 384 0 := ((hFq11701 384 0 rfl).trans (hFq11626 384 0 rfl))
            have es11866 : mq11701 389 0 = m 389 0 := ((hFq11701 389 0 rfl).trans (hFq11626 389 0 rfl))
            have es11867 : mq11701 376 14 = m 376 14 := ((hFq11701 376 14 rfl).trans (hFq11626 376 14 rfl))
            have tb11868 := hT.atp 376 14 0 46 rfl
            exact y_retU c126_81 ⟨rfl, hTq11701, hF11705, by omega, Or.inl (by omega)⟩
set_option maxRecDepth 100000 in
theorem t126_1 {L : Nat} {xs : Nat → Int32} {d nn : Nat} {m : yM} (hT : Ty gT m) (hl : m 376 6 ≤ m 376 1) (hn : m 376 18 = 0) (h8 : m 376 8 < 0) (hC : XD 1 m) (hc1 : 1 ≤ m 383 1) (h3 : m 376 3 ≠ 0) : YC (gZ L xs) (d + 6) 126 [.ref 376] m nn (qU (fun m' n' => n' = nn ∧ Ty gT m' ∧ Fr wMh1 m m' ∧ m' 376 6 ≤ m' 376 1 ∧ (0 ≤ m' 376 8 ∨ (m' 376 8 < 0 ∧ mu m' < mu m ∧ m' 384 1 = m 384 1 + 1 ∧ XD 1 m')))) := by
  have tb8 := hT.atp 376 8 (-1) 320 rfl
  have hU := hC.2.2.2.1
  have tc383 := hT.atp 383 1 0 6 rfl
  have tc384 := hT.atp 384 1 0 10 rfl
  have tc385 := hT.atp 385 1 0 8 rfl
  have tc389 := hT.atp 389 1 0 48 rfl
  have tc390 := hT.atp 390 1 0 125 rfl
  refine YC.mkB [some (.ref 376), none, none, none, none, none, none] kn126 rfl rfl ?_
  have hF : Fr wMh1 m m := Fr.rf
  refine y_aload 1 c126_0 rfl rfl rfl ?_
  have tb11971 := hT.atp 376 18 0 1 rfl
  refine y_callP 4 [.ref 376] [] c126_1 rfl rfl rfl rfl rfl (ycanO km96 ko376) (t96_1 (by omega)) (fun r11970 hr11970 => ?_)
  subst hr11970
  refine y_istore 5 c126_4 rfl rfl ?_
  refine y_aload 6 c126_5 rfl rfl rfl ?_
  refine y_getR 9 c126_6 rfl kf376_20 ?_
  refine y_iload 10 c126_9 rfl rfl ?_
  refine y_iaX 11 (m 383 1) c126_10 rfl ka383 (by decide) rfl ?_
  refine y_iconst 12 c126_11 rfl ?_
  refine y_isub 13 c126_12 rfl ?_
  refine y_istore 14 c126_13 rfl rfl ?_
  refine y_aload 15 c126_14 rfl rfl rfl ?_
  have tb11973 := hT.atp 376 1 0 320 rfl
  have tb11974 := hT.atp 376 3 0 3 rfl
  have tb11975 := hT.atp 376 6 0 320 rfl
  have tb11976 := hT.atp 376 8 ((-1)) 320 rfl
  refine y_callUB 18 [.ref 376] [] c126_15 rfl rfl rfl rfl rfl (ycanO km99 ko376) (t99u hT (by omega)) (fun mq11972 nq11972 hq11972 => ?_)
  obtain ⟨rfl, hTq11972, hFq11972, hq11972⟩ := hq11972
  have x1q11972 : mq11972 376 1 = m 376 1 := (hFq11972 376 1 rfl)
  have hF11977 := hF.tr hFq11972 wNx_wMh1
  refine y_aload 19 c126_18 rfl rfl rfl ?_
  have tb11978 := hTq11972.atp 376 3 0 3 rfl
  refine y_callP 22 [.ref 376] [] c126_19 rfl rfl rfl rfl rfl (ycanO km115 ko376) (t115 hTq11972) (fun r11979 hr11979 => ?_)
  refine y_if 65 25 c126_22 rfl rfl (yz_eq (by omega)) (fun hb11980 => ?_) (fun hb11980 => ?_)
  · refine y_iconst 66 c126_65 rfl ?_
    refine y_istore 67 c126_66 rfl rfl ?_
    refine y_aload 68 c126_67 rfl rfl rfl ?_
    refine y_getX 71 (mq11972 376 4) c126_68 rfl kf376_4 rfl ?_
    have tb11981 := hTq11972.atp 376 4 ((-2147483648)) 2147483647 rfl
    refine y_istore 73 c126_71 rfl rfl ?_
    refine y_aload 74 c126_73 rfl rfl rfl ?_
    refine y_iload 75 c126_74 rfl rfl ?_
    have es11983 : mq11972 376 1 = m 376 1 := (hFq11972 376 1 rfl)
    have tb11984 := hTq11972.atp 376 6 0 320 rfl
    have es11985 : mq11972 376 8 = m 376 8 := (hFq11972 376 8 rfl)
    refine y_callIB 78 [.ref 376, yI 0] [] c126_75 rfl rfl rfl rfl rfl (ycanO km105 ko376) (t105 (g := 0) hTq11972 (by omega) (by omega)) (fun rq11982 mq11982 nq11982 hq11982 => ?_)
    obtain ⟨rfl, hTq11982, hFq11982, hq11982⟩ := hq11982
    have x1q11982 : mq11982 376 1 = m 376 1 := ((hFq11982 376 1 rfl).trans (hFq11972 376 1 rfl))
    have hF11986 := hF11977.tr hFq11982 wNw_wMh1
    refine y_if 82 81 c126_78 rfl rfl (yz_ne (by omega)) (fun hb11987 => ?_) (fun hb11987 => ?_)
    · exfalso; omega
    · have es11988 : mq11982 376 1 = m 376 1 := ((hFq11982 376 1 rfl).trans (hFq11972 376 1 rfl))
      have tb11989 := hTq11982.atp 376 3 0 3 rfl
      have tb11990 := hTq11982.atp 376 6 0 320 rfl
      have tb11991 := hTq11982.atp 376 8 ((-1)) 320 rfl
      have es11992 : mq11982 384 1 = m 384 1 := ((hFq11982 384 1 rfl).trans (hFq11972 384 1 rfl))
      have es11993 : mq11982 389 1 = m 389 1 := ((hFq11982 389 1 rfl).trans (hFq11972 389 1 rfl))
      have es11994 : mq11982 376 14 = m 376 14 := ((hFq11982 376 14 rfl).trans (hFq11972 376 14 rfl))
      have tb11995 := hT.atp 376 14 0 46 rfl
      exact y_retU c126_81 ⟨rfl, hTq11982, hF11986, by omega, Or.inl (by omega)⟩
  · refine y_aload 26 c126_25 rfl rfl rfl ?_
    refine y_getR 29 c126_26 rfl kf376_21 ?_
    refine y_iload 30 c126_29 rfl rfl ?_
    refine y_iaX 31 (m 384 1) c126_30 rfl ka384 (by decide) (hFq11972 384 1 rfl) ?_
    refine y_iconst 33 c126_31 rfl ?_
    refine y_icmp 65 36 c126_33 rfl rfl (yc_ge (by omega) (by omega)) (fun hb11996 => ?_) (fun hb11996 => ?_)
    · refine y_iconst 66 c126_65 rfl ?_
      refine y_istore 67 c126_66 rfl rfl ?_
      refine y_aload 68 c126_67 rfl rfl rfl ?_
      refine y_getX 71 (mq11972 376 4) c126_68 rfl kf376_4 rfl ?_
      have tb11997 := hTq11972.atp 376 4 ((-2147483648)) 2147483647 rfl
      refine y_istore 73 c126_71 rfl rfl ?_
      refine y_aload 74 c126_73 rfl rfl rfl ?_
      refine y_iload 75 c126_74 rfl rfl ?_
      have es11999 : mq11972 376 1 = m 376 1 := (hFq11972 376 1 rfl)
      have tb12000 := hTq11972.atp 376 6 0 320 rfl
      have es12001 : mq11972 376 8 = m 376 8 := (hFq11972 376 8 rfl)
      refine y_callIB 78 [.ref 376, yI 0] [] c126_75 rfl rfl rfl rfl rfl (ycanO km105 ko376) (t105 (g := 0) hTq11972 (by omega) (by omega)) (fun rq11998 mq11998 nq11998 hq11998 => ?_)
      obtain ⟨rfl, hTq11998, hFq11998, hq11998⟩ := hq11998
      have x1q11998 : mq11998 376 1 = m 376 1 := ((hFq11998 376 1 rfl).trans (hFq11972 376 1 rfl))
      have hF12002 := hF11977.tr hFq11998 wNw_wMh1
      refine y_if 82 81 c126_78 rfl rfl (yz_ne (by omega)) (fun hb12003 => ?_) (fun hb12003 => ?_)
      · exfalso; omega
      · have es12004 : mq11998 376 1 = m 376 1 := ((hFq11998 376 1 rfl).trans (hFq11972 376 1 rfl))
        have tb12005 := hTq11998.atp 376 3 0 3 rfl
        have tb12006 := hTq11998.atp 376 6 0 320 rfl
        have tb12007 := hTq11998.atp 376 8 ((-1)) 320 rfl
        have es12008 : mq11998 384 1 = m 384 1 := ((hFq11998 384 1 rfl).trans (hFq11972 384 1 rfl))
        have es12009 : mq11998 389 1 = m 389 1 := ((hFq11998 389 1 rfl).trans (hFq11972 389 1 rfl))
        have es12010 : mq11998 376 14 = m 376 14 := ((hFq11998 376 14 rfl).trans (hFq11972 376 14 rfl))
        have tb12011 := hT.atp 376 14 0 46 rfl
        exact y_retU c126_81 ⟨rfl, hTq11998, hF12002, by omega, Or.inl (by omega)⟩
    · refine y_aload 37 c126_36 rfl rfl rfl ?_
      refine y_getR 40 c126_37 rfl kf376_26 ?_
      refine y_iload 41 c126_40 rfl rfl ?_
      refine y_iaX 42 (m 389 1) c126_41 rfl ka389 (by decide) (hFq11972 389 1 rfl) ?_
      refine y_iconst 44 c126_42 rfl ?_
      refine y_icmp 65 47 c126_44 rfl rfl (yc_ge (by omega) (by omega)) (fun hb12012 => ?_) (fun hb12012 => ?_)
      · refine y_iconst 66 c126_65 rfl ?_
        refine y_istore 67 c126_66 rfl rfl ?_
        refine y_aload 68 c126_67 rfl rfl rfl ?_
        refine y_getX 71 (mq11972 376 4) c126_68 rfl kf376_4 rfl ?_
        have tb12013 := hTq11972.atp 376 4 ((-2147483648)) 2147483647 rfl
        refine y_istore 73 c126_71 rfl rfl ?_
        refine y_aload 74 c126_73 rfl rfl rfl ?_
        refine y_iload 75 c126_74 rfl rfl ?_
        have es12015 : mq11972 376 1 = m 376 1 := (hFq11972 376 1 rfl)
        have tb12016 := hTq11972.atp 376 6 0 320 rfl
        have es12017 : mq11972 376 8 = m 376 8 := (hFq11972 376 8 rfl)
        refine y_callIB 78 [.ref 376, yI 0] [] c126_75 rfl rfl rfl rfl rfl (ycanO km105 ko376) (t105 (g := 0) hTq11972 (by omega) (by omega)) (fun rq12014 mq12014 nq12014 hq12014 => ?_)
        obtain ⟨rfl, hTq12014, hFq12014, hq12014⟩ := hq12014
        have x1q12014 : mq12014 376 1 = m 376 1 := ((hFq12014 376 1 rfl).trans (hFq11972 376 1 rfl))
        have hF12018 := hF11977.tr hFq12014 wNw_wMh1
        refine y_if 82 81 c126_78 rfl rfl (yz_ne (by omega)) (fun hb12019 => ?_) (fun hb12019 => ?_)
        · exfalso; omega
        · have es12020 : mq12014 376 1 = m 376 1 := ((hFq12014 376 1 rfl).trans (hFq11972 376 1 rfl))
          have tb12021 := hTq12014.atp 376 3 0 3 rfl
          have tb12022 := hTq12014.atp 376 6 0 320 rfl
          have tb12023 := hTq12014.atp 376 8 ((-1)) 320 rfl
          have es12024 : mq12014 384 1 = m 384 1 := ((hFq12014 384 1 rfl).trans (hFq11972 384 1 rfl))
          have es12025 : mq12014 389 1 = m 389 1 := ((hFq12014 389 1 rfl).trans (hFq11972 389 1 rfl))
          have es12026 : mq12014 376 14 = m 376 14 := ((hFq12014 376 14 rfl).trans (hFq11972 376 14 rfl))
          have tb12027 := hT.atp 376 14 0 46 rfl
          exact y_retU c126_81 ⟨rfl, hTq12014, hF12018, by omega, Or.inl (by omega)⟩
      · refine y_aload 48 c126_47 rfl rfl rfl ?_
        refine y_iload 49 c126_48 rfl rfl ?_
        refine y_iload 50 c126_49 rfl rfl ?_
        refine y_aload 51 c126_50 rfl rfl rfl ?_
        refine y_getX 54 (mq11972 376 4) c126_51 rfl kf376_4 rfl ?_
        have tb12028 := hTq11972.atp 376 4 ((-2147483648)) 2147483647 rfl
        refine y_iconst 55 c126_54 rfl ?_
        have es12029 : mq11972 383 1 = m 383 1 := (hFq11972 383 1 rfl)
        have es12030 : mq11972 384 1 = m 384 1 := (hFq11972 384 1 rfl)
        refine y_callP 58 [.ref 376, yI 1, yI ((m 383 1) - 1), yI (mq11972 376 4), yI 1] [] c126_55 rfl rfl rfl rfl rfl (ycanO km123 ko376) (t123_1 hTq11972 (by rw [show mq11972 383 1 = m 383 1 from (hFq11972 383 1 rfl)]; exact hU.fr (fun q => (hFq11972 392 q rfl))) (by omega) (by omega) (by omega)) (fun r12031 hr12031 => ?_)
        refine y_if 65 61 c126_58 rfl rfl (yz_ge (by omega)) (fun hb12032 => ?_) (fun hb12032 => ?_)
        · refine y_iconst 66 c126_65 rfl ?_
          refine y_istore 67 c126_66 rfl rfl ?_
          refine y_aload 68 c126_67 rfl rfl rfl ?_
          refine y_getX 71 (mq11972 376 4) c126_68 rfl kf376_4 rfl ?_
          refine y_istore 73 c126_71 rfl rfl ?_
          refine y_aload 74 c126_73 rfl rfl rfl ?_
          refine y_iload 75 c126_74 rfl rfl ?_
          have es12034 : mq11972 376 1 = m 376 1 := (hFq11972 376 1 rfl)
          have tb12035 := hTq11972.atp 376 6 0 320 rfl
          have es12036 : mq11972 376 8 = m 376 8 := (hFq11972 376 8 rfl)
          refine y_callIB 78 [.ref 376, yI 0] [] c126_75 rfl rfl rfl rfl rfl (ycanO km105 ko376) (t105 (g := 0) hTq11972 (by omega) (by omega)) (fun rq12033 mq12033 nq12033 hq12033 => ?_)
          obtain ⟨rfl, hTq12033, hFq12033, hq12033⟩ := hq12033
          have x1q12033 : mq12033 376 1 = m 376 1 := ((hFq12033 376 1 rfl).trans (hFq11972 376 1 rfl))
          have hF12037 := hF11977.tr hFq12033 wNw_wMh1
          refine y_if 82 81 c126_78 rfl rfl (yz_ne (by omega)) (fun hb12038 => ?_) (fun hb12038 => ?_)
          · exfalso; omega
          · have es12039 : mq12033 376 1 = m 376 1 := ((hFq12033 376 1 rfl).trans (hFq11972 376 1 rfl))
            have tb12040 := hTq12033.atp 376 3 0 3 rfl
            have tb12041 := hTq12033.atp 376 6 0 320 rfl
            have tb12042 := hTq12033.atp 376 8 ((-1)) 320 rfl
            have es12043 : mq12033 384 1 = m 384 1 := ((hFq12033 384 1 rfl).trans (hFq11972 384 1 rfl))
            have es12044 : mq12033 389 1 = m 389 1 := ((hFq12033 389 1 rfl).trans (hFq11972 389 1 rfl))
            have es12045 : mq12033 376 14 = m 376 14 := ((hFq12033 376 14 rfl).trans (hFq11972 376 14 rfl))
            have tb12046 := hT.atp 376 14 0 46 rfl
            exact y_retU c126_81 ⟨rfl, hTq12033, hF12037, by omega, Or.inl (by omega)⟩
        · refine y_iconst 62 c126_61 rfl ?_
          refine y_goto 66 c126_62 rfl ?_
          refine y_istore 67 c126_66 rfl rfl ?_
          refine y_aload 68 c126_67 rfl rfl rfl ?_
          refine y_getX 71 (mq11972 376 4) c126_68 rfl kf376_4 rfl ?_
          refine y_istore 73 c126_71 rfl rfl ?_
          refine y_aload 74 c126_73 rfl rfl rfl ?_
          refine y_iload 75 c126_74 rfl rfl ?_
          have es12048 : mq11972 376 1 = m 376 1 := (hFq11972 376 1 rfl)
          have tb12049 := hTq11972.atp 376 6 0 320 rfl
          have es12050 : mq11972 376 8 = m 376 8 := (hFq11972 376 8 rfl)
          refine y_callIB 78 [.ref 376, yI 1] [] c126_75 rfl rfl rfl rfl rfl (ycanO km105 ko376) (t105 (g := 1) hTq11972 (by omega) (by omega)) (fun rq12047 mq12047 nq12047 hq12047 => ?_)
          obtain ⟨rfl, hTq12047, hFq12047, hq12047⟩ := hq12047
          have x1q12047 : mq12047 376 1 = m 376 1 := ((hFq12047 376 1 rfl).trans (hFq11972 376 1 rfl))
          have hF12051 := hF11977.tr hFq12047 wNw_wMh1
          refine y_if 82 81 c126_78 rfl rfl (yz_ne (by omega)) (fun hb12052 => ?_) (fun hb12052 => ?_)
          · refine y_iconst 84 c126_82 rfl ?_
            refine y_iload 85 c126_84 rfl rfl ?_
            refine y_imul 86 c126_85 rfl ?_
            refine y_top 10 (by decide) ?_
            refine y_aload 87 c126_86 rfl rfl rfl ?_
            refine y_getR 90 c126_87 rfl kf376_21 ?_
            refine y_iload 91 c126_90 rfl rfl ?_
            refine y_iaX 92 (m 384 1) c126_91 rfl ka384 (by decide) ((hFq12047 384 1 rfl).trans (hFq11972 384 1 rfl)) ?_
            refine y_iadd 93 c126_92 rfl ?_
            refine y_istore 95 c126_93 rfl rfl ?_
            refine y_aload 96 c126_95 rfl rfl rfl ?_
            refine y_getR 99 c126_96 rfl kf376_32 ?_
            refine y_iload 101 c126_99 rfl rfl ?_
            refine y_iload 103 c126_101 rfl rfl ?_
            refine y_iastore 104 c126_103 rfl ka395 (by omega) (y_nar0 _) ?_
            have hT12053 := hTq12047.up 395 ((10 + (m 384 1)).toNat) (mq11972 376 4) ((-2147483648)) 2147483647 rfl (by omega)
            have hF12054 := hF12051.up 395 ((10 + (m 384 1)).toNat) (mq11972 376 4) (wMh1_395 (by omega))
            refine y_aload 105 c126_104 rfl rfl rfl ?_
            refine y_getR 108 c126_105 rfl kf376_33 ?_
            refine y_iload 110 c126_108 rfl rfl ?_
            refine y_iload 111 c126_110 rfl rfl ?_
            refine y_iastore 112 c126_111 rfl ka396 (by omega) (y_nar0 _) ?_
            have hT12055 := hT12053.up 396 ((10 + (m 384 1)).toNat) ((m 383 1) - 1) 0 5 rfl (by omega)
            have hF12056 := hF12054.up 396 ((10 + (m 384 1)).toNat) ((m 383 1) - 1) (wMh1_396 (by omega))
            refine y_aload 113 c126_112 rfl rfl rfl ?_
            refine y_getR 116 c126_113 rfl kf376_34 ?_
            refine y_iload 118 c126_116 rfl rfl ?_
            refine y_iconst 119 c126_118 rfl ?_
            refine y_iastore 120 c126_119 rfl ka397 (by omega) (y_nar0 _) ?_
            have hT12057 := hT12055.up 397 ((10 + (m 384 1)).toNat) 0 0 2 rfl (by omega)
            have hF12058 := hF12056.up 397 ((10 + (m 384 1)).toNat) 0 (wMh1_397 (by omega))
            refine y_aload 121 c126_120 rfl rfl rfl ?_
            refine y_getR 124 c126_121 rfl kf376_36 ?_
            refine y_iload 126 c126_124 rfl rfl ?_
            refine y_aload 127 c126_126 rfl rfl rfl ?_
            refine y_getR 130 c126_127 rfl kf376_27 ?_
            refine y_iload 131 c126_130 rfl rfl ?_
            refine y_iaX 132 (m 390 1) c126_131 rfl ka390 (by decide) ((yup_na (by decide)).trans ((yup_na (by decide)).trans ((yup_na (by decide)).trans ((hFq12047 390 1 rfl).trans (hFq11972 390 1 rfl))))) ?_
            refine y_iastore 133 c126_132 rfl ka399 (by omega) (y_nar0 _) ?_
            have hT12059 := hT12057.up 399 ((10 + (m 384 1)).toNat) (m 390 1) 0 125 rfl (by omega)
            have hF12060 := hF12058.up 399 ((10 + (m 384 1)).toNat) (m 390 1) (wMh1_399 (by omega))
            refine y_aload 134 c126_133 rfl rfl rfl ?_
            refine y_aload 135 c126_134 rfl rfl rfl ?_
            refine y_iconst 136 c126_135 rfl ?_
            have es12062 : (yup (yup (yup (yup mq12047 395 ((10 + (m 384 1)).toNat) (mq11972 376 4)) 396 ((10 + (m 384 1)).toNat) ((m 383 1) - 1)) 397 ((10 + (m 384 1)).toNat) 0) 399 ((10 + (m 384 1)).toNat) (m 390 1)) 376 1 = m 376 1 := ((yup_na (by decide)).trans ((yup_na (by decide)).trans ((yup_na (by decide)).trans ((yup_na (by decide)).trans ((hFq12047 376 1 rfl).trans (hFq11972 376 1 rfl))))))
            have es12063 : (yup (yup (yup (yup mq12047 395 ((10 + (m 384 1)).toNat) (mq11972 376 4)) 396 ((10 + (m 384 1)).toNat) ((m 383 1) - 1)) 397 ((10 + (m 384 1)).toNat) 0) 399 ((10 + (m 384 1)).toNat) (m 390 1)) 376 3 = mq12047 376 3 := rfl
            have tb12064 := hTq12047.atp 376 3 0 3 rfl
            have es12065 : (yup (yup (yup (yup mq12047 395 ((10 + (m 384 1)).toNat) (mq11972 376 4)) 396 ((10 + (m 384 1)).toNat) ((m 383 1) - 1)) 397 ((10 + (m 384 1)).toNat) 0) 399 ((10 + (m 384 1)).toNat) (m 390 1)) 376 6 = mq12047 376 6 := rfl
            have tb12066 := hTq12047.atp 376 6 0 320 rfl
            have es12067 : (yup (yup (yup (yup mq12047 395 ((10 + (m 384 1)).toNat) (mq11972 376 4)) 396 ((10 + (m 384 1)).toNat) ((m 383 1) - 1)) 397 ((10 + (m 384 1)).toNat) 0) 399 ((10 + (m 384 1)).toNat) (m 390 1)) 376 8 = mq12047 376 8 := rfl
            have tb12068 := hTq12047.atp 376 8 ((-1)) 320 rfl
            have es12069 : (yup (yup (yup (yup mq12047 395 ((10 + (m 384 1)).toNat) (mq11972 376 4)) 396 ((10 + (m 384 1)).toNat) ((m 383 1) - 1)) 397 ((10 + (m 384 1)).toNat) 0) 399 ((10 + (m 384 1)).toNat) (m 390 1)) 376 18 = m 376 18 := ((yup_na (by decide)).trans ((yup_na (by decide)).trans ((yup_na (by decide)).trans ((yup_na (by decide)).trans ((hFq12047 376 18 rfl).trans (hFq11972 376 18 rfl))))))
            have es12070 : (yup (yup (yup (yup mq12047 395 ((10 + (m 384 1)).toNat) (mq11972 376 4)) 396 ((10 + (m 384 1)).toNat) ((m 383 1) - 1)) 397 ((10 + (m 384 1)).toNat) 0) 399 ((10 + (m 384 1)).toNat) (m 390 1)) 389 1 = m 389 1 := ((yup_na (by decide)).trans ((yup_na (by decide)).trans ((yup_na (by decide)).trans ((yup_na (by decide)).trans ((hFq12047 389 1 rfl).trans (hFq11972 389 1 rfl))))))
            have em12071 : mu (yup (yup (yup (yup mq12047 395 ((10 + (m 384 1)).toNat) (mq11972 376 4)) 396 ((10 + (m 384 1)).toNat) ((m 383 1) - 1)) 397 ((10 + (m 384 1)).toNat) 0) 399 ((10 + (m 384 1)).toNat) (m 390 1)) = mu mq12047 := mu_fr ((yup_na (by decide)).trans ((yup_na (by decide)).trans ((yup_na (by decide)).trans (yup_na (by decide))))) ((yup_na (by decide)).trans ((yup_na (by decide)).trans ((yup_na (by decide)).trans (yup_na (by decide))))) ((yup_na (by decide)).trans ((yup_na (by decide)).trans ((yup_na (by decide)).trans (yup_na (by decide)))))
            refine y_callIB 139 [.ref 376, yI ((-1))] [.ref 376] c126_136 rfl rfl rfl rfl rfl (ycanO km124 ko376) (t124_1 hT12059 (by omega) (by omega) (by omega)) (fun rq12061 mq12061 nq12061 hq12061 => ?_)
            obtain ⟨rfl, hTq12061, hFq12061, hq12061⟩ := hq12061
            have x1q12061 : mq12061 376 1 = m 376 1 := ((hFq12061 376 1 rfl).trans ((yup_na (by decide)).trans ((yup_na (by decide)).trans ((yup_na (by decide)).trans ((yup_na (by decide)).trans ((hFq12047 376 1 rfl).trans (hFq11972 376 1 rfl)))))))
            have hF12072 := hF12060.tr hFq12061 wVp1_wMh1
            refine y_putI 142 c126_139 rfl kf376_14 (y_fit0 _) ?_
            have hT12073 := hTq12061.up 376 14 rq12061 0 46 rfl (by omega)
            have hF12074 := hF12072.up 376 14 rq12061 rfl
            refine y_aload 143 c126_142 rfl rfl rfl ?_
            refine y_getR 146 c126_143 rfl kf376_35 ?_
            refine y_iload 148 c126_146 rfl rfl ?_
            refine y_aload 149 c126_148 rfl rfl rfl ?_
            refine y_getX 152 rq12061 c126_149 rfl kf376_14 rfl ?_
            refine y_iastore 153 c126_152 rfl ka398 (by omega) (y_nar0 _) ?_
            have hT12075 := hT12073.up 398 ((10 + (m 384 1)).toNat) rq12061 0 46 rfl (by omega)
            have hF12076 := hF12074.up 398 ((10 + (m 384 1)).toNat) rq12061 (wMh1_398 (by omega))
            refine y_aload 154 c126_153 rfl rfl rfl ?_
            refine y_iconst 155 c126_154 rfl ?_
            have es12078 : (yup (yup mq12061 376 14 rq12061) 398 ((10 + (m 384 1)).toNat) rq12061) 376 1 = m 376 1 := ((yup_na (by decide)).trans ((yup_nk (by decide)).trans ((hFq12061 376 1 rfl).trans ((yup_na (by decide)).trans ((yup_na (by decide)).trans ((yup_na (by decide)).trans ((yup_na (by decide)).trans ((hFq12047 376 1 rfl).trans (hFq11972 376 1 rfl)))))))))
            have es12079 : (yup (yup mq12061 376 14 rq12061) 398 ((10 + (m 384 1)).toNat) rq12061) 376 3 = mq12047 376 3 := ((yup_na (by decide)).trans ((yup_nk (by decide)).trans ((hFq12061 376 3 rfl).trans ((yup_na (by decide)).trans ((yup_na (by decide)).trans ((yup_na (by decide)).trans (yup_na (by decide))))))))
            have es12080 : (yup (yup mq12061 376 14 rq12061) 398 ((10 + (m 384 1)).toNat) rq12061) 376 6 = mq12047 376 6 := ((yup_na (by decide)).trans ((yup_nk (by decide)).trans ((hFq12061 376 6 rfl).trans ((yup_na (by decide)).trans ((yup_na (by decide)).trans ((yup_na (by decide)).trans (yup_na (by decide))))))))
            have es12081 : (yup (yup mq12061 376 14 rq12061) 398 ((10 + (m 384 1)).toNat) rq12061) 376 8 = mq12047 376 8 := ((yup_na (by decide)).trans ((yup_nk (by decide)).trans ((hFq12061 376 8 rfl).trans ((yup_na (by decide)).trans ((yup_na (by decide)).trans ((yup_na (by decide)).trans (yup_na (by decide))))))))
            have es12082 : (yup (yup mq12061 376 14 rq12061) 398 ((10 + (m 384 1)).toNat) rq12061) 376 18 = m 376 18 := ((yup_na (by decide)).trans ((yup_nk (by decide)).trans ((hFq12061 376 18 rfl).trans ((yup_na (by decide)).trans ((yup_na (by decide)).trans ((yup_na (by decide)).trans ((yup_na (by decide)).trans ((hFq12047 376 18 rfl).trans (hFq11972 376 18 rfl)))))))))
            have es12083 : (yup (yup mq12061 376 14 rq12061) 398 ((10 + (m 384 1)).toNat) rq12061) 389 1 = mq12061 389 1 := rfl
            have tb12084 := hTq12061.atp 389 1 0 48 rfl
            have em12085 : mu (yup (yup mq12061 376 14 rq12061) 398 ((10 + (m 384 1)).toNat) rq12061) = mu mq12047 := mu_fr ((yup_na (by decide)).trans ((yup_nk (by decide)).trans ((hFq12061 376 1 rfl).trans ((yup_na (by decide)).trans ((yup_na (by decide)).trans ((yup_na (by decide)).trans (yup_na (by decide)))))))) ((yup_na (by decide)).trans ((yup_nk (by decide)).trans ((hFq12061 376 3 rfl).trans ((yup_na (by decide)).trans ((yup_na (by decide)).trans ((yup_na (by decide)).trans (yup_na (by decide)))))))) ((yup_na (by decide)).trans ((yup_nk (by decide)).trans ((hFq12061 376 6 rfl).trans ((yup_na (by decide)).trans ((yup_na (by decide)).trans ((yup_na (by decide)).trans (yup_na (by decide))))))))
            refine y_callIB 158 [.ref 376, yI ((-1))] [] c126_155 rfl rfl rfl rfl rfl (ycanO km124 ko376) (t124_1 hT12075 (by omega) (by omega) (by omega)) (fun rq12077 mq12077 nq12077 hq12077 => ?_)
            obtain ⟨rfl, hTq12077, hFq12077, hq12077⟩ := hq12077
            have x1q12077 : mq12077 376 1 = m 376 1 := ((hFq12077 376 1 rfl).trans ((yup_na (by decide)).trans ((yup_nk (by decide)).trans ((hFq12061 376 1 rfl).trans ((yup_na (by decide)).trans ((yup_na (by decide)).trans ((yup_na (by decide)).trans ((yup_na (by decide)).trans ((hFq12047 376 1 rfl).trans (hFq11972 376 1 rfl))))))))))
            have hF12086 := hF12076.tr hFq12077 wVp1_wMh1
            refine y_istore 160 c126_158 rfl rfl ?_
            refine y_aload 161 c126_160 rfl rfl rfl ?_
            refine y_getR 164 c126_161 rfl kf376_21 ?_
            refine y_iload 165 c126_164 rfl rfl ?_
            refine y_dup2 166 c126_165 rfl ⟨rfl, rfl⟩ ?_
            refine y_iaX 167 (m 384 1) c126_166 rfl ka384 (by decide) ((hFq12077 384 1 rfl).trans ((yup_na (by decide)).trans ((yup_na (by decide)).trans ((hFq12061 384 1 rfl).trans ((yup_na (by decide)).trans ((yup_na (by decide)).trans ((yup_na (by decide)).trans ((yup_na (by decide)).trans ((hFq12047 384 1 rfl).trans (hFq11972 384 1 rfl)))))))))) ?_
            refine y_iconst 168 c126_167 rfl ?_
            refine y_iadd 169 c126_168 rfl ?_
            refine y_iastore 170 c126_169 rfl ka384 (by omega) (y_nar0 _) ?_
            have hT12087 := hTq12077.up 384 ((1 : Int).toNat) ((m 384 1) + 1) 0 10 rfl (by omega)
            have hF12088 := hF12086.up 384 ((1 : Int).toNat) ((m 384 1) + 1) rfl
            refine y_aload 171 c126_170 rfl rfl rfl ?_
            refine y_iconst 173 c126_171 rfl ?_
            have es12090 : (yup mq12077 384 ((1 : Int).toNat) ((m 384 1) + 1)) 376 1 = m 376 1 := ((yup_na (by decide)).trans ((hFq12077 376 1 rfl).trans ((yup_na (by decide)).trans ((yup_nk (by decide)).trans ((hFq12061 376 1 rfl).trans ((yup_na (by decide)).trans ((yup_na (by decide)).trans ((yup_na (by decide)).trans ((yup_na (by decide)).trans ((hFq12047 376 1 rfl).trans (hFq11972 376 1 rfl)))))))))))
            have es12091 : (yup mq12077 384 ((1 : Int).toNat) ((m 384 1) + 1)) 376 3 = mq12047 376 3 := ((yup_na (by decide)).trans ((hFq12077 376 3 rfl).trans ((yup_na (by decide)).trans ((yup_nk (by decide)).trans ((hFq12061 376 3 rfl).trans ((yup_na (by decide)).trans ((yup_na (by decide)).trans ((yup_na (by decide)).trans (yup_na (by decide))))))))))
            have es12092 : (yup mq12077 384 ((1 : Int).toNat) ((m 384 1) + 1)) 376 6 = mq12047 376 6 := ((yup_na (by decide)).trans ((hFq12077 376 6 rfl).trans ((yup_na (by decide)).trans ((yup_nk (by decide)).trans ((hFq12061 376 6 rfl).trans ((yup_na (by decide)).trans ((yup_na (by decide)).trans ((yup_na (by decide)).trans (yup_na (by decide))))))))))
            have es12093 : (yup mq12077 384 ((1 : Int).toNat) ((m 384 1) + 1)) 376 8 = mq12047 376 8 := ((yup_na (by decide)).trans ((hFq12077 376 8 rfl).trans ((yup_na (by decide)).trans ((yup_nk (by decide)).trans ((hFq12061 376 8 rfl).trans ((yup_na (by decide)).trans ((yup_na (by decide)).trans ((yup_na (by decide)).trans (yup_na (by decide))))))))))
            have em12094 : mu (yup mq12077 384 ((1 : Int).toNat) ((m 384 1) + 1)) = mu mq12047 := mu_fr ((yup_na (by decide)).trans ((hFq12077 376 1 rfl).trans ((yup_na (by decide)).trans ((yup_nk (by decide)).trans ((hFq12061 376 1 rfl).trans ((yup_na (by decide)).trans ((yup_na (by decide)).trans ((yup_na (by decide)).trans (yup_na (by decide)))))))))) ((yup_na (by decide)).trans ((hFq12077 376 3 rfl).trans ((yup_na (by decide)).trans ((yup_nk (by decide)).trans ((hFq12061 376 3 rfl).trans ((yup_na (by decide)).trans ((yup_na (by decide)).trans ((yup_na (by decide)).trans (yup_na (by decide)))))))))) ((yup_na (by decide)).trans ((hFq12077 376 6 rfl).trans ((yup_na (by decide)).trans ((yup_nk (by decide)).trans ((hFq12061 376 6 rfl).trans ((yup_na (by decide)).trans ((yup_na (by decide)).trans ((yup_na (by decide)).trans (yup_na (by decide))))))))))
            refine y_callIB 176 [.ref 376, yI 40] [] c126_173 rfl rfl rfl rfl rfl (ycanO km118 ko376) (t118 hT12087 (by omega) (by omega)) (fun rq12089 mq12089 nq12089 hq12089 => ?_)
            obtain ⟨rfl, hTq12089, hFq12089, hq12089⟩ := hq12089
            have x1q12089 : mq12089 376 1 = m 376 1 := ((hFq12089 376 1 rfl).trans ((yup_na (by decide)).trans ((hFq12077 376 1 rfl).trans ((yup_na (by decide)).trans ((yup_nk (by decide)).trans ((hFq12061 376 1 rfl).trans ((yup_na (by decide)).trans ((yup_na (by decide)).trans ((yup_na (by decide)).trans ((yup_na (by decide)).trans ((hFq12047 376 1 rfl).trans (hFq11972 376 1 rfl))))))))))))
            have hF12095 := hF12088.tr hFq12089 wNw_wMh1
            refine y_if 180 179 c126_176 rfl rfl (yz_ne (by omega)) (fun hb12096 => ?_) (fun hb12096 => ?_)
            · refine y_aload 181 c126_180 rfl rfl rfl ?_
              have tb12097 := hTq12089.atp 376 3 0 3 rfl
              refine y_callP 184 [.ref 376] [] c126_181 rfl rfl rfl rfl rfl (ycanO km115 ko376) (t115 hTq12089) (fun r12098 hr12098 => ?_)
              refine y_if 193 187 c126_184 rfl rfl (yz_eq (by omega)) (fun hb12099 => ?_) (fun hb12099 => ?_)
              · refine y_aload 194 c126_193 rfl rfl rfl ?_
                refine y_getX 197 (mq12089 376 8) c126_194 rfl kf376_8 rfl ?_
                have tb12100 := hTq12089.atp 376 8 ((-1)) 320 rfl
                refine y_if 209 200 c126_197 rfl rfl (yz_ge (by omega)) (fun hb12101 => ?_) (fun hb12101 => ?_)
                · have es12102 : mq12089 376 1 = m 376 1 := ((hFq12089 376 1 rfl).trans ((yup_na (by decide)).trans ((hFq12077 376 1 rfl).trans ((yup_na (by decide)).trans ((yup_nk (by decide)).trans ((hFq12061 376 1 rfl).trans ((yup_na (by decide)).trans ((yup_na (by decide)).trans ((yup_na (by decide)).trans ((yup_na (by decide)).trans ((hFq12047 376 1 rfl).trans (hFq11972 376 1 rfl))))))))))))
                  have tb12103 := hTq12089.atp 376 6 0 320 rfl
                  have es12104 : mq12089 384 1 = (m 384 1) + 1 := ((hFq12089 384 1 rfl).trans (yup_eq _ _ _ _))
                  have es12105 : mq12089 389 1 = mq12077 389 1 := ((hFq12089 389 1 rfl).trans (yup_na (by decide)))
                  have tb12106 := hTq12077.atp 389 1 0 48 rfl
                  have es12107 : mq12089 376 14 = rq12061 := ((hFq12089 376 14 rfl).trans ((yup_na (by decide)).trans ((hFq12077 376 14 rfl).trans ((yup_na (by decide)).trans (yup_eq _ _ _ _)))))
                  exact y_retU c126_209 ⟨rfl, hTq12089, hF12095, by omega, Or.inl (by omega)⟩
                · refine y_aload 201 c126_200 rfl rfl rfl ?_
                  refine y_iconst 203 c126_201 rfl ?_
                  have es12109 : mq12089 376 1 = m 376 1 := ((hFq12089 376 1 rfl).trans ((yup_na (by decide)).trans ((hFq12077 376 1 rfl).trans ((yup_na (by decide)).trans ((yup_nk (by decide)).trans ((hFq12061 376 1 rfl).trans ((yup_na (by decide)).trans ((yup_na (by decide)).trans ((yup_na (by decide)).trans ((yup_na (by decide)).trans ((hFq12047 376 1 rfl).trans (hFq11972 376 1 rfl))))))))))))
                  have tb12110 := hTq12089.atp 376 6 0 320 rfl
                  refine y_callIB 206 [.ref 376, yI 41] [] c126_203 rfl rfl rfl rfl rfl (ycanO km118 ko376) (t118 hTq12089 (by omega) (by omega)) (fun rq12108 mq12108 nq12108 hq12108 => ?_)
                  obtain ⟨rfl, hTq12108, hFq12108, hq12108⟩ := hq12108
                  have x1q12108 : mq12108 376 1 = m 376 1 := ((hFq12108 376 1 rfl).trans ((hFq12089 376 1 rfl).trans ((yup_na (by decide)).trans ((hFq12077 376 1 rfl).trans ((yup_na (by decide)).trans ((yup_nk (by decide)).trans ((hFq12061 376 1 rfl).trans ((yup_na (by decide)).trans ((yup_na (by decide)).trans ((yup_na (by decide)).trans ((yup_na (by decide)).trans ((hFq12047 376 1 rfl).trans (hFq11972 376 1 rfl)))))))))))))
                  have hF12111 := hF12095.tr hFq12108 wNw_wMh1
                  refine y_if 210 209 c126_206 rfl rfl (yz_ne (by omega)) (fun hb12112 => ?_) (fun hb12112 => ?_)
                  · refine y_aload 211 c126_210 rfl rfl rfl ?_
                    refine y_iconst 213 c126_211 rfl ?_
                    have es12114 : mq12108 376 1 = m 376 1 := ((hFq12108 376 1 rfl).trans ((hFq12089 376 1 rfl).trans ((yup_na (by decide)).trans ((hFq12077 376 1 rfl).trans ((yup_na (by decide)).trans ((yup_nk (by decide)).trans ((hFq12061 376 1 rfl).trans ((yup_na (by decide)).trans ((yup_na (by decide)).trans ((yup_na (by decide)).trans ((yup_na (by decide)).trans ((hFq12047 376 1 rfl).trans (hFq11972 376 1 rfl)))))))))))))
                    have tb12115 := hTq12108.atp 376 3 0 3 rfl
                    have tb12116 := hTq12108.atp 376 6 0 320 rfl
                    have tb12117 := hTq12108.atp 376 8 ((-1)) 320 rfl
                    refine y_callIB 216 [.ref 376, yI 123] [] c126_213 rfl rfl rfl rfl rfl (ycanO km118 ko376) (t118 hTq12108 (by omega) (by omega)) (fun rq12113 mq12113 nq12113 hq12113 => ?_)
                    obtain ⟨rfl, hTq12113, hFq12113, hq12113⟩ := hq12113
                    have x1q12113 : mq12113 376 1 = m 376 1 := ((hFq12113 376 1 rfl).trans ((hFq12108 376 1 rfl).trans ((hFq12089 376 1 rfl).trans ((yup_na (by decide)).trans ((hFq12077 376 1 rfl).trans ((yup_na (by decide)).trans ((yup_nk (by decide)).trans ((hFq12061 376 1 rfl).trans ((yup_na (by decide)).trans ((yup_na (by decide)).trans ((yup_na (by decide)).trans ((yup_na (by decide)).trans ((hFq12047 376 1 rfl).trans (hFq11972 376 1 rfl))))))))))))))
                    have hF12118 := hF12111.tr hFq12113 wNw_wMh1
                    refine y_if 220 219 c126_216 rfl rfl (yz_ne (by omega)) (fun hb12119 => ?_) (fun hb12119 => ?_)
                    · have es12120 : mq12113 376 1 = m 376 1 := ((hFq12113 376 1 rfl).trans ((hFq12108 376 1 rfl).trans ((hFq12089 376 1 rfl).trans ((yup_na (by decide)).trans ((hFq12077 376 1 rfl).trans ((yup_na (by decide)).trans ((yup_nk (by decide)).trans ((hFq12061 376 1 rfl).trans ((yup_na (by decide)).trans ((yup_na (by decide)).trans ((yup_na (by decide)).trans ((yup_na (by decide)).trans ((hFq12047 376 1 rfl).trans (hFq11972 376 1 rfl))))))))))))))
                      have tb12121 := hTq12113.atp 376 3 0 3 rfl
                      have tb12122 := hTq12113.atp 376 6 0 320 rfl
                      have tb12123 := hTq12113.atp 376 8 ((-1)) 320 rfl
                      have es12124 : mq12113 384 1 = (m 384 1) + 1 := ((hFq12113 384 1 rfl).trans ((hFq12108 384 1 rfl).trans ((hFq12089 384 1 rfl).trans (yup_eq _ _ _ _))))
                      have es12125 : mq12113 389 1 = mq12077 389 1 := ((hFq12113 389 1 rfl).trans ((hFq12108 389 1 rfl).trans ((hFq12089 389 1 rfl).trans (yup_na (by decide)))))
                      have tb12126 := hTq12077.atp 389 1 0 48 rfl
                      have es12127 : mq12113 376 14 = rq12061 := ((hFq12113 376 14 rfl).trans ((hFq12108 376 14 rfl).trans ((hFq12089 376 14 rfl).trans ((yup_na (by decide)).trans ((hFq12077 376 14 rfl).trans ((yup_na (by decide)).trans (yup_eq _ _ _ _)))))))
                      have a397 : mq12113 397 (10 * 1 + (m 384 1).toNat) = 0 := by rw [show 10 * 1 + (m 384 1).toNat = (10 + (m 384 1)).toNat by omega]; exact ((hFq12113 397 _ rfl).trans ((hFq12108 397 _ rfl).trans ((hFq12089 397 _ rfl).trans ((yup_na (by decide)).trans ((hFq12077 397 _ rfl).trans ((yup_na (by decide)).trans ((yup_na (by decide)).trans ((hFq12061 397 _ rfl).trans ((yup_na (by decide)).trans (yup_eq _ _ _ _))))))))))
                      have a398 : mq12113 398 (10 * 1 + (m 384 1).toNat) = rq12061 := by rw [show 10 * 1 + (m 384 1).toNat = (10 + (m 384 1)).toNat by omega]; exact ((hFq12113 398 _ rfl).trans ((hFq12108 398 _ rfl).trans ((hFq12089 398 _ rfl).trans ((yup_na (by decide)).trans ((hFq12077 398 _ rfl).trans (yup_eq _ _ _ _))))))
                      have a399 : mq12113 399 (10 * 1 + (m 384 1).toNat) = m 390 1 := by rw [show 10 * 1 + (m 384 1).toNat = (10 + (m 384 1)).toNat by omega]; exact ((hFq12113 399 _ rfl).trans ((hFq12108 399 _ rfl).trans ((hFq12089 399 _ rfl).trans ((yup_na (by decide)).trans ((hFq12077 399 _ rfl).trans ((yup_na (by decide)).trans ((yup_na (by decide)).trans ((hFq12061 399 _ rfl).trans (yup_eq _ _ _ _)))))))))
                      have hx : XD 1 mq12113 := XD.meth hC (by omega) (fun a q ha h1 h2 h3 h4 => hF12118 a q (wMh1_C a q ha h1 h2 h3 h4)) (by omega) (fun k hk => ⟨((hFq12113 397 _ rfl).trans ((hFq12108 397 _ rfl).trans ((hFq12089 397 _ rfl).trans ((yup_na (by decide)).trans ((hFq12077 397 _ rfl).trans ((yup_na (by decide)).trans ((yup_na (by decide)).trans ((hFq12061 397 _ rfl).trans ((yup_na (by decide)).trans ((yup_nk (by omega)).trans ((yup_na (by decide)).trans ((yup_na (by decide)).trans ((hFq12047 397 _ rfl).trans (hFq11972 397 _ rfl)))))))))))))), ((hFq12113 398 _ rfl).trans ((hFq12108 398 _ rfl).trans ((hFq12089 398 _ rfl).trans ((yup_na (by decide)).trans ((hFq12077 398 _ rfl).trans ((yup_nk (by omega)).trans ((yup_na (by decide)).trans ((hFq12061 398 _ rfl).trans ((yup_na (by decide)).trans ((yup_na (by decide)).trans ((yup_na (by decide)).trans ((yup_na (by decide)).trans ((hFq12047 398 _ rfl).trans (hFq11972 398 _ rfl)))))))))))))), ((hFq12113 399 _ rfl).trans ((hFq12108 399 _ rfl).trans ((hFq12089 399 _ rfl).trans ((yup_na (by decide)).trans ((hFq12077 399 _ rfl).trans ((yup_na (by decide)).trans ((yup_na (by decide)).trans ((hFq12061 399 _ rfl).trans ((yup_nk (by omega)).trans ((yup_na (by decide)).trans ((yup_na (by decide)).trans ((yup_na (by decide)).trans ((hFq12047 399 _ rfl).trans (hFq11972 399 _ rfl))))))))))))))⟩) (by omega)
                      exact y_retU c126_220 ⟨rfl, hTq12113, hF12118, by omega, Or.inr ⟨by omega, by omega, by omega, hx⟩⟩
                    · have es12128 : mq12113 376 1 = m 376 1 := ((hFq12113 376 1 rfl).trans ((hFq12108 376 1 rfl).trans ((hFq12089 376 1 rfl).trans ((yup_na (by decide)).trans ((hFq12077 376 1 rfl).trans ((yup_na (by decide)).trans ((yup_nk (by decide)).trans ((hFq12061 376 1 rfl).trans ((yup_na (by decide)).trans ((yup_na (by decide)).trans ((yup_na (by decide)).trans ((yup_na (by decide)).trans ((hFq12047 376 1 rfl).trans (hFq11972 376 1 rfl))))))))))))))
                      have tb12129 := hTq12113.atp 376 3 0 3 rfl
                      have tb12130 := hTq12113.atp 376 6 0 320 rfl
                      have tb12131 := hTq12113.atp 376 8 ((-1)) 320 rfl
                      have es12132 : mq12113 384 1 = (m 384 1) + 1 := ((hFq12113 384 1 rfl).trans ((hFq12108 384 1 rfl).trans ((hFq12089 384 1 rfl).trans (yup_eq _ _ _ _))))
                      have es12133 : mq12113 389 1 = mq12077 389 1 := ((hFq12113 389 1 rfl).trans ((hFq12108 389 1 rfl).trans ((hFq12089 389 1 rfl).trans (yup_na (by decide)))))
                      have tb12134 := hTq12077.atp 389 1 0 48 rfl
                      have es12135 : mq12113 376 14 = rq12061 := ((hFq12113 376 14 rfl).trans ((hFq12108 376 14 rfl).trans ((hFq12089 376 14 rfl).trans ((yup_na (by decide)).trans ((hFq12077 376 14 rfl).trans ((yup_na (by decide)).trans (yup_eq _ _ _ _)))))))
                      exact y_retU c126_219 ⟨rfl, hTq12113, hF12118, by omega, Or.inl (by omega)⟩
                  · have es12136 : mq12108 376 1 = m 376 1 := ((hFq12108 376 1 rfl).trans ((hFq12089 376 1 rfl).trans ((yup_na (by decide)).trans ((hFq12077 376 1 rfl).trans ((yup_na (by decide)).trans ((yup_nk (by decide)).trans ((hFq12061 376 1 rfl).trans ((yup_na (by decide)).trans ((yup_na (by decide)).trans ((yup_na (by decide)).trans ((yup_na (by decide)).trans ((hFq12047 376 1 rfl).trans (hFq11972 376 1 rfl)))))))))))))
                    have tb12137 := hTq12108.atp 376 3 0 3 rfl
                    have tb12138 := hTq12108.atp 376 6 0 320 rfl
                    have tb12139 := hTq12108.atp 376 8 ((-1)) 320 rfl
                    have es12140 : mq12108 384 1 = (m 384 1) + 1 := ((hFq12108 384 1 rfl).trans ((hFq12089 384 1 rfl).trans (yup_eq _ _ _ _)))
                    have es12141 : mq12108 389 1 = mq12077 389 1 := ((hFq12108 389 1 rfl).trans ((hFq12089 389 1 rfl).trans (yup_na (by decide))))
                    have tb12142 := hTq12077.atp 389 1 0 48 rfl
                    have es12143 : mq12108 376 14 = rq12061 := ((hFq12108 376 14 rfl).trans ((hFq12089 376 14 rfl).trans ((yup_na (by decide)).trans ((hFq12077 376 14 rfl).trans ((yup_na (by decide)).trans (yup_eq _ _ _ _))))))
                    exact y_retU c126_209 ⟨rfl, hTq12108, hF12111, by omega, Or.inl (by omega)⟩
              · refine y_aload 188 c126_187 rfl rfl rfl ?_
                refine y_iload 190 c126_188 rfl rfl ?_
                have es12145 : mq12089 376 1 = m 376 1 := ((hFq12089 376 1 rfl).trans ((yup_na (by decide)).trans ((hFq12077 376 1 rfl).trans ((yup_na (by decide)).trans ((yup_nk (by decide)).trans ((hFq12061 376 1 rfl).trans ((yup_na (by decide)).trans ((yup_na (by decide)).trans ((yup_na (by decide)).trans ((yup_na (by decide)).trans ((hFq12047 376 1 rfl).trans (hFq11972 376 1 rfl))))))))))))
                have tb12146 := hTq12089.atp 376 6 0 320 rfl
                have tb12147 := hTq12089.atp 376 8 ((-1)) 320 rfl
                have es12148 : mq12089 389 1 = mq12077 389 1 := ((hFq12089 389 1 rfl).trans (yup_na (by decide)))
                have tb12149 := hTq12077.atp 389 1 0 48 rfl
                have es12150 : mq12089 376 14 = rq12061 := ((hFq12089 376 14 rfl).trans ((yup_na (by decide)).trans ((hFq12077 376 14 rfl).trans ((yup_na (by decide)).trans (yup_eq _ _ _ _)))))
                have es12151 : mq12089 384 1 = (m 384 1) + 1 := ((hFq12089 384 1 rfl).trans (yup_eq _ _ _ _))
                have es12152 : mq12089 376 18 = m 376 18 := ((hFq12089 376 18 rfl).trans ((yup_na (by decide)).trans ((hFq12077 376 18 rfl).trans ((yup_na (by decide)).trans ((yup_nk (by decide)).trans ((hFq12061 376 18 rfl).trans ((yup_na (by decide)).trans ((yup_na (by decide)).trans ((yup_na (by decide)).trans ((yup_na (by decide)).trans ((hFq12047 376 18 rfl).trans (hFq11972 376 18 rfl))))))))))))
                have a398 : mq12089 398 (10 + (m 384 1)).toNat = rq12061 := ((hFq12089 398 _ rfl).trans ((yup_na (by decide)).trans ((hFq12077 398 _ rfl).trans (yup_eq _ _ _ _))))
                have a397 : mq12089 397 (10 + (m 384 1)).toNat = 0 := ((hFq12089 397 _ rfl).trans ((yup_na (by decide)).trans ((hFq12077 397 _ rfl).trans ((yup_na (by decide)).trans ((yup_na (by decide)).trans ((hFq12061 397 _ rfl).trans ((yup_na (by decide)).trans (yup_eq _ _ _ _))))))))
                refine y_callUB 193 [.ref 376, yI (10 + (m 384 1))] [] c126_190 rfl rfl rfl rfl rfl (ycanO km125 ko376) (t125_1 (k := 10 + (m 384 1)) hTq12089 (by omega) (by omega) (by omega) (by omega) (by omega) (by omega)) (fun mq12144 nq12144 hq12144 => ?_)
                obtain ⟨rfl, hTq12144, hFq12144, hlq12144, hq12144, hzq12144⟩ := hq12144
                have x1q12144 : mq12144 376 1 = m 376 1 := ((hFq12144 376 1 rfl).trans ((hFq12089 376 1 rfl).trans ((yup_na (by decide)).trans ((hFq12077 376 1 rfl).trans ((yup_na (by decide)).trans ((yup_nk (by decide)).trans ((hFq12061 376 1 rfl).trans ((yup_na (by decide)).trans ((yup_na (by decide)).trans ((yup_na (by decide)).trans ((yup_na (by decide)).trans ((hFq12047 376 1 rfl).trans (hFq11972 376 1 rfl)))))))))))))
                have hF12153 := hF12095.tr hFq12144 wPz1_wMh1
                refine y_aload 194 c126_193 rfl rfl rfl ?_
                refine y_getX 197 (mq12144 376 8) c126_194 rfl kf376_8 rfl ?_
                have tb12154 := hTq12144.atp 376 8 ((-1)) 320 rfl
                refine y_if 209 200 c126_197 rfl rfl (yz_ge (by omega)) (fun hb12155 => ?_) (fun hb12155 => ?_)
                · have es12156 : mq12144 376 1 = m 376 1 := ((hFq12144 376 1 rfl).trans ((hFq12089 376 1 rfl).trans ((yup_na (by decide)).trans ((hFq12077 376 1 rfl).trans ((yup_na (by decide)).trans ((yup_nk (by decide)).trans ((hFq12061 376 1 rfl).trans ((yup_na (by decide)).trans ((yup_na (by decide)).trans ((yup_na (by decide)).trans ((yup_na (by decide)).trans ((hFq12047 376 1 rfl).trans (hFq11972 376 1 rfl)))))))))))))
                  have tb12157 := hTq12144.atp 376 3 0 3 rfl
                  have tb12158 := hTq12144.atp 376 6 0 320 rfl
                  have es12159 : mq12144 384 1 = (m 384 1) + 1 := ((hFq12144 384 1 rfl).trans ((hFq12089 384 1 rfl).trans (yup_eq _ _ _ _)))
                  have tb12160 := hTq12144.atp 389 1 0 48 rfl
                  have es12161 : mq12144 376 14 = rq12061 := ((hFq12144 376 14 rfl).trans ((hFq12089 376 14 rfl).trans ((yup_na (by decide)).trans ((hFq12077 376 14 rfl).trans ((yup_na (by decide)).trans (yup_eq _ _ _ _))))))
                  exact y_retU c126_209 ⟨rfl, hTq12144, hF12153, by omega, Or.inl (by omega)⟩
                · refine y_aload 201 c126_200 rfl rfl rfl ?_
                  refine y_iconst 203 c126_201 rfl ?_
                  have es12163 : mq12144 376 1 = m 376 1 := ((hFq12144 376 1 rfl).trans ((hFq12089 376 1 rfl).trans ((yup_na (by decide)).trans ((hFq12077 376 1 rfl).trans ((yup_na (by decide)).trans ((yup_nk (by decide)).trans ((hFq12061 376 1 rfl).trans ((yup_na (by decide)).trans ((yup_na (by decide)).trans ((yup_na (by decide)).trans ((yup_na (by decide)).trans ((hFq12047 376 1 rfl).trans (hFq11972 376 1 rfl)))))))))))))
                  have tb12164 := hTq12144.atp 376 3 0 3 rfl
                  have tb12165 := hTq12144.atp 376 6 0 320 rfl
                  refine y_callIB 206 [.ref 376, yI 41] [] c126_203 rfl rfl rfl rfl rfl (ycanO km118 ko376) (t118 hTq12144 (by omega) (by omega)) (fun rq12162 mq12162 nq12162 hq12162 => ?_)
                  obtain ⟨rfl, hTq12162, hFq12162, hq12162⟩ := hq12162
                  have x1q12162 : mq12162 376 1 = m 376 1 := ((hFq12162 376 1 rfl).trans ((hFq12144 376 1 rfl).trans ((hFq12089 376 1 rfl).trans ((yup_na (by decide)).trans ((hFq12077 376 1 rfl).trans ((yup_na (by decide)).trans ((yup_nk (by decide)).trans ((hFq12061 376 1 rfl).trans ((yup_na (by decide)).trans ((yup_na (by decide)).trans ((yup_na (by decide)).trans ((yup_na (by decide)).trans ((hFq12047 376 1 rfl).trans (hFq11972 376 1 rfl))))))))))))))
                  have hF12166 := hF12153.tr hFq12162 wNw_wMh1
                  refine y_if 210 209 c126_206 rfl rfl (yz_ne (by omega)) (fun hb12167 => ?_) (fun hb12167 => ?_)
                  · refine y_aload 211 c126_210 rfl rfl rfl ?_
                    refine y_iconst 213 c126_211 rfl ?_
                    have es12169 : mq12162 376 1 = m 376 1 := ((hFq12162 376 1 rfl).trans ((hFq12144 376 1 rfl).trans ((hFq12089 376 1 rfl).trans ((yup_na (by decide)).trans ((hFq12077 376 1 rfl).trans ((yup_na (by decide)).trans ((yup_nk (by decide)).trans ((hFq12061 376 1 rfl).trans ((yup_na (by decide)).trans ((yup_na (by decide)).trans ((yup_na (by decide)).trans ((yup_na (by decide)).trans ((hFq12047 376 1 rfl).trans (hFq11972 376 1 rfl))))))))))))))
                    have tb12170 := hTq12162.atp 376 3 0 3 rfl
                    have tb12171 := hTq12162.atp 376 6 0 320 rfl
                    have tb12172 := hTq12162.atp 376 8 ((-1)) 320 rfl
                    refine y_callIB 216 [.ref 376, yI 123] [] c126_213 rfl rfl rfl rfl rfl (ycanO km118 ko376) (t118 hTq12162 (by omega) (by omega)) (fun rq12168 mq12168 nq12168 hq12168 => ?_)
                    obtain ⟨rfl, hTq12168, hFq12168, hq12168⟩ := hq12168
                    have x1q12168 : mq12168 376 1 = m 376 1 := ((hFq12168 376 1 rfl).trans ((hFq12162 376 1 rfl).trans ((hFq12144 376 1 rfl).trans ((hFq12089 376 1 rfl).trans ((yup_na (by decide)).trans ((hFq12077 376 1 rfl).trans ((yup_na (by decide)).trans ((yup_nk (by decide)).trans ((hFq12061 376 1 rfl).trans ((yup_na (by decide)).trans ((yup_na (by decide)).trans ((yup_na (by decide)).trans ((yup_na (by decide)).trans ((hFq12047 376 1 rfl).trans (hFq11972 376 1 rfl)))))))))))))))
                    have hF12173 := hF12166.tr hFq12168 wNw_wMh1
                    refine y_if 220 219 c126_216 rfl rfl (yz_ne (by omega)) (fun hb12174 => ?_) (fun hb12174 => ?_)
                    · have es12175 : mq12168 376 1 = m 376 1 := ((hFq12168 376 1 rfl).trans ((hFq12162 376 1 rfl).trans ((hFq12144 376 1 rfl).trans ((hFq12089 376 1 rfl).trans ((yup_na (by decide)).trans ((hFq12077 376 1 rfl).trans ((yup_na (by decide)).trans ((yup_nk (by decide)).trans ((hFq12061 376 1 rfl).trans ((yup_na (by decide)).trans ((yup_na (by decide)).trans ((yup_na (by decide)).trans ((yup_na (by decide)).trans ((hFq12047 376 1 rfl).trans (hFq11972 376 1 rfl)))))))))))))))
                      have tb12176 := hTq12168.atp 376 3 0 3 rfl
                      have tb12177 := hTq12168.atp 376 6 0 320 rfl
                      have tb12178 := hTq12168.atp 376 8 ((-1)) 320 rfl
                      have es12179 : mq12168 384 1 = (m 384 1) + 1 := ((hFq12168 384 1 rfl).trans ((hFq12162 384 1 rfl).trans ((hFq12144 384 1 rfl).trans ((hFq12089 384 1 rfl).trans (yup_eq _ _ _ _)))))
                      have es12180 : mq12168 389 1 = mq12144 389 1 := ((hFq12168 389 1 rfl).trans (hFq12162 389 1 rfl))
                      have tb12181 := hTq12144.atp 389 1 0 48 rfl
                      have es12182 : mq12168 376 14 = rq12061 := ((hFq12168 376 14 rfl).trans ((hFq12162 376 14 rfl).trans ((hFq12144 376 14 rfl).trans ((hFq12089 376 14 rfl).trans ((yup_na (by decide)).trans ((hFq12077 376 14 rfl).trans ((yup_na (by decide)).trans (yup_eq _ _ _ _))))))))
                      have a397 : mq12168 397 (10 * 1 + (m 384 1).toNat) = mq12144 397 (10 + (m 384 1)).toNat := by rw [show 10 * 1 + (m 384 1).toNat = (10 + (m 384 1)).toNat by omega]; exact ((hFq12168 397 _ rfl).trans (hFq12162 397 _ rfl))
                      have a398 : mq12168 398 (10 * 1 + (m 384 1).toNat) = rq12061 := by rw [show 10 * 1 + (m 384 1).toNat = (10 + (m 384 1)).toNat by omega]; exact ((hFq12168 398 _ rfl).trans ((hFq12162 398 _ rfl).trans ((hFq12144 398 _ rfl).trans ((hFq12089 398 _ rfl).trans ((yup_na (by decide)).trans ((hFq12077 398 _ rfl).trans (yup_eq _ _ _ _)))))))
                      have a399 : mq12168 399 (10 * 1 + (m 384 1).toNat) = m 390 1 := by rw [show 10 * 1 + (m 384 1).toNat = (10 + (m 384 1)).toNat by omega]; exact ((hFq12168 399 _ rfl).trans ((hFq12162 399 _ rfl).trans ((hFq12144 399 _ rfl).trans ((hFq12089 399 _ rfl).trans ((yup_na (by decide)).trans ((hFq12077 399 _ rfl).trans ((yup_na (by decide)).trans ((yup_na (by decide)).trans ((hFq12061 399 _ rfl).trans (yup_eq _ _ _ _))))))))))
                      have hx : XD 1 mq12168 := XD.meth hC (by omega) (fun a q ha h1 h2 h3 h4 => hF12173 a q (wMh1_C a q ha h1 h2 h3 h4)) (by omega) (fun k hk => ⟨((hFq12168 397 _ rfl).trans ((hFq12162 397 _ rfl).trans ((hzq12144 _ (by omega)).trans ((hFq12089 397 _ rfl).trans ((yup_na (by decide)).trans ((hFq12077 397 _ rfl).trans ((yup_na (by decide)).trans ((yup_na (by decide)).trans ((hFq12061 397 _ rfl).trans ((yup_na (by decide)).trans ((yup_nk (by omega)).trans ((yup_na (by decide)).trans ((yup_na (by decide)).trans ((hFq12047 397 _ rfl).trans (hFq11972 397 _ rfl))))))))))))))), ((hFq12168 398 _ rfl).trans ((hFq12162 398 _ rfl).trans ((hFq12144 398 _ rfl).trans ((hFq12089 398 _ rfl).trans ((yup_na (by decide)).trans ((hFq12077 398 _ rfl).trans ((yup_nk (by omega)).trans ((yup_na (by decide)).trans ((hFq12061 398 _ rfl).trans ((yup_na (by decide)).trans ((yup_na (by decide)).trans ((yup_na (by decide)).trans ((yup_na (by decide)).trans ((hFq12047 398 _ rfl).trans (hFq11972 398 _ rfl))))))))))))))), ((hFq12168 399 _ rfl).trans ((hFq12162 399 _ rfl).trans ((hFq12144 399 _ rfl).trans ((hFq12089 399 _ rfl).trans ((yup_na (by decide)).trans ((hFq12077 399 _ rfl).trans ((yup_na (by decide)).trans ((yup_na (by decide)).trans ((hFq12061 399 _ rfl).trans ((yup_nk (by omega)).trans ((yup_na (by decide)).trans ((yup_na (by decide)).trans ((yup_na (by decide)).trans ((hFq12047 399 _ rfl).trans (hFq11972 399 _ rfl)))))))))))))))⟩) (by omega)
                      exact y_retU c126_220 ⟨rfl, hTq12168, hF12173, by omega, Or.inr ⟨by omega, by omega, by omega, hx⟩⟩
                    · have es12183 : mq12168 376 1 = m 376 1 := ((hFq12168 376 1 rfl).trans ((hFq12162 376 1 rfl).trans ((hFq12144 376 1 rfl).trans ((hFq12089 376 1 rfl).trans ((yup_na (by decide)).trans ((hFq12077 376 1 rfl).trans ((yup_na (by decide)).trans ((yup_nk (by decide)).trans ((hFq12061 376 1 rfl).trans ((yup_na (by decide)).trans ((yup_na (by decide)).trans ((yup_na (by decide)).trans ((yup_na (by decide)).trans ((hFq12047 376 1 rfl).trans (hFq11972 376 1 rfl)))))))))))))))
                      have tb12184 := hTq12168.atp 376 3 0 3 rfl
                      have tb12185 := hTq12168.atp 376 6 0 320 rfl
                      have tb12186 := hTq12168.atp 376 8 ((-1)) 320 rfl
                      have es12187 : mq12168 384 1 = (m 384 1) + 1 := ((hFq12168 384 1 rfl).trans ((hFq12162 384 1 rfl).trans ((hFq12144 384 1 rfl).trans ((hFq12089 384 1 rfl).trans (yup_eq _ _ _ _)))))
                      have es12188 : mq12168 389 1 = mq12144 389 1 := ((hFq12168 389 1 rfl).trans (hFq12162 389 1 rfl))
                      have tb12189 := hTq12144.atp 389 1 0 48 rfl
                      have es12190 : mq12168 376 14 = rq12061 := ((hFq12168 376 14 rfl).trans ((hFq12162 376 14 rfl).trans ((hFq12144 376 14 rfl).trans ((hFq12089 376 14 rfl).trans ((yup_na (by decide)).trans ((hFq12077 376 14 rfl).trans ((yup_na (by decide)).trans (yup_eq _ _ _ _))))))))
                      exact y_retU c126_219 ⟨rfl, hTq12168, hF12173, by omega, Or.inl (by omega)⟩
                  · have es12191 : mq12162 376 1 = m 376 1 := ((hFq12162 376 1 rfl).trans ((hFq12144 376 1 rfl).trans ((hFq12089 376 1 rfl).trans ((yup_na (by decide)).trans ((hFq12077 376 1 rfl).trans ((yup_na (by decide)).trans ((yup_nk (by decide)).trans ((hFq12061 376 1 rfl).trans ((yup_na (by decide)).trans ((yup_na (by decide)).trans ((yup_na (by decide)).trans ((yup_na (by decide)).trans ((hFq12047 376 1 rfl).trans (hFq11972 376 1 rfl))))))))))))))
                    have tb12192 := hTq12162.atp 376 3 0 3 rfl
                    have tb12193 := hTq12162.atp 376 6 0 320 rfl
                    have tb12194 := hTq12162.atp 376 8 ((-1)) 320 rfl
                    have es12195 : mq12162 384 1 = (m 384 1) + 1 := ((hFq12162 384 1 rfl).trans ((hFq12144 384 1 rfl).trans ((hFq12089 384 1 rfl).trans (yup_eq _ _ _ _))))
                    have es12196 : mq12162 389 1 = mq12144 389 1 := (hFq12162 389 1 rfl)
                    have tb12197 := hTq12144.atp 389 1 0 48 rfl
                    have es12198 : mq12162 376 14 = rq12061 := ((hFq12162 376 14 rfl).trans ((hFq12144 376 14 rfl).trans ((hFq12089 376 14 rfl).trans ((yup_na (by decide)).trans ((hFq12077 376 14 rfl).trans ((yup_na (by decide)).trans (yup_eq _ _ _ _)))))))
                    exact y_retU c126_209 ⟨rfl, hTq12162, hF12166, by omega, Or.inl (by omega)⟩
            · have es12199 : mq12089 376 1 = m 376 1 := ((hFq12089 376 1 rfl).trans ((yup_na (by decide)).trans ((hFq12077 376 1 rfl).trans ((yup_na (by decide)).trans ((yup_nk (by decide)).trans ((hFq12061 376 1 rfl).trans ((yup_na (by decide)).trans ((yup_na (by decide)).trans ((yup_na (by decide)).trans ((yup_na (by decide)).trans ((hFq12047 376 1 rfl).trans (hFq11972 376 1 rfl))))))))))))
              have tb12200 := hTq12089.atp 376 3 0 3 rfl
              have tb12201 := hTq12089.atp 376 6 0 320 rfl
              have tb12202 := hTq12089.atp 376 8 ((-1)) 320 rfl
              have es12203 : mq12089 384 1 = (m 384 1) + 1 := ((hFq12089 384 1 rfl).trans (yup_eq _ _ _ _))
              have es12204 : mq12089 389 1 = mq12077 389 1 := ((hFq12089 389 1 rfl).trans (yup_na (by decide)))
              have tb12205 := hTq12077.atp 389 1 0 48 rfl
              have es12206 : mq12089 376 14 = rq12061 := ((hFq12089 376 14 rfl).trans ((yup_na (by decide)).trans ((hFq12077 376 14 rfl).trans ((yup_na (by decide)).trans (yup_eq _ _ _ _)))))
              exact y_retU c126_179 ⟨rfl, hTq12089, hF12095, by omega, Or.inl (by omega)⟩
          · have es12207 : mq12047 376 1 = m 376 1 := ((hFq12047 376 1 rfl).trans (hFq11972 376 1 rfl))
            have tb12208 := hTq12047.atp 376 3 0 3 rfl
            have tb12209 := hTq12047.atp 376 6 0 320 rfl
            have tb12210 := hTq12047.atp 376 8 ((-1)) 320 rfl
            have es12211 : mq12047 384 1 = m 384 1 := ((hFq12047 384 1 rfl).trans (hFq11972 384 1 rfl))
            have es12212 : mq12047 389 1 = m 389 1 := ((hFq12047 389 1 rfl).trans (hFq11972 389 1 rfl))
            have es12213 : mq12047 376 14 = m 376 14 := ((hFq12047 376 14 rfl).trans (hFq11972 376 14 rfl))
            have tb12214 := hT.atp 376 14 0 46 rfl
            exact y_retU c126_81 ⟨rfl, hTq12047, hF12051, by omega, Or.inl (by omega)⟩

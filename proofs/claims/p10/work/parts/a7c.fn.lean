/-! FUNCTIONS OF THE METHODS: printed by wip/fn/dc.py -/
def F61 (f : Nat) (A : Nat) (a1 : Nat) (m : yM) : Option (Int × yM) := (if m A 14 = 12 then (some (0, m)) else (some (1, yup (yup (yup m a1 0 5) a1 6 (m A 14)) A 14 (wr ((m A 14) + 1)))))
set_option maxRecDepth 100000 in
theorem d61 {L : Nat} {xs : Nat → Int32} {k d n : Nat} {c : yS3} {f : Nat} {A : Nat} {a1 : Nat} {m : yM} (hk : k ≤ f) (hA : (A = 256 ∨ A = 316)) (hs1 : (276 ≤ a1 ∧ a1 < 316) ∨ (336 ≤ a1 ∧ a1 < 376)) (hR : RM c m) : PC (gZ L xs) k d 61 [.ref A, .ref a1] m n (qS c (F61 f A a1 m)) := by
  have hX : F61 f A a1 m = F61 f A a1 m := rfl
  have Hr : ∀ r m', F61 f A a1 m = some (r, m') → rg r → RM c m' → ∀ n' : Nat, (qS c (F61 f A a1 m)) (.inl (some (yI r))) m' n' := fun r m' e h1 h2 n' => ⟨r, rfl, h1, h2, e⟩
  refine PC.mk [some (.ref A), some (.ref a1)] kn61 rfl ?_
  refine p_aload 1 c61_0 rfl rfl ?_
  refine p_getX 4 (m A 14) c61_1 rfl (kP_14 hA) rfl ?_
  refine p_iconst 6 c61_4 rfl ?_
  refine p_icmp 11 9 c61_6 rfl rfl (yc_ne (hR.rg _ _) (rgD rfl)) (fun hb1512 k1513 hk1513 => ?_) (fun hb1512 k1514 hk1514 => ?_)
  · have hX1515 := hX.trans (if_neg hb1512)
    refine p_aload 12 c61_11 rfl rfl ?_
    refine p_iconst 13 c61_12 rfl ?_
    refine p_putI 16 c61_13 rfl (kS_0 hs1) ?_
    have hR1516 := hR.up a1 0 (v := 5) (nselA (by omega)) (rgD rfl)
    refine p_aload 17 c61_16 rfl rfl ?_
    refine p_aload 18 c61_17 rfl rfl ?_
    refine p_getX 21 (m A 14) c61_18 rfl (kP_14 hA) (yup_na (by omega)) ?_
    refine p_putI 24 c61_21 rfl (kS_6 hs1) ?_
    have hR1517 := hR1516.up a1 6 (v := m A 14) (nselA (by omega)) (hR.rg _ _)
    refine p_aload 25 c61_24 rfl rfl ?_
    refine p_dup 26 c61_25 rfl rfl ?_
    refine p_getX 29 (m A 14) c61_26 rfl (kP_14 hA) ((yup_na (by omega)).trans (yup_na (by omega))) ?_
    refine p_iconst 30 c61_29 rfl ?_
    refine p_iadd 31 c61_30 rfl ?_
    refine p_putI 34 c61_31 rfl (kP_14 hA) ?_
    have hR1518 := hR1517.up A 14 (v := wr ((m A 14) + 1)) (nselA (by omega)) (rg_wr _)
    refine p_iconst 35 c61_34 rfl ?_
    exact p_ireturn c61_35 (Hr _ _ hX1515 (rgD rfl) hR1518 _)
  · have hX1519 := hX.trans (if_pos (Classical.not_not.mp hb1512))
    refine p_iconst 10 c61_9 rfl ?_
    exact p_ireturn c61_10 (Hr _ _ hX1519 (rgD rfl) hR _)
def F63 (f : Nat) (A : Nat) (a1 : Nat) (m : yM) : Option (Int × yM) := (if m A 13 = 8 then (some (0, m)) else (some (1, yup (yup (yup m a1 0 7) (A + 9) (m A 13).toNat (wr ((m A 16) - 1))) A 13 (wr ((m A 13) + 1)))))
set_option maxRecDepth 100000 in
theorem d63 {L : Nat} {xs : Nat → Int32} {k d n : Nat} {c : yS3} {f : Nat} {A : Nat} {a1 : Nat} {m : yM} (hk : k ≤ f) (hA : (A = 256 ∨ A = 316)) (hs1 : (276 ≤ a1 ∧ a1 < 316) ∨ (336 ≤ a1 ∧ a1 < 376)) (hR : RM c m) : PC (gZ L xs) k d 63 [.ref A, .ref a1] m n (qS c (F63 f A a1 m)) := by
  have hX : F63 f A a1 m = F63 f A a1 m := rfl
  have Hr : ∀ r m', F63 f A a1 m = some (r, m') → rg r → RM c m' → ∀ n' : Nat, (qS c (F63 f A a1 m)) (.inl (some (yI r))) m' n' := fun r m' e h1 h2 n' => ⟨r, rfl, h1, h2, e⟩
  refine PC.mk [some (.ref A), some (.ref a1)] kn63 rfl ?_
  refine p_aload 1 c63_0 rfl rfl ?_
  refine p_getX 4 (m A 13) c63_1 rfl (kP_13 hA) rfl ?_
  refine p_iconst 6 c63_4 rfl ?_
  refine p_icmp 11 9 c63_6 rfl rfl (yc_ne (hR.rg _ _) (rgD rfl)) (fun hb1564 k1565 hk1565 => ?_) (fun hb1564 k1566 hk1566 => ?_)
  · have hX1567 := hX.trans (if_neg hb1564)
    refine p_aload 12 c63_11 rfl rfl ?_
    refine p_iconst 14 c63_12 rfl ?_
    refine p_putI 17 c63_14 rfl (kS_0 hs1) ?_
    have hR1568 := hR.up a1 0 (v := 7) (nselA (by omega)) (rgD rfl)
    refine p_aload 18 c63_17 rfl rfl ?_
    refine p_getR 21 c63_18 rfl (kP_8 hA) ?_
    refine p_aload 22 c63_21 rfl rfl ?_
    refine p_getX 25 (m A 13) c63_22 rfl (kP_13 hA) (yup_na (by omega)) ?_
    refine p_aload 26 c63_25 rfl rfl ?_
    refine p_getX 29 (m A 16) c63_26 rfl (kP_16 hA) (yup_na (by omega)) ?_
    refine p_iconst 30 c63_29 rfl ?_
    refine p_isub 31 c63_30 rfl ?_
    refine p_iaS 32 c63_31 rfl (kPa_9 hA) (hR.rg _ _) (wr ((m A 16) - 1)) (nar0 (rg_wr _)) (fun hx1569 => ?_)
    have hR1570 := hR1568.up (A + 9) (m A 13).toNat (v := wr ((m A 16) - 1)) (nselA (by omega)) (rg_wr _)
    refine p_aload 33 c63_32 rfl rfl ?_
    refine p_dup 34 c63_33 rfl rfl ?_
    refine p_getX 37 (m A 13) c63_34 rfl (kP_13 hA) ((yup_na (by omega)).trans (yup_na (by omega))) ?_
    refine p_iconst 38 c63_37 rfl ?_
    refine p_iadd 39 c63_38 rfl ?_
    refine p_putI 42 c63_39 rfl (kP_13 hA) ?_
    have hR1571 := hR1570.up A 13 (v := wr ((m A 13) + 1)) (nselA (by omega)) (rg_wr _)
    refine p_iconst 43 c63_42 rfl ?_
    exact p_ireturn c63_43 (Hr _ _ hX1567 (rgD rfl) hR1571 _)
  · have hX1572 := hX.trans (if_pos (Classical.not_not.mp hb1564))
    refine p_iconst 10 c63_9 rfl ?_
    exact p_ireturn c63_10 (Hr _ _ hX1572 (rgD rfl) hR _)
def J64_161 (f : Nat) (A : Nat) (a1 : Nat) (as0 : Nat) (xs1 : Int) (m : yM) : Option (Int × yM) := (if (yup m as0 0 xs1) a1 3 = (-1) then (some (0, yup m as0 0 xs1)) else (if (yup m as0 0 xs1) a1 0 = 8 then (some (1, yup m as0 0 xs1)) else (bI (F62 f 46 a1 (yup m as0 0 xs1)) (fun r1664 m1666 => (if r1664 = 0 then (some (0, m1666)) else (some (1, m1666)))))))
set_option maxRecDepth 100000 in
theorem tJ64_161 {L : Nat} {xs : Nat → Int32} {Q : xO → yM → Nat → Prop} {k d n : Nat} {c : yS3} {f : Nat} {A : Nat} {a1 : Nat} {as0 : Nat} {xs1 : Int} {m : yM} (hk : k ≤ f) (hc : c.1 = pX A) (hA : (A = 256 ∨ A = 316)) (hs1 : (276 ≤ a1 ∧ a1 < 316) ∨ (336 ≤ a1 ∧ a1 < 376)) (hss0 : (276 ≤ as0 ∧ as0 < 316) ∨ (336 ≤ as0 ∧ as0 < 376)) (gxs1 : rg xs1) (hR : RM c m) (Hr : ∀ r m', J64_161 f A a1 as0 xs1 m = some (r, m') → rg r → RM c m' → ∀ n', Q (.inl (some (yI r))) m' n') : PW (gZ L xs) k 64 d 161 [some (.ref 2), some (.ref a1)] [yI xs1, .ref as0] m n Q := by
  have hX : J64_161 f A a1 as0 xs1 m = J64_161 f A a1 as0 xs1 m := rfl
  refine p_putI 164 c64_161 rfl (kS_0 hss0) ?_
  have hR1649 := hR.up as0 0 (v := xs1) (nselA (by omega)) gxs1
  refine p_aload 165 c64_164 rfl rfl ?_
  refine p_getX 168 ((yup m as0 0 xs1) a1 3) c64_165 rfl (kS_3 hs1) rfl ?_
  refine p_iconst 169 c64_168 rfl ?_
  refine p_icmp 195 172 c64_169 rfl rfl (yc_eq (hR1649.rg _ _) (rgD rfl)) (fun hb1650 k1651 hk1651 => ?_) (fun hb1650 k1652 hk1652 => ?_)
  · have hX1653 := hX.trans (if_pos hb1650)
    refine p_iconst 196 c64_195 rfl ?_
    exact p_ireturn c64_196 (Hr _ _ hX1653 (rgD rfl) hR1649 _)
  · have hX1654 := hX.trans (if_neg hb1650)
    refine p_aload 173 c64_172 rfl rfl ?_
    refine p_getX 176 ((yup m as0 0 xs1) a1 0) c64_173 rfl (kS_0 hs1) rfl ?_
    refine p_iconst 178 c64_176 rfl ?_
    refine p_icmp 191 181 c64_178 rfl rfl (yc_eq (hR1649.rg _ _) (rgD rfl)) (fun hb1655 k1656 hk1656 => ?_) (fun hb1655 k1657 hk1657 => ?_)
    · have hX1658 := hX1654.trans (if_pos hb1655)
      refine p_iconst 192 c64_191 rfl ?_
      refine p_goto 196 c64_192 rfl ?_
      exact p_ireturn c64_196 (Hr _ _ hX1658 (rgD rfl) hR1649 _)
    · have hX1659 := hX1654.trans (if_neg hb1655)
      refine p_aload 182 c64_181 rfl rfl ?_
      refine p_iconst 184 c64_182 rfl ?_
      refine p_aload 185 c64_184 rfl rfl ?_
      refine p_cS 188 [.ref 2, yI 46, .ref a1] [] c64_185 rfl rfl rfl (fun k' hk' d' => d62 (f := f) (by omega) (rgD rfl) hs1 hR1649) (fun r1664 m1666 hF1662 hg1663 hR1667 n1661 k1660 hk1660 => ?_)
      have hX1665 := hX1659.trans (bI_s hF1662)
      refine p_if 195 191 c64_188 rfl rfl (yz_eq hg1663) (fun hb1668 k1669 hk1669 => ?_) (fun hb1668 k1670 hk1670 => ?_)
      · have hX1671 := hX1665.trans (if_pos hb1668)
        refine p_iconst 196 c64_195 rfl ?_
        exact p_ireturn c64_196 (Hr _ _ hX1671 (rgD rfl) hR1667 _)
      · have hX1672 := hX1665.trans (if_neg hb1668)
        refine p_iconst 192 c64_191 rfl ?_
        refine p_goto 196 c64_192 rfl ?_
        exact p_ireturn c64_196 (Hr _ _ hX1672 (rgD rfl) hR1667 _)
def F64 (f : Nat) (A : Nat) (a1 : Nat) (m : yM) : Option (Int × yM) := (if F38 m = 4 then (bI (F61 f A a1 m) (fun r1522 m1524 => (if r1522 = 0 then (bI (F43 f m1524) (fun r1534 m1536 => (some (r1534, m1536)))) else (bI (F62 f 4 a1 m1524) (fun r1543 m1545 => (some (r1543, m1545))))))) else (if F38 m = 5 then (bI (F37 f 5 (yup m a1 0 6)) (fun r1555 m1557 => (some (r1555, m1557)))) else (if F38 m = 40 then (bI (F63 f A a1 m) (fun r1575 m1577 => (if r1575 = 0 then (bI (F43 f m1577) (fun r1628 m1630 => (some (r1628, m1630)))) else (bI (F62 f 40 a1 m1577) (fun r1587 m1589 => (if r1587 = 0 then (some (0, m1589)) else (bI (F37 f 41 m1589) (fun r1600 m1602 => (if r1600 = 0 then (some (0, m1602)) else (bI (F58 f A m1602) (fun r1612 m1614 => (if r1612 = (-1) then (some (0, yup m1614 a1 3 r1612)) else (some (1, yup m1614 a1 3 r1612)))))))))))))) else (bI (F58 f A m) (fun r1637 m1639 => (if F38 (yup m1639 a1 3 r1637) = 46 then (J64_161 f A a1 a1 9 (yup m1639 a1 3 r1637)) else (J64_161 f A a1 a1 8 (yup m1639 a1 3 r1637))))))))
set_option maxRecDepth 100000 in
theorem d64 {L : Nat} {xs : Nat → Int32} {k d n : Nat} {c : yS3} {f : Nat} {A : Nat} {a1 : Nat} {m : yM} (hk : k ≤ f) (hc : c.1 = pX A) (hA : (A = 256 ∨ A = 316)) (hs1 : (276 ≤ a1 ∧ a1 < 316) ∨ (336 ≤ a1 ∧ a1 < 376)) (hR : RM c m) : PC (gZ L xs) k d 64 [.ref 2, .ref a1] m n (qS c (F64 f A a1 m)) := by
  have hX : F64 f A a1 m = F64 f A a1 m := rfl
  have Hr : ∀ r m', F64 f A a1 m = some (r, m') → rg r → RM c m' → ∀ n' : Nat, (qS c (F64 f A a1 m)) (.inl (some (yI r))) m' n' := fun r m' e h1 h2 n' => ⟨r, rfl, h1, h2, e⟩
  refine PC.mk [some (.ref 2), some (.ref a1)] kn64 rfl ?_
  refine p_aload 1 c64_0 rfl rfl ?_
  refine p_cX 4 [.ref 2] [] c64_1 rfl rfl rfl (fun k' hk' d' => d38 hR) (fun hg1507 n1506 k1505 hk1505 => ?_)
  by_cases hk1508 : F38 m = 4
  · have hX1509 := hX.trans (if_pos hk1508)
    refine p_top 4 hk1508 ?_
    refine p_lsw 40 c64_4 (rgD rfl) (o := 36) (by decide) rfl ?_
    refine p_aload 41 c64_40 rfl rfl ?_
    refine p_getV 44 (.ref A) c64_41 rfl kf2_1 (pX_of hA hR.2.2.2.1 hc) ?_
    refine p_aload 45 c64_44 rfl rfl ?_
    refine p_cS 48 [.ref A, .ref a1] [] c64_45 rfl rfl rfl (fun k' hk' d' => d61 (f := f) (by omega) hA hs1 hR) (fun r1522 m1524 hF1520 hg1521 hR1525 n1511 k1510 hk1510 => ?_)
    have hX1523 := hX1509.trans (bI_s hF1520)
    refine p_if 60 51 c64_48 rfl rfl (yz_eq hg1521) (fun hb1526 k1527 hk1527 => ?_) (fun hb1526 k1528 hk1528 => ?_)
    · have hX1529 := hX1523.trans (if_pos hb1526)
      refine p_aload 61 c64_60 rfl rfl ?_
      refine p_cS 64 [.ref 2] [] c64_61 rfl rfl rfl (fun k' hk' d' => d43 (f := f) (by omega) hR1525) (fun r1534 m1536 hF1532 hg1533 hR1537 n1531 k1530 hk1530 => ?_)
      have hX1535 := hX1529.trans (bI_s hF1532)
      exact p_ireturn c64_64 (Hr _ _ hX1535 hg1533 hR1537 _)
    · have hX1538 := hX1523.trans (if_neg hb1526)
      refine p_aload 52 c64_51 rfl rfl ?_
      refine p_iconst 53 c64_52 rfl ?_
      refine p_aload 54 c64_53 rfl rfl ?_
      refine p_cS 57 [.ref 2, yI 4, .ref a1] [] c64_54 rfl rfl rfl (fun k' hk' d' => d62 (f := f) (by omega) (rgD rfl) hs1 hR1525) (fun r1543 m1545 hF1541 hg1542 hR1546 n1540 k1539 hk1539 => ?_)
      have hX1544 := hX1538.trans (bI_s hF1541)
      refine p_goto 64 c64_57 rfl ?_
      exact p_ireturn c64_64 (Hr _ _ hX1544 hg1542 hR1546 _)
  have hX1547 := hX.trans (if_neg hk1508)
  by_cases hk1548 : F38 m = 5
  · have hX1549 := hX1547.trans (if_pos hk1548)
    refine p_top 5 hk1548 ?_
    refine p_lsw 65 c64_4 (rgD rfl) (o := 61) (by decide) rfl ?_
    refine p_aload 66 c64_65 rfl rfl ?_
    refine p_iconst 68 c64_66 rfl ?_
    refine p_putI 71 c64_68 rfl (kS_0 hs1) ?_
    have hR1550 := hR.up a1 0 (v := 6) (nselA (by omega)) (rgD rfl)
    refine p_aload 72 c64_71 rfl rfl ?_
    refine p_iconst 73 c64_72 rfl ?_
    refine p_cS 76 [.ref 2, yI 5] [] c64_73 rfl rfl rfl (fun k' hk' d' => d37 (f := f) (by omega) (rgD rfl) hR1550) (fun r1555 m1557 hF1553 hg1554 hR1558 n1552 k1551 hk1551 => ?_)
    have hX1556 := hX1549.trans (bI_s hF1553)
    exact p_ireturn c64_76 (Hr _ _ hX1556 hg1554 hR1558 _)
  have hX1559 := hX1547.trans (if_neg hk1548)
  by_cases hk1560 : F38 m = 40
  · have hX1561 := hX1559.trans (if_pos hk1560)
    refine p_top 40 hk1560 ?_
    refine p_lsw 77 c64_4 (rgD rfl) (o := 73) (by decide) rfl ?_
    refine p_aload 78 c64_77 rfl rfl ?_
    refine p_getV 81 (.ref A) c64_78 rfl kf2_1 (pX_of hA hR.2.2.2.1 hc) ?_
    refine p_aload 82 c64_81 rfl rfl ?_
    refine p_cS 85 [.ref A, .ref a1] [] c64_82 rfl rfl rfl (fun k' hk' d' => d63 (f := f) (by omega) hA hs1 hR) (fun r1575 m1577 hF1573 hg1574 hR1578 n1563 k1562 hk1562 => ?_)
    have hX1576 := hX1561.trans (bI_s hF1573)
    refine p_if 93 88 c64_85 rfl rfl (yz_ne hg1574) (fun hb1579 k1580 hk1580 => ?_) (fun hb1579 k1581 hk1581 => ?_)
    · have hX1582 := hX1576.trans (if_neg hb1579)
      refine p_aload 94 c64_93 rfl rfl ?_
      refine p_iconst 96 c64_94 rfl ?_
      refine p_aload 97 c64_96 rfl rfl ?_
      refine p_cS 100 [.ref 2, yI 40, .ref a1] [] c64_97 rfl rfl rfl (fun k' hk' d' => d62 (f := f) (by omega) (rgD rfl) hs1 hR1578) (fun r1587 m1589 hF1585 hg1586 hR1590 n1584 k1583 hk1583 => ?_)
      have hX1588 := hX1582.trans (bI_s hF1585)
      refine p_if 112 103 c64_100 rfl rfl (yz_eq hg1586) (fun hb1591 k1592 hk1592 => ?_) (fun hb1591 k1593 hk1593 => ?_)
      · have hX1594 := hX1588.trans (if_pos hb1591)
        refine p_iconst 113 c64_112 rfl ?_
        exact p_ireturn c64_113 (Hr _ _ hX1594 (rgD rfl) hR1590 _)
      · have hX1595 := hX1588.trans (if_neg hb1591)
        refine p_aload 104 c64_103 rfl rfl ?_
        refine p_iconst 106 c64_104 rfl ?_
        refine p_cS 109 [.ref 2, yI 41] [] c64_106 rfl rfl rfl (fun k' hk' d' => d37 (f := f) (by omega) (rgD rfl) hR1590) (fun r1600 m1602 hF1598 hg1599 hR1603 n1597 k1596 hk1596 => ?_)
        have hX1601 := hX1595.trans (bI_s hF1598)
        refine p_if 114 112 c64_109 rfl rfl (yz_ne hg1599) (fun hb1604 k1605 hk1605 => ?_) (fun hb1604 k1606 hk1606 => ?_)
        · have hX1607 := hX1601.trans (if_neg hb1604)
          refine p_aload 115 c64_114 rfl rfl ?_
          refine p_aload 116 c64_115 rfl rfl ?_
          refine p_cS 119 [.ref 2] [.ref a1] c64_116 rfl rfl rfl (fun k' hk' d' => d58 (f := f) (by omega) hc hA hR1603) (fun r1612 m1614 hF1610 hg1611 hR1615 n1609 k1608 hk1608 => ?_)
          have hX1613 := hX1607.trans (bI_s hF1610)
          refine p_putI 122 c64_119 rfl (kS_3 hs1) ?_
          have hR1616 := hR1615.up a1 3 (v := r1612) (nselA (by omega)) hg1611
          refine p_aload 123 c64_122 rfl rfl ?_
          refine p_getX 126 r1612 c64_123 rfl (kS_3 hs1) (yup_eq _ _ _ _) ?_
          refine p_iconst 127 c64_126 rfl ?_
          refine p_icmp 134 130 c64_127 rfl rfl (yc_eq hg1611 (rgD rfl)) (fun hb1617 k1618 hk1618 => ?_) (fun hb1617 k1619 hk1619 => ?_)
          · have hX1620 := hX1613.trans (if_pos hb1617)
            refine p_iconst 135 c64_134 rfl ?_
            exact p_ireturn c64_135 (Hr _ _ hX1620 (rgD rfl) hR1616 _)
          · have hX1621 := hX1613.trans (if_neg hb1617)
            refine p_iconst 131 c64_130 rfl ?_
            refine p_goto 135 c64_131 rfl ?_
            exact p_ireturn c64_135 (Hr _ _ hX1621 (rgD rfl) hR1616 _)
        · have hX1622 := hX1601.trans (if_pos (Classical.not_not.mp hb1604))
          refine p_iconst 113 c64_112 rfl ?_
          exact p_ireturn c64_113 (Hr _ _ hX1622 (rgD rfl) hR1603 _)
    · have hX1623 := hX1576.trans (if_pos (Classical.not_not.mp hb1579))
      refine p_aload 89 c64_88 rfl rfl ?_
      refine p_cS 92 [.ref 2] [] c64_89 rfl rfl rfl (fun k' hk' d' => d43 (f := f) (by omega) hR1578) (fun r1628 m1630 hF1626 hg1627 hR1631 n1625 k1624 hk1624 => ?_)
      have hX1629 := hX1623.trans (bI_s hF1626)
      exact p_ireturn c64_92 (Hr _ _ hX1629 hg1627 hR1631 _)
  have hX1632 := hX1559.trans (if_neg hk1560)
  refine p_lsw 136 c64_4 hg1507 (o := 132) (by simp [Op.lookupswitch.offset, List.find?]; rw [if_neg (fun e => hk1508 e.symm), if_neg (fun e => hk1548 e.symm), if_neg (fun e => hk1560 e.symm)]) rfl ?_
  refine p_aload 137 c64_136 rfl rfl ?_
  refine p_aload 138 c64_137 rfl rfl ?_
  refine p_cS 141 [.ref 2] [.ref a1] c64_138 rfl rfl rfl (fun k' hk' d' => d58 (f := f) (by omega) hc hA hR) (fun r1637 m1639 hF1635 hg1636 hR1640 n1634 k1633 hk1633 => ?_)
  have hX1638 := hX1632.trans (bI_s hF1635)
  refine p_putI 144 c64_141 rfl (kS_3 hs1) ?_
  have hR1641 := hR1640.up a1 3 (v := r1637) (nselA (by omega)) hg1636
  refine p_aload 145 c64_144 rfl rfl ?_
  refine p_aload 146 c64_145 rfl rfl ?_
  refine p_cX 149 [.ref 2] [.ref a1] c64_146 rfl rfl rfl (fun k' hk' d' => d38 hR1641) (fun hg1644 n1643 k1642 hk1642 => ?_)
  refine p_iconst 151 c64_149 rfl ?_
  refine p_icmp 159 154 c64_151 rfl rfl (yc_ne hg1644 (rgD rfl)) (fun hb1645 k1646 hk1646 => ?_) (fun hb1645 k1647 hk1647 => ?_)
  · have hX1648 := hX1638.trans (if_neg hb1645)
    refine p_iconst 161 c64_159 rfl ?_
    exact tJ64_161 (f := f) (by omega) hc hA hs1 hs1 (rgD rfl) hR1641 (fun r' m' e' => Hr r' m' (hX1648.trans e'))
  · have hX1673 := hX1638.trans (if_pos (Classical.not_not.mp hb1645))
    refine p_iconst 156 c64_154 rfl ?_
    refine p_goto 161 c64_156 rfl ?_
    exact tJ64_161 (f := f) (by omega) hc hA hs1 hs1 (rgD rfl) hR1641 (fun r' m' e' => Hr r' m' (hX1673.trans e'))
def J68_124 (f : Nat) (A : Nat) (a1 : Nat) (x4 : Int) (m : yM) : Option (Int × yM) := (if x4 = 0 then (bI (F67 f A a1 m) (fun r1390 m1392 => (if r1390 = 0 then (some (0, m1392)) else (some (1, m1392))))) else (some (1, m)))
set_option maxRecDepth 100000 in
theorem tJ68_124 {L : Nat} {xs : Nat → Int32} {Q : xO → yM → Nat → Prop} {k d n : Nat} {c : yS3} {f : Nat} {A : Nat} {a1 : Nat} {x4 : Int} {m : yM} {j2 j3 : Option Value} (hk : k ≤ f) (hc : c.1 = pX A) (hA : (A = 256 ∨ A = 316)) (hs1 : (276 ≤ a1 ∧ a1 < 316) ∨ (336 ≤ a1 ∧ a1 < 376)) (gx4 : rg x4) (hR : RM c m) (Hr : ∀ r m', J68_124 f A a1 x4 m = some (r, m') → rg r → RM c m' → ∀ n', Q (.inl (some (yI r))) m' n') : PW (gZ L xs) k 68 d 124 [some (.ref 2), some (.ref a1), j2, j3, some (yI x4)] [] m n Q := by
  have hX : J68_124 f A a1 x4 m = J68_124 f A a1 x4 m := rfl
  refine p_iload 126 c68_124 rfl rfl ?_
  refine p_if 137 129 c68_126 rfl rfl (yz_ne gx4) (fun hb1352 k1353 hk1353 => ?_) (fun hb1352 k1354 hk1354 => ?_)
  · have hX1355 := hX.trans (if_neg hb1352)
    refine p_iconst 138 c68_137 rfl ?_
    refine p_goto 142 c68_138 rfl ?_
    exact p_ireturn c68_142 (Hr _ _ hX1355 (rgD rfl) hR _)
  · have hX1356 := hX.trans (if_pos (Classical.not_not.mp hb1352))
    refine p_aload 130 c68_129 rfl rfl ?_
    refine p_aload 131 c68_130 rfl rfl ?_
    refine p_cS 134 [.ref 2, .ref a1] [] c68_131 rfl rfl rfl (fun k' hk' d' => d67 (f := f) (by omega) hc hA hs1 hR) (fun r1390 m1392 hF1388 hg1389 hR1393 n1358 k1357 hk1357 => ?_)
    have hX1391 := hX1356.trans (bI_s hF1388)
    refine p_if 141 137 c68_134 rfl rfl (yz_eq hg1389) (fun hb1394 k1395 hk1395 => ?_) (fun hb1394 k1396 hk1396 => ?_)
    · have hX1397 := hX1391.trans (if_pos hb1394)
      refine p_iconst 142 c68_141 rfl ?_
      exact p_ireturn c68_142 (Hr _ _ hX1397 (rgD rfl) hR1393 _)
    · have hX1398 := hX1391.trans (if_neg hb1394)
      refine p_iconst 138 c68_137 rfl ?_
      refine p_goto 142 c68_138 rfl ?_
      exact p_ireturn c68_142 (Hr _ _ hX1398 (rgD rfl) hR1393 _)
def J68_100 (f : Nat) (A : Nat) (a1 : Nat) (x4 : Int) (m : yM) : Option (Int × yM) := (if m a1 0 = 9 then (if F38 m = 40 then (bI (F66 f A a1 m) (fun r1495 m1497 => (some (r1495, m1497)))) else (J68_124 f A a1 x4 m)) else (J68_124 f A a1 x4 m))
set_option maxRecDepth 100000 in
theorem tJ68_100 {L : Nat} {xs : Nat → Int32} {Q : xO → yM → Nat → Prop} {k d n : Nat} {c : yS3} {f : Nat} {A : Nat} {a1 : Nat} {x4 : Int} {m : yM} {j2 j3 : Option Value} (hk : k ≤ f) (hc : c.1 = pX A) (hA : (A = 256 ∨ A = 316)) (hs1 : (276 ≤ a1 ∧ a1 < 316) ∨ (336 ≤ a1 ∧ a1 < 376)) (gx4 : rg x4) (hR : RM c m) (Hr : ∀ r m', J68_100 f A a1 x4 m = some (r, m') → rg r → RM c m' → ∀ n', Q (.inl (some (yI r))) m' n') : PW (gZ L xs) k 68 d 100 [some (.ref 2), some (.ref a1), j2, j3, some (yI x4)] [] m n Q := by
  have hX : J68_100 f A a1 x4 m = J68_100 f A a1 x4 m := rfl
  refine p_aload 101 c68_100 rfl rfl ?_
  refine p_getX 104 (m a1 0) c68_101 rfl (kS_0 hs1) rfl ?_
  refine p_iconst 106 c68_104 rfl ?_
  refine p_icmp 124 109 c68_106 rfl rfl (yc_ne (hR.rg _ _) (rgD rfl)) (fun hb1348 k1349 hk1349 => ?_) (fun hb1348 k1350 hk1350 => ?_)
  · have hX1351 := hX.trans (if_neg hb1348)
    exact tJ68_124 (f := f) (by omega) hc hA hs1 gx4 hR (fun r' m' e' => Hr r' m' (hX1351.trans e'))
  · have hX1399 := hX.trans (if_pos (Classical.not_not.mp hb1348))
    refine p_aload 110 c68_109 rfl rfl ?_
    refine p_cX 113 [.ref 2] [] c68_110 rfl rfl rfl (fun k' hk' d' => d38 hR) (fun hg1402 n1401 k1400 hk1400 => ?_)
    refine p_iconst 115 c68_113 rfl ?_
    refine p_icmp 124 118 c68_115 rfl rfl (yc_ne hg1402 (rgD rfl)) (fun hb1403 k1404 hk1404 => ?_) (fun hb1403 k1405 hk1405 => ?_)
    · have hX1406 := hX1399.trans (if_neg hb1403)
      exact tJ68_124 (f := f) (by omega) hc hA hs1 gx4 hR (fun r' m' e' => Hr r' m' (hX1406.trans e'))
    · have hX1407 := hX1399.trans (if_pos (Classical.not_not.mp hb1403))
      refine p_aload 119 c68_118 rfl rfl ?_
      refine p_aload 120 c68_119 rfl rfl ?_
      refine p_cS 123 [.ref 2, .ref a1] [] c68_120 rfl rfl rfl (fun k' hk' d' => d66 (f := f) (by omega) hc hA hs1 hR) (fun r1495 m1497 hF1493 hg1494 hR1498 n1409 k1408 hk1408 => ?_)
      have hX1496 := hX1407.trans (bI_s hF1493)
      exact p_ireturn c68_123 (Hr _ _ hX1496 hg1494 hR1498 _)
def J68_45 (f : Nat) (A : Nat) (a1 : Nat) (x3 : Int) (xs0 : Int) (m : yM) : Option (Int × yM) := (if xs0 = 0 then (bI (F62 f 46 a1 (yup (yup m a1 3 x3) a1 0 9)) (fun r1340 m1342 => (if r1340 = 0 then (some (0, m1342)) else (J68_100 f A a1 xs0 m1342)))) else (bI (F64 f A a1 (yup (yup m a1 2 x3) 2 2 (wr ((m 2 2) + 1)))) (fun r1676 m1678 => (if r1676 = 0 then (some (0, m1678)) else (J68_100 f A a1 xs0 m1678)))))
set_option maxRecDepth 100000 in
theorem tJ68_45 {L : Nat} {xs : Nat → Int32} {Q : xO → yM → Nat → Prop} {k d n : Nat} {c : yS3} {f : Nat} {A : Nat} {a1 : Nat} {x3 : Int} {xs0 : Int} {m : yM} {j2 j4 : Option Value} (hk : k ≤ f) (hc : c.1 = pX A) (hA : (A = 256 ∨ A = 316)) (hs1 : (276 ≤ a1 ∧ a1 < 316) ∨ (336 ≤ a1 ∧ a1 < 376)) (gx3 : rg x3) (gxs0 : rg xs0) (hR : RM c m) (Hr : ∀ r m', J68_45 f A a1 x3 xs0 m = some (r, m') → rg r → RM c m' → ∀ n', Q (.inl (some (yI r))) m' n') : PW (gZ L xs) k 68 d 45 [some (.ref 2), some (.ref a1), j2, some (yI x3), j4] [yI xs0] m n Q := by
  have hX : J68_45 f A a1 x3 xs0 m = J68_45 f A a1 x3 xs0 m := rfl
  refine p_istore 47 c68_45 rfl rfl ?_
  refine p_iload 49 c68_47 rfl rfl ?_
  refine p_if 77 52 c68_49 rfl rfl (yz_eq gxs0) (fun hb1305 k1306 hk1306 => ?_) (fun hb1305 k1307 hk1307 => ?_)
  · have hX1308 := hX.trans (if_pos hb1305)
    refine p_aload 78 c68_77 rfl rfl ?_
    refine p_iload 79 c68_78 rfl rfl ?_
    refine p_putI 82 c68_79 rfl (kS_3 hs1) ?_
    have hR1309 := hR.up a1 3 (v := x3) (nselA (by omega)) gx3
    refine p_aload 83 c68_82 rfl rfl ?_
    refine p_iconst 85 c68_83 rfl ?_
    refine p_putI 88 c68_85 rfl (kS_0 hs1) ?_
    have hR1310 := hR1309.up a1 0 (v := 9) (nselA (by omega)) (rgD rfl)
    refine p_aload 89 c68_88 rfl rfl ?_
    refine p_iconst 91 c68_89 rfl ?_
    refine p_aload 92 c68_91 rfl rfl ?_
    refine p_cS 95 [.ref 2, yI 46, .ref a1] [] c68_92 rfl rfl rfl (fun k' hk' d' => d62 (f := f) (by omega) (rgD rfl) hs1 hR1310) (fun r1340 m1342 hF1338 hg1339 hR1343 n1312 k1311 hk1311 => ?_)
    have hX1341 := hX1308.trans (bI_s hF1338)
    refine p_if 100 98 c68_95 rfl rfl (yz_ne hg1339) (fun hb1344 k1345 hk1345 => ?_) (fun hb1344 k1346 hk1346 => ?_)
    · have hX1347 := hX1341.trans (if_neg hb1344)
      exact tJ68_100 (f := f) (by omega) hc hA hs1 gxs0 hR1343 (fun r' m' e' => Hr r' m' (hX1347.trans e'))
    · have hX1499 := hX1341.trans (if_pos (Classical.not_not.mp hb1344))
      refine p_iconst 99 c68_98 rfl ?_
      exact p_ireturn c68_99 (Hr _ _ hX1499 (rgD rfl) hR1343 _)
  · have hX1500 := hX.trans (if_neg hb1305)
    refine p_aload 53 c68_52 rfl rfl ?_
    refine p_iload 54 c68_53 rfl rfl ?_
    refine p_putI 57 c68_54 rfl (kS_2 hs1) ?_
    have hR1501 := hR.up a1 2 (v := x3) (nselA (by omega)) gx3
    refine p_aload 58 c68_57 rfl rfl ?_
    refine p_dup 59 c68_58 rfl rfl ?_
    refine p_getX 62 (m 2 2) c68_59 rfl kf2_2 (yup_na (by omega)) ?_
    refine p_iconst 63 c68_62 rfl ?_
    refine p_iadd 64 c68_63 rfl ?_
    refine p_putI 67 c68_64 rfl kf2_2 ?_
    have hR1502 := hR1501.up 2 2 (v := wr ((m 2 2) + 1)) (nselD rfl) (rg_wr _)
    refine p_aload 68 c68_67 rfl rfl ?_
    refine p_aload 69 c68_68 rfl rfl ?_
    refine p_cS 72 [.ref 2, .ref a1] [] c68_69 rfl rfl rfl (fun k' hk' d' => d64 (f := f) (by omega) hc hA hs1 hR1502) (fun r1676 m1678 hF1674 hg1675 hR1679 n1504 k1503 hk1503 => ?_)
    have hX1677 := hX1500.trans (bI_s hF1674)
    refine p_if 100 75 c68_72 rfl rfl (yz_ne hg1675) (fun hb1680 k1681 hk1681 => ?_) (fun hb1680 k1682 hk1682 => ?_)
    · have hX1683 := hX1677.trans (if_neg hb1680)
      exact tJ68_100 (f := f) (by omega) hc hA hs1 gxs0 hR1679 (fun r' m' e' => Hr r' m' (hX1683.trans e'))
    · have hX1684 := hX1677.trans (if_pos (Classical.not_not.mp hb1680))
      refine p_iconst 76 c68_75 rfl ?_
      exact p_ireturn c68_76 (Hr _ _ hX1684 (rgD rfl) hR1679 _)
def J68_44 (f : Nat) (A : Nat) (a1 : Nat) (x3 : Int) (m : yM) : Option (Int × yM) := (J68_45 f A a1 x3 0 m)
set_option maxRecDepth 100000 in
theorem tJ68_44 {L : Nat} {xs : Nat → Int32} {Q : xO → yM → Nat → Prop} {k d n : Nat} {c : yS3} {f : Nat} {A : Nat} {a1 : Nat} {x3 : Int} {m : yM} {j2 j4 : Option Value} (hk : k ≤ f) (hc : c.1 = pX A) (hA : (A = 256 ∨ A = 316)) (hs1 : (276 ≤ a1 ∧ a1 < 316) ∨ (336 ≤ a1 ∧ a1 < 376)) (gx3 : rg x3) (hR : RM c m) (Hr : ∀ r m', J68_44 f A a1 x3 m = some (r, m') → rg r → RM c m' → ∀ n', Q (.inl (some (yI r))) m' n') : PW (gZ L xs) k 68 d 44 [some (.ref 2), some (.ref a1), j2, some (yI x3), j4] [] m n Q := by
  have hX : J68_44 f A a1 x3 m = J68_44 f A a1 x3 m := rfl
  refine p_iconst 45 c68_44 rfl ?_
  exact tJ68_45 (f := f) (by omega) hc hA hs1 gx3 (rgD rfl) hR (fun r' m' e' => Hr r' m' (hX.trans e'))
def J68_14 (f : Nat) (A : Nat) (a1 : Nat) (xs0 : Int) (m : yM) : Option (Int × yM) := (bI (F58 f A m) (fun r1293 m1295 => (if r1293 = (-1) then (some (0, m1295)) else (if xs0 = 0 then (J68_44 f A a1 r1293 m1295) else (if F38 m1295 = 61 then (J68_45 f A a1 r1293 1 m1295) else (J68_44 f A a1 r1293 m1295))))))
set_option maxRecDepth 100000 in
theorem tJ68_14 {L : Nat} {xs : Nat → Int32} {Q : xO → yM → Nat → Prop} {k d n : Nat} {c : yS3} {f : Nat} {A : Nat} {a1 : Nat} {xs0 : Int} {m : yM} {j2 j3 j4 : Option Value} (hk : k ≤ f) (hc : c.1 = pX A) (hA : (A = 256 ∨ A = 316)) (hs1 : (276 ≤ a1 ∧ a1 < 316) ∨ (336 ≤ a1 ∧ a1 < 376)) (gxs0 : rg xs0) (hR : RM c m) (Hr : ∀ r m', J68_14 f A a1 xs0 m = some (r, m') → rg r → RM c m' → ∀ n', Q (.inl (some (yI r))) m' n') : PW (gZ L xs) k 68 d 14 [some (.ref 2), some (.ref a1), j2, j3, j4] [yI xs0] m n Q := by
  have hX : J68_14 f A a1 xs0 m = J68_14 f A a1 xs0 m := rfl
  refine p_istore 15 c68_14 rfl rfl ?_
  refine p_aload 16 c68_15 rfl rfl ?_
  refine p_cS 19 [.ref 2] [] c68_16 rfl rfl rfl (fun k' hk' d' => d58 (f := f) (by omega) hc hA hR) (fun r1293 m1295 hF1291 hg1292 hR1296 n1290 k1289 hk1289 => ?_)
  have hX1294 := hX.trans (bI_s hF1291)
  refine p_istore 20 c68_19 rfl rfl ?_
  refine p_iload 21 c68_20 rfl rfl ?_
  refine p_iconst 22 c68_21 rfl ?_
  refine p_icmp 27 25 c68_22 rfl rfl (yc_ne hg1292 (rgD rfl)) (fun hb1297 k1298 hk1298 => ?_) (fun hb1297 k1299 hk1299 => ?_)
  · have hX1300 := hX1294.trans (if_neg hb1297)
    refine p_iload 28 c68_27 rfl rfl ?_
    refine p_if 44 31 c68_28 rfl rfl (yz_eq gxs0) (fun hb1301 k1302 hk1302 => ?_) (fun hb1301 k1303 hk1303 => ?_)
    · have hX1304 := hX1300.trans (if_pos hb1301)
      exact tJ68_44 (f := f) (by omega) hc hA hs1 hg1292 hR1296 (fun r' m' e' => Hr r' m' (hX1304.trans e'))
    · have hX1685 := hX1300.trans (if_neg hb1301)
      refine p_aload 32 c68_31 rfl rfl ?_
      refine p_cX 35 [.ref 2] [] c68_32 rfl rfl rfl (fun k' hk' d' => d38 hR1296) (fun hg1688 n1687 k1686 hk1686 => ?_)
      refine p_iconst 37 c68_35 rfl ?_
      refine p_icmp 44 40 c68_37 rfl rfl (yc_ne hg1688 (rgD rfl)) (fun hb1689 k1690 hk1690 => ?_) (fun hb1689 k1691 hk1691 => ?_)
      · have hX1692 := hX1685.trans (if_neg hb1689)
        exact tJ68_44 (f := f) (by omega) hc hA hs1 hg1292 hR1296 (fun r' m' e' => Hr r' m' (hX1692.trans e'))
      · have hX1693 := hX1685.trans (if_pos (Classical.not_not.mp hb1689))
        refine p_iconst 41 c68_40 rfl ?_
        refine p_goto 45 c68_41 rfl ?_
        exact tJ68_45 (f := f) (by omega) hc hA hs1 hg1292 (rgD rfl) hR1296 (fun r' m' e' => Hr r' m' (hX1693.trans e'))
  · have hX1694 := hX1294.trans (if_pos (Classical.not_not.mp hb1297))
    refine p_iconst 26 c68_25 rfl ?_
    exact p_ireturn c68_26 (Hr _ _ hX1694 (rgD rfl) hR1296 _)
def F68 (f : Nat) (A : Nat) (a1 : Nat) (m : yM) : Option (Int × yM) := (if F38 m = 11 then (J68_14 f A a1 1 m) else (J68_14 f A a1 0 m))
set_option maxRecDepth 100000 in
theorem d68 {L : Nat} {xs : Nat → Int32} {k d n : Nat} {c : yS3} {f : Nat} {A : Nat} {a1 : Nat} {m : yM} (hk : k ≤ f) (hc : c.1 = pX A) (hA : (A = 256 ∨ A = 316)) (hs1 : (276 ≤ a1 ∧ a1 < 316) ∨ (336 ≤ a1 ∧ a1 < 376)) (hR : RM c m) : PC (gZ L xs) k d 68 [.ref 2, .ref a1] m n (qS c (F68 f A a1 m)) := by
  have hX : F68 f A a1 m = F68 f A a1 m := rfl
  have Hr : ∀ r m', F68 f A a1 m = some (r, m') → rg r → RM c m' → ∀ n' : Nat, (qS c (F68 f A a1 m)) (.inl (some (yI r))) m' n' := fun r m' e h1 h2 n' => ⟨r, rfl, h1, h2, e⟩
  refine PC.mk [some (.ref 2), some (.ref a1), none, none, none] kn68 rfl ?_
  refine p_aload 1 c68_0 rfl rfl ?_
  refine p_cX 4 [.ref 2] [] c68_1 rfl rfl rfl (fun k' hk' d' => d38 hR) (fun hg1284 n1283 k1282 hk1282 => ?_)
  refine p_iconst 6 c68_4 rfl ?_
  refine p_icmp 13 9 c68_6 rfl rfl (yc_ne hg1284 (rgD rfl)) (fun hb1285 k1286 hk1286 => ?_) (fun hb1285 k1287 hk1287 => ?_)
  · have hX1288 := hX.trans (if_neg hb1285)
    refine p_iconst 14 c68_13 rfl ?_
    exact tJ68_14 (f := f) (by omega) hc hA hs1 (rgD rfl) hR (fun r' m' e' => Hr r' m' (hX1288.trans e'))
  · have hX1695 := hX.trans (if_pos (Classical.not_not.mp hb1285))
    refine p_iconst 10 c68_9 rfl ?_
    refine p_goto 14 c68_10 rfl ?_
    exact tJ68_14 (f := f) (by omega) hc hA hs1 (rgD rfl) hR (fun r' m' e' => Hr r' m' (hX1695.trans e'))
def F60 (f : Nat) (A : Nat) (a1 : Nat) (m : yM) : Option (Int × yM) := (bI (F58 f A (yup (yup (yup m a1 0 2) a1 2 (m (A + 10 + (m a1 1).toNat) 2)) 2 2 (wr ((m 2 2) + 1)))) (fun r1744 m1746 => (if r1744 = (-1) then (some (0, yup m1746 a1 3 r1744)) else (some (1, yup m1746 a1 3 r1744)))))
set_option maxRecDepth 100000 in
theorem d60 {L : Nat} {xs : Nat → Int32} {k d n : Nat} {c : yS3} {f : Nat} {A : Nat} {a1 : Nat} {m : yM} (hk : k ≤ f) (hc : c.1 = pX A) (hA : (A = 256 ∨ A = 316)) (hs1 : (276 ≤ a1 ∧ a1 < 316) ∨ (336 ≤ a1 ∧ a1 < 376)) (hR : RM c m) : PC (gZ L xs) k d 60 [.ref 2, .ref a1] m n (qS c (F60 f A a1 m)) := by
  have hX : F60 f A a1 m = F60 f A a1 m := rfl
  have Hr : ∀ r m', F60 f A a1 m = some (r, m') → rg r → RM c m' → ∀ n' : Nat, (qS c (F60 f A a1 m)) (.inl (some (yI r))) m' n' := fun r m' e h1 h2 n' => ⟨r, rfl, h1, h2, e⟩
  refine PC.mk [some (.ref 2), some (.ref a1)] kn60 rfl ?_
  refine p_aload 1 c60_0 rfl rfl ?_
  refine p_iconst 2 c60_1 rfl ?_
  refine p_putI 5 c60_2 rfl (kS_0 hs1) ?_
  have hR1736 := hR.up a1 0 (v := 2) (nselA (by omega)) (rgD rfl)
  refine p_aload 6 c60_5 rfl rfl ?_
  refine p_aload 7 c60_6 rfl rfl ?_
  refine p_getV 10 (.ref A) c60_7 rfl kf2_1 (pX_of hA hR1736.2.2.2.1 hc) ?_
  refine p_getR 13 c60_10 rfl (kP_5 hA) ?_
  refine p_aload 14 c60_13 rfl rfl ?_
  refine p_getX 17 (m a1 1) c60_14 rfl (kS_1 hs1) (yup_nk (by decide)) ?_
  refine p_aaX 18 c60_17 rfl (kPr_6 hA) (hR.rg _ _) (fun hx1737 => ?_)
  refine p_getX 21 (m (A + 10 + (m a1 1).toNat) 2) c60_18 rfl (kM_2 (kMr hA hx1737)) (yup_na (by omega)) ?_
  refine p_putI 24 c60_21 rfl (kS_2 hs1) ?_
  have hR1738 := hR1736.up a1 2 (v := m (A + 10 + (m a1 1).toNat) 2) (nselA (by omega)) (hR.rg _ _)
  refine p_aload 25 c60_24 rfl rfl ?_
  refine p_dup 26 c60_25 rfl rfl ?_
  refine p_getX 29 (m 2 2) c60_26 rfl kf2_2 ((yup_na (by omega)).trans (yup_na (by omega))) ?_
  refine p_iconst 30 c60_29 rfl ?_
  refine p_iadd 31 c60_30 rfl ?_
  refine p_putI 34 c60_31 rfl kf2_2 ?_
  have hR1739 := hR1738.up 2 2 (v := wr ((m 2 2) + 1)) (nselD rfl) (rg_wr _)
  refine p_aload 35 c60_34 rfl rfl ?_
  refine p_aload 36 c60_35 rfl rfl ?_
  refine p_cS 39 [.ref 2] [.ref a1] c60_36 rfl rfl rfl (fun k' hk' d' => d58 (f := f) (by omega) hc hA hR1739) (fun r1744 m1746 hF1742 hg1743 hR1747 n1741 k1740 hk1740 => ?_)
  have hX1745 := hX.trans (bI_s hF1742)
  refine p_putI 42 c60_39 rfl (kS_3 hs1) ?_
  have hR1748 := hR1747.up a1 3 (v := r1744) (nselA (by omega)) hg1743
  refine p_aload 43 c60_42 rfl rfl ?_
  refine p_getX 46 r1744 c60_43 rfl (kS_3 hs1) (yup_eq _ _ _ _) ?_
  refine p_iconst 47 c60_46 rfl ?_
  refine p_icmp 54 50 c60_47 rfl rfl (yc_eq hg1743 (rgD rfl)) (fun hb1749 k1750 hk1750 => ?_) (fun hb1749 k1751 hk1751 => ?_)
  · have hX1752 := hX1745.trans (if_pos hb1749)
    refine p_iconst 55 c60_54 rfl ?_
    exact p_ireturn c60_55 (Hr _ _ hX1752 (rgD rfl) hR1748 _)
  · have hX1753 := hX1745.trans (if_neg hb1749)
    refine p_iconst 51 c60_50 rfl ?_
    refine p_goto 55 c60_51 rfl ?_
    exact p_ireturn c60_55 (Hr _ _ hX1753 (rgD rfl) hR1748 _)
def J69_162 (f : Nat) (rc : Int → yM → Option (Int × yM)) (A : Nat) (x1 : Int) (x2 : Int) (x3 : Int) (a4 : Nat) (m : yM) : Option (((Int × Int) × yM) ⊕ (((Int × Int) × yM) ⊕ (Int × yM))) := (some (.inl ((x2, wr (x3 + 1)), yup m a4 12 (m A 16))))
set_option maxRecDepth 100000 in
theorem tJ69_162 {L : Nat} {xs : Nat → Int32} {Q : xO → yM → Nat → Prop} {k d n : Nat} {c : yS3} {f : Nat} {rc : Int → yM → Option (Int × yM)} {A : Nat} {x1 : Int} {x2 : Int} {x3 : Int} {a4 : Nat} {m : yM} (hk : k ≤ f) (hrc : ∀ k', k' < k → ∀ {d' : Nat} {x1 : Int} {m' : yM} {n' : Nat}, rg x1 → RM c m' → PC (gZ L xs) k' d' 69 [.ref 2, yI x1] m' n' (qS c (rc x1 m'))) (hc : c.1 = pX A) (hA : (A = 256 ∨ A = 316)) (gx1 : rg x1) (gx2 : rg x2) (gx3 : rg x3) (hs4 : (276 ≤ a4 ∧ a4 < 316) ∨ (336 ≤ a4 ∧ a4 < 376)) (hR : RM c m) (Hn : ∀ (y0 y1 : Int) (z0 : Option Value) (m' : yM) (n' : Nat), J69_162 f rc A x1 x2 x3 a4 m = some (.inl ((y0, y1), m')) → rg y0 → rg y1 → RM c m' → ∀ k', k' < k → PW (gZ L xs) k' 69 d 19 [some (.ref 2), some (yI x1), some (yI y0), some (yI y1), z0] [] m' n' Q) (He : ∀ (y0 y1 : Int) (z0 : Option Value) (m' : yM) (n' : Nat), J69_162 f rc A x1 x2 x3 a4 m = some (.inr (.inl ((y0, y1), m'))) → rg y0 → rg y1 → RM c m' → ∀ k', k' ≤ k → PW (gZ L xs) k' 69 d 180 [some (.ref 2), some (yI x1), some (yI y0), some (yI y1), z0] [] m' n' Q) (Hr : ∀ r m', J69_162 f rc A x1 x2 x3 a4 m = some (.inr (.inr (r, m'))) → rg r → RM c m' → ∀ n', Q (.inl (some (yI r))) m' n') : PW (gZ L xs) k 69 d 162 [some (.ref 2), some (yI x1), some (yI x2), some (yI x3), some (.ref a4)] [] m n Q := by
  have hX : J69_162 f rc A x1 x2 x3 a4 m = J69_162 f rc A x1 x2 x3 a4 m := rfl
  refine p_aload 164 c69_162 rfl rfl ?_
  refine p_aload 165 c69_164 rfl rfl ?_
  refine p_getV 168 (.ref A) c69_165 rfl kf2_1 (pX_of hA hR.2.2.2.1 hc) ?_
  refine p_getX 171 (m A 16) c69_168 rfl (kP_16 hA) rfl ?_
  refine p_putI 174 c69_171 rfl (kS_12 hs4) ?_
  have hR1275 := hR.up a4 12 (v := m A 16) (nselA (by omega)) (hR.rg _ _)
  refine p_iinc 177 c69_174 rfl rfl rfl ?_
  refine p_gotoD 19 c69_177 rfl (fun k1276 hk1276 => ?_)
  exact Hn _ _ _ _ _ hX gx2 (rg_wr _) hR1275 _ (by omega)
def J69_161 (f : Nat) (rc : Int → yM → Option (Int × yM)) (A : Nat) (x1 : Int) (x3 : Int) (a4 : Nat) (xs0 : Int) (m : yM) : Option (((Int × Int) × yM) ⊕ (((Int × Int) × yM) ⊕ (Int × yM))) := (J69_162 f rc A x1 xs0 x3 a4 m)
set_option maxRecDepth 100000 in
theorem tJ69_161 {L : Nat} {xs : Nat → Int32} {Q : xO → yM → Nat → Prop} {k d n : Nat} {c : yS3} {f : Nat} {rc : Int → yM → Option (Int × yM)} {A : Nat} {x1 : Int} {x3 : Int} {a4 : Nat} {xs0 : Int} {m : yM} {j2 : Option Value} (hk : k ≤ f) (hrc : ∀ k', k' < k → ∀ {d' : Nat} {x1 : Int} {m' : yM} {n' : Nat}, rg x1 → RM c m' → PC (gZ L xs) k' d' 69 [.ref 2, yI x1] m' n' (qS c (rc x1 m'))) (hc : c.1 = pX A) (hA : (A = 256 ∨ A = 316)) (gx1 : rg x1) (gx3 : rg x3) (hs4 : (276 ≤ a4 ∧ a4 < 316) ∨ (336 ≤ a4 ∧ a4 < 376)) (gxs0 : rg xs0) (hR : RM c m) (Hn : ∀ (y0 y1 : Int) (z0 : Option Value) (m' : yM) (n' : Nat), J69_161 f rc A x1 x3 a4 xs0 m = some (.inl ((y0, y1), m')) → rg y0 → rg y1 → RM c m' → ∀ k', k' < k → PW (gZ L xs) k' 69 d 19 [some (.ref 2), some (yI x1), some (yI y0), some (yI y1), z0] [] m' n' Q) (He : ∀ (y0 y1 : Int) (z0 : Option Value) (m' : yM) (n' : Nat), J69_161 f rc A x1 x3 a4 xs0 m = some (.inr (.inl ((y0, y1), m'))) → rg y0 → rg y1 → RM c m' → ∀ k', k' ≤ k → PW (gZ L xs) k' 69 d 180 [some (.ref 2), some (yI x1), some (yI y0), some (yI y1), z0] [] m' n' Q) (Hr : ∀ r m', J69_161 f rc A x1 x3 a4 xs0 m = some (.inr (.inr (r, m'))) → rg r → RM c m' → ∀ n', Q (.inl (some (yI r))) m' n') : PW (gZ L xs) k 69 d 161 [some (.ref 2), some (yI x1), j2, some (yI x3), some (.ref a4)] [yI xs0] m n Q := by
  have hX : J69_161 f rc A x1 x3 a4 xs0 m = J69_161 f rc A x1 x3 a4 xs0 m := rfl
  refine p_istore 162 c69_161 rfl rfl ?_
  exact tJ69_162 (f := f) (by omega) (fun k' h' => hrc k' (by omega)) hc hA gx1 gxs0 gx3 hs4 hR (fun y0 y1 y2 m' n' e' h0 h1 hR' k' hk' => Hn y0 y1 y2 m' n' (hX.trans e') h0 h1 hR' k' (by omega)) (fun y0 y1 y2 m' n' e' h0 h1 hR' k' hk' => He y0 y1 y2 m' n' (hX.trans e') h0 h1 hR' k' (by omega)) (fun r' m' e' => Hr r' m' (hX.trans e'))
def J69_160 (f : Nat) (rc : Int → yM → Option (Int × yM)) (A : Nat) (x1 : Int) (x3 : Int) (a4 : Nat) (m : yM) : Option (((Int × Int) × yM) ⊕ (((Int × Int) × yM) ⊕ (Int × yM))) := (J69_161 f rc A x1 x3 a4 0 m)
set_option maxRecDepth 100000 in
theorem tJ69_160 {L : Nat} {xs : Nat → Int32} {Q : xO → yM → Nat → Prop} {k d n : Nat} {c : yS3} {f : Nat} {rc : Int → yM → Option (Int × yM)} {A : Nat} {x1 : Int} {x3 : Int} {a4 : Nat} {m : yM} {j2 : Option Value} (hk : k ≤ f) (hrc : ∀ k', k' < k → ∀ {d' : Nat} {x1 : Int} {m' : yM} {n' : Nat}, rg x1 → RM c m' → PC (gZ L xs) k' d' 69 [.ref 2, yI x1] m' n' (qS c (rc x1 m'))) (hc : c.1 = pX A) (hA : (A = 256 ∨ A = 316)) (gx1 : rg x1) (gx3 : rg x3) (hs4 : (276 ≤ a4 ∧ a4 < 316) ∨ (336 ≤ a4 ∧ a4 < 376)) (hR : RM c m) (Hn : ∀ (y0 y1 : Int) (z0 : Option Value) (m' : yM) (n' : Nat), J69_160 f rc A x1 x3 a4 m = some (.inl ((y0, y1), m')) → rg y0 → rg y1 → RM c m' → ∀ k', k' < k → PW (gZ L xs) k' 69 d 19 [some (.ref 2), some (yI x1), some (yI y0), some (yI y1), z0] [] m' n' Q) (He : ∀ (y0 y1 : Int) (z0 : Option Value) (m' : yM) (n' : Nat), J69_160 f rc A x1 x3 a4 m = some (.inr (.inl ((y0, y1), m'))) → rg y0 → rg y1 → RM c m' → ∀ k', k' ≤ k → PW (gZ L xs) k' 69 d 180 [some (.ref 2), some (yI x1), some (yI y0), some (yI y1), z0] [] m' n' Q) (Hr : ∀ r m', J69_160 f rc A x1 x3 a4 m = some (.inr (.inr (r, m'))) → rg r → RM c m' → ∀ n', Q (.inl (some (yI r))) m' n') : PW (gZ L xs) k 69 d 160 [some (.ref 2), some (yI x1), j2, some (yI x3), some (.ref a4)] [] m n Q := by
  have hX : J69_160 f rc A x1 x3 a4 m = J69_160 f rc A x1 x3 a4 m := rfl
  refine p_iconst 161 c69_160 rfl ?_
  exact tJ69_161 (f := f) (by omega) (fun k' h' => hrc k' (by omega)) hc hA gx1 gx3 hs4 (rgD rfl) hR (fun y0 y1 y2 m' n' e' h0 h1 hR' k' hk' => Hn y0 y1 y2 m' n' (hX.trans e') h0 h1 hR' k' (by omega)) (fun y0 y1 y2 m' n' e' h0 h1 hR' k' hk' => He y0 y1 y2 m' n' (hX.trans e') h0 h1 hR' k' (by omega)) (fun r' m' e' => Hr r' m' (hX.trans e'))
def J69_134 (f : Nat) (rc : Int → yM → Option (Int × yM)) (A : Nat) (x1 : Int) (x3 : Int) (a4 : Nat) (xs0 : Int) (m : yM) : Option (((Int × Int) × yM) ⊕ (((Int × Int) × yM) ⊕ (Int × yM))) := (J69_162 f rc A x1 xs0 x3 a4 m)
set_option maxRecDepth 100000 in
theorem tJ69_134 {L : Nat} {xs : Nat → Int32} {Q : xO → yM → Nat → Prop} {k d n : Nat} {c : yS3} {f : Nat} {rc : Int → yM → Option (Int × yM)} {A : Nat} {x1 : Int} {x3 : Int} {a4 : Nat} {xs0 : Int} {m : yM} {j2 : Option Value} (hk : k ≤ f) (hrc : ∀ k', k' < k → ∀ {d' : Nat} {x1 : Int} {m' : yM} {n' : Nat}, rg x1 → RM c m' → PC (gZ L xs) k' d' 69 [.ref 2, yI x1] m' n' (qS c (rc x1 m'))) (hc : c.1 = pX A) (hA : (A = 256 ∨ A = 316)) (gx1 : rg x1) (gx3 : rg x3) (hs4 : (276 ≤ a4 ∧ a4 < 316) ∨ (336 ≤ a4 ∧ a4 < 376)) (gxs0 : rg xs0) (hR : RM c m) (Hn : ∀ (y0 y1 : Int) (z0 : Option Value) (m' : yM) (n' : Nat), J69_134 f rc A x1 x3 a4 xs0 m = some (.inl ((y0, y1), m')) → rg y0 → rg y1 → RM c m' → ∀ k', k' < k → PW (gZ L xs) k' 69 d 19 [some (.ref 2), some (yI x1), some (yI y0), some (yI y1), z0] [] m' n' Q) (He : ∀ (y0 y1 : Int) (z0 : Option Value) (m' : yM) (n' : Nat), J69_134 f rc A x1 x3 a4 xs0 m = some (.inr (.inl ((y0, y1), m'))) → rg y0 → rg y1 → RM c m' → ∀ k', k' ≤ k → PW (gZ L xs) k' 69 d 180 [some (.ref 2), some (yI x1), some (yI y0), some (yI y1), z0] [] m' n' Q) (Hr : ∀ r m', J69_134 f rc A x1 x3 a4 xs0 m = some (.inr (.inr (r, m'))) → rg r → RM c m' → ∀ n', Q (.inl (some (yI r))) m' n') : PW (gZ L xs) k 69 d 134 [some (.ref 2), some (yI x1), j2, some (yI x3), some (.ref a4)] [yI xs0] m n Q := by
  have hX : J69_134 f rc A x1 x3 a4 xs0 m = J69_134 f rc A x1 x3 a4 xs0 m := rfl
  refine p_istore 135 c69_134 rfl rfl ?_
  refine p_goto 162 c69_135 rfl ?_
  exact tJ69_162 (f := f) (by omega) (fun k' h' => hrc k' (by omega)) hc hA gx1 gxs0 gx3 hs4 hR (fun y0 y1 y2 m' n' e' h0 h1 hR' k' hk' => Hn y0 y1 y2 m' n' (hX.trans e') h0 h1 hR' k' (by omega)) (fun y0 y1 y2 m' n' e' h0 h1 hR' k' hk' => He y0 y1 y2 m' n' (hX.trans e') h0 h1 hR' k' (by omega)) (fun r' m' e' => Hr r' m' (hX.trans e'))
def J69_133 (f : Nat) (rc : Int → yM → Option (Int × yM)) (A : Nat) (x1 : Int) (x3 : Int) (a4 : Nat) (m : yM) : Option (((Int × Int) × yM) ⊕ (((Int × Int) × yM) ⊕ (Int × yM))) := (J69_134 f rc A x1 x3 a4 0 m)
set_option maxRecDepth 100000 in
theorem tJ69_133 {L : Nat} {xs : Nat → Int32} {Q : xO → yM → Nat → Prop} {k d n : Nat} {c : yS3} {f : Nat} {rc : Int → yM → Option (Int × yM)} {A : Nat} {x1 : Int} {x3 : Int} {a4 : Nat} {m : yM} {j2 : Option Value} (hk : k ≤ f) (hrc : ∀ k', k' < k → ∀ {d' : Nat} {x1 : Int} {m' : yM} {n' : Nat}, rg x1 → RM c m' → PC (gZ L xs) k' d' 69 [.ref 2, yI x1] m' n' (qS c (rc x1 m'))) (hc : c.1 = pX A) (hA : (A = 256 ∨ A = 316)) (gx1 : rg x1) (gx3 : rg x3) (hs4 : (276 ≤ a4 ∧ a4 < 316) ∨ (336 ≤ a4 ∧ a4 < 376)) (hR : RM c m) (Hn : ∀ (y0 y1 : Int) (z0 : Option Value) (m' : yM) (n' : Nat), J69_133 f rc A x1 x3 a4 m = some (.inl ((y0, y1), m')) → rg y0 → rg y1 → RM c m' → ∀ k', k' < k → PW (gZ L xs) k' 69 d 19 [some (.ref 2), some (yI x1), some (yI y0), some (yI y1), z0] [] m' n' Q) (He : ∀ (y0 y1 : Int) (z0 : Option Value) (m' : yM) (n' : Nat), J69_133 f rc A x1 x3 a4 m = some (.inr (.inl ((y0, y1), m'))) → rg y0 → rg y1 → RM c m' → ∀ k', k' ≤ k → PW (gZ L xs) k' 69 d 180 [some (.ref 2), some (yI x1), some (yI y0), some (yI y1), z0] [] m' n' Q) (Hr : ∀ r m', J69_133 f rc A x1 x3 a4 m = some (.inr (.inr (r, m'))) → rg r → RM c m' → ∀ n', Q (.inl (some (yI r))) m' n') : PW (gZ L xs) k 69 d 133 [some (.ref 2), some (yI x1), j2, some (yI x3), some (.ref a4)] [] m n Q := by
  have hX : J69_133 f rc A x1 x3 a4 m = J69_133 f rc A x1 x3 a4 m := rfl
  refine p_iconst 134 c69_133 rfl ?_
  exact tJ69_134 (f := f) (by omega) (fun k' h' => hrc k' (by omega)) hc hA gx1 gx3 hs4 (rgD rfl) hR (fun y0 y1 y2 m' n' e' h0 h1 hR' k' hk' => Hn y0 y1 y2 m' n' (hX.trans e') h0 h1 hR' k' (by omega)) (fun y0 y1 y2 m' n' e' h0 h1 hR' k' hk' => He y0 y1 y2 m' n' (hX.trans e') h0 h1 hR' k' (by omega)) (fun r' m' e' => Hr r' m' (hX.trans e'))
def B69_19 (f : Nat) (rc : Int → yM → Option (Int × yM)) (A : Nat) (x1 : Int) (x2 : Int) (x3 : Int) (m : yM) : Option (((Int × Int) × yM) ⊕ (((Int × Int) × yM) ⊕ (Int × yM))) := (if 40 < x3 then (some (.inr (.inl ((x2, x3), m)))) else (if x2 = 0 then (some (.inr (.inl ((x2, x3), m)))) else (if F38 m = 125 then (some (.inr (.inl ((x2, x3), m)))) else (if m A 16 = 40 then (bI (F43 f m) (fun r1810 m1812 => (some (.inr (.inr (r1810, m1812)))))) else (bI (F56 f A m) (fun r1153 m1155 => (if F38 m1155 = 6 then (bI (F59 f rc A r1153 x1 m1155) (fun r1271 m1273 => (J69_162 f rc A x1 r1271 x3 r1153 m1273))) else (if F38 m1155 = 7 then (bI (F68 f A r1153 m1155) (fun r1698 m1700 => (if r1698 = 0 then (J69_160 f rc A x1 x3 r1153 m1700) else (bI (F37 f 59 m1700) (fun r1711 m1713 => (if r1711 = 0 then (J69_160 f rc A x1 x3 r1153 m1713) else (J69_161 f rc A x1 x3 r1153 1 m1713))))))) else (if F38 m1155 = 8 then (bI (F59 f rc A r1153 x1 m1155) (fun r1727 m1729 => (J69_162 f rc A x1 r1727 x3 r1153 m1729))) else (if F38 m1155 = 9 then (bI (F60 f A r1153 m1155) (fun r1756 m1758 => (if r1756 = 0 then (J69_133 f rc A x1 x3 r1153 m1758) else (bI (F37 f 59 m1758) (fun r1769 m1771 => (if r1769 = 0 then (J69_133 f rc A x1 x3 r1153 m1771) else (J69_134 f rc A x1 x3 r1153 1 m1771))))))) else (bI (F68 f A r1153 m1155) (fun r1783 m1785 => (if r1783 = 0 then (J69_160 f rc A x1 x3 r1153 m1785) else (bI (F37 f 59 m1785) (fun r1796 m1798 => (if r1796 = 0 then (J69_160 f rc A x1 x3 r1153 m1798) else (J69_161 f rc A x1 x3 r1153 1 m1798)))))))))))))))))
set_option maxRecDepth 100000 in
theorem tB69_19 {L : Nat} {xs : Nat → Int32} {Q : xO → yM → Nat → Prop} {k d n : Nat} {c : yS3} {f : Nat} {rc : Int → yM → Option (Int × yM)} {A : Nat} {x1 : Int} {x2 : Int} {x3 : Int} {m : yM} {j4 : Option Value} (hk : k ≤ f) (hrc : ∀ k', k' < k → ∀ {d' : Nat} {x1 : Int} {m' : yM} {n' : Nat}, rg x1 → RM c m' → PC (gZ L xs) k' d' 69 [.ref 2, yI x1] m' n' (qS c (rc x1 m'))) (hc : c.1 = pX A) (hA : (A = 256 ∨ A = 316)) (gx1 : rg x1) (gx2 : rg x2) (gx3 : rg x3) (hR : RM c m) (Hn : ∀ (y0 y1 : Int) (z0 : Option Value) (m' : yM) (n' : Nat), B69_19 f rc A x1 x2 x3 m = some (.inl ((y0, y1), m')) → rg y0 → rg y1 → RM c m' → ∀ k', k' < k → PW (gZ L xs) k' 69 d 19 [some (.ref 2), some (yI x1), some (yI y0), some (yI y1), z0] [] m' n' Q) (He : ∀ (y0 y1 : Int) (z0 : Option Value) (m' : yM) (n' : Nat), B69_19 f rc A x1 x2 x3 m = some (.inr (.inl ((y0, y1), m'))) → rg y0 → rg y1 → RM c m' → ∀ k', k' ≤ k → PW (gZ L xs) k' 69 d 180 [some (.ref 2), some (yI x1), some (yI y0), some (yI y1), z0] [] m' n' Q) (Hr : ∀ r m', B69_19 f rc A x1 x2 x3 m = some (.inr (.inr (r, m'))) → rg r → RM c m' → ∀ n', Q (.inl (some (yI r))) m' n') : PW (gZ L xs) k 69 d 19 [some (.ref 2), some (yI x1), some (yI x2), some (yI x3), j4] [] m n Q := by
  have hX : B69_19 f rc A x1 x2 x3 m = B69_19 f rc A x1 x2 x3 m := rfl
  refine p_iload 20 c69_19 rfl rfl ?_
  refine p_iconst 22 c69_20 rfl ?_
  refine p_icmp 180 25 c69_22 rfl rfl (yc_gt gx3 (rgD rfl)) (fun hb1122 k1123 hk1123 => ?_) (fun hb1122 k1124 hk1124 => ?_)
  · have hX1125 := hX.trans (if_pos hb1122)
    exact He _ _ _ _ _ hX1125 gx2 gx3 hR _ (by omega)
  · have hX1126 := hX.trans (if_neg hb1122)
    refine p_iload 26 c69_25 rfl rfl ?_
    refine p_if 180 29 c69_26 rfl rfl (yz_eq gx2) (fun hb1127 k1128 hk1128 => ?_) (fun hb1127 k1129 hk1129 => ?_)
    · have hX1130 := hX1126.trans (if_pos hb1127)
      exact He _ _ _ _ _ hX1130 gx2 gx3 hR _ (by omega)
    · have hX1131 := hX1126.trans (if_neg hb1127)
      refine p_aload 30 c69_29 rfl rfl ?_
      refine p_cX 33 [.ref 2] [] c69_30 rfl rfl rfl (fun k' hk' d' => d38 hR) (fun hg1134 n1133 k1132 hk1132 => ?_)
      refine p_iconst 35 c69_33 rfl ?_
      refine p_icmp 180 38 c69_35 rfl rfl (yc_eq hg1134 (rgD rfl)) (fun hb1135 k1136 hk1136 => ?_) (fun hb1135 k1137 hk1137 => ?_)
      · have hX1138 := hX1131.trans (if_pos hb1135)
        exact He _ _ _ _ _ hX1138 gx2 gx3 hR _ (by omega)
      · have hX1139 := hX1131.trans (if_neg hb1135)
        refine p_aload 39 c69_38 rfl rfl ?_
        refine p_getV 42 (.ref A) c69_39 rfl kf2_1 (pX_of hA hR.2.2.2.1 hc) ?_
        refine p_getX 45 (m A 16) c69_42 rfl (kP_16 hA) rfl ?_
        refine p_iconst 47 c69_45 rfl ?_
        refine p_icmp 55 50 c69_47 rfl rfl (yc_ne (hR.rg _ _) (rgD rfl)) (fun hb1140 k1141 hk1141 => ?_) (fun hb1140 k1142 hk1142 => ?_)
        · have hX1143 := hX1139.trans (if_neg hb1140)
          refine p_aload 56 c69_55 rfl rfl ?_
          refine p_getV 59 (.ref A) c69_56 rfl kf2_1 (pX_of hA hR.2.2.2.1 hc) ?_
          refine p_cR 62 [.ref A] [] c69_59 rfl rfl rfl (fun k' hk' d' => d56 (f := f) (by omega) hA hR) (fun r1153 m1155 hF1151 hg1152 hR1156 n1145 k1144 hk1144 => ?_)
          have hX1154 := hX1143.trans (bI_s hF1151)
          refine p_astore 64 c69_62 rfl rfl ?_
          refine p_aload 65 c69_64 rfl rfl ?_
          refine p_cX 68 [.ref 2] [] c69_65 rfl rfl rfl (fun k' hk' d' => d38 hR1156) (fun hg1159 n1158 k1157 hk1157 => ?_)
          by_cases hk1160 : F38 m1155 = 6
          · have hX1161 := hX1154.trans (if_pos hk1160)
            refine p_top 6 hk1160 ?_
            refine p_tsw 100 c69_68 (rgD rfl) (by decide) rfl rfl ?_
            refine p_aload 101 c69_100 rfl rfl ?_
            refine p_aload 103 c69_101 rfl rfl ?_
            refine p_iload 104 c69_103 rfl rfl ?_
            refine p_cS 107 [.ref 2, .ref r1153, yI x1] [] c69_104 rfl rfl rfl (fun k' hk' d' => d59 (f := f) (by omega) (fun k' h' => hrc k' (by omega)) hc hA hg1152 gx1 hR1156) (fun r1271 m1273 hF1269 hg1270 hR1274 n1163 k1162 hk1162 => ?_)
            have hX1272 := hX1161.trans (bI_s hF1269)
            refine p_istore 108 c69_107 rfl rfl ?_
            refine p_goto 162 c69_108 rfl ?_
            exact tJ69_162 (f := f) (by omega) (fun k' h' => hrc k' (by omega)) hc hA gx1 hg1270 gx3 hg1152 hR1274 (fun y0 y1 y2 m' n' e' h0 h1 hR' k' hk' => Hn y0 y1 y2 m' n' (hX1272.trans e') h0 h1 hR' k' (by omega)) (fun y0 y1 y2 m' n' e' h0 h1 hR' k' hk' => He y0 y1 y2 m' n' (hX1272.trans e') h0 h1 hR' k' (by omega)) (fun r' m' e' => Hr r' m' (hX1272.trans e'))
          have hX1277 := hX1154.trans (if_neg hk1160)
          by_cases hk1278 : F38 m1155 = 7
          · have hX1279 := hX1277.trans (if_pos hk1278)
            refine p_top 7 hk1278 ?_
            refine p_tsw 138 c69_68 (rgD rfl) (by decide) rfl rfl ?_
            refine p_aload 139 c69_138 rfl rfl ?_
            refine p_aload 141 c69_139 rfl rfl ?_
            refine p_cS 144 [.ref 2, .ref r1153] [] c69_141 rfl rfl rfl (fun k' hk' d' => d68 (f := f) (by omega) hc hA hg1152 hR1156) (fun r1698 m1700 hF1696 hg1697 hR1701 n1281 k1280 hk1280 => ?_)
            have hX1699 := hX1279.trans (bI_s hF1696)
            refine p_if 160 147 c69_144 rfl rfl (yz_eq hg1697) (fun hb1702 k1703 hk1703 => ?_) (fun hb1702 k1704 hk1704 => ?_)
            · have hX1705 := hX1699.trans (if_pos hb1702)
              exact tJ69_160 (f := f) (by omega) (fun k' h' => hrc k' (by omega)) hc hA gx1 gx3 hg1152 hR1701 (fun y0 y1 y2 m' n' e' h0 h1 hR' k' hk' => Hn y0 y1 y2 m' n' (hX1705.trans e') h0 h1 hR' k' (by omega)) (fun y0 y1 y2 m' n' e' h0 h1 hR' k' hk' => He y0 y1 y2 m' n' (hX1705.trans e') h0 h1 hR' k' (by omega)) (fun r' m' e' => Hr r' m' (hX1705.trans e'))
            · have hX1706 := hX1699.trans (if_neg hb1702)
              refine p_aload 148 c69_147 rfl rfl ?_
              refine p_iconst 150 c69_148 rfl ?_
              refine p_cS 153 [.ref 2, yI 59] [] c69_150 rfl rfl rfl (fun k' hk' d' => d37 (f := f) (by omega) (rgD rfl) hR1701) (fun r1711 m1713 hF1709 hg1710 hR1714 n1708 k1707 hk1707 => ?_)
              have hX1712 := hX1706.trans (bI_s hF1709)
              refine p_if 160 156 c69_153 rfl rfl (yz_eq hg1710) (fun hb1715 k1716 hk1716 => ?_) (fun hb1715 k1717 hk1717 => ?_)
              · have hX1718 := hX1712.trans (if_pos hb1715)
                exact tJ69_160 (f := f) (by omega) (fun k' h' => hrc k' (by omega)) hc hA gx1 gx3 hg1152 hR1714 (fun y0 y1 y2 m' n' e' h0 h1 hR' k' hk' => Hn y0 y1 y2 m' n' (hX1718.trans e') h0 h1 hR' k' (by omega)) (fun y0 y1 y2 m' n' e' h0 h1 hR' k' hk' => He y0 y1 y2 m' n' (hX1718.trans e') h0 h1 hR' k' (by omega)) (fun r' m' e' => Hr r' m' (hX1718.trans e'))
              · have hX1719 := hX1712.trans (if_neg hb1715)
                refine p_iconst 157 c69_156 rfl ?_
                refine p_goto 161 c69_157 rfl ?_
                exact tJ69_161 (f := f) (by omega) (fun k' h' => hrc k' (by omega)) hc hA gx1 gx3 hg1152 (rgD rfl) hR1714 (fun y0 y1 y2 m' n' e' h0 h1 hR' k' hk' => Hn y0 y1 y2 m' n' (hX1719.trans e') h0 h1 hR' k' (by omega)) (fun y0 y1 y2 m' n' e' h0 h1 hR' k' hk' => He y0 y1 y2 m' n' (hX1719.trans e') h0 h1 hR' k' (by omega)) (fun r' m' e' => Hr r' m' (hX1719.trans e'))
          have hX1720 := hX1277.trans (if_neg hk1278)
          by_cases hk1721 : F38 m1155 = 8
          · have hX1722 := hX1720.trans (if_pos hk1721)
            refine p_top 8 hk1721 ?_
            refine p_tsw 100 c69_68 (rgD rfl) (by decide) rfl rfl ?_
            refine p_aload 101 c69_100 rfl rfl ?_
            refine p_aload 103 c69_101 rfl rfl ?_
            refine p_iload 104 c69_103 rfl rfl ?_
            refine p_cS 107 [.ref 2, .ref r1153, yI x1] [] c69_104 rfl rfl rfl (fun k' hk' d' => d59 (f := f) (by omega) (fun k' h' => hrc k' (by omega)) hc hA hg1152 gx1 hR1156) (fun r1727 m1729 hF1725 hg1726 hR1730 n1724 k1723 hk1723 => ?_)
            have hX1728 := hX1722.trans (bI_s hF1725)
            refine p_istore 108 c69_107 rfl rfl ?_
            refine p_goto 162 c69_108 rfl ?_
            exact tJ69_162 (f := f) (by omega) (fun k' h' => hrc k' (by omega)) hc hA gx1 hg1726 gx3 hg1152 hR1730 (fun y0 y1 y2 m' n' e' h0 h1 hR' k' hk' => Hn y0 y1 y2 m' n' (hX1728.trans e') h0 h1 hR' k' (by omega)) (fun y0 y1 y2 m' n' e' h0 h1 hR' k' hk' => He y0 y1 y2 m' n' (hX1728.trans e') h0 h1 hR' k' (by omega)) (fun r' m' e' => Hr r' m' (hX1728.trans e'))
          have hX1731 := hX1720.trans (if_neg hk1721)
          by_cases hk1732 : F38 m1155 = 9
          · have hX1733 := hX1731.trans (if_pos hk1732)
            refine p_top 9 hk1732 ?_
            refine p_tsw 111 c69_68 (rgD rfl) (by decide) rfl rfl ?_
            refine p_aload 112 c69_111 rfl rfl ?_
            refine p_aload 114 c69_112 rfl rfl ?_
            refine p_cS 117 [.ref 2, .ref r1153] [] c69_114 rfl rfl rfl (fun k' hk' d' => d60 (f := f) (by omega) hc hA hg1152 hR1156) (fun r1756 m1758 hF1754 hg1755 hR1759 n1735 k1734 hk1734 => ?_)
            have hX1757 := hX1733.trans (bI_s hF1754)
            refine p_if 133 120 c69_117 rfl rfl (yz_eq hg1755) (fun hb1760 k1761 hk1761 => ?_) (fun hb1760 k1762 hk1762 => ?_)
            · have hX1763 := hX1757.trans (if_pos hb1760)
              exact tJ69_133 (f := f) (by omega) (fun k' h' => hrc k' (by omega)) hc hA gx1 gx3 hg1152 hR1759 (fun y0 y1 y2 m' n' e' h0 h1 hR' k' hk' => Hn y0 y1 y2 m' n' (hX1763.trans e') h0 h1 hR' k' (by omega)) (fun y0 y1 y2 m' n' e' h0 h1 hR' k' hk' => He y0 y1 y2 m' n' (hX1763.trans e') h0 h1 hR' k' (by omega)) (fun r' m' e' => Hr r' m' (hX1763.trans e'))
            · have hX1764 := hX1757.trans (if_neg hb1760)
              refine p_aload 121 c69_120 rfl rfl ?_
              refine p_iconst 123 c69_121 rfl ?_
              refine p_cS 126 [.ref 2, yI 59] [] c69_123 rfl rfl rfl (fun k' hk' d' => d37 (f := f) (by omega) (rgD rfl) hR1759) (fun r1769 m1771 hF1767 hg1768 hR1772 n1766 k1765 hk1765 => ?_)
              have hX1770 := hX1764.trans (bI_s hF1767)
              refine p_if 133 129 c69_126 rfl rfl (yz_eq hg1768) (fun hb1773 k1774 hk1774 => ?_) (fun hb1773 k1775 hk1775 => ?_)
              · have hX1776 := hX1770.trans (if_pos hb1773)
                exact tJ69_133 (f := f) (by omega) (fun k' h' => hrc k' (by omega)) hc hA gx1 gx3 hg1152 hR1772 (fun y0 y1 y2 m' n' e' h0 h1 hR' k' hk' => Hn y0 y1 y2 m' n' (hX1776.trans e') h0 h1 hR' k' (by omega)) (fun y0 y1 y2 m' n' e' h0 h1 hR' k' hk' => He y0 y1 y2 m' n' (hX1776.trans e') h0 h1 hR' k' (by omega)) (fun r' m' e' => Hr r' m' (hX1776.trans e'))
              · have hX1777 := hX1770.trans (if_neg hb1773)
                refine p_iconst 130 c69_129 rfl ?_
                refine p_goto 134 c69_130 rfl ?_
                exact tJ69_134 (f := f) (by omega) (fun k' h' => hrc k' (by omega)) hc hA gx1 gx3 hg1152 (rgD rfl) hR1772 (fun y0 y1 y2 m' n' e' h0 h1 hR' k' hk' => Hn y0 y1 y2 m' n' (hX1777.trans e') h0 h1 hR' k' (by omega)) (fun y0 y1 y2 m' n' e' h0 h1 hR' k' hk' => He y0 y1 y2 m' n' (hX1777.trans e') h0 h1 hR' k' (by omega)) (fun r' m' e' => Hr r' m' (hX1777.trans e'))
          have hX1778 := hX1731.trans (if_neg hk1732)
          refine p_tswd 138 c69_68 hg1159 (by omega) rfl ?_
          refine p_aload 139 c69_138 rfl rfl ?_
          refine p_aload 141 c69_139 rfl rfl ?_
          refine p_cS 144 [.ref 2, .ref r1153] [] c69_141 rfl rfl rfl (fun k' hk' d' => d68 (f := f) (by omega) hc hA hg1152 hR1156) (fun r1783 m1785 hF1781 hg1782 hR1786 n1780 k1779 hk1779 => ?_)
          have hX1784 := hX1778.trans (bI_s hF1781)
          refine p_if 160 147 c69_144 rfl rfl (yz_eq hg1782) (fun hb1787 k1788 hk1788 => ?_) (fun hb1787 k1789 hk1789 => ?_)
          · have hX1790 := hX1784.trans (if_pos hb1787)
            exact tJ69_160 (f := f) (by omega) (fun k' h' => hrc k' (by omega)) hc hA gx1 gx3 hg1152 hR1786 (fun y0 y1 y2 m' n' e' h0 h1 hR' k' hk' => Hn y0 y1 y2 m' n' (hX1790.trans e') h0 h1 hR' k' (by omega)) (fun y0 y1 y2 m' n' e' h0 h1 hR' k' hk' => He y0 y1 y2 m' n' (hX1790.trans e') h0 h1 hR' k' (by omega)) (fun r' m' e' => Hr r' m' (hX1790.trans e'))
          · have hX1791 := hX1784.trans (if_neg hb1787)
            refine p_aload 148 c69_147 rfl rfl ?_
            refine p_iconst 150 c69_148 rfl ?_
            refine p_cS 153 [.ref 2, yI 59] [] c69_150 rfl rfl rfl (fun k' hk' d' => d37 (f := f) (by omega) (rgD rfl) hR1786) (fun r1796 m1798 hF1794 hg1795 hR1799 n1793 k1792 hk1792 => ?_)
            have hX1797 := hX1791.trans (bI_s hF1794)
            refine p_if 160 156 c69_153 rfl rfl (yz_eq hg1795) (fun hb1800 k1801 hk1801 => ?_) (fun hb1800 k1802 hk1802 => ?_)
            · have hX1803 := hX1797.trans (if_pos hb1800)
              exact tJ69_160 (f := f) (by omega) (fun k' h' => hrc k' (by omega)) hc hA gx1 gx3 hg1152 hR1799 (fun y0 y1 y2 m' n' e' h0 h1 hR' k' hk' => Hn y0 y1 y2 m' n' (hX1803.trans e') h0 h1 hR' k' (by omega)) (fun y0 y1 y2 m' n' e' h0 h1 hR' k' hk' => He y0 y1 y2 m' n' (hX1803.trans e') h0 h1 hR' k' (by omega)) (fun r' m' e' => Hr r' m' (hX1803.trans e'))
            · have hX1804 := hX1797.trans (if_neg hb1800)
              refine p_iconst 157 c69_156 rfl ?_
              refine p_goto 161 c69_157 rfl ?_
              exact tJ69_161 (f := f) (by omega) (fun k' h' => hrc k' (by omega)) hc hA gx1 gx3 hg1152 (rgD rfl) hR1799 (fun y0 y1 y2 m' n' e' h0 h1 hR' k' hk' => Hn y0 y1 y2 m' n' (hX1804.trans e') h0 h1 hR' k' (by omega)) (fun y0 y1 y2 m' n' e' h0 h1 hR' k' hk' => He y0 y1 y2 m' n' (hX1804.trans e') h0 h1 hR' k' (by omega)) (fun r' m' e' => Hr r' m' (hX1804.trans e'))
        · have hX1805 := hX1139.trans (if_pos (Classical.not_not.mp hb1140))
          refine p_aload 51 c69_50 rfl rfl ?_
          refine p_cS 54 [.ref 2] [] c69_51 rfl rfl rfl (fun k' hk' d' => d43 (f := f) (by omega) hR) (fun r1810 m1812 hF1808 hg1809 hR1813 n1807 k1806 hk1806 => ?_)
          have hX1811 := hX1805.trans (bI_s hF1808)
          exact p_ireturn c69_54 (Hr _ _ hX1811 hg1809 hR1813 _)
def J69_180 (f : Nat) (rc : Int → yM → Option (Int × yM)) (A : Nat) (x2 : Int) (m : yM) : Option (Int × yM) := (if x2 = 0 then (some (0, m)) else (bI (F37 f 125 m) (fun r1832 m1834 => (if r1832 = 0 then (some (0, m1834)) else (some (1, m1834))))))
set_option maxRecDepth 100000 in
theorem tJ69_180 {L : Nat} {xs : Nat → Int32} {Q : xO → yM → Nat → Prop} {k d n : Nat} {c : yS3} {f : Nat} {rc : Int → yM → Option (Int × yM)} {A : Nat} {x2 : Int} {m : yM} {j1 j3 j4 : Option Value} (hk : k ≤ f) (hrc : ∀ k', k' < k → ∀ {d' : Nat} {x1 : Int} {m' : yM} {n' : Nat}, rg x1 → RM c m' → PC (gZ L xs) k' d' 69 [.ref 2, yI x1] m' n' (qS c (rc x1 m'))) (hc : c.1 = pX A) (hA : (A = 256 ∨ A = 316)) (gx2 : rg x2) (hR : RM c m) (Hr : ∀ r m', J69_180 f rc A x2 m = some (r, m') → rg r → RM c m' → ∀ n', Q (.inl (some (yI r))) m' n') : PW (gZ L xs) k 69 d 180 [some (.ref 2), j1, some (yI x2), j3, j4] [] m n Q := by
  have hX : J69_180 f rc A x2 m = J69_180 f rc A x2 m := rfl
  refine p_iload 181 c69_180 rfl rfl ?_
  refine p_if 197 184 c69_181 rfl rfl (yz_eq gx2) (fun hb1823 k1824 hk1824 => ?_) (fun hb1823 k1825 hk1825 => ?_)
  · have hX1826 := hX.trans (if_pos hb1823)
    refine p_iconst 198 c69_197 rfl ?_
    exact p_ireturn c69_198 (Hr _ _ hX1826 (rgD rfl) hR _)
  · have hX1827 := hX.trans (if_neg hb1823)
    refine p_aload 185 c69_184 rfl rfl ?_
    refine p_iconst 187 c69_185 rfl ?_
    refine p_cS 190 [.ref 2, yI 125] [] c69_187 rfl rfl rfl (fun k' hk' d' => d37 (f := f) (by omega) (rgD rfl) hR) (fun r1832 m1834 hF1830 hg1831 hR1835 n1829 k1828 hk1828 => ?_)
    have hX1833 := hX1827.trans (bI_s hF1830)
    refine p_if 197 193 c69_190 rfl rfl (yz_eq hg1831) (fun hb1836 k1837 hk1837 => ?_) (fun hb1836 k1838 hk1838 => ?_)
    · have hX1839 := hX1833.trans (if_pos hb1836)
      refine p_iconst 198 c69_197 rfl ?_
      exact p_ireturn c69_198 (Hr _ _ hX1839 (rgD rfl) hR1835 _)
    · have hX1840 := hX1833.trans (if_neg hb1836)
      refine p_iconst 194 c69_193 rfl ?_
      refine p_goto 198 c69_194 rfl ?_
      exact p_ireturn c69_198 (Hr _ _ hX1840 (rgD rfl) hR1835 _)
def G69 (f : Nat) (rc : Int → yM → Option (Int × yM)) (A : Nat) (x1 : Int) (m : yM) : Option (Int × yM) := (if 3 < x1 then (bI (F43 f m) (fun r1846 m1848 => (some (r1846, m1848)))) else (bI (F37 f 123 m) (fun r1118 m1120 => (bL (yloop (fun (l : Int × Int) ml => B69_19 f rc A x1 l.1 l.2 ml) f (r1118, 0) m1120) (fun l1814 m1820 => (J69_180 f rc A l1814.1 m1820)) (fun r mr => some (r, mr))))))
set_option maxRecDepth 100000 in
theorem g69 {L : Nat} {xs : Nat → Int32} {k d n : Nat} {c : yS3} {f : Nat} {rc : Int → yM → Option (Int × yM)} {A : Nat} {x1 : Int} {m : yM} (hk : k ≤ f) (hrc : ∀ k', k' < k → ∀ {d' : Nat} {x1 : Int} {m' : yM} {n' : Nat}, rg x1 → RM c m' → PC (gZ L xs) k' d' 69 [.ref 2, yI x1] m' n' (qS c (rc x1 m'))) (hc : c.1 = pX A) (hA : (A = 256 ∨ A = 316)) (gx1 : rg x1) (hR : RM c m) : PC (gZ L xs) k d 69 [.ref 2, yI x1] m n (qS c (G69 f rc A x1 m)) := by
  have hX : G69 f rc A x1 m = G69 f rc A x1 m := rfl
  have Hr : ∀ r m', G69 f rc A x1 m = some (r, m') → rg r → RM c m' → ∀ n' : Nat, (qS c (G69 f rc A x1 m)) (.inl (some (yI r))) m' n' := fun r m' e h1 h2 n' => ⟨r, rfl, h1, h2, e⟩
  refine PC.mk [some (.ref 2), some (yI x1), none, none, none] kn69 rfl ?_
  refine p_iload 1 c69_0 rfl rfl ?_
  refine p_iconst 2 c69_1 rfl ?_
  refine p_icmp 10 5 c69_2 rfl rfl ((yc_le gx1 (rgD rfl)).trans Int.not_lt.symm) (fun hb1110 k1111 hk1111 => ?_) (fun hb1110 k1112 hk1112 => ?_)
  · have hX1113 := hX.trans (if_neg hb1110)
    refine p_aload 11 c69_10 rfl rfl ?_
    refine p_iconst 13 c69_11 rfl ?_
    refine p_cS 16 [.ref 2, yI 123] [] c69_13 rfl rfl rfl (fun k' hk' d' => d37 (f := f) (by omega) (rgD rfl) hR) (fun r1118 m1120 hF1116 hg1117 hR1121 n1115 k1114 hk1114 => ?_)
    have hX1119 := hX1113.trans (bI_s hF1116)
    refine p_istore 17 c69_16 rfl rfl ?_
    refine p_iconst 18 c69_17 rfl ?_
    refine p_istore 19 c69_18 rfl rfl ?_
    refine PW.loop (K := k1114) (pce := 180) (fun (l : Int × Int) ml => B69_19 f rc A x1 l.1 l.2 ml) (fun (l : Int × Int) j => [some (.ref 2), some (yI x1), some (yI l.1), some (yI l.2), j 4]) (fun (l : Int × Int) => rg l.1 ∧ rg l.2) (RM c) (fun r' m' => rg r' → RM c m' → ∀ n' : Nat, (qS c (G69 f rc A x1 m)) (.inl (some (yI r'))) m' n') (fun k' hk' l j m' n' hl hI Hn' He' Hr' => tB69_19 (f := f) (by omega) (fun k' h' => hrc k' (by omega)) hc hA gx1 hl.1 hl.2 hI (fun y0 y1 y2 m2 n2 e h0 h1 hR2 => Hn' (y0, y1) (fun q => ([none, none, none, none, y2] : List (Option Value)).getD q none) m2 n2 e ⟨h0, h1⟩ hR2) (fun y0 y1 y2 m2 n2 e h0 h1 hR2 => He' (y0, y1) (fun q => ([none, none, none, none, y2] : List (Option Value)).getD q none) m2 n2 e ⟨h0, h1⟩ hR2) Hr') f k1114 (by omega) (Nat.le_refl _) (r1118, 0) (fun q => ([some (.ref 2), some (yI x1), some (yI r1118), some (yI 0), none] : xL).getD q none) _ _ ⟨hg1117, (rgD rfl)⟩ hR1121 (fun l1814 j1817 m1820 n1819 e1816 hl1815 hR1821 k1818 hk1818 => ?_) (fun r' m' e' => ?_)
    · have hX1822 := hX1119.trans (bL_l e1816)
      exact tJ69_180 (f := f) (by omega) (fun k' h' => hrc k' (by omega)) hc hA hl1815.1 hR1821 (fun r' m' e' => Hr r' m' (hX1822.trans e'))
    · exact Hr r' m' (hX1119.trans (bL_r e'))
  · have hX1841 := hX.trans (if_pos (Classical.not_not.mp hb1110))
    refine p_aload 6 c69_5 rfl rfl ?_
    refine p_cS 9 [.ref 2] [] c69_6 rfl rfl rfl (fun k' hk' d' => d43 (f := f) (by omega) hR) (fun r1846 m1848 hF1844 hg1845 hR1849 n1843 k1842 hk1842 => ?_)
    have hX1847 := hX1841.trans (bI_s hF1844)
    exact p_ireturn c69_9 (Hr _ _ hX1847 hg1845 hR1849 _)
def F69 (f : Nat) (A : Nat) : Nat → Int → yM → Option (Int × yM)
  | 0 => fun _ _ => none
  | g + 1 => G69 f (F69 f A g) A
theorem d69 {L : Nat} {xs : Nat → Int32} {f A : Nat} {c : yS3} (hc : c.1 = pX A) (hA : (A = 256 ∨ A = 316)) : ∀ (g k : Nat), k ≤ f → k ≤ g → ∀ (d n : Nat) (x1 : Int) (m : yM), rg x1 → RM c m → PC (gZ L xs) k d 69 [.ref 2, yI x1] m n (qS c (F69 f A g x1 m))
  | 0, k, _, h => by
    intro d n x1 m _ _
    have e : k = 0 := by omega
    subst e
    exact PW.zero
  | g + 1, k, hk, hg => by
    intro d n x1 m gx1 hR
    exact g69 (f := f) hk (fun k' hk' {d'} {x0'} {m'} {n'} h0' hR' => d69 hc hA g k' (by omega) (by omega) d' n' x0' m' h0' hR') hc hA gx1 hR
def J70_33 (f : Nat) (A : Nat) (m : yM) : Option (Int × yM) := (bI (F43 f m) (fun r872 m874 => (some (r872, m874))))
set_option maxRecDepth 100000 in
theorem tJ70_33 {L : Nat} {xs : Nat → Int32} {Q : xO → yM → Nat → Prop} {k d n : Nat} {c : yS3} {f : Nat} {A : Nat} {m : yM} {j1 j2 : Option Value} (hk : k ≤ f) (hc : c.1 = pX A) (hA : (A = 256 ∨ A = 316)) (hR : RM c m) (Hr : ∀ r m', J70_33 f A m = some (r, m') → rg r → RM c m' → ∀ n', Q (.inl (some (yI r))) m' n') : PW (gZ L xs) k 70 d 33 [some (.ref 2), j1, j2] [] m n Q := by
  have hX : J70_33 f A m = J70_33 f A m := rfl
  refine p_aload 34 c70_33 rfl rfl ?_
  refine p_cS 37 [.ref 2] [] c70_34 rfl rfl rfl (fun k' hk' d' => d43 (f := f) (by omega) hR) (fun r872 m874 hF870 hg871 hR875 n869 k868 hk868 => ?_)
  have hX873 := hX.trans (bI_s hF870)
  exact p_ireturn c70_37 (Hr _ _ hX873 hg871 hR875 _)
def J70_115 (f : Nat) (A : Nat) (a1 : Nat) (xs0 : Int) (m : yM) : Option (Int × yM) := (some (xs0, yup m a1 5 (m A 16)))
set_option maxRecDepth 100000 in
theorem tJ70_115 {L : Nat} {xs : Nat → Int32} {Q : xO → yM → Nat → Prop} {k d n : Nat} {c : yS3} {f : Nat} {A : Nat} {a1 : Nat} {xs0 : Int} {m : yM} {j2 : Option Value} (hk : k ≤ f) (hc : c.1 = pX A) (hA : (A = 256 ∨ A = 316)) (hm1 : (266 ≤ a1 ∧ a1 < 276) ∨ (326 ≤ a1 ∧ a1 < 336)) (gxs0 : rg xs0) (hR : RM c m) (Hr : ∀ r m', J70_115 f A a1 xs0 m = some (r, m') → rg r → RM c m' → ∀ n', Q (.inl (some (yI r))) m' n') : PW (gZ L xs) k 70 d 115 [some (.ref 2), some (.ref a1), j2] [yI xs0] m n Q := by
  have hX : J70_115 f A a1 xs0 m = J70_115 f A a1 xs0 m := rfl
  refine p_istore 116 c70_115 rfl rfl ?_
  refine p_aload 117 c70_116 rfl rfl ?_
  refine p_aload 118 c70_117 rfl rfl ?_
  refine p_getV 121 (.ref A) c70_118 rfl kf2_1 (pX_of hA hR.2.2.2.1 hc) ?_
  refine p_getX 124 (m A 16) c70_121 rfl (kP_16 hA) rfl ?_
  refine p_putI 127 c70_124 rfl (kM_5 hm1) ?_
  have hR964 := hR.up a1 5 (v := m A 16) (nselA (by omega)) (hR.rg _ _)
  refine p_iload 128 c70_127 rfl rfl ?_
  exact p_ireturn c70_128 (Hr _ _ hX gxs0 hR964 _)
def J70_114 (f : Nat) (A : Nat) (a1 : Nat) (m : yM) : Option (Int × yM) := (J70_115 f A a1 0 m)
set_option maxRecDepth 100000 in
theorem tJ70_114 {L : Nat} {xs : Nat → Int32} {Q : xO → yM → Nat → Prop} {k d n : Nat} {c : yS3} {f : Nat} {A : Nat} {a1 : Nat} {m : yM} {j2 : Option Value} (hk : k ≤ f) (hc : c.1 = pX A) (hA : (A = 256 ∨ A = 316)) (hm1 : (266 ≤ a1 ∧ a1 < 276) ∨ (326 ≤ a1 ∧ a1 < 336)) (hR : RM c m) (Hr : ∀ r m', J70_114 f A a1 m = some (r, m') → rg r → RM c m' → ∀ n', Q (.inl (some (yI r))) m' n') : PW (gZ L xs) k 70 d 114 [some (.ref 2), some (.ref a1), j2] [] m n Q := by
  have hX : J70_114 f A a1 m = J70_114 f A a1 m := rfl
  refine p_iconst 115 c70_114 rfl ?_
  exact tJ70_115 (f := f) (by omega) hc hA hm1 (rgD rfl) hR (fun r' m' e' => Hr r' m' (hX.trans e'))
def F70 (f : Nat) (A : Nat) (m : yM) : Option (Int × yM) := (if F38 (yup m 2 2 (wr ((m 2 2) + 1))) = 11 then (bI (F51 f A (F39 (yup m 2 2 (wr ((m 2 2) + 1)))) (yup m 2 2 (wr ((m 2 2) + 1)))) (fun r941 m943 => (if r941 = 0 then (J70_33 f A m943) else (bI (F37 f 40 (yup (yup m943 2 2 (wr ((m943 2 2) + 1))) (A + 10 + (wr ((m943 A 10) - 1)).toNat) 4 (m943 A 16))) (fun r956 m958 => (if r956 = 0 then (J70_114 f A (A + 10 + (wr ((m943 A 10) - 1)).toNat) m958) else (bI (F55 f A m958) (fun r1086 m1088 => (if r1086 = 0 then (J70_114 f A (A + 10 + (wr ((m943 A 10) - 1)).toNat) m1088) else (bI (F37 f 41 m1088) (fun r1099 m1101 => (if r1099 = 0 then (J70_114 f A (A + 10 + (wr ((m943 A 10) - 1)).toNat) m1101) else (bI (F69 f A f 0 m1101) (fun r1852 m1854 => (if r1852 = 0 then (J70_114 f A (A + 10 + (wr ((m943 A 10) - 1)).toNat) m1854) else (J70_115 f A (A + 10 + (wr ((m943 A 10) - 1)).toNat) 1 m1854)))))))))))))))) else (J70_33 f A (yup m 2 2 (wr ((m 2 2) + 1)))))
set_option maxRecDepth 100000 in
theorem d70 {L : Nat} {xs : Nat → Int32} {k d n : Nat} {c : yS3} {f : Nat} {A : Nat} {m : yM} (hk : k ≤ f) (hc : c.1 = pX A) (hA : (A = 256 ∨ A = 316)) (hR : RM c m) : PC (gZ L xs) k d 70 [.ref 2] m n (qS c (F70 f A m)) := by
  have hX : F70 f A m = F70 f A m := rfl
  have Hr : ∀ r m', F70 f A m = some (r, m') → rg r → RM c m' → ∀ n' : Nat, (qS c (F70 f A m)) (.inl (some (yI r))) m' n' := fun r m' e h1 h2 n' => ⟨r, rfl, h1, h2, e⟩
  refine PC.mk [some (.ref 2), none, none] kn70 rfl ?_
  refine p_aload 1 c70_0 rfl rfl ?_
  refine p_dup 2 c70_1 rfl rfl ?_
  refine p_getX 5 (m 2 2) c70_2 rfl kf2_2 rfl ?_
  refine p_iconst 6 c70_5 rfl ?_
  refine p_iadd 7 c70_6 rfl ?_
  refine p_putI 10 c70_7 rfl kf2_2 ?_
  have hR860 := hR.up 2 2 (v := wr ((m 2 2) + 1)) (nselD rfl) (rg_wr _)
  refine p_aload 11 c70_10 rfl rfl ?_
  refine p_cX 14 [.ref 2] [] c70_11 rfl rfl rfl (fun k' hk' d' => d38 hR860) (fun hg863 n862 k861 hk861 => ?_)
  refine p_iconst 16 c70_14 rfl ?_
  refine p_icmp 33 19 c70_16 rfl rfl (yc_ne hg863 (rgD rfl)) (fun hb864 k865 hk865 => ?_) (fun hb864 k866 hk866 => ?_)
  · have hX867 := hX.trans (if_neg hb864)
    exact tJ70_33 (f := f) (by omega) hc hA hR860 (fun r' m' e' => Hr r' m' (hX867.trans e'))
  · have hX876 := hX.trans (if_pos (Classical.not_not.mp hb864))
    refine p_aload 20 c70_19 rfl rfl ?_
    refine p_getV 23 (.ref A) c70_20 rfl kf2_1 (pX_of hA hR860.2.2.2.1 hc) ?_
    refine p_aload 24 c70_23 rfl rfl ?_
    refine p_cX 27 [.ref 2] [.ref A] c70_24 rfl rfl rfl (fun k' hk' d' => d39 hR860) (fun hg879 n878 k877 hk877 => ?_)
    refine p_cS 30 [.ref A, yI (F39 (yup m 2 2 (wr ((m 2 2) + 1))))] [] c70_27 rfl rfl rfl (fun k' hk' d' => d51 (f := f) (by omega) hA hg879 hR860) (fun r941 m943 hF939 hg940 hR944 n881 k880 hk880 => ?_)
    have hX942 := hX876.trans (bI_s hF939)
    refine p_if 38 33 c70_30 rfl rfl (yz_ne hg940) (fun hb945 k946 hk946 => ?_) (fun hb945 k947 hk947 => ?_)
    · have hX948 := hX942.trans (if_neg hb945)
      refine p_aload 39 c70_38 rfl rfl ?_
      refine p_dup 40 c70_39 rfl rfl ?_
      refine p_getX 43 (m943 2 2) c70_40 rfl kf2_2 rfl ?_
      refine p_iconst 44 c70_43 rfl ?_
      refine p_iadd 45 c70_44 rfl ?_
      refine p_putI 48 c70_45 rfl kf2_2 ?_
      have hR949 := hR944.up 2 2 (v := wr ((m943 2 2) + 1)) (nselD rfl) (rg_wr _)
      refine p_aload 49 c70_48 rfl rfl ?_
      refine p_getV 52 (.ref A) c70_49 rfl kf2_1 (pX_of hA hR949.2.2.2.1 hc) ?_
      refine p_getR 55 c70_52 rfl (kP_5 hA) ?_
      refine p_aload 56 c70_55 rfl rfl ?_
      refine p_getV 59 (.ref A) c70_56 rfl kf2_1 (pX_of hA hR949.2.2.2.1 hc) ?_
      refine p_getX 62 (m943 A 10) c70_59 rfl (kP_10 hA) (yup_na (by omega)) ?_
      refine p_iconst 63 c70_62 rfl ?_
      refine p_isub 64 c70_63 rfl ?_
      refine p_aaX 65 c70_64 rfl (kPr_6 hA) (rg_wr _) (fun hx950 => ?_)
      refine p_astore 66 c70_65 rfl rfl ?_
      refine p_aload 67 c70_66 rfl rfl ?_
      refine p_aload 68 c70_67 rfl rfl ?_
      refine p_getV 71 (.ref A) c70_68 rfl kf2_1 (pX_of hA hR949.2.2.2.1 hc) ?_
      refine p_getX 74 (m943 A 16) c70_71 rfl (kP_16 hA) (yup_na (by omega)) ?_
      refine p_putI 77 c70_74 rfl (kM_4 (kMr hA hx950)) ?_
      have hR951 := hR949.up (A + 10 + (wr ((m943 A 10) - 1)).toNat) 4 (v := m943 A 16) (nselA (by omega)) (hR944.rg _ _)
      refine p_aload 78 c70_77 rfl rfl ?_
      refine p_iconst 80 c70_78 rfl ?_
      refine p_cS 83 [.ref 2, yI 40] [] c70_80 rfl rfl rfl (fun k' hk' d' => d37 (f := f) (by omega) (rgD rfl) hR951) (fun r956 m958 hF954 hg955 hR959 n953 k952 hk952 => ?_)
      have hX957 := hX948.trans (bI_s hF954)
      refine p_if 114 86 c70_83 rfl rfl (yz_eq hg955) (fun hb960 k961 hk961 => ?_) (fun hb960 k962 hk962 => ?_)
      · have hX963 := hX957.trans (if_pos hb960)
        exact tJ70_114 (f := f) (by omega) hc hA (kMr hA hx950) hR959 (fun r' m' e' => Hr r' m' (hX963.trans e'))
      · have hX965 := hX957.trans (if_neg hb960)
        refine p_aload 87 c70_86 rfl rfl ?_
        refine p_cS 90 [.ref 2] [] c70_87 rfl rfl rfl (fun k' hk' d' => d55 (f := f) (by omega) hc hA hR959) (fun r1086 m1088 hF1084 hg1085 hR1089 n967 k966 hk966 => ?_)
        have hX1087 := hX965.trans (bI_s hF1084)
        refine p_if 114 93 c70_90 rfl rfl (yz_eq hg1085) (fun hb1090 k1091 hk1091 => ?_) (fun hb1090 k1092 hk1092 => ?_)
        · have hX1093 := hX1087.trans (if_pos hb1090)
          exact tJ70_114 (f := f) (by omega) hc hA (kMr hA hx950) hR1089 (fun r' m' e' => Hr r' m' (hX1093.trans e'))
        · have hX1094 := hX1087.trans (if_neg hb1090)
          refine p_aload 94 c70_93 rfl rfl ?_
          refine p_iconst 96 c70_94 rfl ?_
          refine p_cS 99 [.ref 2, yI 41] [] c70_96 rfl rfl rfl (fun k' hk' d' => d37 (f := f) (by omega) (rgD rfl) hR1089) (fun r1099 m1101 hF1097 hg1098 hR1102 n1096 k1095 hk1095 => ?_)
          have hX1100 := hX1094.trans (bI_s hF1097)
          refine p_if 114 102 c70_99 rfl rfl (yz_eq hg1098) (fun hb1103 k1104 hk1104 => ?_) (fun hb1103 k1105 hk1105 => ?_)
          · have hX1106 := hX1100.trans (if_pos hb1103)
            exact tJ70_114 (f := f) (by omega) hc hA (kMr hA hx950) hR1102 (fun r' m' e' => Hr r' m' (hX1106.trans e'))
          · have hX1107 := hX1100.trans (if_neg hb1103)
            refine p_aload 103 c70_102 rfl rfl ?_
            refine p_iconst 104 c70_103 rfl ?_
            refine p_cS 107 [.ref 2, yI 0] [] c70_104 rfl rfl rfl (fun k' hk' d' => d69 (f := f) hc hA f k' (by omega) (by omega) _ _ _ _ (rgD rfl) hR1102) (fun r1852 m1854 hF1850 hg1851 hR1855 n1109 k1108 hk1108 => ?_)
            have hX1853 := hX1107.trans (bI_s hF1850)
            refine p_if 114 110 c70_107 rfl rfl (yz_eq hg1851) (fun hb1856 k1857 hk1857 => ?_) (fun hb1856 k1858 hk1858 => ?_)
            · have hX1859 := hX1853.trans (if_pos hb1856)
              exact tJ70_114 (f := f) (by omega) hc hA (kMr hA hx950) hR1855 (fun r' m' e' => Hr r' m' (hX1859.trans e'))
            · have hX1860 := hX1853.trans (if_neg hb1856)
              refine p_iconst 111 c70_110 rfl ?_
              refine p_goto 115 c70_111 rfl ?_
              exact tJ70_115 (f := f) (by omega) hc hA (kMr hA hx950) (rgD rfl) hR1855 (fun r' m' e' => Hr r' m' (hX1860.trans e'))
    · have hX1861 := hX942.trans (if_pos (Classical.not_not.mp hb945))
      exact tJ70_33 (f := f) (by omega) hc hA hR944 (fun r' m' e' => Hr r' m' (hX1861.trans e'))
def J71_23 (f : Nat) (A : Nat) (xs1 : Int) (m : yM) : Option (Int × yM) := (if xs1 = 0 then (bI (F45 f A (yup m 2 3 xs1)) (fun r1891 m1893 => (if r1891 = 0 then (some (0, m1893)) else (some (1, m1893))))) else (some (1, yup m 2 3 xs1)))
set_option maxRecDepth 100000 in
theorem tJ71_23 {L : Nat} {xs : Nat → Int32} {Q : xO → yM → Nat → Prop} {k d n : Nat} {c : yS3} {f : Nat} {A : Nat} {xs1 : Int} {m : yM} (hk : k ≤ f) (hc : c.1 = pX A) (hA : (A = 256 ∨ A = 316)) (gxs1 : rg xs1) (hR : RM c m) (Hr : ∀ r m', J71_23 f A xs1 m = some (r, m') → rg r → RM c m' → ∀ n', Q (.inl (some (yI r))) m' n') : PW (gZ L xs) k 71 d 23 [some (.ref 2)] [yI xs1, .ref 2] m n Q := by
  have hX : J71_23 f A xs1 m = J71_23 f A xs1 m := rfl
  refine p_putI 26 c71_23 rfl kf2_3 ?_
  have hR1881 := hR.up 2 3 (v := xs1) (nselD rfl) gxs1
  refine p_aload 27 c71_26 rfl rfl ?_
  refine p_getX 30 xs1 c71_27 rfl kf2_3 (yup_eq _ _ _ _) ?_
  refine p_if 40 33 c71_30 rfl rfl (yz_ne gxs1) (fun hb1882 k1883 hk1883 => ?_) (fun hb1882 k1884 hk1884 => ?_)
  · have hX1885 := hX.trans (if_neg hb1882)
    refine p_iconst 41 c71_40 rfl ?_
    refine p_goto 45 c71_41 rfl ?_
    exact p_ireturn c71_45 (Hr _ _ hX1885 (rgD rfl) hR1881 _)
  · have hX1886 := hX.trans (if_pos (Classical.not_not.mp hb1882))
    refine p_aload 34 c71_33 rfl rfl ?_
    refine p_cS 37 [.ref 2] [] c71_34 rfl rfl rfl (fun k' hk' d' => d45 (f := f) (by omega) hc hA hR1881) (fun r1891 m1893 hF1889 hg1890 hR1894 n1888 k1887 hk1887 => ?_)
    have hX1892 := hX1886.trans (bI_s hF1889)
    refine p_if 44 40 c71_37 rfl rfl (yz_eq hg1890) (fun hb1895 k1896 hk1896 => ?_) (fun hb1895 k1897 hk1897 => ?_)
    · have hX1898 := hX1892.trans (if_pos hb1895)
      refine p_iconst 45 c71_44 rfl ?_
      exact p_ireturn c71_45 (Hr _ _ hX1898 (rgD rfl) hR1894 _)
    · have hX1899 := hX1892.trans (if_neg hb1895)
      refine p_iconst 41 c71_40 rfl ?_
      refine p_goto 45 c71_41 rfl ?_
      exact p_ireturn c71_45 (Hr _ _ hX1899 (rgD rfl) hR1894 _)
def F71 (f : Nat) (A : Nat) (m : yM) : Option (Int × yM) := (if F38 (yup m 2 2 (wr ((m 2 2) + 1))) = 0 then (J71_23 f A 1 (yup m 2 2 (wr ((m 2 2) + 1)))) else (J71_23 f A 0 (yup m 2 2 (wr ((m 2 2) + 1)))))
set_option maxRecDepth 100000 in
theorem d71 {L : Nat} {xs : Nat → Int32} {k d n : Nat} {c : yS3} {f : Nat} {A : Nat} {m : yM} (hk : k ≤ f) (hc : c.1 = pX A) (hA : (A = 256 ∨ A = 316)) (hR : RM c m) : PC (gZ L xs) k d 71 [.ref 2] m n (qS c (F71 f A m)) := by
  have hX : F71 f A m = F71 f A m := rfl
  have Hr : ∀ r m', F71 f A m = some (r, m') → rg r → RM c m' → ∀ n' : Nat, (qS c (F71 f A m)) (.inl (some (yI r))) m' n' := fun r m' e h1 h2 n' => ⟨r, rfl, h1, h2, e⟩
  refine PC.mk [some (.ref 2)] kn71 rfl ?_
  refine p_aload 1 c71_0 rfl rfl ?_
  refine p_dup 2 c71_1 rfl rfl ?_
  refine p_getX 5 (m 2 2) c71_2 rfl kf2_2 rfl ?_
  refine p_iconst 6 c71_5 rfl ?_
  refine p_iadd 7 c71_6 rfl ?_
  refine p_putI 10 c71_7 rfl kf2_2 ?_
  have hR1873 := hR.up 2 2 (v := wr ((m 2 2) + 1)) (nselD rfl) (rg_wr _)
  refine p_aload 11 c71_10 rfl rfl ?_
  refine p_aload 12 c71_11 rfl rfl ?_
  refine p_cX 15 [.ref 2] [.ref 2] c71_12 rfl rfl rfl (fun k' hk' d' => d38 hR1873) (fun hg1876 n1875 k1874 hk1874 => ?_)
  refine p_if 22 18 c71_15 rfl rfl (yz_ne hg1876) (fun hb1877 k1878 hk1878 => ?_) (fun hb1877 k1879 hk1879 => ?_)
  · have hX1880 := hX.trans (if_neg hb1877)
    refine p_iconst 23 c71_22 rfl ?_
    exact tJ71_23 (f := f) (by omega) hc hA (rgD rfl) hR1873 (fun r' m' e' => Hr r' m' (hX1880.trans e'))
  · have hX1900 := hX.trans (if_pos (Classical.not_not.mp hb1877))
    refine p_iconst 19 c71_18 rfl ?_
    refine p_goto 23 c71_19 rfl ?_
    exact tJ71_23 (f := f) (by omega) hc hA (rgD rfl) hR1873 (fun r' m' e' => Hr r' m' (hX1900.trans e'))
def B72_6 (f : Nat) (A : Nat) (x2 : Int) (x3 : Int) (x4 : Int) (x5 : Int) (m : yM) : Option ((Int × Int) ⊕ ((Int × Int) ⊕ Int)) := (if x5 < 6 then (if x4 = (-1) then (some (.inr (.inl (x4, x5)))) else (bP (F50 f A x4 x2 m) (fun r2012 => (if r2012 = (-1) then (some (.inl (m (A + 2) x4.toNat, wr (x5 + 1)))) else (if m (A + 10 + (r2012).toNat) 3 = x3 then (some (.inr (.inr r2012))) else (some (.inr (.inr ((-1)))))))))) else (some (.inr (.inl (x4, x5)))))
set_option maxRecDepth 100000 in
theorem tB72_6 {L : Nat} {xs : Nat → Int32} {Q : xO → yM → Nat → Prop} {k d n : Nat} {c : yS3} {f : Nat} {A : Nat} {x2 : Int} {x3 : Int} {x4 : Int} {x5 : Int} {m : yM} {j1 j6 : Option Value} (hk : k ≤ f) (hA : (A = 256 ∨ A = 316)) (gx2 : rg x2) (gx3 : rg x3) (gx4 : rg x4) (gx5 : rg x5) (hR : RM c m) (Hn : ∀ (y0 y1 : Int) (z0 z1 : Option Value) (n' : Nat), B72_6 f A x2 x3 x4 x5 m = some (.inl (y0, y1)) → rg y0 → rg y1 → ∀ k', k' < k → PW (gZ L xs) k' 72 d 6 [some (.ref A), z0, some (yI x2), some (yI x3), some (yI y0), some (yI y1), z1] [] m n' Q) (He : ∀ (y0 y1 : Int) (z0 z1 : Option Value) (n' : Nat), B72_6 f A x2 x3 x4 x5 m = some (.inr (.inl (y0, y1))) → rg y0 → rg y1 → ∀ k', k' ≤ k → PW (gZ L xs) k' 72 d 70 [some (.ref A), z0, some (yI x2), some (yI x3), some (yI y0), some (yI y1), z1] [] m n' Q) (Hr : ∀ r, B72_6 f A x2 x3 x4 x5 m = some (.inr (.inr r)) → rg r → ∀ n', Q (.inl (some (yI r))) m n') : PW (gZ L xs) k 72 d 6 [some (.ref A), j1, some (yI x2), some (yI x3), some (yI x4), some (yI x5), j6] [] m n Q := by
  have hX : B72_6 f A x2 x3 x4 x5 m = B72_6 f A x2 x3 x4 x5 m := rfl
  refine p_iload 8 c72_6 rfl rfl ?_
  refine p_iconst 10 c72_8 rfl ?_
  refine p_icmp 70 13 c72_10 rfl rfl ((yc_ge gx5 (rgD rfl)).trans Int.not_lt.symm) (fun hb1998 k1999 hk1999 => ?_) (fun hb1998 k2000 hk2000 => ?_)
  · have hX2001 := hX.trans (if_neg hb1998)
    exact He _ _ _ _ _ hX2001 gx4 gx5 _ (by omega)
  · have hX2002 := hX.trans (if_pos (Classical.not_not.mp hb1998))
    refine p_iload 15 c72_13 rfl rfl ?_
    refine p_iconst 16 c72_15 rfl ?_
    refine p_icmp 70 19 c72_16 rfl rfl (yc_eq gx4 (rgD rfl)) (fun hb2003 k2004 hk2004 => ?_) (fun hb2003 k2005 hk2005 => ?_)
    · have hX2006 := hX2002.trans (if_pos hb2003)
      exact He _ _ _ _ _ hX2006 gx4 gx5 _ (by omega)
    · have hX2007 := hX2002.trans (if_neg hb2003)
      refine p_aload 20 c72_19 rfl rfl ?_
      refine p_iload 22 c72_20 rfl rfl ?_
      refine p_iload 23 c72_22 rfl rfl ?_
      refine p_cO 26 [.ref A, yI x4, yI x2] [] c72_23 rfl rfl rfl (fun k' hk' d' => d50 (f := f) (by omega) hA gx4 gx2 hR) (fun r2012 hF2010 hg2011 n2009 k2008 hk2008 => ?_)
      have hX2013 := hX2007.trans (bP_s hF2010)
      refine p_istore 28 c72_26 rfl rfl ?_
      refine p_iload 30 c72_28 rfl rfl ?_
      refine p_iconst 31 c72_30 rfl ?_
      refine p_icmp 55 34 c72_31 rfl rfl (yc_eq hg2011 (rgD rfl)) (fun hb2014 k2015 hk2015 => ?_) (fun hb2014 k2016 hk2016 => ?_)
      · have hX2017 := hX2013.trans (if_pos hb2014)
        refine p_aload 56 c72_55 rfl rfl ?_
        refine p_getR 59 c72_56 rfl (kP_1 hA) ?_
        refine p_iload 61 c72_59 rfl rfl ?_
        refine p_iaX 62 (m (A + 2) x4.toNat) c72_61 rfl (kPa_2 hA) gx4 rfl (fun hx2018 => ?_)
        refine p_istore 64 c72_62 rfl rfl ?_
        refine p_iinc 67 c72_64 rfl rfl rfl ?_
        refine p_gotoD 6 c72_67 rfl (fun k2019 hk2019 => ?_)
        exact Hn _ _ _ _ _ hX2017 (hR.rg _ _) (rg_wr _) _ (by omega)
      · have hX2020 := hX2013.trans (if_neg hb2014)
        refine p_aload 35 c72_34 rfl rfl ?_
        refine p_getR 38 c72_35 rfl (kP_5 hA) ?_
        refine p_iload 40 c72_38 rfl rfl ?_
        refine p_aaX 41 c72_40 rfl (kPr_6 hA) hg2011 (fun hx2021 => ?_)
        refine p_getX 44 (m (A + 10 + (r2012).toNat) 3) c72_41 rfl (kM_3 (kMr hA hx2021)) rfl ?_
        refine p_iload 45 c72_44 rfl rfl ?_
        refine p_icmp 53 48 c72_45 rfl rfl (yc_ne (hR.rg _ _) gx3) (fun hb2022 k2023 hk2023 => ?_) (fun hb2022 k2024 hk2024 => ?_)
        · have hX2025 := hX2020.trans (if_neg hb2022)
          refine p_iconst 54 c72_53 rfl ?_
          exact p_ireturn c72_54 (Hr _ hX2025 (rgD rfl) _)
        · have hX2026 := hX2020.trans (if_pos (Classical.not_not.mp hb2022))
          refine p_iload 50 c72_48 rfl rfl ?_
          refine p_goto 54 c72_50 rfl ?_
          exact p_ireturn c72_54 (Hr _ hX2026 hg2011 _)
def F72 (f : Nat) (A : Nat) (x1 : Int) (x2 : Int) (x3 : Int) (m : yM) : Option Int := (bQ (ploop (fun (l : Int × Int) => B72_6 f A x2 x3 l.1 l.2 m) f (x1, 0)) (fun l2027 => (some ((-1)))) (fun r => some r))
set_option maxRecDepth 100000 in
theorem d72 {L : Nat} {xs : Nat → Int32} {k d n : Nat} {c : yS3} {f : Nat} {A : Nat} {x1 : Int} {x2 : Int} {x3 : Int} {m : yM} (hk : k ≤ f) (hA : (A = 256 ∨ A = 316)) (gx1 : rg x1) (gx2 : rg x2) (gx3 : rg x3) (hR : RM c m) : PC (gZ L xs) k d 72 [.ref A, yI x1, yI x2, yI x3] m n (qO m (F72 f A x1 x2 x3 m)) := by
  have hX : F72 f A x1 x2 x3 m = F72 f A x1 x2 x3 m := rfl
  have Hr : ∀ r, F72 f A x1 x2 x3 m = some r → rg r → ∀ n' : Nat, (qO m (F72 f A x1 x2 x3 m)) (.inl (some (yI r))) m n' := fun r e h n' => ⟨r, rfl, h, rfl, e⟩
  refine PC.mk [some (.ref A), some (yI x1), some (yI x2), some (yI x3), none, none, none] kn72 rfl ?_
  refine p_iload 1 c72_0 rfl rfl ?_
  refine p_istore 3 c72_1 rfl rfl ?_
  refine p_iconst 4 c72_3 rfl ?_
  refine p_istore 6 c72_4 rfl rfl ?_
  refine PW.ploop (K := k) (pce := 70) (fun (l : Int × Int) => B72_6 f A x2 x3 l.1 l.2 m) (fun (l : Int × Int) j => [some (.ref A), j 1, some (yI x2), some (yI x3), some (yI l.1), some (yI l.2), j 6]) (fun (l : Int × Int) => rg l.1 ∧ rg l.2) (fun r' => rg r' → ∀ n' : Nat, (qO m (F72 f A x1 x2 x3 m)) (.inl (some (yI r'))) m n') (fun k' hk' l j n' hl Hn' He' Hr' => tB72_6 (f := f) (by omega) hA gx2 gx3 hl.1 hl.2 hR (fun y0 y1 y2 y3 n2 e h0 h1 => Hn' (y0, y1) (fun q => ([none, y2, none, none, none, none, y3] : List (Option Value)).getD q none) n2 e ⟨h0, h1⟩) (fun y0 y1 y2 y3 n2 e h0 h1 => He' (y0, y1) (fun q => ([none, y2, none, none, none, none, y3] : List (Option Value)).getD q none) n2 e ⟨h0, h1⟩) Hr') f k (by omega) (Nat.le_refl _) (x1, 0) (fun q => ([some (.ref A), some (yI x1), some (yI x2), some (yI x3), some (yI x1), some (yI 0), none] : xL).getD q none) _ ⟨gx1, (rgD rfl)⟩ (fun l2027 j2030 n2032 e2029 hl2028 k2031 hk2031 => ?_) (fun r' e' => ?_)
  · have hX2033 := hX.trans (bQ_l e2029)
    refine p_iconst 71 c72_70 rfl ?_
    exact p_ireturn c72_71 (Hr _ hX2033 (rgD rfl) _)
  · exact Hr r' (hX.trans (bQ_r e'))
def J73_112 (f : Nat) (A : Nat) (x1 : Int) (m : yM) : Option ((Int × yM) ⊕ ((Int × yM) ⊕ (Int × yM))) := (some (.inl ((wr (x1 + 1)), m)))
set_option maxRecDepth 100000 in
theorem tJ73_112 {L : Nat} {xs : Nat → Int32} {Q : xO → yM → Nat → Prop} {k d n : Nat} {c : yS3} {f : Nat} {A : Nat} {x1 : Int} {m : yM} {j2 : Option Value} (hk : k ≤ f) (hA : (A = 256 ∨ A = 316)) (gx1 : rg x1) (hR : RM c m) (Hn : ∀ (y0 : Int) (z0 : Option Value) (m' : yM) (n' : Nat), J73_112 f A x1 m = some (.inl (y0, m')) → rg y0 → RM c m' → ∀ k', k' < k → PW (gZ L xs) k' 73 d 2 [some (.ref A), some (yI y0), z0] [] m' n' Q) (He : ∀ (y0 : Int) (z0 : Option Value) (m' : yM) (n' : Nat), J73_112 f A x1 m = some (.inr (.inl (y0, m'))) → rg y0 → RM c m' → ∀ k', k' ≤ k → PW (gZ L xs) k' 73 d 118 [some (.ref A), some (yI y0), z0] [] m' n' Q) (Hr : ∀ r m', J73_112 f A x1 m = some (.inr (.inr (r, m'))) → rg r → RM c m' → ∀ n', Q (.inl (some (yI r))) m' n') : PW (gZ L xs) k 73 d 112 [some (.ref A), some (yI x1), j2] [] m n Q := by
  have hX : J73_112 f A x1 m = J73_112 f A x1 m := rfl
  refine p_iinc 115 c73_112 rfl rfl rfl ?_
  refine p_gotoD 2 c73_115 rfl (fun k1949 hk1949 => ?_)
  exact Hn _ _ _ _ hX (rg_wr _) hR _ (by omega)
def J73_34 (f : Nat) (A : Nat) (x1 : Int) (a2 : Nat) (m : yM) : Option ((Int × yM) ⊕ ((Int × yM) ⊕ (Int × yM))) := (bP (F46 f A (m a2 4) m) (fun r1946 => (J73_112 f A x1 (yup m a2 6 r1946))))
set_option maxRecDepth 100000 in
theorem tJ73_34 {L : Nat} {xs : Nat → Int32} {Q : xO → yM → Nat → Prop} {k d n : Nat} {c : yS3} {f : Nat} {A : Nat} {x1 : Int} {a2 : Nat} {m : yM} (hk : k ≤ f) (hA : (A = 256 ∨ A = 316)) (gx1 : rg x1) (hs2 : (276 ≤ a2 ∧ a2 < 316) ∨ (336 ≤ a2 ∧ a2 < 376)) (hR : RM c m) (Hn : ∀ (y0 : Int) (z0 : Option Value) (m' : yM) (n' : Nat), J73_34 f A x1 a2 m = some (.inl (y0, m')) → rg y0 → RM c m' → ∀ k', k' < k → PW (gZ L xs) k' 73 d 2 [some (.ref A), some (yI y0), z0] [] m' n' Q) (He : ∀ (y0 : Int) (z0 : Option Value) (m' : yM) (n' : Nat), J73_34 f A x1 a2 m = some (.inr (.inl (y0, m'))) → rg y0 → RM c m' → ∀ k', k' ≤ k → PW (gZ L xs) k' 73 d 118 [some (.ref A), some (yI y0), z0] [] m' n' Q) (Hr : ∀ r m', J73_34 f A x1 a2 m = some (.inr (.inr (r, m'))) → rg r → RM c m' → ∀ n', Q (.inl (some (yI r))) m' n') : PW (gZ L xs) k 73 d 34 [some (.ref A), some (yI x1), some (.ref a2)] [] m n Q := by
  have hX : J73_34 f A x1 a2 m = J73_34 f A x1 a2 m := rfl
  refine p_aload 35 c73_34 rfl rfl ?_
  refine p_aload 36 c73_35 rfl rfl ?_
  refine p_aload 37 c73_36 rfl rfl ?_
  refine p_getX 40 (m a2 4) c73_37 rfl (kS_4 hs2) rfl ?_
  refine p_cO 43 [.ref A, yI (m a2 4)] [.ref a2] c73_40 rfl rfl rfl (fun k' hk' d' => d46 (f := f) (by omega) hA (hR.rg _ _) hR) (fun r1946 hF1944 hg1945 n1943 k1942 hk1942 => ?_)
  have hX1947 := hX.trans (bP_s hF1944)
  refine p_putI 46 c73_43 rfl (kS_6 hs2) ?_
  have hR1948 := hR.up a2 6 (v := r1946) (nselA (by omega)) hg1945
  refine p_goto 112 c73_46 rfl ?_
  exact tJ73_112 (f := f) (by omega) hA gx1 hR1948 (fun y0 y1 m' n' e' h0 hR' k' hk' => Hn y0 y1 m' n' (hX1947.trans e') h0 hR' k' (by omega)) (fun y0 y1 m' n' e' h0 hR' k' hk' => He y0 y1 m' n' (hX1947.trans e') h0 hR' k' (by omega)) (fun r' m' e' => Hr r' m' (hX1947.trans e'))
def J73_66 (f : Nat) (A : Nat) (x1 : Int) (a2 : Nat) (m : yM) : Option ((Int × yM) ⊕ ((Int × yM) ⊕ (Int × yM))) := (bP (F41 f A (m a2 4) m) (fun r1963 => (if r1963 = (-1) then (some (.inr (.inr (m a2 5, yup m a2 7 r1963)))) else (if m a2 0 = 5 then (J73_112 f A x1 (yup (yup m a2 7 r1963) (A + 8) (m a2 6).toNat r1963)) else (J73_112 f A x1 (yup m a2 7 r1963))))))
set_option maxRecDepth 100000 in
theorem tJ73_66 {L : Nat} {xs : Nat → Int32} {Q : xO → yM → Nat → Prop} {k d n : Nat} {c : yS3} {f : Nat} {A : Nat} {x1 : Int} {a2 : Nat} {m : yM} (hk : k ≤ f) (hA : (A = 256 ∨ A = 316)) (gx1 : rg x1) (hs2 : (276 ≤ a2 ∧ a2 < 316) ∨ (336 ≤ a2 ∧ a2 < 376)) (hR : RM c m) (Hn : ∀ (y0 : Int) (z0 : Option Value) (m' : yM) (n' : Nat), J73_66 f A x1 a2 m = some (.inl (y0, m')) → rg y0 → RM c m' → ∀ k', k' < k → PW (gZ L xs) k' 73 d 2 [some (.ref A), some (yI y0), z0] [] m' n' Q) (He : ∀ (y0 : Int) (z0 : Option Value) (m' : yM) (n' : Nat), J73_66 f A x1 a2 m = some (.inr (.inl (y0, m'))) → rg y0 → RM c m' → ∀ k', k' ≤ k → PW (gZ L xs) k' 73 d 118 [some (.ref A), some (yI y0), z0] [] m' n' Q) (Hr : ∀ r m', J73_66 f A x1 a2 m = some (.inr (.inr (r, m'))) → rg r → RM c m' → ∀ n', Q (.inl (some (yI r))) m' n') : PW (gZ L xs) k 73 d 66 [some (.ref A), some (yI x1), some (.ref a2)] [] m n Q := by
  have hX : J73_66 f A x1 a2 m = J73_66 f A x1 a2 m := rfl
  refine p_aload 67 c73_66 rfl rfl ?_
  refine p_aload 68 c73_67 rfl rfl ?_
  refine p_aload 69 c73_68 rfl rfl ?_
  refine p_getX 72 (m a2 4) c73_69 rfl (kS_4 hs2) rfl ?_
  refine p_cO 75 [.ref A, yI (m a2 4)] [.ref a2] c73_72 rfl rfl rfl (fun k' hk' d' => d41 (f := f) (by omega) hA (hR.rg _ _) hR) (fun r1963 hF1961 hg1962 n1960 k1959 hk1959 => ?_)
  have hX1964 := hX.trans (bP_s hF1961)
  refine p_putI 78 c73_75 rfl (kS_7 hs2) ?_
  have hR1965 := hR.up a2 7 (v := r1963) (nselA (by omega)) hg1962
  refine p_aload 79 c73_78 rfl rfl ?_
  refine p_getX 82 r1963 c73_79 rfl (kS_7 hs2) (yup_eq _ _ _ _) ?_
  refine p_iconst 83 c73_82 rfl ?_
  refine p_icmp 91 86 c73_83 rfl rfl (yc_ne hg1962 (rgD rfl)) (fun hb1966 k1967 hk1967 => ?_) (fun hb1966 k1968 hk1968 => ?_)
  · have hX1969 := hX1964.trans (if_neg hb1966)
    refine p_aload 92 c73_91 rfl rfl ?_
    refine p_getX 95 (m a2 0) c73_92 rfl (kS_0 hs2) (yup_nk (by decide)) ?_
    refine p_iconst 96 c73_95 rfl ?_
    refine p_icmp 112 99 c73_96 rfl rfl (yc_ne (hR.rg _ _) (rgD rfl)) (fun hb1970 k1971 hk1971 => ?_) (fun hb1970 k1972 hk1972 => ?_)
    · have hX1973 := hX1969.trans (if_neg hb1970)
      exact tJ73_112 (f := f) (by omega) hA gx1 hR1965 (fun y0 y1 m' n' e' h0 hR' k' hk' => Hn y0 y1 m' n' (hX1973.trans e') h0 hR' k' (by omega)) (fun y0 y1 m' n' e' h0 hR' k' hk' => He y0 y1 m' n' (hX1973.trans e') h0 hR' k' (by omega)) (fun r' m' e' => Hr r' m' (hX1973.trans e'))
    · have hX1974 := hX1969.trans (if_pos (Classical.not_not.mp hb1970))
      refine p_aload 100 c73_99 rfl rfl ?_
      refine p_getR 103 c73_100 rfl (kP_7 hA) ?_
      refine p_aload 104 c73_103 rfl rfl ?_
      refine p_getX 107 (m a2 6) c73_104 rfl (kS_6 hs2) (yup_nk (by decide)) ?_
      refine p_aload 108 c73_107 rfl rfl ?_
      refine p_getX 111 r1963 c73_108 rfl (kS_7 hs2) (yup_eq _ _ _ _) ?_
      refine p_iaS 112 c73_111 rfl (kPa_8 hA) (hR.rg _ _) r1963 (nar0 hg1962) (fun hx1975 => ?_)
      have hR1976 := hR1965.up (A + 8) (m a2 6).toNat (v := r1963) (nselA (by omega)) hg1962
      exact tJ73_112 (f := f) (by omega) hA gx1 hR1976 (fun y0 y1 m' n' e' h0 hR' k' hk' => Hn y0 y1 m' n' (hX1974.trans e') h0 hR' k' (by omega)) (fun y0 y1 m' n' e' h0 hR' k' hk' => He y0 y1 m' n' (hX1974.trans e') h0 hR' k' (by omega)) (fun r' m' e' => Hr r' m' (hX1974.trans e'))
  · have hX1977 := hX1964.trans (if_pos (Classical.not_not.mp hb1966))
    refine p_aload 87 c73_86 rfl rfl ?_
    refine p_getX 90 (m a2 5) c73_87 rfl (kS_5 hs2) (yup_nk (by decide)) ?_
    exact p_ireturn c73_90 (Hr _ _ hX1977 (hR.rg _ _) hR1965 _)
def B73_2 (f : Nat) (A : Nat) (x1 : Int) (m : yM) : Option ((Int × yM) ⊕ ((Int × yM) ⊕ (Int × yM))) := (if x1 < m A 16 then (if m (A + 20 + (x1).toNat) 0 = 9 then (J73_34 f A x1 (A + 20 + (x1).toNat) m) else (if m (A + 20 + (x1).toNat) 0 = 3 then (J73_34 f A x1 (A + 20 + (x1).toNat) m) else (if m (A + 20 + (x1).toNat) 0 = 5 then (J73_66 f A x1 (A + 20 + (x1).toNat) m) else (if m (A + 20 + (x1).toNat) 0 = 7 then (J73_66 f A x1 (A + 20 + (x1).toNat) m) else (J73_112 f A x1 m))))) else (some (.inr (.inl (x1, m)))))
set_option maxRecDepth 100000 in
theorem tB73_2 {L : Nat} {xs : Nat → Int32} {Q : xO → yM → Nat → Prop} {k d n : Nat} {c : yS3} {f : Nat} {A : Nat} {x1 : Int} {m : yM} {j2 : Option Value} (hk : k ≤ f) (hA : (A = 256 ∨ A = 316)) (gx1 : rg x1) (hR : RM c m) (Hn : ∀ (y0 : Int) (z0 : Option Value) (m' : yM) (n' : Nat), B73_2 f A x1 m = some (.inl (y0, m')) → rg y0 → RM c m' → ∀ k', k' < k → PW (gZ L xs) k' 73 d 2 [some (.ref A), some (yI y0), z0] [] m' n' Q) (He : ∀ (y0 : Int) (z0 : Option Value) (m' : yM) (n' : Nat), B73_2 f A x1 m = some (.inr (.inl (y0, m'))) → rg y0 → RM c m' → ∀ k', k' ≤ k → PW (gZ L xs) k' 73 d 118 [some (.ref A), some (yI y0), z0] [] m' n' Q) (Hr : ∀ r m', B73_2 f A x1 m = some (.inr (.inr (r, m'))) → rg r → RM c m' → ∀ n', Q (.inl (some (yI r))) m' n') : PW (gZ L xs) k 73 d 2 [some (.ref A), some (yI x1), j2] [] m n Q := by
  have hX : B73_2 f A x1 m = B73_2 f A x1 m := rfl
  refine p_iload 3 c73_2 rfl rfl ?_
  refine p_aload 4 c73_3 rfl rfl ?_
  refine p_getX 7 (m A 16) c73_4 rfl (kP_16 hA) rfl ?_
  refine p_icmp 118 10 c73_7 rfl rfl ((yc_ge gx1 (hR.rg _ _)).trans Int.not_lt.symm) (fun hb1932 k1933 hk1933 => ?_) (fun hb1932 k1934 hk1934 => ?_)
  · have hX1935 := hX.trans (if_neg hb1932)
    exact He _ _ _ _ hX1935 gx1 hR _ (by omega)
  · have hX1936 := hX.trans (if_pos (Classical.not_not.mp hb1932))
    refine p_aload 11 c73_10 rfl rfl ?_
    refine p_getR 14 c73_11 rfl (kP_6 hA) ?_
    refine p_iload 15 c73_14 rfl rfl ?_
    refine p_aaX 16 c73_15 rfl (kPr_7 hA) gx1 (fun hx1937 => ?_)
    refine p_astore 17 c73_16 rfl rfl ?_
    refine p_aload 18 c73_17 rfl rfl ?_
    refine p_getX 21 (m (A + 20 + (x1).toNat) 0) c73_18 rfl (kS_0 (kSr hA hx1937)) rfl ?_
    refine p_iconst 23 c73_21 rfl ?_
    refine p_icmp 34 26 c73_23 rfl rfl (yc_eq (hR.rg _ _) (rgD rfl)) (fun hb1938 k1939 hk1939 => ?_) (fun hb1938 k1940 hk1940 => ?_)
    · have hX1941 := hX1936.trans (if_pos hb1938)
      exact tJ73_34 (f := f) (by omega) hA gx1 (kSr hA hx1937) hR (fun y0 y1 m' n' e' h0 hR' k' hk' => Hn y0 y1 m' n' (hX1941.trans e') h0 hR' k' (by omega)) (fun y0 y1 m' n' e' h0 hR' k' hk' => He y0 y1 m' n' (hX1941.trans e') h0 hR' k' (by omega)) (fun r' m' e' => Hr r' m' (hX1941.trans e'))
    · have hX1950 := hX1936.trans (if_neg hb1938)
      refine p_aload 27 c73_26 rfl rfl ?_
      refine p_getX 30 (m (A + 20 + (x1).toNat) 0) c73_27 rfl (kS_0 (kSr hA hx1937)) rfl ?_
      refine p_iconst 31 c73_30 rfl ?_
      refine p_icmp 49 34 c73_31 rfl rfl (yc_ne (hR.rg _ _) (rgD rfl)) (fun hb1951 k1952 hk1952 => ?_) (fun hb1951 k1953 hk1953 => ?_)
      · have hX1954 := hX1950.trans (if_neg hb1951)
        refine p_aload 50 c73_49 rfl rfl ?_
        refine p_getX 53 (m (A + 20 + (x1).toNat) 0) c73_50 rfl (kS_0 (kSr hA hx1937)) rfl ?_
        refine p_iconst 54 c73_53 rfl ?_
        refine p_icmp 66 57 c73_54 rfl rfl (yc_eq (hR.rg _ _) (rgD rfl)) (fun hb1955 k1956 hk1956 => ?_) (fun hb1955 k1957 hk1957 => ?_)
        · have hX1958 := hX1954.trans (if_pos hb1955)
          exact tJ73_66 (f := f) (by omega) hA gx1 (kSr hA hx1937) hR (fun y0 y1 m' n' e' h0 hR' k' hk' => Hn y0 y1 m' n' (hX1958.trans e') h0 hR' k' (by omega)) (fun y0 y1 m' n' e' h0 hR' k' hk' => He y0 y1 m' n' (hX1958.trans e') h0 hR' k' (by omega)) (fun r' m' e' => Hr r' m' (hX1958.trans e'))
        · have hX1978 := hX1954.trans (if_neg hb1955)
          refine p_aload 58 c73_57 rfl rfl ?_
          refine p_getX 61 (m (A + 20 + (x1).toNat) 0) c73_58 rfl (kS_0 (kSr hA hx1937)) rfl ?_
          refine p_iconst 63 c73_61 rfl ?_
          refine p_icmp 112 66 c73_63 rfl rfl (yc_ne (hR.rg _ _) (rgD rfl)) (fun hb1979 k1980 hk1980 => ?_) (fun hb1979 k1981 hk1981 => ?_)
          · have hX1982 := hX1978.trans (if_neg hb1979)
            exact tJ73_112 (f := f) (by omega) hA gx1 hR (fun y0 y1 m' n' e' h0 hR' k' hk' => Hn y0 y1 m' n' (hX1982.trans e') h0 hR' k' (by omega)) (fun y0 y1 m' n' e' h0 hR' k' hk' => He y0 y1 m' n' (hX1982.trans e') h0 hR' k' (by omega)) (fun r' m' e' => Hr r' m' (hX1982.trans e'))
          · have hX1983 := hX1978.trans (if_pos (Classical.not_not.mp hb1979))
            exact tJ73_66 (f := f) (by omega) hA gx1 (kSr hA hx1937) hR (fun y0 y1 m' n' e' h0 hR' k' hk' => Hn y0 y1 m' n' (hX1983.trans e') h0 hR' k' (by omega)) (fun y0 y1 m' n' e' h0 hR' k' hk' => He y0 y1 m' n' (hX1983.trans e') h0 hR' k' (by omega)) (fun r' m' e' => Hr r' m' (hX1983.trans e'))
      · have hX1984 := hX1950.trans (if_pos (Classical.not_not.mp hb1951))
        exact tJ73_34 (f := f) (by omega) hA gx1 (kSr hA hx1937) hR (fun y0 y1 m' n' e' h0 hR' k' hk' => Hn y0 y1 m' n' (hX1984.trans e') h0 hR' k' (by omega)) (fun y0 y1 m' n' e' h0 hR' k' hk' => He y0 y1 m' n' (hX1984.trans e') h0 hR' k' (by omega)) (fun r' m' e' => Hr r' m' (hX1984.trans e'))
def F73 (f : Nat) (A : Nat) (m : yM) : Option (Int × yM) := (bL (yloop (fun (l : Int) ml => B73_2 f A l ml) f 0 m) (fun l1985 m1991 => (bP (F72 f A 0 239 0 m1991) (fun r2036 => (some ((-1), yup m1991 A 17 r2036))))) (fun r mr => some (r, mr)))
set_option maxRecDepth 100000 in
theorem d73 {L : Nat} {xs : Nat → Int32} {k d n : Nat} {c : yS3} {f : Nat} {A : Nat} {m : yM} (hk : k ≤ f) (hA : (A = 256 ∨ A = 316)) (hR : RM c m) : PC (gZ L xs) k d 73 [.ref A] m n (qS c (F73 f A m)) := by
  have hX : F73 f A m = F73 f A m := rfl
  have Hr : ∀ r m', F73 f A m = some (r, m') → rg r → RM c m' → ∀ n' : Nat, (qS c (F73 f A m)) (.inl (some (yI r))) m' n' := fun r m' e h1 h2 n' => ⟨r, rfl, h1, h2, e⟩
  refine PC.mk [some (.ref A), none, none] kn73 rfl ?_
  refine p_iconst 1 c73_0 rfl ?_
  refine p_istore 2 c73_1 rfl rfl ?_
  refine PW.loop (K := k) (pce := 118) (fun (l : Int) ml => B73_2 f A l ml) (fun (l : Int) j => [some (.ref A), some (yI l), j 2]) (fun (l : Int) => rg l) (RM c) (fun r' m' => rg r' → RM c m' → ∀ n' : Nat, (qS c (F73 f A m)) (.inl (some (yI r'))) m' n') (fun k' hk' l j m' n' hl hI Hn' He' Hr' => tB73_2 (f := f) (by omega) hA hl hI (fun y0 y1 m2 n2 e h0 hR2 => Hn' y0 (fun q => ([none, none, y1] : List (Option Value)).getD q none) m2 n2 e h0 hR2) (fun y0 y1 m2 n2 e h0 hR2 => He' y0 (fun q => ([none, none, y1] : List (Option Value)).getD q none) m2 n2 e h0 hR2) Hr') f k (by omega) (Nat.le_refl _) 0 (fun q => ([some (.ref A), some (yI 0), none] : xL).getD q none) _ _ (rgD rfl) hR (fun l1985 j1988 m1991 n1990 e1987 hl1986 hR1992 k1989 hk1989 => ?_) (fun r' m' e' => ?_)
  · have hX1993 := hX.trans (bL_l e1987)
    refine p_aload 119 c73_118 rfl rfl ?_
    refine p_aload 120 c73_119 rfl rfl ?_
    refine p_iconst 121 c73_120 rfl ?_
    refine p_ldc 123 c73_121 rfl ?_
    refine p_cX 126 [.retAddr 21] [yI 0, .ref A, .ref A] c73_123 rfl rfl rfl (fun k' hk' d' => d8go) (fun hgk1994 n1995 k1994 hk1994 => ?_)
    refine p_iconst 127 c73_126 rfl ?_
    refine p_cO 130 [.ref A, yI 0, yI 239, yI 0] [.ref A] c73_127 rfl rfl rfl (fun k' hk' d' => d72 (f := f) (by omega) hA (rgD rfl) (rgD rfl) (rgD rfl) hR1992) (fun r2036 hF2034 hg2035 n1997 k1996 hk1996 => ?_)
    have hX2037 := hX1993.trans (bP_s hF2034)
    refine p_putI 133 c73_130 rfl (kP_17 hA) ?_
    have hR2038 := hR1992.up A 17 (v := r2036) (nselA (by omega)) hg2035
    refine p_iconst 134 c73_133 rfl ?_
    exact p_ireturn c73_134 (Hr _ _ hX2037 (rgD rfl) hR2038 _)
  · exact Hr r' m' (hX.trans (bL_r e'))

/-! CONTRACTS: the model, steps. Printed by wip/whole/gen9h.py -/
set_option maxRecDepth 100000 in
theorem t210_0 {L : Nat} {xs : Nat → Int32} {d nn : Nat} {m : yM} (hT : Ty gT m) (hn : m 376 18 = 0) (hG : GQ 0 m) (hV : VX 0 m) (hR : RN 0 m) : YC (gZ L xs) (d + 4) 210 [.ref 376] m nn (qU (fun m' n' => n' = nn ∧ Ty gT m' ∧ Fr wRn m m' ∧ VX 0 m' ∧ (m' 376 57 ≠ 0 ∨ m' 376 54 = 0 ∨ (RN 0 m' ∧ MR 0 m' < MR 0 m)))) := by
  have tb383 := hT.atp 383 0 0 6 rfl
  have tb384 := hT.atp 384 0 0 10 rfl
  have tb388 := hT.atp 388 0 0 12 rfl
  have tb390 := hT.atp 390 0 0 125 rfl
  have tm51 := hT.atp 376 51 0 30 rfl
  have tm54 := hT.atp 376 54 0 4 rfl
  have tm55 := hT.atp 376 55 0 124 rfl
  have tm56 := hT.atp 376 56 0 201 rfl
  have tm57 := hT.atp 376 57 0 4 rfl
  have g90 : m 390 0 ≤ 100 := hG.2.2.2.2.2.2.2.2.2.2.1
  obtain ⟨hf, hpc, hcd, hbg, hBR⟩ := hR
  refine YC.mkB [some (.ref 376), none, none] kn210 rfl rfl ?_
  have hF : Fr wRn m m := Fr.rf
  refine y_iconst 3 c210_0 rfl ?_
  refine y_aload 4 c210_3 rfl rfl rfl ?_
  refine y_getX 7 (m 376 18) c210_4 rfl kf376_18 rfl ?_
  have tb13641 := hT.atp 376 18 0 1 rfl
  refine y_top 0 (by omega) ?_
  refine y_imul 8 c210_7 rfl ?_
  refine y_top 0 (by decide) ?_
  refine y_iconst 10 c210_8 rfl ?_
  refine y_aload 11 c210_10 rfl rfl rfl ?_
  refine y_getX 14 (m 376 55) c210_11 rfl kf376_55 rfl ?_
  refine y_imul 15 c210_14 rfl ?_
  refine y_iadd 16 c210_15 rfl ?_
  refine y_istore 17 c210_16 rfl rfl ?_
  refine y_aload 18 c210_17 rfl rfl rfl ?_
  refine y_getR 21 c210_18 rfl kf376_40 ?_
  refine y_iload 22 c210_21 rfl rfl ?_
  refine y_iaT 23 ((-2147483648)) 2147483647 c210_22 rfl ka403 (by omega) hT rfl (fun v13642 hv13642 gv13642 => ?_)
  have hwv13642 := hG.1.1 (m 376 55).toNat (by omega)
  unfold OW at hwv13642
  have hfxv13642 := hG.2.2.2.2.2.2.1 (m 376 55).toNat (by omega)
  have hnsv13642 := hG.2.2.2.2.2.2.2.2.2.2.2 (m 376 55).toNat (by omega)
  have hlev13642 := hG.2.2.1.1 (m 376 55).toNat
  have htgv13642 := hG.2.2.1.2 (m 376 55).toNat (by omega)
  have gv13642_ : m 403 (1000 * 0 + 8 * (m 376 55).toNat) = v13642 := by rw [show 1000 * 0 + 8 * (m 376 55).toNat = (0 + (8 * (m 376 55))).toNat by omega]; exact (rfl).symm.trans hv13642
  refine y_istore 24 c210_23 rfl rfl ?_
  refine y_iload 25 c210_24 rfl rfl ?_
  refine y_iconst 27 c210_25 rfl ?_
  refine y_icmp 40 30 c210_27 rfl rfl (yc_ge (by omega) (by omega)) (fun hb13643 => ?_) (fun hb13643 => ?_)
  · refine y_aload 41 c210_40 rfl rfl rfl ?_
    refine y_getX 44 (m 376 56) c210_41 rfl kf376_56 rfl ?_
    refine y_iconst 47 c210_44 rfl ?_
    refine y_icmp 58 50 c210_47 rfl rfl (yc_le (by omega) (by omega)) (fun hb13644 => ?_) (fun hb13644 => ?_)
    · refine y_iload 59 c210_58 rfl rfl ?_
      refine y_iconst 61 c210_59 rfl ?_
      refine y_icmp 79 64 c210_61 rfl rfl (yc_ne (by omega) (by omega)) (fun hb13645 => ?_) (fun hb13645 => ?_)
      · refine y_iload 80 c210_79 rfl rfl ?_
        refine y_iconst 82 c210_80 rfl ?_
        refine y_icmp 101 85 c210_82 rfl rfl (yc_ne (by omega) (by omega)) (fun hb13646 => ?_) (fun hb13646 => ?_)
        · refine y_iload 102 c210_101 rfl rfl ?_
          refine y_iconst 104 c210_102 rfl ?_
          refine y_icmp 134 107 c210_104 rfl rfl (yc_ne (by omega) (by omega)) (fun hb13647 => ?_) (fun hb13647 => ?_)
          · refine y_iload 135 c210_134 rfl rfl ?_
            refine y_iconst 137 c210_135 rfl ?_
            refine y_icmp 146 140 c210_137 rfl rfl (yc_eq (by omega) (by omega)) (fun hb13648 => ?_) (fun hb13648 => ?_)
            · exfalso; omega
            · refine y_iload 141 c210_140 rfl rfl ?_
              refine y_iconst 143 c210_141 rfl ?_
              refine y_icmp 185 146 c210_143 rfl rfl (yc_ne (by omega) (by omega)) (fun hb13649 => ?_) (fun hb13649 => ?_)
              · refine y_iload 186 c210_185 rfl rfl ?_
                refine y_iconst 188 c210_186 rfl ?_
                refine y_icmp 199 191 c210_188 rfl rfl (yc_ne (by omega) (by omega)) (fun hb13650 => ?_) (fun hb13650 => ?_)
                · refine y_aload 200 c210_199 rfl rfl rfl ?_
                  refine y_iload 201 c210_200 rfl rfl ?_
                  have hVc : VX 0 m := hV
                  refine y_callUB 204 [.ref 376, yI (0 + (8 * (m 376 55)))] [] c210_201 rfl rfl rfl rfl rfl (ycanO km209 ko376) (t209_0 (k := m 376 55) hT (by omega) hG hVc (by omega) (by omega) (by rw [show m 403 (1000 * 0 + 8 * (m 376 55).toNat) = m 403 (1000 * 0 + 8 * (m 376 55).toNat) from rfl]; omega)) (fun mq13651 nq13651 hq13651 => ?_)
                  obtain ⟨rfl, hTq13651, hFq13651, hVq13651⟩ := hq13651
                  have hF13652 := hF.tr hFq13651 wPl_wRn
                  refine y_aload 205 c210_204 rfl rfl rfl ?_
                  refine y_dup 206 c210_205 rfl rfl ?_
                  refine y_getX 209 (m 376 55) c210_206 rfl kf376_55 (hFq13651 376 55 rfl) ?_
                  refine y_iconst 210 c210_209 rfl ?_
                  refine y_iadd 211 c210_210 rfl ?_
                  refine y_putI 214 c210_211 rfl kf376_55 (y_fit0 _) ?_
                  have hT13653 := hTq13651.up 376 55 ((m 376 55) + 1) 0 124 rfl (by omega)
                  have hF13654 := hF13652.up 376 55 ((m 376 55) + 1) rfl
                  have es13655 : (yup mq13651 376 55 ((m 376 55) + 1)) 376 51 = mq13651 376 51 := rfl
                  have tb13656 := hTq13651.atp 376 51 0 30 rfl
                  have es13657 : (yup mq13651 376 55 ((m 376 55) + 1)) 376 54 = m 376 54 := ((yup_nk (by decide)).trans (hFq13651 376 54 rfl))
                  have es13658 : (yup mq13651 376 55 ((m 376 55) + 1)) 376 55 = (m 376 55) + 1 := rfl
                  have es13659 : (yup mq13651 376 55 ((m 376 55) + 1)) 376 56 = m 376 56 := ((yup_nk (by decide)).trans (hFq13651 376 56 rfl))
                  have es13660 : (yup mq13651 376 55 ((m 376 55) + 1)) 376 57 = mq13651 376 57 := rfl
                  have tb13661 := hTq13651.atp 376 57 0 4 rfl
                  have es13662 : (yup mq13651 376 55 ((m 376 55) + 1)) 390 0 = m 390 0 := ((yup_na (by decide)).trans (hFq13651 390 0 rfl))
                  have e3 : ∀ q, (yup mq13651 376 55 ((m 376 55) + 1)) 403 q = m 403 q := fun q => ((yup_na (by decide)).trans (hFq13651 403 q rfl))
                  have hk0 := rk_lo (p := 0) (m := m) (o := m 376 55) (by omega)
                  have tp := hT13653.atp 376 55 0 124 rfl
                  have hk1 := rk_lo (p := 0) (m := yup mq13651 376 55 ((m 376 55) + 1)) (o := (yup mq13651 376 55 ((m 376 55) + 1)) 376 55) (by omega)
                  have tf := hT13653.atp 376 57 0 4 rfl
                  have t54 := hT13653.atp 376 54 0 4 rfl
                  refine y_retU c210_214 ⟨rfl, hT13653, hF13654, (VX.sc hVq13651 (by decide)), ?_⟩
                  by_cases hz : (yup mq13651 376 55 ((m 376 55) + 1)) 376 57 ≠ 0
                  · exact Or.inl hz
                  by_cases hz2 : (yup mq13651 376 55 ((m 376 55) + 1)) 376 54 = 0
                  · exact Or.inr (Or.inl hz2)
                  refine Or.inr (Or.inr ⟨⟨by omega, by omega, by omega, by omega, ?_⟩, ?_⟩)
                  · intro f h1 h2
                    rw [show ∀ q, (yup mq13651 376 55 ((m 376 55) + 1)) 412 q = m 412 q from fun q => ((yup_na (by decide)).trans (hFq13651 412 q rfl)), show (yup mq13651 376 55 ((m 376 55) + 1)) 390 0 = m 390 0 from ((yup_na (by decide)).trans (hFq13651 390 0 rfl)), e3]
                    exact hBR f h1 (by omega)
                  · unfold MR; omega
                · exfalso; omega
              · exfalso; omega
          · exfalso; omega
        · refine y_aload 86 c210_85 rfl rfl rfl ?_
          refine y_aload 87 c210_86 rfl rfl rfl ?_
          refine y_getR 90 c210_87 rfl kf376_40 ?_
          refine y_iload 91 c210_90 rfl rfl ?_
          refine y_iconst 92 c210_91 rfl ?_
          refine y_iadd 93 c210_92 rfl ?_
          refine y_iaT 94 ((-2147483648)) 2147483647 c210_93 rfl ka403 (by omega) hT rfl (fun v13663 hv13663 gv13663 => ?_)
          have gv13663_ : m 403 (1000 * 0 + 8 * (m 376 55).toNat + 1) = v13663 := by rw [show 1000 * 0 + 8 * (m 376 55).toNat + 1 = ((0 + (8 * (m 376 55))) + 1).toNat by omega]; exact (rfl).symm.trans hv13663
          refine y_iconst 95 c210_94 rfl ?_
          have hVc : VX 0 m := hV
          refine y_callUB 98 [.ref 376, yI v13663, yI 0] [] c210_95 rfl rfl rfl rfl rfl (ycanO km204 ko376) (t204_0 hT (by omega) hG hVc (by omega) hBR (by omega) (by omega)) (fun mq13664 nq13664 hq13664 => ?_)
          obtain ⟨rfl, hTq13664, hFq13664, hVq13664, hq13664, hpq13664⟩ := hq13664
          have hF13665 := hF.tr hFq13664 wLv_wRn
          refine y_goto 214 c210_98 rfl ?_
          have es13666 : mq13664 376 51 = m 376 51 := (hFq13664 376 51 rfl)
          have tb13667 := hTq13664.atp 376 54 0 4 rfl
          have tb13668 := hTq13664.atp 376 55 0 124 rfl
          have es13669 : mq13664 376 56 = m 376 56 := (hFq13664 376 56 rfl)
          have es13670 : mq13664 376 57 = m 376 57 := (hFq13664 376 57 rfl)
          have es13671 : mq13664 390 0 = m 390 0 := (hFq13664 390 0 rfl)
          have e3 : ∀ q, mq13664 403 q = m 403 q := fun q => (hFq13664 403 q rfl)
          have hk0 := rk_lo (p := 0) (m := m) (o := m 376 55) (by omega)
          have tp := hTq13664.atp 376 55 0 124 rfl
          have hk1 := rk_lo (p := 0) (m := mq13664) (o := mq13664 376 55) (by omega)
          have tf := hTq13664.atp 376 57 0 4 rfl
          have t54 := hTq13664.atp 376 54 0 4 rfl
          refine y_retU c210_214 ⟨rfl, hTq13664, hF13665, hVq13664, ?_⟩
          by_cases hz : mq13664 376 57 ≠ 0
          · exact Or.inl hz
          by_cases hz2 : mq13664 376 54 = 0
          · exact Or.inr (Or.inl hz2)
          refine Or.inr (Or.inr ⟨⟨by omega, by omega, by omega, by omega, ?_⟩, ?_⟩)
          · intro f h1 h2
            rw [show ∀ q, mq13664 412 q = m 412 q from fun q => (hFq13664 412 q rfl), show mq13664 390 0 = m 390 0 from (hFq13664 390 0 rfl), e3]
            exact hBR f h1 (by omega)
          · unfold MR; omega
      · refine y_aload 65 c210_64 rfl rfl rfl ?_
        refine y_aload 66 c210_65 rfl rfl rfl ?_
        refine y_getR 69 c210_66 rfl kf376_40 ?_
        refine y_iload 70 c210_69 rfl rfl ?_
        refine y_iconst 71 c210_70 rfl ?_
        refine y_iadd 72 c210_71 rfl ?_
        refine y_iaT 73 ((-2147483648)) 2147483647 c210_72 rfl ka403 (by omega) hT rfl (fun v13672 hv13672 gv13672 => ?_)
        have gv13672_ : m 403 (1000 * 0 + 8 * (m 376 55).toNat + 3) = v13672 := by rw [show 1000 * 0 + 8 * (m 376 55).toNat + 3 = ((0 + (8 * (m 376 55))) + 3).toNat by omega]; exact (rfl).symm.trans hv13672
        refine y_putI 76 c210_73 rfl kf376_55 (y_fit0 _) ?_
        have hT13673 := hT.up 376 55 v13672 0 124 rfl (by omega)
        have hF13674 := hF.up 376 55 v13672 rfl
        refine y_goto 214 c210_76 rfl ?_
        have es13675 : (yup m 376 55 v13672) 376 51 = m 376 51 := rfl
        have es13676 : (yup m 376 55 v13672) 376 54 = m 376 54 := rfl
        have es13677 : (yup m 376 55 v13672) 376 55 = v13672 := rfl
        have es13678 : (yup m 376 55 v13672) 376 56 = m 376 56 := rfl
        have es13679 : (yup m 376 55 v13672) 376 57 = m 376 57 := rfl
        have es13680 : (yup m 376 55 v13672) 390 0 = m 390 0 := rfl
        have e3 : ∀ q, (yup m 376 55 v13672) 403 q = m 403 q := fun q => (yup_na (by decide))
        have hk0 := rk_lo (p := 0) (m := m) (o := m 376 55) (by omega)
        have tp := hT13673.atp 376 55 0 124 rfl
        have hk1 := rk_lo (p := 0) (m := yup m 376 55 v13672) (o := (yup m 376 55 v13672) 376 55) (by omega)
        have tf := hT13673.atp 376 57 0 4 rfl
        have t54 := hT13673.atp 376 54 0 4 rfl
        refine y_retU c210_214 ⟨rfl, hT13673, hF13674, (VX.sc hV (by decide)), ?_⟩
        by_cases hz : (yup m 376 55 v13672) 376 57 ≠ 0
        · exact Or.inl hz
        by_cases hz2 : (yup m 376 55 v13672) 376 54 = 0
        · exact Or.inr (Or.inl hz2)
        refine Or.inr (Or.inr ⟨⟨by omega, by omega, by omega, by omega, ?_⟩, ?_⟩)
        · intro f h1 h2
          rw [show ∀ q, (yup m 376 55 v13672) 412 q = m 412 q from fun q => (yup_na (by decide)), show (yup m 376 55 v13672) 390 0 = m 390 0 from rfl, e3]
          exact hBR f h1 (by omega)
        · have hj := rk_jump (p := 0) (m := m) (o := m 376 55) (by omega) (by omega) (t := v13672) (by omega) (by omega) (by have h0 := hG.2.1 (m 376 55).toNat (by omega) (by omega); unfold JK at h0; rw [gv13672_] at h0; omega)
          have hr := rk_fr (p := 0) (m := m) (m' := yup m 376 55 v13672) (o := v13672) e3
          unfold MR
          rw [show (yup m 376 55 v13672) 376 55 = v13672 by omega, hr]; omega
    · refine y_aload 51 c210_50 rfl rfl rfl ?_
      refine y_iconst 52 c210_51 rfl ?_
      refine y_putI 55 c210_52 rfl kf376_57 (y_fit0 _) ?_
      have hT13681 := hT.up 376 57 4 0 4 rfl (by omega)
      have hF13682 := hF.up 376 57 4 rfl
      refine y_goto 214 c210_55 rfl ?_
      have es13683 : (yup m 376 57 4) 376 51 = m 376 51 := rfl
      have es13684 : (yup m 376 57 4) 376 54 = m 376 54 := rfl
      have es13685 : (yup m 376 57 4) 376 55 = m 376 55 := rfl
      have es13686 : (yup m 376 57 4) 376 56 = m 376 56 := rfl
      have es13687 : (yup m 376 57 4) 376 57 = 4 := rfl
      have es13688 : (yup m 376 57 4) 390 0 = m 390 0 := rfl
      exact y_retU c210_214 ⟨rfl, hT13681, hF13682, (VX.sc hV (by decide)), Or.inl (by omega)⟩
  · refine y_aload 31 c210_30 rfl rfl rfl ?_
    refine y_dup 32 c210_31 rfl rfl ?_
    refine y_getX 35 (m 376 56) c210_32 rfl kf376_56 rfl ?_
    refine y_iconst 36 c210_35 rfl ?_
    refine y_iadd 37 c210_36 rfl ?_
    refine y_putI 40 c210_37 rfl kf376_56 (y_fit0 _) ?_
    have hT13689 := hT.up 376 56 ((m 376 56) + 1) 0 201 rfl (by omega)
    have hF13690 := hF.up 376 56 ((m 376 56) + 1) rfl
    refine y_aload 41 c210_40 rfl rfl rfl ?_
    refine y_getX 44 ((m 376 56) + 1) c210_41 rfl kf376_56 rfl ?_
    refine y_iconst 47 c210_44 rfl ?_
    refine y_icmp 58 50 c210_47 rfl rfl (yc_le (by omega) (by omega)) (fun hb13691 => ?_) (fun hb13691 => ?_)
    · refine y_iload 59 c210_58 rfl rfl ?_
      refine y_iconst 61 c210_59 rfl ?_
      refine y_icmp 79 64 c210_61 rfl rfl (yc_ne (by omega) (by omega)) (fun hb13692 => ?_) (fun hb13692 => ?_)
      · refine y_iload 80 c210_79 rfl rfl ?_
        refine y_iconst 82 c210_80 rfl ?_
        refine y_icmp 101 85 c210_82 rfl rfl (yc_ne (by omega) (by omega)) (fun hb13693 => ?_) (fun hb13693 => ?_)
        · refine y_iload 102 c210_101 rfl rfl ?_
          refine y_iconst 104 c210_102 rfl ?_
          refine y_icmp 134 107 c210_104 rfl rfl (yc_ne (by omega) (by omega)) (fun hb13694 => ?_) (fun hb13694 => ?_)
          · refine y_iload 135 c210_134 rfl rfl ?_
            refine y_iconst 137 c210_135 rfl ?_
            refine y_icmp 146 140 c210_137 rfl rfl (yc_eq (by omega) (by omega)) (fun hb13695 => ?_) (fun hb13695 => ?_)
            · refine y_aload 147 c210_146 rfl rfl rfl ?_
              refine y_aload 148 c210_147 rfl rfl rfl ?_
              refine y_aload 149 c210_148 rfl rfl rfl ?_
              refine y_getR 152 c210_149 rfl kf376_40 ?_
              refine y_iload 153 c210_152 rfl rfl ?_
              refine y_iconst 154 c210_153 rfl ?_
              refine y_iadd 155 c210_154 rfl ?_
              refine y_iaT 156 ((-2147483648)) 2147483647 c210_155 rfl ka403 (by omega) hT13689 rfl (fun v13696 hv13696 gv13696 => ?_)
              have gv13696_ : m 403 (1000 * 0 + 8 * (m 376 55).toNat + 2) = v13696 := by rw [show 1000 * 0 + 8 * (m 376 55).toNat + 2 = ((0 + (8 * (m 376 55))) + 2).toNat by omega]; exact ((yup_na (by decide))).symm.trans hv13696
              have es13697 : (yup m 376 56 ((m 376 56) + 1)) 376 51 = m 376 51 := rfl
              have es13698 : (yup m 376 56 ((m 376 56) + 1)) 376 54 = m 376 54 := rfl
              have es13699 : (yup m 376 56 ((m 376 56) + 1)) 376 18 = m 376 18 := rfl
              have hVg : VX 0 (yup m 376 56 ((m 376 56) + 1)) := (VX.sc hV (by decide))
              refine y_callP 159 [.ref 376, yI v13696] [.ref 376] c210_156 rfl rfl rfl rfl rfl (ycanO km205 ko376) (t205_0 hT13689 hVg (by omega) (by omega)) (fun r13700 hr13700 => ?_)
              refine y_if 171 162 c210_159 rfl rfl (yz_le (by omega)) (fun hb13701 => ?_) (fun hb13701 => ?_)
              · refine y_aload 172 c210_171 rfl rfl rfl ?_
                refine y_getR 175 c210_172 rfl kf376_40 ?_
                refine y_iload 176 c210_175 rfl rfl ?_
                refine y_iconst 177 c210_176 rfl ?_
                refine y_iadd 178 c210_177 rfl ?_
                refine y_iaT 179 ((-2147483648)) 2147483647 c210_178 rfl ka403 (by omega) hT13689 rfl (fun v13702 hv13702 gv13702 => ?_)
                have gv13702_ : m 403 (1000 * 0 + 8 * (m 376 55).toNat + 3) = v13702 := by rw [show 1000 * 0 + 8 * (m 376 55).toNat + 3 = ((0 + (8 * (m 376 55))) + 3).toNat by omega]; exact ((yup_na (by decide))).symm.trans hv13702
                refine y_putI 182 c210_179 rfl kf376_55 (y_fit0 _) ?_
                have hT13703 := hT13689.up 376 55 v13702 0 124 rfl (by omega)
                have hF13704 := hF13690.up 376 55 v13702 rfl
                refine y_goto 214 c210_182 rfl ?_
                have es13705 : (yup (yup m 376 56 ((m 376 56) + 1)) 376 55 v13702) 376 51 = m 376 51 := rfl
                have es13706 : (yup (yup m 376 56 ((m 376 56) + 1)) 376 55 v13702) 376 54 = m 376 54 := rfl
                have es13707 : (yup (yup m 376 56 ((m 376 56) + 1)) 376 55 v13702) 376 55 = v13702 := rfl
                have es13708 : (yup (yup m 376 56 ((m 376 56) + 1)) 376 55 v13702) 376 56 = (m 376 56) + 1 := rfl
                have es13709 : (yup (yup m 376 56 ((m 376 56) + 1)) 376 55 v13702) 376 57 = m 376 57 := rfl
                have es13710 : (yup (yup m 376 56 ((m 376 56) + 1)) 376 55 v13702) 390 0 = m 390 0 := rfl
                have e3 : ∀ q, (yup (yup m 376 56 ((m 376 56) + 1)) 376 55 v13702) 403 q = m 403 q := fun q => ((yup_na (by decide)).trans (yup_na (by decide)))
                have hk0 := rk_lo (p := 0) (m := m) (o := m 376 55) (by omega)
                have tp := hT13703.atp 376 55 0 124 rfl
                have hk1 := rk_lo (p := 0) (m := yup (yup m 376 56 ((m 376 56) + 1)) 376 55 v13702) (o := (yup (yup m 376 56 ((m 376 56) + 1)) 376 55 v13702) 376 55) (by omega)
                have tf := hT13703.atp 376 57 0 4 rfl
                have t54 := hT13703.atp 376 54 0 4 rfl
                refine y_retU c210_214 ⟨rfl, hT13703, hF13704, (VX.sc (VX.sc hV (by decide)) (by decide)), ?_⟩
                by_cases hz : (yup (yup m 376 56 ((m 376 56) + 1)) 376 55 v13702) 376 57 ≠ 0
                · exact Or.inl hz
                by_cases hz2 : (yup (yup m 376 56 ((m 376 56) + 1)) 376 55 v13702) 376 54 = 0
                · exact Or.inr (Or.inl hz2)
                refine Or.inr (Or.inr ⟨⟨by omega, by omega, by omega, by omega, ?_⟩, ?_⟩)
                · intro f h1 h2
                  rw [show ∀ q, (yup (yup m 376 56 ((m 376 56) + 1)) 376 55 v13702) 412 q = m 412 q from fun q => ((yup_na (by decide)).trans (yup_na (by decide))), show (yup (yup m 376 56 ((m 376 56) + 1)) 376 55 v13702) 390 0 = m 390 0 from rfl, e3]
                  exact hBR f h1 (by omega)
                · unfold MR; omega
              · refine y_aload 163 c210_162 rfl rfl rfl ?_
                refine y_getX 166 (m 376 55) c210_163 rfl kf376_55 rfl ?_
                refine y_iconst 167 c210_166 rfl ?_
                refine y_iadd 168 c210_167 rfl ?_
                refine y_goto 179 c210_168 rfl ?_
                refine y_putI 182 c210_179 rfl kf376_55 (y_fit0 _) ?_
                have hT13711 := hT13689.up 376 55 ((m 376 55) + 1) 0 124 rfl (by omega)
                have hF13712 := hF13690.up 376 55 ((m 376 55) + 1) rfl
                refine y_goto 214 c210_182 rfl ?_
                have es13713 : (yup (yup m 376 56 ((m 376 56) + 1)) 376 55 ((m 376 55) + 1)) 376 51 = m 376 51 := rfl
                have es13714 : (yup (yup m 376 56 ((m 376 56) + 1)) 376 55 ((m 376 55) + 1)) 376 54 = m 376 54 := rfl
                have es13715 : (yup (yup m 376 56 ((m 376 56) + 1)) 376 55 ((m 376 55) + 1)) 376 55 = (m 376 55) + 1 := rfl
                have es13716 : (yup (yup m 376 56 ((m 376 56) + 1)) 376 55 ((m 376 55) + 1)) 376 56 = (m 376 56) + 1 := rfl
                have es13717 : (yup (yup m 376 56 ((m 376 56) + 1)) 376 55 ((m 376 55) + 1)) 376 57 = m 376 57 := rfl
                have es13718 : (yup (yup m 376 56 ((m 376 56) + 1)) 376 55 ((m 376 55) + 1)) 390 0 = m 390 0 := rfl
                have e3 : ∀ q, (yup (yup m 376 56 ((m 376 56) + 1)) 376 55 ((m 376 55) + 1)) 403 q = m 403 q := fun q => ((yup_na (by decide)).trans (yup_na (by decide)))
                have hk0 := rk_lo (p := 0) (m := m) (o := m 376 55) (by omega)
                have tp := hT13711.atp 376 55 0 124 rfl
                have hk1 := rk_lo (p := 0) (m := yup (yup m 376 56 ((m 376 56) + 1)) 376 55 ((m 376 55) + 1)) (o := (yup (yup m 376 56 ((m 376 56) + 1)) 376 55 ((m 376 55) + 1)) 376 55) (by omega)
                have tf := hT13711.atp 376 57 0 4 rfl
                have t54 := hT13711.atp 376 54 0 4 rfl
                refine y_retU c210_214 ⟨rfl, hT13711, hF13712, (VX.sc (VX.sc hV (by decide)) (by decide)), ?_⟩
                by_cases hz : (yup (yup m 376 56 ((m 376 56) + 1)) 376 55 ((m 376 55) + 1)) 376 57 ≠ 0
                · exact Or.inl hz
                by_cases hz2 : (yup (yup m 376 56 ((m 376 56) + 1)) 376 55 ((m 376 55) + 1)) 376 54 = 0
                · exact Or.inr (Or.inl hz2)
                refine Or.inr (Or.inr ⟨⟨by omega, by omega, by omega, by omega, ?_⟩, ?_⟩)
                · intro f h1 h2
                  rw [show ∀ q, (yup (yup m 376 56 ((m 376 56) + 1)) 376 55 ((m 376 55) + 1)) 412 q = m 412 q from fun q => ((yup_na (by decide)).trans (yup_na (by decide))), show (yup (yup m 376 56 ((m 376 56) + 1)) 376 55 ((m 376 55) + 1)) 390 0 = m 390 0 from rfl, e3]
                  exact hBR f h1 (by omega)
                · unfold MR; omega
            · refine y_iload 141 c210_140 rfl rfl ?_
              refine y_iconst 143 c210_141 rfl ?_
              refine y_icmp 185 146 c210_143 rfl rfl (yc_ne (by omega) (by omega)) (fun hb13719 => ?_) (fun hb13719 => ?_)
              · refine y_iload 186 c210_185 rfl rfl ?_
                refine y_iconst 188 c210_186 rfl ?_
                refine y_icmp 199 191 c210_188 rfl rfl (yc_ne (by omega) (by omega)) (fun hb13720 => ?_) (fun hb13720 => ?_)
                · refine y_aload 200 c210_199 rfl rfl rfl ?_
                  refine y_iload 201 c210_200 rfl rfl ?_
                  have es13722 : (yup m 376 56 ((m 376 56) + 1)) 376 51 = m 376 51 := rfl
                  have es13723 : (yup m 376 56 ((m 376 56) + 1)) 376 54 = m 376 54 := rfl
                  have es13724 : (yup m 376 56 ((m 376 56) + 1)) 376 18 = m 376 18 := rfl
                  have es13725 : (yup m 376 56 ((m 376 56) + 1)) 390 0 = m 390 0 := rfl
                  have es13726 : (yup m 376 56 ((m 376 56) + 1)) 376 55 = m 376 55 := rfl
                  have es13727 : (yup m 376 56 ((m 376 56) + 1)) 376 56 = (m 376 56) + 1 := rfl
                  have es13728 : (yup m 376 56 ((m 376 56) + 1)) 376 57 = m 376 57 := rfl
                  have hVc : VX 0 (yup m 376 56 ((m 376 56) + 1)) := (VX.sc hV (by decide))
                  refine y_callUB 204 [.ref 376, yI (0 + (8 * (m 376 55)))] [] c210_201 rfl rfl rfl rfl rfl (ycanO km209 ko376) (t209_0 (k := m 376 55) hT13689 (by omega) (hG.fr hT (by decide) (fun a q ha => hF13690 a q (wRn_G2 a q ha))) hVc (by omega) (by omega) (by rw [show (yup m 376 56 ((m 376 56) + 1)) 403 (1000 * 0 + 8 * (m 376 55).toNat) = m 403 (1000 * 0 + 8 * (m 376 55).toNat) from (yup_na (by decide))]; omega)) (fun mq13721 nq13721 hq13721 => ?_)
                  obtain ⟨rfl, hTq13721, hFq13721, hVq13721⟩ := hq13721
                  have hF13729 := hF13690.tr hFq13721 wPl_wRn
                  refine y_aload 205 c210_204 rfl rfl rfl ?_
                  refine y_dup 206 c210_205 rfl rfl ?_
                  refine y_getX 209 (m 376 55) c210_206 rfl kf376_55 ((hFq13721 376 55 rfl).trans (yup_nk (by decide))) ?_
                  refine y_iconst 210 c210_209 rfl ?_
                  refine y_iadd 211 c210_210 rfl ?_
                  refine y_putI 214 c210_211 rfl kf376_55 (y_fit0 _) ?_
                  have hT13730 := hTq13721.up 376 55 ((m 376 55) + 1) 0 124 rfl (by omega)
                  have hF13731 := hF13729.up 376 55 ((m 376 55) + 1) rfl
                  have es13732 : (yup mq13721 376 55 ((m 376 55) + 1)) 376 51 = mq13721 376 51 := rfl
                  have tb13733 := hTq13721.atp 376 51 0 30 rfl
                  have es13734 : (yup mq13721 376 55 ((m 376 55) + 1)) 376 54 = m 376 54 := ((yup_nk (by decide)).trans ((hFq13721 376 54 rfl).trans (yup_nk (by decide))))
                  have es13735 : (yup mq13721 376 55 ((m 376 55) + 1)) 376 55 = (m 376 55) + 1 := rfl
                  have es13736 : (yup mq13721 376 55 ((m 376 55) + 1)) 376 56 = (m 376 56) + 1 := ((yup_nk (by decide)).trans ((hFq13721 376 56 rfl).trans (yup_eq _ _ _ _)))
                  have es13737 : (yup mq13721 376 55 ((m 376 55) + 1)) 376 57 = mq13721 376 57 := rfl
                  have tb13738 := hTq13721.atp 376 57 0 4 rfl
                  have es13739 : (yup mq13721 376 55 ((m 376 55) + 1)) 390 0 = m 390 0 := ((yup_na (by decide)).trans ((hFq13721 390 0 rfl).trans (yup_na (by decide))))
                  have e3 : ∀ q, (yup mq13721 376 55 ((m 376 55) + 1)) 403 q = m 403 q := fun q => ((yup_na (by decide)).trans ((hFq13721 403 q rfl).trans (yup_na (by decide))))
                  have hk0 := rk_lo (p := 0) (m := m) (o := m 376 55) (by omega)
                  have tp := hT13730.atp 376 55 0 124 rfl
                  have hk1 := rk_lo (p := 0) (m := yup mq13721 376 55 ((m 376 55) + 1)) (o := (yup mq13721 376 55 ((m 376 55) + 1)) 376 55) (by omega)
                  have tf := hT13730.atp 376 57 0 4 rfl
                  have t54 := hT13730.atp 376 54 0 4 rfl
                  refine y_retU c210_214 ⟨rfl, hT13730, hF13731, (VX.sc hVq13721 (by decide)), ?_⟩
                  by_cases hz : (yup mq13721 376 55 ((m 376 55) + 1)) 376 57 ≠ 0
                  · exact Or.inl hz
                  by_cases hz2 : (yup mq13721 376 55 ((m 376 55) + 1)) 376 54 = 0
                  · exact Or.inr (Or.inl hz2)
                  refine Or.inr (Or.inr ⟨⟨by omega, by omega, by omega, by omega, ?_⟩, ?_⟩)
                  · intro f h1 h2
                    rw [show ∀ q, (yup mq13721 376 55 ((m 376 55) + 1)) 412 q = m 412 q from fun q => ((yup_na (by decide)).trans ((hFq13721 412 q rfl).trans (yup_na (by decide)))), show (yup mq13721 376 55 ((m 376 55) + 1)) 390 0 = m 390 0 from ((yup_na (by decide)).trans ((hFq13721 390 0 rfl).trans (yup_na (by decide)))), e3]
                    exact hBR f h1 (by omega)
                  · unfold MR; omega
                · refine y_aload 192 c210_191 rfl rfl rfl ?_
                  refine y_iload 193 c210_192 rfl rfl ?_
                  have es13741 : (yup m 376 56 ((m 376 56) + 1)) 376 51 = m 376 51 := rfl
                  have es13742 : (yup m 376 56 ((m 376 56) + 1)) 376 54 = m 376 54 := rfl
                  have es13743 : (yup m 376 56 ((m 376 56) + 1)) 376 18 = m 376 18 := rfl
                  have es13744 : (yup m 376 56 ((m 376 56) + 1)) 390 0 = m 390 0 := rfl
                  have es13745 : (yup m 376 56 ((m 376 56) + 1)) 376 55 = m 376 55 := rfl
                  have es13746 : (yup m 376 56 ((m 376 56) + 1)) 376 56 = (m 376 56) + 1 := rfl
                  have es13747 : (yup m 376 56 ((m 376 56) + 1)) 376 57 = m 376 57 := rfl
                  have hVc : VX 0 (yup m 376 56 ((m 376 56) + 1)) := (VX.sc hV (by decide))
                  refine y_callUB 196 [.ref 376, yI (0 + (8 * (m 376 55)))] [] c210_193 rfl rfl rfl rfl rfl (ycanO km207 ko376) (t207_0 (k := m 376 55) hT13689 (by omega) (hG.fr hT (by decide) (fun a q ha => hF13690 a q (wRn_G2 a q ha))) hVc (by omega) (by omega) (by rw [show (yup m 376 56 ((m 376 56) + 1)) 403 _ = m 403 _ from (yup_na (by decide))]; omega)) (fun mq13740 nq13740 hq13740 => ?_)
                  obtain ⟨rfl, hTq13740, hFq13740, hVq13740, hq13740, hqq13740⟩ := hq13740
                  have hF13748 := hF13690.tr hFq13740 wEn_wRn
                  refine y_goto 214 c210_196 rfl ?_
                  have es13749 : mq13740 376 51 = m 376 51 := ((hFq13740 376 51 rfl).trans (yup_nk (by decide)))
                  have tb13750 := hTq13740.atp 376 54 0 4 rfl
                  have tb13751 := hTq13740.atp 376 55 0 124 rfl
                  have es13752 : mq13740 376 56 = (m 376 56) + 1 := ((hFq13740 376 56 rfl).trans (yup_eq _ _ _ _))
                  have tb13753 := hTq13740.atp 376 57 0 4 rfl
                  have es13754 : mq13740 390 0 = m 390 0 := ((hFq13740 390 0 rfl).trans (yup_na (by decide)))
                  have e3 : ∀ q, mq13740 403 q = m 403 q := fun q => ((hFq13740 403 q rfl).trans (yup_na (by decide)))
                  have hk0 := rk_lo (p := 0) (m := m) (o := m 376 55) (by omega)
                  have tp := hTq13740.atp 376 55 0 124 rfl
                  have hk1 := rk_lo (p := 0) (m := mq13740) (o := mq13740 376 55) (by omega)
                  have tf := hTq13740.atp 376 57 0 4 rfl
                  have t54 := hTq13740.atp 376 54 0 4 rfl
                  refine y_retU c210_214 ⟨rfl, hTq13740, hF13748, hVq13740, ?_⟩
                  by_cases hz : mq13740 376 57 ≠ 0
                  · exact Or.inl hz
                  by_cases hz2 : mq13740 376 54 = 0
                  · exact Or.inr (Or.inl hz2)
                  refine Or.inr (Or.inr ⟨⟨by omega, by omega, by omega, by omega, ?_⟩, ?_⟩)
                  · intro f h1 h2
                    rw [show mq13740 390 0 = m 390 0 from ((hFq13740 390 0 rfl).trans (yup_na (by decide))), e3]
                    have eb : (yup m 376 56 ((m 376 56) + 1)) 376 54 = m 376 54 := rfl
                    have ec : (yup m 376 56 ((m 376 56) + 1)) 376 55 = m 376 55 := rfl
                    rw [eb, ec] at hq13740
                    rw [eb] at hqq13740
                    obtain ⟨y1, y2, y3⟩ := hq13740.resolve_left (by omega)
                    by_cases q : f = (m 376 54).toNat
                    · subst q; rw [y3]; omega
                    · rw [hqq13740 f q, show (yup m 376 56 ((m 376 56) + 1)) 412 f = m 412 f from (yup_na (by decide))]; exact hBR f h1 (by omega)
                  · unfold MR; omega
              · refine y_aload 147 c210_146 rfl rfl rfl ?_
                refine y_aload 148 c210_147 rfl rfl rfl ?_
                refine y_aload 149 c210_148 rfl rfl rfl ?_
                refine y_getR 152 c210_149 rfl kf376_40 ?_
                refine y_iload 153 c210_152 rfl rfl ?_
                refine y_iconst 154 c210_153 rfl ?_
                refine y_iadd 155 c210_154 rfl ?_
                refine y_iaT 156 ((-2147483648)) 2147483647 c210_155 rfl ka403 (by omega) hT13689 rfl (fun v13755 hv13755 gv13755 => ?_)
                have gv13755_ : m 403 (1000 * 0 + 8 * (m 376 55).toNat + 2) = v13755 := by rw [show 1000 * 0 + 8 * (m 376 55).toNat + 2 = ((0 + (8 * (m 376 55))) + 2).toNat by omega]; exact ((yup_na (by decide))).symm.trans hv13755
                have es13756 : (yup m 376 56 ((m 376 56) + 1)) 376 51 = m 376 51 := rfl
                have es13757 : (yup m 376 56 ((m 376 56) + 1)) 376 54 = m 376 54 := rfl
                have es13758 : (yup m 376 56 ((m 376 56) + 1)) 376 18 = m 376 18 := rfl
                have hVg : VX 0 (yup m 376 56 ((m 376 56) + 1)) := (VX.sc hV (by decide))
                refine y_callP 159 [.ref 376, yI v13755] [.ref 376] c210_156 rfl rfl rfl rfl rfl (ycanO km205 ko376) (t205_0 hT13689 hVg (by omega) (by omega)) (fun r13759 hr13759 => ?_)
                refine y_if 171 162 c210_159 rfl rfl (yz_le (by omega)) (fun hb13760 => ?_) (fun hb13760 => ?_)
                · refine y_aload 172 c210_171 rfl rfl rfl ?_
                  refine y_getR 175 c210_172 rfl kf376_40 ?_
                  refine y_iload 176 c210_175 rfl rfl ?_
                  refine y_iconst 177 c210_176 rfl ?_
                  refine y_iadd 178 c210_177 rfl ?_
                  refine y_iaT 179 ((-2147483648)) 2147483647 c210_178 rfl ka403 (by omega) hT13689 rfl (fun v13761 hv13761 gv13761 => ?_)
                  have gv13761_ : m 403 (1000 * 0 + 8 * (m 376 55).toNat + 3) = v13761 := by rw [show 1000 * 0 + 8 * (m 376 55).toNat + 3 = ((0 + (8 * (m 376 55))) + 3).toNat by omega]; exact ((yup_na (by decide))).symm.trans hv13761
                  refine y_putI 182 c210_179 rfl kf376_55 (y_fit0 _) ?_
                  have hT13762 := hT13689.up 376 55 v13761 0 124 rfl (by omega)
                  have hF13763 := hF13690.up 376 55 v13761 rfl
                  refine y_goto 214 c210_182 rfl ?_
                  have es13764 : (yup (yup m 376 56 ((m 376 56) + 1)) 376 55 v13761) 376 51 = m 376 51 := rfl
                  have es13765 : (yup (yup m 376 56 ((m 376 56) + 1)) 376 55 v13761) 376 54 = m 376 54 := rfl
                  have es13766 : (yup (yup m 376 56 ((m 376 56) + 1)) 376 55 v13761) 376 55 = v13761 := rfl
                  have es13767 : (yup (yup m 376 56 ((m 376 56) + 1)) 376 55 v13761) 376 56 = (m 376 56) + 1 := rfl
                  have es13768 : (yup (yup m 376 56 ((m 376 56) + 1)) 376 55 v13761) 376 57 = m 376 57 := rfl
                  have es13769 : (yup (yup m 376 56 ((m 376 56) + 1)) 376 55 v13761) 390 0 = m 390 0 := rfl
                  have e3 : ∀ q, (yup (yup m 376 56 ((m 376 56) + 1)) 376 55 v13761) 403 q = m 403 q := fun q => ((yup_na (by decide)).trans (yup_na (by decide)))
                  have hk0 := rk_lo (p := 0) (m := m) (o := m 376 55) (by omega)
                  have tp := hT13762.atp 376 55 0 124 rfl
                  have hk1 := rk_lo (p := 0) (m := yup (yup m 376 56 ((m 376 56) + 1)) 376 55 v13761) (o := (yup (yup m 376 56 ((m 376 56) + 1)) 376 55 v13761) 376 55) (by omega)
                  have tf := hT13762.atp 376 57 0 4 rfl
                  have t54 := hT13762.atp 376 54 0 4 rfl
                  refine y_retU c210_214 ⟨rfl, hT13762, hF13763, (VX.sc (VX.sc hV (by decide)) (by decide)), ?_⟩
                  by_cases hz : (yup (yup m 376 56 ((m 376 56) + 1)) 376 55 v13761) 376 57 ≠ 0
                  · exact Or.inl hz
                  by_cases hz2 : (yup (yup m 376 56 ((m 376 56) + 1)) 376 55 v13761) 376 54 = 0
                  · exact Or.inr (Or.inl hz2)
                  refine Or.inr (Or.inr ⟨⟨by omega, by omega, by omega, by omega, ?_⟩, ?_⟩)
                  · intro f h1 h2
                    rw [show ∀ q, (yup (yup m 376 56 ((m 376 56) + 1)) 376 55 v13761) 412 q = m 412 q from fun q => ((yup_na (by decide)).trans (yup_na (by decide))), show (yup (yup m 376 56 ((m 376 56) + 1)) 376 55 v13761) 390 0 = m 390 0 from rfl, e3]
                    exact hBR f h1 (by omega)
                  · unfold MR; omega
                · refine y_aload 163 c210_162 rfl rfl rfl ?_
                  refine y_getX 166 (m 376 55) c210_163 rfl kf376_55 rfl ?_
                  refine y_iconst 167 c210_166 rfl ?_
                  refine y_iadd 168 c210_167 rfl ?_
                  refine y_goto 179 c210_168 rfl ?_
                  refine y_putI 182 c210_179 rfl kf376_55 (y_fit0 _) ?_
                  have hT13770 := hT13689.up 376 55 ((m 376 55) + 1) 0 124 rfl (by omega)
                  have hF13771 := hF13690.up 376 55 ((m 376 55) + 1) rfl
                  refine y_goto 214 c210_182 rfl ?_
                  have es13772 : (yup (yup m 376 56 ((m 376 56) + 1)) 376 55 ((m 376 55) + 1)) 376 51 = m 376 51 := rfl
                  have es13773 : (yup (yup m 376 56 ((m 376 56) + 1)) 376 55 ((m 376 55) + 1)) 376 54 = m 376 54 := rfl
                  have es13774 : (yup (yup m 376 56 ((m 376 56) + 1)) 376 55 ((m 376 55) + 1)) 376 55 = (m 376 55) + 1 := rfl
                  have es13775 : (yup (yup m 376 56 ((m 376 56) + 1)) 376 55 ((m 376 55) + 1)) 376 56 = (m 376 56) + 1 := rfl
                  have es13776 : (yup (yup m 376 56 ((m 376 56) + 1)) 376 55 ((m 376 55) + 1)) 376 57 = m 376 57 := rfl
                  have es13777 : (yup (yup m 376 56 ((m 376 56) + 1)) 376 55 ((m 376 55) + 1)) 390 0 = m 390 0 := rfl
                  have e3 : ∀ q, (yup (yup m 376 56 ((m 376 56) + 1)) 376 55 ((m 376 55) + 1)) 403 q = m 403 q := fun q => ((yup_na (by decide)).trans (yup_na (by decide)))
                  have hk0 := rk_lo (p := 0) (m := m) (o := m 376 55) (by omega)
                  have tp := hT13770.atp 376 55 0 124 rfl
                  have hk1 := rk_lo (p := 0) (m := yup (yup m 376 56 ((m 376 56) + 1)) 376 55 ((m 376 55) + 1)) (o := (yup (yup m 376 56 ((m 376 56) + 1)) 376 55 ((m 376 55) + 1)) 376 55) (by omega)
                  have tf := hT13770.atp 376 57 0 4 rfl
                  have t54 := hT13770.atp 376 54 0 4 rfl
                  refine y_retU c210_214 ⟨rfl, hT13770, hF13771, (VX.sc (VX.sc hV (by decide)) (by decide)), ?_⟩
                  by_cases hz : (yup (yup m 376 56 ((m 376 56) + 1)) 376 55 ((m 376 55) + 1)) 376 57 ≠ 0
                  · exact Or.inl hz
                  by_cases hz2 : (yup (yup m 376 56 ((m 376 56) + 1)) 376 55 ((m 376 55) + 1)) 376 54 = 0
                  · exact Or.inr (Or.inl hz2)
                  refine Or.inr (Or.inr ⟨⟨by omega, by omega, by omega, by omega, ?_⟩, ?_⟩)
                  · intro f h1 h2
                    rw [show ∀ q, (yup (yup m 376 56 ((m 376 56) + 1)) 376 55 ((m 376 55) + 1)) 412 q = m 412 q from fun q => ((yup_na (by decide)).trans (yup_na (by decide))), show (yup (yup m 376 56 ((m 376 56) + 1)) 376 55 ((m 376 55) + 1)) 390 0 = m 390 0 from rfl, e3]
                    exact hBR f h1 (by omega)
                  · unfold MR; omega
          · refine y_aload 108 c210_107 rfl rfl rfl ?_
            refine y_aload 109 c210_108 rfl rfl rfl ?_
            refine y_getR 112 c210_109 rfl kf376_40 ?_
            refine y_iload 113 c210_112 rfl rfl ?_
            refine y_iconst 114 c210_113 rfl ?_
            refine y_iadd 115 c210_114 rfl ?_
            refine y_iaT 116 ((-2147483648)) 2147483647 c210_115 rfl ka403 (by omega) hT13689 rfl (fun v13778 hv13778 gv13778 => ?_)
            have gv13778_ : m 403 (1000 * 0 + 8 * (m 376 55).toNat + 1) = v13778 := by rw [show 1000 * 0 + 8 * (m 376 55).toNat + 1 = ((0 + (8 * (m 376 55))) + 1).toNat by omega]; exact ((yup_na (by decide))).symm.trans hv13778
            refine y_aload 117 c210_116 rfl rfl rfl ?_
            refine y_aload 118 c210_117 rfl rfl rfl ?_
            refine y_getR 121 c210_118 rfl kf376_40 ?_
            refine y_iload 122 c210_121 rfl rfl ?_
            refine y_iconst 123 c210_122 rfl ?_
            refine y_iadd 124 c210_123 rfl ?_
            refine y_iaT 125 ((-2147483648)) 2147483647 c210_124 rfl ka403 (by omega) hT13689 rfl (fun v13779 hv13779 gv13779 => ?_)
            have gv13779_ : m 403 (1000 * 0 + 8 * (m 376 55).toNat + 2) = v13779 := by rw [show 1000 * 0 + 8 * (m 376 55).toNat + 2 = ((0 + (8 * (m 376 55))) + 2).toNat by omega]; exact ((yup_na (by decide))).symm.trans hv13779
            have es13780 : (yup m 376 56 ((m 376 56) + 1)) 376 51 = m 376 51 := rfl
            have es13781 : (yup m 376 56 ((m 376 56) + 1)) 376 54 = m 376 54 := rfl
            have es13782 : (yup m 376 56 ((m 376 56) + 1)) 376 18 = m 376 18 := rfl
            have hVg : VX 0 (yup m 376 56 ((m 376 56) + 1)) := (VX.sc hV (by decide))
            refine y_callP 128 [.ref 376, yI v13779] [yI v13778, .ref 376] c210_125 rfl rfl rfl rfl rfl (ycanO km205 ko376) (t205_0 hT13689 hVg (by omega) (by omega)) (fun r13783 hr13783 => ?_)
            have es13785 : (yup m 376 56 ((m 376 56) + 1)) 376 51 = m 376 51 := rfl
            have es13786 : (yup m 376 56 ((m 376 56) + 1)) 376 54 = m 376 54 := rfl
            have es13787 : (yup m 376 56 ((m 376 56) + 1)) 376 18 = m 376 18 := rfl
            have es13788 : (yup m 376 56 ((m 376 56) + 1)) 390 0 = m 390 0 := rfl
            have es13789 : (yup m 376 56 ((m 376 56) + 1)) 376 55 = m 376 55 := rfl
            have es13790 : (yup m 376 56 ((m 376 56) + 1)) 376 56 = (m 376 56) + 1 := rfl
            have es13791 : (yup m 376 56 ((m 376 56) + 1)) 376 57 = m 376 57 := rfl
            have hVc : VX 0 (yup m 376 56 ((m 376 56) + 1)) := (VX.sc hV (by decide))
            refine y_callUB 131 [.ref 376, yI v13778, yI r13783] [] c210_128 rfl rfl rfl rfl rfl (ycanO km204 ko376) (t204_0 hT13689 (by omega) (hG.fr hT (by decide) (fun a q ha => hF13690 a q (wRn_G2 a q ha))) hVc (by omega) (fun f h1 h2 => by rw [show (yup m 376 56 ((m 376 56) + 1)) 376 54 = m 376 54 from rfl] at h2; rw [show ∀ q, (yup m 376 56 ((m 376 56) + 1)) 412 q = m 412 q from fun q => (yup_na (by decide)), show (yup m 376 56 ((m 376 56) + 1)) 390 0 = m 390 0 from rfl, show ∀ q, (yup m 376 56 ((m 376 56) + 1)) 403 q = m 403 q from fun q => (yup_na (by decide))]; exact hBR f h1 h2) (by omega) (by omega)) (fun mq13784 nq13784 hq13784 => ?_)
            obtain ⟨rfl, hTq13784, hFq13784, hVq13784, hq13784, hpq13784⟩ := hq13784
            have hF13792 := hF13690.tr hFq13784 wLv_wRn
            refine y_goto 214 c210_131 rfl ?_
            have es13793 : mq13784 376 51 = m 376 51 := ((hFq13784 376 51 rfl).trans (yup_nk (by decide)))
            have tb13794 := hTq13784.atp 376 54 0 4 rfl
            have tb13795 := hTq13784.atp 376 55 0 124 rfl
            have es13796 : mq13784 376 56 = (m 376 56) + 1 := ((hFq13784 376 56 rfl).trans (yup_eq _ _ _ _))
            have es13797 : mq13784 376 57 = m 376 57 := ((hFq13784 376 57 rfl).trans (yup_nk (by decide)))
            have es13798 : mq13784 390 0 = m 390 0 := ((hFq13784 390 0 rfl).trans (yup_na (by decide)))
            have e3 : ∀ q, mq13784 403 q = m 403 q := fun q => ((hFq13784 403 q rfl).trans (yup_na (by decide)))
            have hk0 := rk_lo (p := 0) (m := m) (o := m 376 55) (by omega)
            have tp := hTq13784.atp 376 55 0 124 rfl
            have hk1 := rk_lo (p := 0) (m := mq13784) (o := mq13784 376 55) (by omega)
            have tf := hTq13784.atp 376 57 0 4 rfl
            have t54 := hTq13784.atp 376 54 0 4 rfl
            refine y_retU c210_214 ⟨rfl, hTq13784, hF13792, hVq13784, ?_⟩
            by_cases hz : mq13784 376 57 ≠ 0
            · exact Or.inl hz
            by_cases hz2 : mq13784 376 54 = 0
            · exact Or.inr (Or.inl hz2)
            refine Or.inr (Or.inr ⟨⟨by omega, by omega, by omega, by omega, ?_⟩, ?_⟩)
            · intro f h1 h2
              rw [show ∀ q, mq13784 412 q = m 412 q from fun q => ((hFq13784 412 q rfl).trans (yup_na (by decide))), show mq13784 390 0 = m 390 0 from ((hFq13784 390 0 rfl).trans (yup_na (by decide))), e3]
              exact hBR f h1 (by omega)
            · unfold MR; omega
        · exfalso; omega
      · exfalso; omega
    · refine y_aload 51 c210_50 rfl rfl rfl ?_
      refine y_iconst 52 c210_51 rfl ?_
      refine y_putI 55 c210_52 rfl kf376_57 (y_fit0 _) ?_
      have hT13799 := hT13689.up 376 57 4 0 4 rfl (by omega)
      have hF13800 := hF13690.up 376 57 4 rfl
      refine y_goto 214 c210_55 rfl ?_
      have es13801 : (yup (yup m 376 56 ((m 376 56) + 1)) 376 57 4) 376 51 = m 376 51 := rfl
      have es13802 : (yup (yup m 376 56 ((m 376 56) + 1)) 376 57 4) 376 54 = m 376 54 := rfl
      have es13803 : (yup (yup m 376 56 ((m 376 56) + 1)) 376 57 4) 376 55 = m 376 55 := rfl
      have es13804 : (yup (yup m 376 56 ((m 376 56) + 1)) 376 57 4) 376 56 = (m 376 56) + 1 := rfl
      have es13805 : (yup (yup m 376 56 ((m 376 56) + 1)) 376 57 4) 376 57 = 4 := rfl
      have es13806 : (yup (yup m 376 56 ((m 376 56) + 1)) 376 57 4) 390 0 = m 390 0 := rfl
      exact y_retU c210_214 ⟨rfl, hT13799, hF13800, (VX.sc (VX.sc hV (by decide)) (by decide)), Or.inl (by omega)⟩
set_option maxRecDepth 100000 in
theorem t210_1 {L : Nat} {xs : Nat → Int32} {d nn : Nat} {m : yM} (hT : Ty gT m) (hn : m 376 18 = 1) (hG : GQ 1 m) (hV : VX 1 m) (hR : RN 1 m) : YC (gZ L xs) (d + 4) 210 [.ref 376] m nn (qU (fun m' n' => n' = nn ∧ Ty gT m' ∧ Fr wRn m m' ∧ VX 1 m' ∧ (m' 376 57 ≠ 0 ∨ m' 376 54 = 0 ∨ (RN 1 m' ∧ MR 1 m' < MR 1 m)))) := by
  have tb383 := hT.atp 383 1 0 6 rfl
  have tb384 := hT.atp 384 1 0 10 rfl
  have tb388 := hT.atp 388 1 0 12 rfl
  have tb390 := hT.atp 390 1 0 125 rfl
  have tm51 := hT.atp 376 51 0 30 rfl
  have tm54 := hT.atp 376 54 0 4 rfl
  have tm55 := hT.atp 376 55 0 124 rfl
  have tm56 := hT.atp 376 56 0 201 rfl
  have tm57 := hT.atp 376 57 0 4 rfl
  have g90 : m 390 1 ≤ 100 := hG.2.2.2.2.2.2.2.2.2.2.1
  obtain ⟨hf, hpc, hcd, hbg, hBR⟩ := hR
  refine YC.mkB [some (.ref 376), none, none] kn210 rfl rfl ?_
  have hF : Fr wRn m m := Fr.rf
  refine y_iconst 3 c210_0 rfl ?_
  refine y_aload 4 c210_3 rfl rfl rfl ?_
  refine y_getX 7 (m 376 18) c210_4 rfl kf376_18 rfl ?_
  have tb14108 := hT.atp 376 18 0 1 rfl
  refine y_top 1 (by omega) ?_
  refine y_imul 8 c210_7 rfl ?_
  refine y_top 1000 (by decide) ?_
  refine y_iconst 10 c210_8 rfl ?_
  refine y_aload 11 c210_10 rfl rfl rfl ?_
  refine y_getX 14 (m 376 55) c210_11 rfl kf376_55 rfl ?_
  refine y_imul 15 c210_14 rfl ?_
  refine y_iadd 16 c210_15 rfl ?_
  refine y_istore 17 c210_16 rfl rfl ?_
  refine y_aload 18 c210_17 rfl rfl rfl ?_
  refine y_getR 21 c210_18 rfl kf376_40 ?_
  refine y_iload 22 c210_21 rfl rfl ?_
  refine y_iaT 23 ((-2147483648)) 2147483647 c210_22 rfl ka403 (by omega) hT rfl (fun v14109 hv14109 gv14109 => ?_)
  have hwv14109 := hG.1.1 (m 376 55).toNat (by omega)
  unfold OW at hwv14109
  have hfxv14109 := hG.2.2.2.2.2.2.1 (m 376 55).toNat (by omega)
  have hnsv14109 := hG.2.2.2.2.2.2.2.2.2.2.2 (m 376 55).toNat (by omega)
  have hlev14109 := hG.2.2.1.1 (m 376 55).toNat
  have htgv14109 := hG.2.2.1.2 (m 376 55).toNat (by omega)
  have gv14109_ : m 403 (1000 * 1 + 8 * (m 376 55).toNat) = v14109 := by rw [show 1000 * 1 + 8 * (m 376 55).toNat = (1000 + (8 * (m 376 55))).toNat by omega]; exact (rfl).symm.trans hv14109
  refine y_istore 24 c210_23 rfl rfl ?_
  refine y_iload 25 c210_24 rfl rfl ?_
  refine y_iconst 27 c210_25 rfl ?_
  refine y_icmp 40 30 c210_27 rfl rfl (yc_ge (by omega) (by omega)) (fun hb14110 => ?_) (fun hb14110 => ?_)
  · refine y_aload 41 c210_40 rfl rfl rfl ?_
    refine y_getX 44 (m 376 56) c210_41 rfl kf376_56 rfl ?_
    refine y_iconst 47 c210_44 rfl ?_
    refine y_icmp 58 50 c210_47 rfl rfl (yc_le (by omega) (by omega)) (fun hb14111 => ?_) (fun hb14111 => ?_)
    · refine y_iload 59 c210_58 rfl rfl ?_
      refine y_iconst 61 c210_59 rfl ?_
      refine y_icmp 79 64 c210_61 rfl rfl (yc_ne (by omega) (by omega)) (fun hb14112 => ?_) (fun hb14112 => ?_)
      · refine y_iload 80 c210_79 rfl rfl ?_
        refine y_iconst 82 c210_80 rfl ?_
        refine y_icmp 101 85 c210_82 rfl rfl (yc_ne (by omega) (by omega)) (fun hb14113 => ?_) (fun hb14113 => ?_)
        · refine y_iload 102 c210_101 rfl rfl ?_
          refine y_iconst 104 c210_102 rfl ?_
          refine y_icmp 134 107 c210_104 rfl rfl (yc_ne (by omega) (by omega)) (fun hb14114 => ?_) (fun hb14114 => ?_)
          · refine y_iload 135 c210_134 rfl rfl ?_
            refine y_iconst 137 c210_135 rfl ?_
            refine y_icmp 146 140 c210_137 rfl rfl (yc_eq (by omega) (by omega)) (fun hb14115 => ?_) (fun hb14115 => ?_)
            · exfalso; omega
            · refine y_iload 141 c210_140 rfl rfl ?_
              refine y_iconst 143 c210_141 rfl ?_
              refine y_icmp 185 146 c210_143 rfl rfl (yc_ne (by omega) (by omega)) (fun hb14116 => ?_) (fun hb14116 => ?_)
              · refine y_iload 186 c210_185 rfl rfl ?_
                refine y_iconst 188 c210_186 rfl ?_
                refine y_icmp 199 191 c210_188 rfl rfl (yc_ne (by omega) (by omega)) (fun hb14117 => ?_) (fun hb14117 => ?_)
                · refine y_aload 200 c210_199 rfl rfl rfl ?_
                  refine y_iload 201 c210_200 rfl rfl ?_
                  have hVc : VX 1 m := hV
                  refine y_callUB 204 [.ref 376, yI (1000 + (8 * (m 376 55)))] [] c210_201 rfl rfl rfl rfl rfl (ycanO km209 ko376) (t209_1 (k := m 376 55) hT (by omega) hG hVc (by omega) (by omega) (by rw [show m 403 (1000 * 1 + 8 * (m 376 55).toNat) = m 403 (1000 * 1 + 8 * (m 376 55).toNat) from rfl]; omega)) (fun mq14118 nq14118 hq14118 => ?_)
                  obtain ⟨rfl, hTq14118, hFq14118, hVq14118⟩ := hq14118
                  have hF14119 := hF.tr hFq14118 wPl_wRn
                  refine y_aload 205 c210_204 rfl rfl rfl ?_
                  refine y_dup 206 c210_205 rfl rfl ?_
                  refine y_getX 209 (m 376 55) c210_206 rfl kf376_55 (hFq14118 376 55 rfl) ?_
                  refine y_iconst 210 c210_209 rfl ?_
                  refine y_iadd 211 c210_210 rfl ?_
                  refine y_putI 214 c210_211 rfl kf376_55 (y_fit0 _) ?_
                  have hT14120 := hTq14118.up 376 55 ((m 376 55) + 1) 0 124 rfl (by omega)
                  have hF14121 := hF14119.up 376 55 ((m 376 55) + 1) rfl
                  have es14122 : (yup mq14118 376 55 ((m 376 55) + 1)) 376 51 = mq14118 376 51 := rfl
                  have tb14123 := hTq14118.atp 376 51 0 30 rfl
                  have es14124 : (yup mq14118 376 55 ((m 376 55) + 1)) 376 54 = m 376 54 := ((yup_nk (by decide)).trans (hFq14118 376 54 rfl))
                  have es14125 : (yup mq14118 376 55 ((m 376 55) + 1)) 376 55 = (m 376 55) + 1 := rfl
                  have es14126 : (yup mq14118 376 55 ((m 376 55) + 1)) 376 56 = m 376 56 := ((yup_nk (by decide)).trans (hFq14118 376 56 rfl))
                  have es14127 : (yup mq14118 376 55 ((m 376 55) + 1)) 376 57 = mq14118 376 57 := rfl
                  have tb14128 := hTq14118.atp 376 57 0 4 rfl
                  have es14129 : (yup mq14118 376 55 ((m 376 55) + 1)) 390 1 = m 390 1 := ((yup_na (by decide)).trans (hFq14118 390 1 rfl))
                  have e3 : ∀ q, (yup mq14118 376 55 ((m 376 55) + 1)) 403 q = m 403 q := fun q => ((yup_na (by decide)).trans (hFq14118 403 q rfl))
                  have hk0 := rk_lo (p := 1) (m := m) (o := m 376 55) (by omega)
                  have tp := hT14120.atp 376 55 0 124 rfl
                  have hk1 := rk_lo (p := 1) (m := yup mq14118 376 55 ((m 376 55) + 1)) (o := (yup mq14118 376 55 ((m 376 55) + 1)) 376 55) (by omega)
                  have tf := hT14120.atp 376 57 0 4 rfl
                  have t54 := hT14120.atp 376 54 0 4 rfl
                  refine y_retU c210_214 ⟨rfl, hT14120, hF14121, (VX.sc hVq14118 (by decide)), ?_⟩
                  by_cases hz : (yup mq14118 376 55 ((m 376 55) + 1)) 376 57 ≠ 0
                  · exact Or.inl hz
                  by_cases hz2 : (yup mq14118 376 55 ((m 376 55) + 1)) 376 54 = 0
                  · exact Or.inr (Or.inl hz2)
                  refine Or.inr (Or.inr ⟨⟨by omega, by omega, by omega, by omega, ?_⟩, ?_⟩)
                  · intro f h1 h2
                    rw [show ∀ q, (yup mq14118 376 55 ((m 376 55) + 1)) 412 q = m 412 q from fun q => ((yup_na (by decide)).trans (hFq14118 412 q rfl)), show (yup mq14118 376 55 ((m 376 55) + 1)) 390 1 = m 390 1 from ((yup_na (by decide)).trans (hFq14118 390 1 rfl)), e3]
                    exact hBR f h1 (by omega)
                  · unfold MR; omega
                · exfalso; omega
              · exfalso; omega
          · exfalso; omega
        · refine y_aload 86 c210_85 rfl rfl rfl ?_
          refine y_aload 87 c210_86 rfl rfl rfl ?_
          refine y_getR 90 c210_87 rfl kf376_40 ?_
          refine y_iload 91 c210_90 rfl rfl ?_
          refine y_iconst 92 c210_91 rfl ?_
          refine y_iadd 93 c210_92 rfl ?_
          refine y_iaT 94 ((-2147483648)) 2147483647 c210_93 rfl ka403 (by omega) hT rfl (fun v14130 hv14130 gv14130 => ?_)
          have gv14130_ : m 403 (1000 * 1 + 8 * (m 376 55).toNat + 1) = v14130 := by rw [show 1000 * 1 + 8 * (m 376 55).toNat + 1 = ((1000 + (8 * (m 376 55))) + 1).toNat by omega]; exact (rfl).symm.trans hv14130
          refine y_iconst 95 c210_94 rfl ?_
          have hVc : VX 1 m := hV
          refine y_callUB 98 [.ref 376, yI v14130, yI 0] [] c210_95 rfl rfl rfl rfl rfl (ycanO km204 ko376) (t204_1 hT (by omega) hG hVc (by omega) hBR (by omega) (by omega)) (fun mq14131 nq14131 hq14131 => ?_)
          obtain ⟨rfl, hTq14131, hFq14131, hVq14131, hq14131, hpq14131⟩ := hq14131
          have hF14132 := hF.tr hFq14131 wLv_wRn
          refine y_goto 214 c210_98 rfl ?_
          have es14133 : mq14131 376 51 = m 376 51 := (hFq14131 376 51 rfl)
          have tb14134 := hTq14131.atp 376 54 0 4 rfl
          have tb14135 := hTq14131.atp 376 55 0 124 rfl
          have es14136 : mq14131 376 56 = m 376 56 := (hFq14131 376 56 rfl)
          have es14137 : mq14131 376 57 = m 376 57 := (hFq14131 376 57 rfl)
          have es14138 : mq14131 390 1 = m 390 1 := (hFq14131 390 1 rfl)
          have e3 : ∀ q, mq14131 403 q = m 403 q := fun q => (hFq14131 403 q rfl)
          have hk0 := rk_lo (p := 1) (m := m) (o := m 376 55) (by omega)
          have tp := hTq14131.atp 376 55 0 124 rfl
          have hk1 := rk_lo (p := 1) (m := mq14131) (o := mq14131 376 55) (by omega)
          have tf := hTq14131.atp 376 57 0 4 rfl
          have t54 := hTq14131.atp 376 54 0 4 rfl
          refine y_retU c210_214 ⟨rfl, hTq14131, hF14132, hVq14131, ?_⟩
          by_cases hz : mq14131 376 57 ≠ 0
          · exact Or.inl hz
          by_cases hz2 : mq14131 376 54 = 0
          · exact Or.inr (Or.inl hz2)
          refine Or.inr (Or.inr ⟨⟨by omega, by omega, by omega, by omega, ?_⟩, ?_⟩)
          · intro f h1 h2
            rw [show ∀ q, mq14131 412 q = m 412 q from fun q => (hFq14131 412 q rfl), show mq14131 390 1 = m 390 1 from (hFq14131 390 1 rfl), e3]
            exact hBR f h1 (by omega)
          · unfold MR; omega
      · refine y_aload 65 c210_64 rfl rfl rfl ?_
        refine y_aload 66 c210_65 rfl rfl rfl ?_
        refine y_getR 69 c210_66 rfl kf376_40 ?_
        refine y_iload 70 c210_69 rfl rfl ?_
        refine y_iconst 71 c210_70 rfl ?_
        refine y_iadd 72 c210_71 rfl ?_
        refine y_iaT 73 ((-2147483648)) 2147483647 c210_72 rfl ka403 (by omega) hT rfl (fun v14139 hv14139 gv14139 => ?_)
        have gv14139_ : m 403 (1000 * 1 + 8 * (m 376 55).toNat + 3) = v14139 := by rw [show 1000 * 1 + 8 * (m 376 55).toNat + 3 = ((1000 + (8 * (m 376 55))) + 3).toNat by omega]; exact (rfl).symm.trans hv14139
        refine y_putI 76 c210_73 rfl kf376_55 (y_fit0 _) ?_
        have hT14140 := hT.up 376 55 v14139 0 124 rfl (by omega)
        have hF14141 := hF.up 376 55 v14139 rfl
        refine y_goto 214 c210_76 rfl ?_
        have es14142 : (yup m 376 55 v14139) 376 51 = m 376 51 := rfl
        have es14143 : (yup m 376 55 v14139) 376 54 = m 376 54 := rfl
        have es14144 : (yup m 376 55 v14139) 376 55 = v14139 := rfl
        have es14145 : (yup m 376 55 v14139) 376 56 = m 376 56 := rfl
        have es14146 : (yup m 376 55 v14139) 376 57 = m 376 57 := rfl
        have es14147 : (yup m 376 55 v14139) 390 1 = m 390 1 := rfl
        have e3 : ∀ q, (yup m 376 55 v14139) 403 q = m 403 q := fun q => (yup_na (by decide))
        have hk0 := rk_lo (p := 1) (m := m) (o := m 376 55) (by omega)
        have tp := hT14140.atp 376 55 0 124 rfl
        have hk1 := rk_lo (p := 1) (m := yup m 376 55 v14139) (o := (yup m 376 55 v14139) 376 55) (by omega)
        have tf := hT14140.atp 376 57 0 4 rfl
        have t54 := hT14140.atp 376 54 0 4 rfl
        refine y_retU c210_214 ⟨rfl, hT14140, hF14141, (VX.sc hV (by decide)), ?_⟩
        by_cases hz : (yup m 376 55 v14139) 376 57 ≠ 0
        · exact Or.inl hz
        by_cases hz2 : (yup m 376 55 v14139) 376 54 = 0
        · exact Or.inr (Or.inl hz2)
        refine Or.inr (Or.inr ⟨⟨by omega, by omega, by omega, by omega, ?_⟩, ?_⟩)
        · intro f h1 h2
          rw [show ∀ q, (yup m 376 55 v14139) 412 q = m 412 q from fun q => (yup_na (by decide)), show (yup m 376 55 v14139) 390 1 = m 390 1 from rfl, e3]
          exact hBR f h1 (by omega)
        · have hj := rk_jump (p := 1) (m := m) (o := m 376 55) (by omega) (by omega) (t := v14139) (by omega) (by omega) (by have h0 := hG.2.1 (m 376 55).toNat (by omega) (by omega); unfold JK at h0; rw [gv14139_] at h0; omega)
          have hr := rk_fr (p := 1) (m := m) (m' := yup m 376 55 v14139) (o := v14139) e3
          unfold MR
          rw [show (yup m 376 55 v14139) 376 55 = v14139 by omega, hr]; omega
    · refine y_aload 51 c210_50 rfl rfl rfl ?_
      refine y_iconst 52 c210_51 rfl ?_
      refine y_putI 55 c210_52 rfl kf376_57 (y_fit0 _) ?_
      have hT14148 := hT.up 376 57 4 0 4 rfl (by omega)
      have hF14149 := hF.up 376 57 4 rfl
      refine y_goto 214 c210_55 rfl ?_
      have es14150 : (yup m 376 57 4) 376 51 = m 376 51 := rfl
      have es14151 : (yup m 376 57 4) 376 54 = m 376 54 := rfl
      have es14152 : (yup m 376 57 4) 376 55 = m 376 55 := rfl
      have es14153 : (yup m 376 57 4) 376 56 = m 376 56 := rfl
      have es14154 : (yup m 376 57 4) 376 57 = 4 := rfl
      have es14155 : (yup m 376 57 4) 390 1 = m 390 1 := rfl
      exact y_retU c210_214 ⟨rfl, hT14148, hF14149, (VX.sc hV (by decide)), Or.inl (by omega)⟩
  · refine y_aload 31 c210_30 rfl rfl rfl ?_
    refine y_dup 32 c210_31 rfl rfl ?_
    refine y_getX 35 (m 376 56) c210_32 rfl kf376_56 rfl ?_
    refine y_iconst 36 c210_35 rfl ?_
    refine y_iadd 37 c210_36 rfl ?_
    refine y_putI 40 c210_37 rfl kf376_56 (y_fit0 _) ?_
    have hT14156 := hT.up 376 56 ((m 376 56) + 1) 0 201 rfl (by omega)
    have hF14157 := hF.up 376 56 ((m 376 56) + 1) rfl
    refine y_aload 41 c210_40 rfl rfl rfl ?_
    refine y_getX 44 ((m 376 56) + 1) c210_41 rfl kf376_56 rfl ?_
    refine y_iconst 47 c210_44 rfl ?_
    refine y_icmp 58 50 c210_47 rfl rfl (yc_le (by omega) (by omega)) (fun hb14158 => ?_) (fun hb14158 => ?_)
    · refine y_iload 59 c210_58 rfl rfl ?_
      refine y_iconst 61 c210_59 rfl ?_
      refine y_icmp 79 64 c210_61 rfl rfl (yc_ne (by omega) (by omega)) (fun hb14159 => ?_) (fun hb14159 => ?_)
      · refine y_iload 80 c210_79 rfl rfl ?_
        refine y_iconst 82 c210_80 rfl ?_
        refine y_icmp 101 85 c210_82 rfl rfl (yc_ne (by omega) (by omega)) (fun hb14160 => ?_) (fun hb14160 => ?_)
        · refine y_iload 102 c210_101 rfl rfl ?_
          refine y_iconst 104 c210_102 rfl ?_
          refine y_icmp 134 107 c210_104 rfl rfl (yc_ne (by omega) (by omega)) (fun hb14161 => ?_) (fun hb14161 => ?_)
          · refine y_iload 135 c210_134 rfl rfl ?_
            refine y_iconst 137 c210_135 rfl ?_
            refine y_icmp 146 140 c210_137 rfl rfl (yc_eq (by omega) (by omega)) (fun hb14162 => ?_) (fun hb14162 => ?_)
            · refine y_aload 147 c210_146 rfl rfl rfl ?_
              refine y_aload 148 c210_147 rfl rfl rfl ?_
              refine y_aload 149 c210_148 rfl rfl rfl ?_
              refine y_getR 152 c210_149 rfl kf376_40 ?_
              refine y_iload 153 c210_152 rfl rfl ?_
              refine y_iconst 154 c210_153 rfl ?_
              refine y_iadd 155 c210_154 rfl ?_
              refine y_iaT 156 ((-2147483648)) 2147483647 c210_155 rfl ka403 (by omega) hT14156 rfl (fun v14163 hv14163 gv14163 => ?_)
              have gv14163_ : m 403 (1000 * 1 + 8 * (m 376 55).toNat + 2) = v14163 := by rw [show 1000 * 1 + 8 * (m 376 55).toNat + 2 = ((1000 + (8 * (m 376 55))) + 2).toNat by omega]; exact ((yup_na (by decide))).symm.trans hv14163
              have es14164 : (yup m 376 56 ((m 376 56) + 1)) 376 51 = m 376 51 := rfl
              have es14165 : (yup m 376 56 ((m 376 56) + 1)) 376 54 = m 376 54 := rfl
              have es14166 : (yup m 376 56 ((m 376 56) + 1)) 376 18 = m 376 18 := rfl
              have hVg : VX 1 (yup m 376 56 ((m 376 56) + 1)) := (VX.sc hV (by decide))
              refine y_callP 159 [.ref 376, yI v14163] [.ref 376] c210_156 rfl rfl rfl rfl rfl (ycanO km205 ko376) (t205_1 hT14156 hVg (by omega) (by omega)) (fun r14167 hr14167 => ?_)
              refine y_if 171 162 c210_159 rfl rfl (yz_le (by omega)) (fun hb14168 => ?_) (fun hb14168 => ?_)
              · refine y_aload 172 c210_171 rfl rfl rfl ?_
                refine y_getR 175 c210_172 rfl kf376_40 ?_
                refine y_iload 176 c210_175 rfl rfl ?_
                refine y_iconst 177 c210_176 rfl ?_
                refine y_iadd 178 c210_177 rfl ?_
                refine y_iaT 179 ((-2147483648)) 2147483647 c210_178 rfl ka403 (by omega) hT14156 rfl (fun v14169 hv14169 gv14169 => ?_)
                have gv14169_ : m 403 (1000 * 1 + 8 * (m 376 55).toNat + 3) = v14169 := by rw [show 1000 * 1 + 8 * (m 376 55).toNat + 3 = ((1000 + (8 * (m 376 55))) + 3).toNat by omega]; exact ((yup_na (by decide))).symm.trans hv14169
                refine y_putI 182 c210_179 rfl kf376_55 (y_fit0 _) ?_
                have hT14170 := hT14156.up 376 55 v14169 0 124 rfl (by omega)
                have hF14171 := hF14157.up 376 55 v14169 rfl
                refine y_goto 214 c210_182 rfl ?_
                have es14172 : (yup (yup m 376 56 ((m 376 56) + 1)) 376 55 v14169) 376 51 = m 376 51 := rfl
                have es14173 : (yup (yup m 376 56 ((m 376 56) + 1)) 376 55 v14169) 376 54 = m 376 54 := rfl
                have es14174 : (yup (yup m 376 56 ((m 376 56) + 1)) 376 55 v14169) 376 55 = v14169 := rfl
                have es14175 : (yup (yup m 376 56 ((m 376 56) + 1)) 376 55 v14169) 376 56 = (m 376 56) + 1 := rfl
                have es14176 : (yup (yup m 376 56 ((m 376 56) + 1)) 376 55 v14169) 376 57 = m 376 57 := rfl
                have es14177 : (yup (yup m 376 56 ((m 376 56) + 1)) 376 55 v14169) 390 1 = m 390 1 := rfl
                have e3 : ∀ q, (yup (yup m 376 56 ((m 376 56) + 1)) 376 55 v14169) 403 q = m 403 q := fun q => ((yup_na (by decide)).trans (yup_na (by decide)))
                have hk0 := rk_lo (p := 1) (m := m) (o := m 376 55) (by omega)
                have tp := hT14170.atp 376 55 0 124 rfl
                have hk1 := rk_lo (p := 1) (m := yup (yup m 376 56 ((m 376 56) + 1)) 376 55 v14169) (o := (yup (yup m 376 56 ((m 376 56) + 1)) 376 55 v14169) 376 55) (by omega)
                have tf := hT14170.atp 376 57 0 4 rfl
                have t54 := hT14170.atp 376 54 0 4 rfl
                refine y_retU c210_214 ⟨rfl, hT14170, hF14171, (VX.sc (VX.sc hV (by decide)) (by decide)), ?_⟩
                by_cases hz : (yup (yup m 376 56 ((m 376 56) + 1)) 376 55 v14169) 376 57 ≠ 0
                · exact Or.inl hz
                by_cases hz2 : (yup (yup m 376 56 ((m 376 56) + 1)) 376 55 v14169) 376 54 = 0
                · exact Or.inr (Or.inl hz2)
                refine Or.inr (Or.inr ⟨⟨by omega, by omega, by omega, by omega, ?_⟩, ?_⟩)
                · intro f h1 h2
                  rw [show ∀ q, (yup (yup m 376 56 ((m 376 56) + 1)) 376 55 v14169) 412 q = m 412 q from fun q => ((yup_na (by decide)).trans (yup_na (by decide))), show (yup (yup m 376 56 ((m 376 56) + 1)) 376 55 v14169) 390 1 = m 390 1 from rfl, e3]
                  exact hBR f h1 (by omega)
                · unfold MR; omega
              · refine y_aload 163 c210_162 rfl rfl rfl ?_
                refine y_getX 166 (m 376 55) c210_163 rfl kf376_55 rfl ?_
                refine y_iconst 167 c210_166 rfl ?_
                refine y_iadd 168 c210_167 rfl ?_
                refine y_goto 179 c210_168 rfl ?_
                refine y_putI 182 c210_179 rfl kf376_55 (y_fit0 _) ?_
                have hT14178 := hT14156.up 376 55 ((m 376 55) + 1) 0 124 rfl (by omega)
                have hF14179 := hF14157.up 376 55 ((m 376 55) + 1) rfl
                refine y_goto 214 c210_182 rfl ?_
                have es14180 : (yup (yup m 376 56 ((m 376 56) + 1)) 376 55 ((m 376 55) + 1)) 376 51 = m 376 51 := rfl
                have es14181 : (yup (yup m 376 56 ((m 376 56) + 1)) 376 55 ((m 376 55) + 1)) 376 54 = m 376 54 := rfl
                have es14182 : (yup (yup m 376 56 ((m 376 56) + 1)) 376 55 ((m 376 55) + 1)) 376 55 = (m 376 55) + 1 := rfl
                have es14183 : (yup (yup m 376 56 ((m 376 56) + 1)) 376 55 ((m 376 55) + 1)) 376 56 = (m 376 56) + 1 := rfl
                have es14184 : (yup (yup m 376 56 ((m 376 56) + 1)) 376 55 ((m 376 55) + 1)) 376 57 = m 376 57 := rfl
                have es14185 : (yup (yup m 376 56 ((m 376 56) + 1)) 376 55 ((m 376 55) + 1)) 390 1 = m 390 1 := rfl
                have e3 : ∀ q, (yup (yup m 376 56 ((m 376 56) + 1)) 376 55 ((m 376 55) + 1)) 403 q = m 403 q := fun q => ((yup_na (by decide)).trans (yup_na (by decide)))
                have hk0 := rk_lo (p := 1) (m := m) (o := m 376 55) (by omega)
                have tp := hT14178.atp 376 55 0 124 rfl
                have hk1 := rk_lo (p := 1) (m := yup (yup m 376 56 ((m 376 56) + 1)) 376 55 ((m 376 55) + 1)) (o := (yup (yup m 376 56 ((m 376 56) + 1)) 376 55 ((m 376 55) + 1)) 376 55) (by omega)
                have tf := hT14178.atp 376 57 0 4 rfl
                have t54 := hT14178.atp 376 54 0 4 rfl
                refine y_retU c210_214 ⟨rfl, hT14178, hF14179, (VX.sc (VX.sc hV (by decide)) (by decide)), ?_⟩
                by_cases hz : (yup (yup m 376 56 ((m 376 56) + 1)) 376 55 ((m 376 55) + 1)) 376 57 ≠ 0
                · exact Or.inl hz
                by_cases hz2 : (yup (yup m 376 56 ((m 376 56) + 1)) 376 55 ((m 376 55) + 1)) 376 54 = 0
                · exact Or.inr (Or.inl hz2)
                refine Or.inr (Or.inr ⟨⟨by omega, by omega, by omega, by omega, ?_⟩, ?_⟩)
                · intro f h1 h2
                  rw [show ∀ q, (yup (yup m 376 56 ((m 376 56) + 1)) 376 55 ((m 376 55) + 1)) 412 q = m 412 q from fun q => ((yup_na (by decide)).trans (yup_na (by decide))), show (yup (yup m 376 56 ((m 376 56) + 1)) 376 55 ((m 376 55) + 1)) 390 1 = m 390 1 from rfl, e3]
                  exact hBR f h1 (by omega)
                · unfold MR; omega
            · refine y_iload 141 c210_140 rfl rfl ?_
              refine y_iconst 143 c210_141 rfl ?_
              refine y_icmp 185 146 c210_143 rfl rfl (yc_ne (by omega) (by omega)) (fun hb14186 => ?_) (fun hb14186 => ?_)
              · refine y_iload 186 c210_185 rfl rfl ?_
                refine y_iconst 188 c210_186 rfl ?_
                refine y_icmp 199 191 c210_188 rfl rfl (yc_ne (by omega) (by omega)) (fun hb14187 => ?_) (fun hb14187 => ?_)
                · refine y_aload 200 c210_199 rfl rfl rfl ?_
                  refine y_iload 201 c210_200 rfl rfl ?_
                  have es14189 : (yup m 376 56 ((m 376 56) + 1)) 376 51 = m 376 51 := rfl
                  have es14190 : (yup m 376 56 ((m 376 56) + 1)) 376 54 = m 376 54 := rfl
                  have es14191 : (yup m 376 56 ((m 376 56) + 1)) 376 18 = m 376 18 := rfl
                  have es14192 : (yup m 376 56 ((m 376 56) + 1)) 390 1 = m 390 1 := rfl
                  have es14193 : (yup m 376 56 ((m 376 56) + 1)) 376 55 = m 376 55 := rfl
                  have es14194 : (yup m 376 56 ((m 376 56) + 1)) 376 56 = (m 376 56) + 1 := rfl
                  have es14195 : (yup m 376 56 ((m 376 56) + 1)) 376 57 = m 376 57 := rfl
                  have hVc : VX 1 (yup m 376 56 ((m 376 56) + 1)) := (VX.sc hV (by decide))
                  refine y_callUB 204 [.ref 376, yI (1000 + (8 * (m 376 55)))] [] c210_201 rfl rfl rfl rfl rfl (ycanO km209 ko376) (t209_1 (k := m 376 55) hT14156 (by omega) (hG.fr hT (by decide) (fun a q ha => hF14157 a q (wRn_G2 a q ha))) hVc (by omega) (by omega) (by rw [show (yup m 376 56 ((m 376 56) + 1)) 403 (1000 * 1 + 8 * (m 376 55).toNat) = m 403 (1000 * 1 + 8 * (m 376 55).toNat) from (yup_na (by decide))]; omega)) (fun mq14188 nq14188 hq14188 => ?_)
                  obtain ⟨rfl, hTq14188, hFq14188, hVq14188⟩ := hq14188
                  have hF14196 := hF14157.tr hFq14188 wPl_wRn
                  refine y_aload 205 c210_204 rfl rfl rfl ?_
                  refine y_dup 206 c210_205 rfl rfl ?_
                  refine y_getX 209 (m 376 55) c210_206 rfl kf376_55 ((hFq14188 376 55 rfl).trans (yup_nk (by decide))) ?_
                  refine y_iconst 210 c210_209 rfl ?_
                  refine y_iadd 211 c210_210 rfl ?_
                  refine y_putI 214 c210_211 rfl kf376_55 (y_fit0 _) ?_
                  have hT14197 := hTq14188.up 376 55 ((m 376 55) + 1) 0 124 rfl (by omega)
                  have hF14198 := hF14196.up 376 55 ((m 376 55) + 1) rfl
                  have es14199 : (yup mq14188 376 55 ((m 376 55) + 1)) 376 51 = mq14188 376 51 := rfl
                  have tb14200 := hTq14188.atp 376 51 0 30 rfl
                  have es14201 : (yup mq14188 376 55 ((m 376 55) + 1)) 376 54 = m 376 54 := ((yup_nk (by decide)).trans ((hFq14188 376 54 rfl).trans (yup_nk (by decide))))
                  have es14202 : (yup mq14188 376 55 ((m 376 55) + 1)) 376 55 = (m 376 55) + 1 := rfl
                  have es14203 : (yup mq14188 376 55 ((m 376 55) + 1)) 376 56 = (m 376 56) + 1 := ((yup_nk (by decide)).trans ((hFq14188 376 56 rfl).trans (yup_eq _ _ _ _)))
                  have es14204 : (yup mq14188 376 55 ((m 376 55) + 1)) 376 57 = mq14188 376 57 := rfl
                  have tb14205 := hTq14188.atp 376 57 0 4 rfl
                  have es14206 : (yup mq14188 376 55 ((m 376 55) + 1)) 390 1 = m 390 1 := ((yup_na (by decide)).trans ((hFq14188 390 1 rfl).trans (yup_na (by decide))))
                  have e3 : ∀ q, (yup mq14188 376 55 ((m 376 55) + 1)) 403 q = m 403 q := fun q => ((yup_na (by decide)).trans ((hFq14188 403 q rfl).trans (yup_na (by decide))))
                  have hk0 := rk_lo (p := 1) (m := m) (o := m 376 55) (by omega)
                  have tp := hT14197.atp 376 55 0 124 rfl
                  have hk1 := rk_lo (p := 1) (m := yup mq14188 376 55 ((m 376 55) + 1)) (o := (yup mq14188 376 55 ((m 376 55) + 1)) 376 55) (by omega)
                  have tf := hT14197.atp 376 57 0 4 rfl
                  have t54 := hT14197.atp 376 54 0 4 rfl
                  refine y_retU c210_214 ⟨rfl, hT14197, hF14198, (VX.sc hVq14188 (by decide)), ?_⟩
                  by_cases hz : (yup mq14188 376 55 ((m 376 55) + 1)) 376 57 ≠ 0
                  · exact Or.inl hz
                  by_cases hz2 : (yup mq14188 376 55 ((m 376 55) + 1)) 376 54 = 0
                  · exact Or.inr (Or.inl hz2)
                  refine Or.inr (Or.inr ⟨⟨by omega, by omega, by omega, by omega, ?_⟩, ?_⟩)
                  · intro f h1 h2
                    rw [show ∀ q, (yup mq14188 376 55 ((m 376 55) + 1)) 412 q = m 412 q from fun q => ((yup_na (by decide)).trans ((hFq14188 412 q rfl).trans (yup_na (by decide)))), show (yup mq14188 376 55 ((m 376 55) + 1)) 390 1 = m 390 1 from ((yup_na (by decide)).trans ((hFq14188 390 1 rfl).trans (yup_na (by decide)))), e3]
                    exact hBR f h1 (by omega)
                  · unfold MR; omega
                · refine y_aload 192 c210_191 rfl rfl rfl ?_
                  refine y_iload 193 c210_192 rfl rfl ?_
                  have es14208 : (yup m 376 56 ((m 376 56) + 1)) 376 51 = m 376 51 := rfl
                  have es14209 : (yup m 376 56 ((m 376 56) + 1)) 376 54 = m 376 54 := rfl
                  have es14210 : (yup m 376 56 ((m 376 56) + 1)) 376 18 = m 376 18 := rfl
                  have es14211 : (yup m 376 56 ((m 376 56) + 1)) 390 1 = m 390 1 := rfl
                  have es14212 : (yup m 376 56 ((m 376 56) + 1)) 376 55 = m 376 55 := rfl
                  have es14213 : (yup m 376 56 ((m 376 56) + 1)) 376 56 = (m 376 56) + 1 := rfl
                  have es14214 : (yup m 376 56 ((m 376 56) + 1)) 376 57 = m 376 57 := rfl
                  have hVc : VX 1 (yup m 376 56 ((m 376 56) + 1)) := (VX.sc hV (by decide))
                  refine y_callUB 196 [.ref 376, yI (1000 + (8 * (m 376 55)))] [] c210_193 rfl rfl rfl rfl rfl (ycanO km207 ko376) (t207_1 (k := m 376 55) hT14156 (by omega) (hG.fr hT (by decide) (fun a q ha => hF14157 a q (wRn_G2 a q ha))) hVc (by omega) (by omega) (by rw [show (yup m 376 56 ((m 376 56) + 1)) 403 _ = m 403 _ from (yup_na (by decide))]; omega)) (fun mq14207 nq14207 hq14207 => ?_)
                  obtain ⟨rfl, hTq14207, hFq14207, hVq14207, hq14207, hqq14207⟩ := hq14207
                  have hF14215 := hF14157.tr hFq14207 wEn_wRn
                  refine y_goto 214 c210_196 rfl ?_
                  have es14216 : mq14207 376 51 = m 376 51 := ((hFq14207 376 51 rfl).trans (yup_nk (by decide)))
                  have tb14217 := hTq14207.atp 376 54 0 4 rfl
                  have tb14218 := hTq14207.atp 376 55 0 124 rfl
                  have es14219 : mq14207 376 56 = (m 376 56) + 1 := ((hFq14207 376 56 rfl).trans (yup_eq _ _ _ _))
                  have tb14220 := hTq14207.atp 376 57 0 4 rfl
                  have es14221 : mq14207 390 1 = m 390 1 := ((hFq14207 390 1 rfl).trans (yup_na (by decide)))
                  have e3 : ∀ q, mq14207 403 q = m 403 q := fun q => ((hFq14207 403 q rfl).trans (yup_na (by decide)))
                  have hk0 := rk_lo (p := 1) (m := m) (o := m 376 55) (by omega)
                  have tp := hTq14207.atp 376 55 0 124 rfl
                  have hk1 := rk_lo (p := 1) (m := mq14207) (o := mq14207 376 55) (by omega)
                  have tf := hTq14207.atp 376 57 0 4 rfl
                  have t54 := hTq14207.atp 376 54 0 4 rfl
                  refine y_retU c210_214 ⟨rfl, hTq14207, hF14215, hVq14207, ?_⟩
                  by_cases hz : mq14207 376 57 ≠ 0
                  · exact Or.inl hz
                  by_cases hz2 : mq14207 376 54 = 0
                  · exact Or.inr (Or.inl hz2)
                  refine Or.inr (Or.inr ⟨⟨by omega, by omega, by omega, by omega, ?_⟩, ?_⟩)
                  · intro f h1 h2
                    rw [show mq14207 390 1 = m 390 1 from ((hFq14207 390 1 rfl).trans (yup_na (by decide))), e3]
                    have eb : (yup m 376 56 ((m 376 56) + 1)) 376 54 = m 376 54 := rfl
                    have ec : (yup m 376 56 ((m 376 56) + 1)) 376 55 = m 376 55 := rfl
                    rw [eb, ec] at hq14207
                    rw [eb] at hqq14207
                    obtain ⟨y1, y2, y3⟩ := hq14207.resolve_left (by omega)
                    by_cases q : f = (m 376 54).toNat
                    · subst q; rw [y3]; omega
                    · rw [hqq14207 f q, show (yup m 376 56 ((m 376 56) + 1)) 412 f = m 412 f from (yup_na (by decide))]; exact hBR f h1 (by omega)
                  · unfold MR; omega
              · refine y_aload 147 c210_146 rfl rfl rfl ?_
                refine y_aload 148 c210_147 rfl rfl rfl ?_
                refine y_aload 149 c210_148 rfl rfl rfl ?_
                refine y_getR 152 c210_149 rfl kf376_40 ?_
                refine y_iload 153 c210_152 rfl rfl ?_
                refine y_iconst 154 c210_153 rfl ?_
                refine y_iadd 155 c210_154 rfl ?_
                refine y_iaT 156 ((-2147483648)) 2147483647 c210_155 rfl ka403 (by omega) hT14156 rfl (fun v14222 hv14222 gv14222 => ?_)
                have gv14222_ : m 403 (1000 * 1 + 8 * (m 376 55).toNat + 2) = v14222 := by rw [show 1000 * 1 + 8 * (m 376 55).toNat + 2 = ((1000 + (8 * (m 376 55))) + 2).toNat by omega]; exact ((yup_na (by decide))).symm.trans hv14222
                have es14223 : (yup m 376 56 ((m 376 56) + 1)) 376 51 = m 376 51 := rfl
                have es14224 : (yup m 376 56 ((m 376 56) + 1)) 376 54 = m 376 54 := rfl
                have es14225 : (yup m 376 56 ((m 376 56) + 1)) 376 18 = m 376 18 := rfl
                have hVg : VX 1 (yup m 376 56 ((m 376 56) + 1)) := (VX.sc hV (by decide))
                refine y_callP 159 [.ref 376, yI v14222] [.ref 376] c210_156 rfl rfl rfl rfl rfl (ycanO km205 ko376) (t205_1 hT14156 hVg (by omega) (by omega)) (fun r14226 hr14226 => ?_)
                refine y_if 171 162 c210_159 rfl rfl (yz_le (by omega)) (fun hb14227 => ?_) (fun hb14227 => ?_)
                · refine y_aload 172 c210_171 rfl rfl rfl ?_
                  refine y_getR 175 c210_172 rfl kf376_40 ?_
                  refine y_iload 176 c210_175 rfl rfl ?_
                  refine y_iconst 177 c210_176 rfl ?_
                  refine y_iadd 178 c210_177 rfl ?_
                  refine y_iaT 179 ((-2147483648)) 2147483647 c210_178 rfl ka403 (by omega) hT14156 rfl (fun v14228 hv14228 gv14228 => ?_)
                  have gv14228_ : m 403 (1000 * 1 + 8 * (m 376 55).toNat + 3) = v14228 := by rw [show 1000 * 1 + 8 * (m 376 55).toNat + 3 = ((1000 + (8 * (m 376 55))) + 3).toNat by omega]; exact ((yup_na (by decide))).symm.trans hv14228
                  refine y_putI 182 c210_179 rfl kf376_55 (y_fit0 _) ?_
                  have hT14229 := hT14156.up 376 55 v14228 0 124 rfl (by omega)
                  have hF14230 := hF14157.up 376 55 v14228 rfl
                  refine y_goto 214 c210_182 rfl ?_
                  have es14231 : (yup (yup m 376 56 ((m 376 56) + 1)) 376 55 v14228) 376 51 = m 376 51 := rfl
                  have es14232 : (yup (yup m 376 56 ((m 376 56) + 1)) 376 55 v14228) 376 54 = m 376 54 := rfl
                  have es14233 : (yup (yup m 376 56 ((m 376 56) + 1)) 376 55 v14228) 376 55 = v14228 := rfl
                  have es14234 : (yup (yup m 376 56 ((m 376 56) + 1)) 376 55 v14228) 376 56 = (m 376 56) + 1 := rfl
                  have es14235 : (yup (yup m 376 56 ((m 376 56) + 1)) 376 55 v14228) 376 57 = m 376 57 := rfl
                  have es14236 : (yup (yup m 376 56 ((m 376 56) + 1)) 376 55 v14228) 390 1 = m 390 1 := rfl
                  have e3 : ∀ q, (yup (yup m 376 56 ((m 376 56) + 1)) 376 55 v14228) 403 q = m 403 q := fun q => ((yup_na (by decide)).trans (yup_na (by decide)))
                  have hk0 := rk_lo (p := 1) (m := m) (o := m 376 55) (by omega)
                  have tp := hT14229.atp 376 55 0 124 rfl
                  have hk1 := rk_lo (p := 1) (m := yup (yup m 376 56 ((m 376 56) + 1)) 376 55 v14228) (o := (yup (yup m 376 56 ((m 376 56) + 1)) 376 55 v14228) 376 55) (by omega)
                  have tf := hT14229.atp 376 57 0 4 rfl
                  have t54 := hT14229.atp 376 54 0 4 rfl
                  refine y_retU c210_214 ⟨rfl, hT14229, hF14230, (VX.sc (VX.sc hV (by decide)) (by decide)), ?_⟩
                  by_cases hz : (yup (yup m 376 56 ((m 376 56) + 1)) 376 55 v14228) 376 57 ≠ 0
                  · exact Or.inl hz
                  by_cases hz2 : (yup (yup m 376 56 ((m 376 56) + 1)) 376 55 v14228) 376 54 = 0
                  · exact Or.inr (Or.inl hz2)
                  refine Or.inr (Or.inr ⟨⟨by omega, by omega, by omega, by omega, ?_⟩, ?_⟩)
                  · intro f h1 h2
                    rw [show ∀ q, (yup (yup m 376 56 ((m 376 56) + 1)) 376 55 v14228) 412 q = m 412 q from fun q => ((yup_na (by decide)).trans (yup_na (by decide))), show (yup (yup m 376 56 ((m 376 56) + 1)) 376 55 v14228) 390 1 = m 390 1 from rfl, e3]
                    exact hBR f h1 (by omega)
                  · unfold MR; omega
                · refine y_aload 163 c210_162 rfl rfl rfl ?_
                  refine y_getX 166 (m 376 55) c210_163 rfl kf376_55 rfl ?_
                  refine y_iconst 167 c210_166 rfl ?_
                  refine y_iadd 168 c210_167 rfl ?_
                  refine y_goto 179 c210_168 rfl ?_
                  refine y_putI 182 c210_179 rfl kf376_55 (y_fit0 _) ?_
                  have hT14237 := hT14156.up 376 55 ((m 376 55) + 1) 0 124 rfl (by omega)
                  have hF14238 := hF14157.up 376 55 ((m 376 55) + 1) rfl
                  refine y_goto 214 c210_182 rfl ?_
                  have es14239 : (yup (yup m 376 56 ((m 376 56) + 1)) 376 55 ((m 376 55) + 1)) 376 51 = m 376 51 := rfl
                  have es14240 : (yup (yup m 376 56 ((m 376 56) + 1)) 376 55 ((m 376 55) + 1)) 376 54 = m 376 54 := rfl
                  have es14241 : (yup (yup m 376 56 ((m 376 56) + 1)) 376 55 ((m 376 55) + 1)) 376 55 = (m 376 55) + 1 := rfl
                  have es14242 : (yup (yup m 376 56 ((m 376 56) + 1)) 376 55 ((m 376 55) + 1)) 376 56 = (m 376 56) + 1 := rfl
                  have es14243 : (yup (yup m 376 56 ((m 376 56) + 1)) 376 55 ((m 376 55) + 1)) 376 57 = m 376 57 := rfl
                  have es14244 : (yup (yup m 376 56 ((m 376 56) + 1)) 376 55 ((m 376 55) + 1)) 390 1 = m 390 1 := rfl
                  have e3 : ∀ q, (yup (yup m 376 56 ((m 376 56) + 1)) 376 55 ((m 376 55) + 1)) 403 q = m 403 q := fun q => ((yup_na (by decide)).trans (yup_na (by decide)))
                  have hk0 := rk_lo (p := 1) (m := m) (o := m 376 55) (by omega)
                  have tp := hT14237.atp 376 55 0 124 rfl
                  have hk1 := rk_lo (p := 1) (m := yup (yup m 376 56 ((m 376 56) + 1)) 376 55 ((m 376 55) + 1)) (o := (yup (yup m 376 56 ((m 376 56) + 1)) 376 55 ((m 376 55) + 1)) 376 55) (by omega)
                  have tf := hT14237.atp 376 57 0 4 rfl
                  have t54 := hT14237.atp 376 54 0 4 rfl
                  refine y_retU c210_214 ⟨rfl, hT14237, hF14238, (VX.sc (VX.sc hV (by decide)) (by decide)), ?_⟩
                  by_cases hz : (yup (yup m 376 56 ((m 376 56) + 1)) 376 55 ((m 376 55) + 1)) 376 57 ≠ 0
                  · exact Or.inl hz
                  by_cases hz2 : (yup (yup m 376 56 ((m 376 56) + 1)) 376 55 ((m 376 55) + 1)) 376 54 = 0
                  · exact Or.inr (Or.inl hz2)
                  refine Or.inr (Or.inr ⟨⟨by omega, by omega, by omega, by omega, ?_⟩, ?_⟩)
                  · intro f h1 h2
                    rw [show ∀ q, (yup (yup m 376 56 ((m 376 56) + 1)) 376 55 ((m 376 55) + 1)) 412 q = m 412 q from fun q => ((yup_na (by decide)).trans (yup_na (by decide))), show (yup (yup m 376 56 ((m 376 56) + 1)) 376 55 ((m 376 55) + 1)) 390 1 = m 390 1 from rfl, e3]
                    exact hBR f h1 (by omega)
                  · unfold MR; omega
          · refine y_aload 108 c210_107 rfl rfl rfl ?_
            refine y_aload 109 c210_108 rfl rfl rfl ?_
            refine y_getR 112 c210_109 rfl kf376_40 ?_
            refine y_iload 113 c210_112 rfl rfl ?_
            refine y_iconst 114 c210_113 rfl ?_
            refine y_iadd 115 c210_114 rfl ?_
            refine y_iaT 116 ((-2147483648)) 2147483647 c210_115 rfl ka403 (by omega) hT14156 rfl (fun v14245 hv14245 gv14245 => ?_)
            have gv14245_ : m 403 (1000 * 1 + 8 * (m 376 55).toNat + 1) = v14245 := by rw [show 1000 * 1 + 8 * (m 376 55).toNat + 1 = ((1000 + (8 * (m 376 55))) + 1).toNat by omega]; exact ((yup_na (by decide))).symm.trans hv14245
            refine y_aload 117 c210_116 rfl rfl rfl ?_
            refine y_aload 118 c210_117 rfl rfl rfl ?_
            refine y_getR 121 c210_118 rfl kf376_40 ?_
            refine y_iload 122 c210_121 rfl rfl ?_
            refine y_iconst 123 c210_122 rfl ?_
            refine y_iadd 124 c210_123 rfl ?_
            refine y_iaT 125 ((-2147483648)) 2147483647 c210_124 rfl ka403 (by omega) hT14156 rfl (fun v14246 hv14246 gv14246 => ?_)
            have gv14246_ : m 403 (1000 * 1 + 8 * (m 376 55).toNat + 2) = v14246 := by rw [show 1000 * 1 + 8 * (m 376 55).toNat + 2 = ((1000 + (8 * (m 376 55))) + 2).toNat by omega]; exact ((yup_na (by decide))).symm.trans hv14246
            have es14247 : (yup m 376 56 ((m 376 56) + 1)) 376 51 = m 376 51 := rfl
            have es14248 : (yup m 376 56 ((m 376 56) + 1)) 376 54 = m 376 54 := rfl
            have es14249 : (yup m 376 56 ((m 376 56) + 1)) 376 18 = m 376 18 := rfl
            have hVg : VX 1 (yup m 376 56 ((m 376 56) + 1)) := (VX.sc hV (by decide))
            refine y_callP 128 [.ref 376, yI v14246] [yI v14245, .ref 376] c210_125 rfl rfl rfl rfl rfl (ycanO km205 ko376) (t205_1 hT14156 hVg (by omega) (by omega)) (fun r14250 hr14250 => ?_)
            have es14252 : (yup m 376 56 ((m 376 56) + 1)) 376 51 = m 376 51 := rfl
            have es14253 : (yup m 376 56 ((m 376 56) + 1)) 376 54 = m 376 54 := rfl
            have es14254 : (yup m 376 56 ((m 376 56) + 1)) 376 18 = m 376 18 := rfl
            have es14255 : (yup m 376 56 ((m 376 56) + 1)) 390 1 = m 390 1 := rfl
            have es14256 : (yup m 376 56 ((m 376 56) + 1)) 376 55 = m 376 55 := rfl
            have es14257 : (yup m 376 56 ((m 376 56) + 1)) 376 56 = (m 376 56) + 1 := rfl
            have es14258 : (yup m 376 56 ((m 376 56) + 1)) 376 57 = m 376 57 := rfl
            have hVc : VX 1 (yup m 376 56 ((m 376 56) + 1)) := (VX.sc hV (by decide))
            refine y_callUB 131 [.ref 376, yI v14245, yI r14250] [] c210_128 rfl rfl rfl rfl rfl (ycanO km204 ko376) (t204_1 hT14156 (by omega) (hG.fr hT (by decide) (fun a q ha => hF14157 a q (wRn_G2 a q ha))) hVc (by omega) (fun f h1 h2 => by rw [show (yup m 376 56 ((m 376 56) + 1)) 376 54 = m 376 54 from rfl] at h2; rw [show ∀ q, (yup m 376 56 ((m 376 56) + 1)) 412 q = m 412 q from fun q => (yup_na (by decide)), show (yup m 376 56 ((m 376 56) + 1)) 390 1 = m 390 1 from rfl, show ∀ q, (yup m 376 56 ((m 376 56) + 1)) 403 q = m 403 q from fun q => (yup_na (by decide))]; exact hBR f h1 h2) (by omega) (by omega)) (fun mq14251 nq14251 hq14251 => ?_)
            obtain ⟨rfl, hTq14251, hFq14251, hVq14251, hq14251, hpq14251⟩ := hq14251
            have hF14259 := hF14157.tr hFq14251 wLv_wRn
            refine y_goto 214 c210_131 rfl ?_
            have es14260 : mq14251 376 51 = m 376 51 := ((hFq14251 376 51 rfl).trans (yup_nk (by decide)))
            have tb14261 := hTq14251.atp 376 54 0 4 rfl
            have tb14262 := hTq14251.atp 376 55 0 124 rfl
            have es14263 : mq14251 376 56 = (m 376 56) + 1 := ((hFq14251 376 56 rfl).trans (yup_eq _ _ _ _))
            have es14264 : mq14251 376 57 = m 376 57 := ((hFq14251 376 57 rfl).trans (yup_nk (by decide)))
            have es14265 : mq14251 390 1 = m 390 1 := ((hFq14251 390 1 rfl).trans (yup_na (by decide)))
            have e3 : ∀ q, mq14251 403 q = m 403 q := fun q => ((hFq14251 403 q rfl).trans (yup_na (by decide)))
            have hk0 := rk_lo (p := 1) (m := m) (o := m 376 55) (by omega)
            have tp := hTq14251.atp 376 55 0 124 rfl
            have hk1 := rk_lo (p := 1) (m := mq14251) (o := mq14251 376 55) (by omega)
            have tf := hTq14251.atp 376 57 0 4 rfl
            have t54 := hTq14251.atp 376 54 0 4 rfl
            refine y_retU c210_214 ⟨rfl, hTq14251, hF14259, hVq14251, ?_⟩
            by_cases hz : mq14251 376 57 ≠ 0
            · exact Or.inl hz
            by_cases hz2 : mq14251 376 54 = 0
            · exact Or.inr (Or.inl hz2)
            refine Or.inr (Or.inr ⟨⟨by omega, by omega, by omega, by omega, ?_⟩, ?_⟩)
            · intro f h1 h2
              rw [show ∀ q, mq14251 412 q = m 412 q from fun q => ((hFq14251 412 q rfl).trans (yup_na (by decide))), show mq14251 390 1 = m 390 1 from ((hFq14251 390 1 rfl).trans (yup_na (by decide))), e3]
              exact hBR f h1 (by omega)
            · unfold MR; omega
        · exfalso; omega
      · exfalso; omega
    · refine y_aload 51 c210_50 rfl rfl rfl ?_
      refine y_iconst 52 c210_51 rfl ?_
      refine y_putI 55 c210_52 rfl kf376_57 (y_fit0 _) ?_
      have hT14266 := hT14156.up 376 57 4 0 4 rfl (by omega)
      have hF14267 := hF14157.up 376 57 4 rfl
      refine y_goto 214 c210_55 rfl ?_
      have es14268 : (yup (yup m 376 56 ((m 376 56) + 1)) 376 57 4) 376 51 = m 376 51 := rfl
      have es14269 : (yup (yup m 376 56 ((m 376 56) + 1)) 376 57 4) 376 54 = m 376 54 := rfl
      have es14270 : (yup (yup m 376 56 ((m 376 56) + 1)) 376 57 4) 376 55 = m 376 55 := rfl
      have es14271 : (yup (yup m 376 56 ((m 376 56) + 1)) 376 57 4) 376 56 = (m 376 56) + 1 := rfl
      have es14272 : (yup (yup m 376 56 ((m 376 56) + 1)) 376 57 4) 376 57 = 4 := rfl
      have es14273 : (yup (yup m 376 56 ((m 376 56) + 1)) 376 57 4) 390 1 = m 390 1 := rfl
      exact y_retU c210_214 ⟨rfl, hT14266, hF14267, (VX.sc (VX.sc hV (by decide)) (by decide)), Or.inl (by omega)⟩

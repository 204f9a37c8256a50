/-! CONTRACTS: the model, steps. Printed by wip/whole/gen9h.py -/
set_option maxRecDepth 100000 in
theorem t209_0 {L : Nat} {xs : Nat → Int32} {d nn : Nat} {m : yM} {k : Int} (hT : Ty gT m) (hn : m 376 18 = 0) (hG : GQ 0 m) (hV : VX 0 m) (hf : 1 ≤ m 376 54) (hko : 0 ≤ k ∧ k < m 390 0) (hwh : m 403 (1000 * 0 + 8 * k.toNat) ≠ 6 ∧ m 403 (1000 * 0 + 8 * k.toNat) ≠ 7 ∧ m 403 (1000 * 0 + 8 * k.toNat) ≤ 8) : YC (gZ L xs) (d + 3) 209 [.ref 376, yI (0 + 8 * k)] m nn (qU (fun m' n' => n' = nn ∧ Ty gT m' ∧ Fr wPl m m' ∧ VX 0 m')) := by
  have tb383 := hT.atp 383 0 0 6 rfl
  have tb384 := hT.atp 384 0 0 10 rfl
  have tb388 := hT.atp 388 0 0 12 rfl
  have tb390 := hT.atp 390 0 0 125 rfl
  have tm51 := hT.atp 376 51 0 30 rfl
  have tm54 := hT.atp 376 54 0 4 rfl
  have tm55 := hT.atp 376 55 0 124 rfl
  have tm56 := hT.atp 376 56 0 201 rfl
  have tm57 := hT.atp 376 57 0 4 rfl
  have g90 : m 390 0 ≤ 100 := hG.2.2.2.2.2.2.2.2.2.2.1
  have hw := hG.1.1 k.toNat (by omega)
  unfold OW at hw
  have hfx := hG.2.2.2.2.2.2.1 k.toNat (by omega)
  have hns := hG.2.2.2.2.2.2.2.2.2.2.2 k.toNat (by omega)
  have f2 : (0 ≤ m 403 (1000 * 0 + 8 * k.toNat + 2) ∧ m 403 (1000 * 0 + 8 * k.toNat + 2) ≤ 47) ∧ 1 ≤ m 403 (1000 * 0 + 8 * k.toNat) := by omega
  refine YC.mkB [some (.ref 376), some (yI (0 + 8 * k)), none, none, none, none] kn209 rfl rfl ?_
  have hF : Fr wPl m m := Fr.rf
  refine y_aload 1 c209_0 rfl rfl rfl ?_
  refine y_getR 4 c209_1 rfl kf376_40 ?_
  refine y_iload 5 c209_4 rfl rfl ?_
  refine y_iaT 6 ((-2147483648)) 2147483647 c209_5 rfl ka403 (by omega) hT rfl (fun v13569 hv13569 gv13569 => ?_)
  have gv13569_ : m 403 (1000 * 0 + 8 * k.toNat) = v13569 := by rw [show 1000 * 0 + 8 * k.toNat = (0 + 8 * k).toNat by omega]; exact (rfl).symm.trans hv13569
  refine y_istore 7 c209_6 rfl rfl ?_
  refine y_aload 8 c209_7 rfl rfl rfl ?_
  refine y_getR 11 c209_8 rfl kf376_40 ?_
  refine y_iload 12 c209_11 rfl rfl ?_
  refine y_iconst 13 c209_12 rfl ?_
  refine y_iadd 14 c209_13 rfl ?_
  refine y_iaT 15 ((-2147483648)) 2147483647 c209_14 rfl ka403 (by omega) hT rfl (fun v13570 hv13570 gv13570 => ?_)
  have gv13570_ : m 403 (1000 * 0 + 8 * k.toNat + 2) = v13570 := by rw [show 1000 * 0 + 8 * k.toNat + 2 = ((0 + 8 * k) + 2).toNat by omega]; exact (rfl).symm.trans hv13570
  refine y_istore 16 c209_15 rfl rfl ?_
  refine y_iload 17 c209_16 rfl rfl ?_
  refine y_iconst 19 c209_17 rfl ?_
  refine y_icmp 31 22 c209_19 rfl rfl (yc_ne (by omega) (by omega)) (fun hb13571 => ?_) (fun hb13571 => ?_)
  · refine y_iload 32 c209_31 rfl rfl ?_
    refine y_iconst 33 c209_32 rfl ?_
    refine y_icmp 56 36 c209_33 rfl rfl (yc_ne (by omega) (by omega)) (fun hb13572 => ?_) (fun hb13572 => ?_)
    · refine y_iload 57 c209_56 rfl rfl ?_
      refine y_iconst 58 c209_57 rfl ?_
      refine y_icmp 66 61 c209_58 rfl rfl (yc_eq (by omega) (by omega)) (fun hb13573 => ?_) (fun hb13573 => ?_)
      · clear hw hns hfx
        refine y_aload 67 c209_66 rfl rfl rfl ?_
        refine y_iload 68 c209_67 rfl rfl ?_
        have tb13575 := hT.atp 376 18 0 1 rfl
        have hVc : VX 0 m := hV
        refine y_callUB 71 [.ref 376, yI (0 + 8 * k)] [] c209_68 rfl rfl rfl rfl rfl (ycanO km208 ko376) (t208_0 (k := k) hT (by omega) hG hVc (by omega) (by omega) (by omega)) (fun mq13574 nq13574 hq13574 => ?_)
        obtain ⟨rfl, hTq13574, hFq13574, hVq13574⟩ := hq13574
        have hF13576 := hF.tr hFq13574 (fun _ _ e => e)
        refine y_goto 191 c209_71 rfl ?_
        have tb13577 := hTq13574.atp 376 51 0 30 rfl
        exact y_retU c209_191 ⟨rfl, hTq13574, hF13576, hVq13574⟩
      · refine y_iload 62 c209_61 rfl rfl ?_
        refine y_iconst 63 c209_62 rfl ?_
        refine y_icmp 74 66 c209_63 rfl rfl (yc_ne (by omega) (by omega)) (fun hb13578 => ?_) (fun hb13578 => ?_)
        · refine y_iload 75 c209_74 rfl rfl ?_
          refine y_iconst 76 c209_75 rfl ?_
          refine y_icmp 110 79 c209_76 rfl rfl (yc_ne (by omega) (by omega)) (fun hb13579 => ?_) (fun hb13579 => ?_)
          · have f3 : (0 ≤ m 403 (1000 * 0 + 8 * k.toNat + 3) ∧ m 403 (1000 * 0 + 8 * k.toNat + 3) ≤ 47) ∧ 0 ≤ m 403 (1000 * 0 + 8 * k.toNat + 4) ∧ m 403 (1000 * 0 + 8 * k.toNat + 4) ≤ 7 := by omega
            clear hw hns hfx
            refine y_aload 111 c209_110 rfl rfl rfl ?_
            refine y_aload 112 c209_111 rfl rfl rfl ?_
            refine y_getR 115 c209_112 rfl kf376_40 ?_
            refine y_iload 116 c209_115 rfl rfl ?_
            refine y_iconst 117 c209_116 rfl ?_
            refine y_iadd 118 c209_117 rfl ?_
            refine y_iaT 119 ((-2147483648)) 2147483647 c209_118 rfl ka403 (by omega) hT rfl (fun v13580 hv13580 gv13580 => ?_)
            have gv13580_ : m 403 (1000 * 0 + 8 * k.toNat + 3) = v13580 := by rw [show 1000 * 0 + 8 * k.toNat + 3 = ((0 + 8 * k) + 3).toNat by omega]; exact (rfl).symm.trans hv13580
            have tb13581 := hT.atp 376 18 0 1 rfl
            have hVg : VX 0 m := hV
            refine y_callP 122 [.ref 376, yI v13580] [] c209_119 rfl rfl rfl rfl rfl (ycanO km205 ko376) (t205_0 hT hVg (by omega) (by omega)) (fun r13582 hr13582 => ?_)
            refine y_istore 124 c209_122 rfl rfl ?_
            refine y_iload 126 c209_124 rfl rfl ?_
            refine y_if 167 129 c209_126 rfl rfl (yz_eq (by omega)) (fun hb13583 => ?_) (fun hb13583 => ?_)
            · refine y_iconst 168 c209_167 rfl ?_
              refine y_goto 172 c209_168 rfl ?_
              refine y_istore 174 c209_172 rfl rfl ?_
              refine y_aload 175 c209_174 rfl rfl rfl ?_
              refine y_iload 177 c209_175 rfl rfl ?_
              refine y_iconst 178 c209_177 rfl ?_
              refine y_inlB 181 [.ref 376, yI 1, yI 2] [] [some (.ref 376), some (yI 1), some (yI 2)] c209_178 rfl rfl rfl rfl rfl (ycanO km23 ko376) kn23 rfl rfl ?_
              refine y_aload 1 c23_0 rfl rfl rfl ?_
              refine y_iload 2 c23_1 rfl rfl ?_
              refine y_if 9 5 c23_2 rfl rfl (yz_eq (by omega)) (fun hb13584 => ?_) (fun hb13584 => ?_)
              · exfalso; omega
              · refine y_iconst 6 c23_5 rfl ?_
                refine y_goto 10 c23_6 rfl ?_
                refine y_putI 13 c23_10 rfl kf376_57 (y_fit0 _) ?_
                have hT13585 := hT.up 376 57 0 0 4 rfl (by omega)
                have hF13586 := hF.up 376 57 0 rfl
                refine y_iload 14 c23_13 rfl rfl ?_
                refine y_ireturnK c23_14 (y_fit1 (by omega)) ?_
                refine y_if 191 184 c209_181 rfl rfl (yz_eq (by omega)) (fun hb13587 => ?_) (fun hb13587 => ?_)
                · exfalso; omega
                · refine y_aload 185 c209_184 rfl rfl rfl ?_
                  refine y_iload 186 c209_185 rfl rfl ?_
                  refine y_iload 188 c209_186 rfl rfl ?_
                  have es13589 : (yup m 376 57 0) 376 51 = m 376 51 := rfl
                  have es13590 : (yup m 376 57 0) 376 54 = m 376 54 := rfl
                  have es13591 : (yup m 376 57 0) 376 18 = m 376 18 := rfl
                  have hVc : VX 0 (yup m 376 57 0) := (VX.sc hV (by decide))
                  refine y_callUB 191 [.ref 376, yI v13570, yI r13582] [] c209_188 rfl rfl rfl rfl rfl (ycanO km202 ko376) (t202_0 hT13585 hVc (by omega) (by omega) (by omega)) (fun mq13588 nq13588 hq13588 => ?_)
                  obtain ⟨rfl, hTq13588, hFq13588, hVq13588⟩ := hq13588
                  have hF13592 := hF13586.tr hFq13588 wGv_wPl
                  have es13593 : mq13588 376 51 = m 376 51 := ((hFq13588 376 51 rfl).trans (yup_nk (by decide)))
                  exact y_retU c209_191 ⟨rfl, hTq13588, hF13592, hVq13588⟩
            · refine y_aload 130 c209_129 rfl rfl rfl ?_
              refine y_aload 131 c209_130 rfl rfl rfl ?_
              refine y_getX 134 (m 376 18) c209_131 rfl kf376_18 rfl ?_
              refine y_top 0 (by omega) ?_
              refine y_aload 135 c209_134 rfl rfl rfl ?_
              refine y_iload 137 c209_135 rfl rfl ?_
              have hVg : VX 0 m := hV
              refine y_callP 140 [.ref 376, yI r13582] [yI 0, .ref 376] c209_137 rfl rfl rfl rfl rfl (ycanO km206 ko376) (t206_0 hT (by omega) hG hVg (by omega)) (fun r13594 hr13594 => ?_)
              refine y_aload 141 c209_140 rfl rfl rfl ?_
              refine y_getR 144 c209_141 rfl kf376_39 ?_
              refine y_iconst 146 c209_144 rfl ?_
              refine y_aload 147 c209_146 rfl rfl rfl ?_
              refine y_getX 150 (m 376 18) c209_147 rfl kf376_18 rfl ?_
              refine y_top 0 (by omega) ?_
              refine y_imul 151 c209_150 rfl ?_
              refine y_top 0 (by decide) ?_
              refine y_aload 152 c209_151 rfl rfl rfl ?_
              refine y_getR 155 c209_152 rfl kf376_40 ?_
              refine y_iload 156 c209_155 rfl rfl ?_
              refine y_iconst 157 c209_156 rfl ?_
              refine y_iadd 158 c209_157 rfl ?_
              refine y_iaT 159 ((-2147483648)) 2147483647 c209_158 rfl ka403 (by omega) hT rfl (fun v13595 hv13595 gv13595 => ?_)
              have gv13595_ : m 403 (1000 * 0 + 8 * k.toNat + 4) = v13595 := by rw [show 1000 * 0 + 8 * k.toNat + 4 = ((0 + 8 * k) + 4).toNat by omega]; exact (rfl).symm.trans hv13595
              refine y_iadd 160 c209_159 rfl ?_
              refine y_iaT 161 ((-2147483648)) 2147483647 c209_160 rfl ka402 (by omega) hT rfl (fun v13596 hv13596 gv13596 => ?_)
              refine y_callP 164 [.ref 376, yI 0, yI r13594, yI v13596] [] c209_161 rfl rfl rfl rfl rfl (ycanO km149 ko376) (t149_0 hT hG.2.2.2.2.1 (by omega) (by omega)) (fun r13597 hr13597 => ?_)
              refine y_if 171 167 c209_164 rfl rfl (yz_eq (by omega)) (fun hb13598 => ?_) (fun hb13598 => ?_)
              · refine y_iconst 172 c209_171 rfl ?_
                refine y_istore 174 c209_172 rfl rfl ?_
                refine y_aload 175 c209_174 rfl rfl rfl ?_
                refine y_iload 177 c209_175 rfl rfl ?_
                refine y_iconst 178 c209_177 rfl ?_
                refine y_inlB 181 [.ref 376, yI 0, yI 2] [] [some (.ref 376), some (yI 0), some (yI 2)] c209_178 rfl rfl rfl rfl rfl (ycanO km23 ko376) kn23 rfl rfl ?_
                refine y_aload 1 c23_0 rfl rfl rfl ?_
                refine y_iload 2 c23_1 rfl rfl ?_
                refine y_if 9 5 c23_2 rfl rfl (yz_eq (by omega)) (fun hb13599 => ?_) (fun hb13599 => ?_)
                · refine y_iload 10 c23_9 rfl rfl ?_
                  refine y_putI 13 c23_10 rfl kf376_57 (y_fit0 _) ?_
                  have hT13600 := hT.up 376 57 2 0 4 rfl (by omega)
                  have hF13601 := hF.up 376 57 2 rfl
                  refine y_iload 14 c23_13 rfl rfl ?_
                  refine y_ireturnK c23_14 (y_fit1 (by omega)) ?_
                  refine y_if 191 184 c209_181 rfl rfl (yz_eq (by omega)) (fun hb13602 => ?_) (fun hb13602 => ?_)
                  · have es13603 : (yup m 376 57 2) 376 51 = m 376 51 := rfl
                    exact y_retU c209_191 ⟨rfl, hT13600, hF13601, (VX.sc hV (by decide))⟩
                  · exfalso; omega
                · exfalso; omega
              · refine y_iconst 168 c209_167 rfl ?_
                refine y_goto 172 c209_168 rfl ?_
                refine y_istore 174 c209_172 rfl rfl ?_
                refine y_aload 175 c209_174 rfl rfl rfl ?_
                refine y_iload 177 c209_175 rfl rfl ?_
                refine y_iconst 178 c209_177 rfl ?_
                refine y_inlB 181 [.ref 376, yI 1, yI 2] [] [some (.ref 376), some (yI 1), some (yI 2)] c209_178 rfl rfl rfl rfl rfl (ycanO km23 ko376) kn23 rfl rfl ?_
                refine y_aload 1 c23_0 rfl rfl rfl ?_
                refine y_iload 2 c23_1 rfl rfl ?_
                refine y_if 9 5 c23_2 rfl rfl (yz_eq (by omega)) (fun hb13604 => ?_) (fun hb13604 => ?_)
                · exfalso; omega
                · refine y_iconst 6 c23_5 rfl ?_
                  refine y_goto 10 c23_6 rfl ?_
                  refine y_putI 13 c23_10 rfl kf376_57 (y_fit0 _) ?_
                  have hT13605 := hT.up 376 57 0 0 4 rfl (by omega)
                  have hF13606 := hF.up 376 57 0 rfl
                  refine y_iload 14 c23_13 rfl rfl ?_
                  refine y_ireturnK c23_14 (y_fit1 (by omega)) ?_
                  refine y_if 191 184 c209_181 rfl rfl (yz_eq (by omega)) (fun hb13607 => ?_) (fun hb13607 => ?_)
                  · exfalso; omega
                  · refine y_aload 185 c209_184 rfl rfl rfl ?_
                    refine y_iload 186 c209_185 rfl rfl ?_
                    refine y_iload 188 c209_186 rfl rfl ?_
                    have es13609 : (yup m 376 57 0) 376 51 = m 376 51 := rfl
                    have es13610 : (yup m 376 57 0) 376 54 = m 376 54 := rfl
                    have es13611 : (yup m 376 57 0) 376 18 = m 376 18 := rfl
                    have hVc : VX 0 (yup m 376 57 0) := (VX.sc hV (by decide))
                    refine y_callUB 191 [.ref 376, yI v13570, yI r13582] [] c209_188 rfl rfl rfl rfl rfl (ycanO km202 ko376) (t202_0 hT13605 hVc (by omega) (by omega) (by omega)) (fun mq13608 nq13608 hq13608 => ?_)
                    obtain ⟨rfl, hTq13608, hFq13608, hVq13608⟩ := hq13608
                    have hF13612 := hF13606.tr hFq13608 wGv_wPl
                    have es13613 : mq13608 376 51 = m 376 51 := ((hFq13608 376 51 rfl).trans (yup_nk (by decide)))
                    exact y_retU c209_191 ⟨rfl, hTq13608, hF13612, hVq13608⟩
          · have f3 : 0 ≤ m 403 (1000 * 0 + 8 * k.toNat + 3) ∧ m 403 (1000 * 0 + 8 * k.toNat + 3) < m 388 0 := by omega
            clear hw hns hfx
            refine y_aload 80 c209_79 rfl rfl rfl ?_
            refine y_aload 81 c209_80 rfl rfl rfl ?_
            refine y_getR 84 c209_81 rfl kf376_40 ?_
            refine y_iload 85 c209_84 rfl rfl ?_
            refine y_iconst 86 c209_85 rfl ?_
            refine y_iadd 87 c209_86 rfl ?_
            refine y_iaT 88 ((-2147483648)) 2147483647 c209_87 rfl ka403 (by omega) hT rfl (fun v13614 hv13614 gv13614 => ?_)
            have gv13614_ : m 403 (1000 * 0 + 8 * k.toNat + 3) = v13614 := by rw [show 1000 * 0 + 8 * k.toNat + 3 = ((0 + 8 * k) + 3).toNat by omega]; exact (rfl).symm.trans hv13614
            have tb13616 := hT.atp 376 18 0 1 rfl
            have hVc : VX 0 m := hV
            refine y_callIB 91 [.ref 376, yI v13614] [] c209_88 rfl rfl rfl rfl rfl (ycanO km201 ko376) (t201_0 hT hVc (by omega)) (fun rq13615 mq13615 nq13615 hq13615 => ?_)
            obtain ⟨rfl, hTq13615, hFq13615, hq13615, hcq13615, hVq13615⟩ := hq13615
            have hF13617 := hF.tr hFq13615 wMk_wPl
            refine y_istore 93 c209_91 rfl rfl ?_
            refine y_aload 94 c209_93 rfl rfl rfl ?_
            refine y_getX 97 (mq13615 376 57) c209_94 rfl kf376_57 rfl ?_
            have tb13618 := hTq13615.atp 376 57 0 4 rfl
            refine y_if 107 100 c209_97 rfl rfl (yz_ne (by omega)) (fun hb13619 => ?_) (fun hb13619 => ?_)
            · refine y_goto 191 c209_107 rfl ?_
              have tb13620 := hTq13615.atp 376 51 0 30 rfl
              exact y_retU c209_191 ⟨rfl, hTq13615, hF13617, hVq13615⟩
            · refine y_aload 101 c209_100 rfl rfl rfl ?_
              refine y_iload 102 c209_101 rfl rfl ?_
              refine y_iload 104 c209_102 rfl rfl ?_
              have tb13622 := hTq13615.atp 376 51 0 30 rfl
              have es13623 : mq13615 376 54 = m 376 54 := (hFq13615 376 54 rfl)
              have es13624 : mq13615 376 18 = m 376 18 := (hFq13615 376 18 rfl)
              have hVc : VX 0 mq13615 := hVq13615
              refine y_callUB 107 [.ref 376, yI v13570, yI rq13615] [] c209_104 rfl rfl rfl rfl rfl (ycanO km202 ko376) (t202_0 hTq13615 hVc (by omega) (by omega) (by omega)) (fun mq13621 nq13621 hq13621 => ?_)
              obtain ⟨rfl, hTq13621, hFq13621, hVq13621⟩ := hq13621
              have hF13625 := hF13617.tr hFq13621 wGv_wPl
              refine y_goto 191 c209_107 rfl ?_
              have es13626 : mq13621 376 51 = mq13615 376 51 := (hFq13621 376 51 rfl)
              exact y_retU c209_191 ⟨rfl, hTq13621, hF13625, hVq13621⟩
        · clear hw hns hfx
          refine y_aload 67 c209_66 rfl rfl rfl ?_
          refine y_iload 68 c209_67 rfl rfl ?_
          have tb13628 := hT.atp 376 18 0 1 rfl
          have hVc : VX 0 m := hV
          refine y_callUB 71 [.ref 376, yI (0 + 8 * k)] [] c209_68 rfl rfl rfl rfl rfl (ycanO km208 ko376) (t208_0 (k := k) hT (by omega) hG hVc (by omega) (by omega) (by omega)) (fun mq13627 nq13627 hq13627 => ?_)
          obtain ⟨rfl, hTq13627, hFq13627, hVq13627⟩ := hq13627
          have hF13629 := hF.tr hFq13627 (fun _ _ e => e)
          refine y_goto 191 c209_71 rfl ?_
          have tb13630 := hTq13627.atp 376 51 0 30 rfl
          exact y_retU c209_191 ⟨rfl, hTq13627, hF13629, hVq13627⟩
    · have f3 : 0 ≤ m 403 (1000 * 0 + 8 * k.toNat + 3) ∧ m 403 (1000 * 0 + 8 * k.toNat + 3) ≤ 47 := by omega
      clear hw hns hfx
      refine y_aload 37 c209_36 rfl rfl rfl ?_
      refine y_iload 38 c209_37 rfl rfl ?_
      refine y_aload 39 c209_38 rfl rfl rfl ?_
      refine y_aload 40 c209_39 rfl rfl rfl ?_
      refine y_getR 43 c209_40 rfl kf376_40 ?_
      refine y_iload 44 c209_43 rfl rfl ?_
      refine y_iconst 45 c209_44 rfl ?_
      refine y_iadd 46 c209_45 rfl ?_
      refine y_iaT 47 ((-2147483648)) 2147483647 c209_46 rfl ka403 (by omega) hT rfl (fun v13631 hv13631 gv13631 => ?_)
      have gv13631_ : m 403 (1000 * 0 + 8 * k.toNat + 3) = v13631 := by rw [show 1000 * 0 + 8 * k.toNat + 3 = ((0 + 8 * k) + 3).toNat by omega]; exact (rfl).symm.trans hv13631
      have tb13632 := hT.atp 376 18 0 1 rfl
      have hVg : VX 0 m := hV
      refine y_callP 50 [.ref 376, yI v13631] [yI v13570, .ref 376] c209_47 rfl rfl rfl rfl rfl (ycanO km205 ko376) (t205_0 hT hVg (by omega) (by omega)) (fun r13633 hr13633 => ?_)
      have hVc : VX 0 m := hV
      refine y_callUB 53 [.ref 376, yI v13570, yI r13633] [] c209_50 rfl rfl rfl rfl rfl (ycanO km202 ko376) (t202_0 hT hVc (by omega) (by omega) (by omega)) (fun mq13634 nq13634 hq13634 => ?_)
      obtain ⟨rfl, hTq13634, hFq13634, hVq13634⟩ := hq13634
      have hF13635 := hF.tr hFq13634 wGv_wPl
      refine y_goto 191 c209_53 rfl ?_
      have es13636 : mq13634 376 51 = m 376 51 := (hFq13634 376 51 rfl)
      exact y_retU c209_191 ⟨rfl, hTq13634, hF13635, hVq13634⟩
  · clear hw hns hfx
    refine y_aload 23 c209_22 rfl rfl rfl ?_
    refine y_iload 24 c209_23 rfl rfl ?_
    refine y_iconst 25 c209_24 rfl ?_
    have tb13638 := hT.atp 376 18 0 1 rfl
    have hVc : VX 0 m := hV
    refine y_callUB 28 [.ref 376, yI v13570, yI 0] [] c209_25 rfl rfl rfl rfl rfl (ycanO km202 ko376) (t202_0 hT hVc (by omega) (by omega) (by omega)) (fun mq13637 nq13637 hq13637 => ?_)
    obtain ⟨rfl, hTq13637, hFq13637, hVq13637⟩ := hq13637
    have hF13639 := hF.tr hFq13637 wGv_wPl
    refine y_goto 191 c209_28 rfl ?_
    have es13640 : mq13637 376 51 = m 376 51 := (hFq13637 376 51 rfl)
    exact y_retU c209_191 ⟨rfl, hTq13637, hF13639, hVq13637⟩
set_option maxRecDepth 100000 in
theorem t209_1 {L : Nat} {xs : Nat → Int32} {d nn : Nat} {m : yM} {k : Int} (hT : Ty gT m) (hn : m 376 18 = 1) (hG : GQ 1 m) (hV : VX 1 m) (hf : 1 ≤ m 376 54) (hko : 0 ≤ k ∧ k < m 390 1) (hwh : m 403 (1000 * 1 + 8 * k.toNat) ≠ 6 ∧ m 403 (1000 * 1 + 8 * k.toNat) ≠ 7 ∧ m 403 (1000 * 1 + 8 * k.toNat) ≤ 8) : YC (gZ L xs) (d + 3) 209 [.ref 376, yI (1000 + 8 * k)] m nn (qU (fun m' n' => n' = nn ∧ Ty gT m' ∧ Fr wPl m m' ∧ VX 1 m')) := by
  have tb383 := hT.atp 383 1 0 6 rfl
  have tb384 := hT.atp 384 1 0 10 rfl
  have tb388 := hT.atp 388 1 0 12 rfl
  have tb390 := hT.atp 390 1 0 125 rfl
  have tm51 := hT.atp 376 51 0 30 rfl
  have tm54 := hT.atp 376 54 0 4 rfl
  have tm55 := hT.atp 376 55 0 124 rfl
  have tm56 := hT.atp 376 56 0 201 rfl
  have tm57 := hT.atp 376 57 0 4 rfl
  have g90 : m 390 1 ≤ 100 := hG.2.2.2.2.2.2.2.2.2.2.1
  have hw := hG.1.1 k.toNat (by omega)
  unfold OW at hw
  have hfx := hG.2.2.2.2.2.2.1 k.toNat (by omega)
  have hns := hG.2.2.2.2.2.2.2.2.2.2.2 k.toNat (by omega)
  have f2 : (0 ≤ m 403 (1000 * 1 + 8 * k.toNat + 2) ∧ m 403 (1000 * 1 + 8 * k.toNat + 2) ≤ 47) ∧ 1 ≤ m 403 (1000 * 1 + 8 * k.toNat) := by omega
  refine YC.mkB [some (.ref 376), some (yI (1000 + 8 * k)), none, none, none, none] kn209 rfl rfl ?_
  have hF : Fr wPl m m := Fr.rf
  refine y_aload 1 c209_0 rfl rfl rfl ?_
  refine y_getR 4 c209_1 rfl kf376_40 ?_
  refine y_iload 5 c209_4 rfl rfl ?_
  refine y_iaT 6 ((-2147483648)) 2147483647 c209_5 rfl ka403 (by omega) hT rfl (fun v14036 hv14036 gv14036 => ?_)
  have gv14036_ : m 403 (1000 * 1 + 8 * k.toNat) = v14036 := by rw [show 1000 * 1 + 8 * k.toNat = (1000 + 8 * k).toNat by omega]; exact (rfl).symm.trans hv14036
  refine y_istore 7 c209_6 rfl rfl ?_
  refine y_aload 8 c209_7 rfl rfl rfl ?_
  refine y_getR 11 c209_8 rfl kf376_40 ?_
  refine y_iload 12 c209_11 rfl rfl ?_
  refine y_iconst 13 c209_12 rfl ?_
  refine y_iadd 14 c209_13 rfl ?_
  refine y_iaT 15 ((-2147483648)) 2147483647 c209_14 rfl ka403 (by omega) hT rfl (fun v14037 hv14037 gv14037 => ?_)
  have gv14037_ : m 403 (1000 * 1 + 8 * k.toNat + 2) = v14037 := by rw [show 1000 * 1 + 8 * k.toNat + 2 = ((1000 + 8 * k) + 2).toNat by omega]; exact (rfl).symm.trans hv14037
  refine y_istore 16 c209_15 rfl rfl ?_
  refine y_iload 17 c209_16 rfl rfl ?_
  refine y_iconst 19 c209_17 rfl ?_
  refine y_icmp 31 22 c209_19 rfl rfl (yc_ne (by omega) (by omega)) (fun hb14038 => ?_) (fun hb14038 => ?_)
  · refine y_iload 32 c209_31 rfl rfl ?_
    refine y_iconst 33 c209_32 rfl ?_
    refine y_icmp 56 36 c209_33 rfl rfl (yc_ne (by omega) (by omega)) (fun hb14039 => ?_) (fun hb14039 => ?_)
    · refine y_iload 57 c209_56 rfl rfl ?_
      refine y_iconst 58 c209_57 rfl ?_
      refine y_icmp 66 61 c209_58 rfl rfl (yc_eq (by omega) (by omega)) (fun hb14040 => ?_) (fun hb14040 => ?_)
      · clear hw hns hfx
        refine y_aload 67 c209_66 rfl rfl rfl ?_
        refine y_iload 68 c209_67 rfl rfl ?_
        have tb14042 := hT.atp 376 18 0 1 rfl
        have hVc : VX 1 m := hV
        refine y_callUB 71 [.ref 376, yI (1000 + 8 * k)] [] c209_68 rfl rfl rfl rfl rfl (ycanO km208 ko376) (t208_1 (k := k) hT (by omega) hG hVc (by omega) (by omega) (by omega)) (fun mq14041 nq14041 hq14041 => ?_)
        obtain ⟨rfl, hTq14041, hFq14041, hVq14041⟩ := hq14041
        have hF14043 := hF.tr hFq14041 (fun _ _ e => e)
        refine y_goto 191 c209_71 rfl ?_
        have tb14044 := hTq14041.atp 376 51 0 30 rfl
        exact y_retU c209_191 ⟨rfl, hTq14041, hF14043, hVq14041⟩
      · refine y_iload 62 c209_61 rfl rfl ?_
        refine y_iconst 63 c209_62 rfl ?_
        refine y_icmp 74 66 c209_63 rfl rfl (yc_ne (by omega) (by omega)) (fun hb14045 => ?_) (fun hb14045 => ?_)
        · refine y_iload 75 c209_74 rfl rfl ?_
          refine y_iconst 76 c209_75 rfl ?_
          refine y_icmp 110 79 c209_76 rfl rfl (yc_ne (by omega) (by omega)) (fun hb14046 => ?_) (fun hb14046 => ?_)
          · have f3 : (0 ≤ m 403 (1000 * 1 + 8 * k.toNat + 3) ∧ m 403 (1000 * 1 + 8 * k.toNat + 3) ≤ 47) ∧ 0 ≤ m 403 (1000 * 1 + 8 * k.toNat + 4) ∧ m 403 (1000 * 1 + 8 * k.toNat + 4) ≤ 7 := by omega
            clear hw hns hfx
            refine y_aload 111 c209_110 rfl rfl rfl ?_
            refine y_aload 112 c209_111 rfl rfl rfl ?_
            refine y_getR 115 c209_112 rfl kf376_40 ?_
            refine y_iload 116 c209_115 rfl rfl ?_
            refine y_iconst 117 c209_116 rfl ?_
            refine y_iadd 118 c209_117 rfl ?_
            refine y_iaT 119 ((-2147483648)) 2147483647 c209_118 rfl ka403 (by omega) hT rfl (fun v14047 hv14047 gv14047 => ?_)
            have gv14047_ : m 403 (1000 * 1 + 8 * k.toNat + 3) = v14047 := by rw [show 1000 * 1 + 8 * k.toNat + 3 = ((1000 + 8 * k) + 3).toNat by omega]; exact (rfl).symm.trans hv14047
            have tb14048 := hT.atp 376 18 0 1 rfl
            have hVg : VX 1 m := hV
            refine y_callP 122 [.ref 376, yI v14047] [] c209_119 rfl rfl rfl rfl rfl (ycanO km205 ko376) (t205_1 hT hVg (by omega) (by omega)) (fun r14049 hr14049 => ?_)
            refine y_istore 124 c209_122 rfl rfl ?_
            refine y_iload 126 c209_124 rfl rfl ?_
            refine y_if 167 129 c209_126 rfl rfl (yz_eq (by omega)) (fun hb14050 => ?_) (fun hb14050 => ?_)
            · refine y_iconst 168 c209_167 rfl ?_
              refine y_goto 172 c209_168 rfl ?_
              refine y_istore 174 c209_172 rfl rfl ?_
              refine y_aload 175 c209_174 rfl rfl rfl ?_
              refine y_iload 177 c209_175 rfl rfl ?_
              refine y_iconst 178 c209_177 rfl ?_
              refine y_inlB 181 [.ref 376, yI 1, yI 2] [] [some (.ref 376), some (yI 1), some (yI 2)] c209_178 rfl rfl rfl rfl rfl (ycanO km23 ko376) kn23 rfl rfl ?_
              refine y_aload 1 c23_0 rfl rfl rfl ?_
              refine y_iload 2 c23_1 rfl rfl ?_
              refine y_if 9 5 c23_2 rfl rfl (yz_eq (by omega)) (fun hb14051 => ?_) (fun hb14051 => ?_)
              · exfalso; omega
              · refine y_iconst 6 c23_5 rfl ?_
                refine y_goto 10 c23_6 rfl ?_
                refine y_putI 13 c23_10 rfl kf376_57 (y_fit0 _) ?_
                have hT14052 := hT.up 376 57 0 0 4 rfl (by omega)
                have hF14053 := hF.up 376 57 0 rfl
                refine y_iload 14 c23_13 rfl rfl ?_
                refine y_ireturnK c23_14 (y_fit1 (by omega)) ?_
                refine y_if 191 184 c209_181 rfl rfl (yz_eq (by omega)) (fun hb14054 => ?_) (fun hb14054 => ?_)
                · exfalso; omega
                · refine y_aload 185 c209_184 rfl rfl rfl ?_
                  refine y_iload 186 c209_185 rfl rfl ?_
                  refine y_iload 188 c209_186 rfl rfl ?_
                  have es14056 : (yup m 376 57 0) 376 51 = m 376 51 := rfl
                  have es14057 : (yup m 376 57 0) 376 54 = m 376 54 := rfl
                  have es14058 : (yup m 376 57 0) 376 18 = m 376 18 := rfl
                  have hVc : VX 1 (yup m 376 57 0) := (VX.sc hV (by decide))
                  refine y_callUB 191 [.ref 376, yI v14037, yI r14049] [] c209_188 rfl rfl rfl rfl rfl (ycanO km202 ko376) (t202_1 hT14052 hVc (by omega) (by omega) (by omega)) (fun mq14055 nq14055 hq14055 => ?_)
                  obtain ⟨rfl, hTq14055, hFq14055, hVq14055⟩ := hq14055
                  have hF14059 := hF14053.tr hFq14055 wGv_wPl
                  have es14060 : mq14055 376 51 = m 376 51 := ((hFq14055 376 51 rfl).trans (yup_nk (by decide)))
                  exact y_retU c209_191 ⟨rfl, hTq14055, hF14059, hVq14055⟩
            · refine y_aload 130 c209_129 rfl rfl rfl ?_
              refine y_aload 131 c209_130 rfl rfl rfl ?_
              refine y_getX 134 (m 376 18) c209_131 rfl kf376_18 rfl ?_
              refine y_top 1 (by omega) ?_
              refine y_aload 135 c209_134 rfl rfl rfl ?_
              refine y_iload 137 c209_135 rfl rfl ?_
              have hVg : VX 1 m := hV
              refine y_callP 140 [.ref 376, yI r14049] [yI 1, .ref 376] c209_137 rfl rfl rfl rfl rfl (ycanO km206 ko376) (t206_1 hT (by omega) hG hVg (by omega)) (fun r14061 hr14061 => ?_)
              refine y_aload 141 c209_140 rfl rfl rfl ?_
              refine y_getR 144 c209_141 rfl kf376_39 ?_
              refine y_iconst 146 c209_144 rfl ?_
              refine y_aload 147 c209_146 rfl rfl rfl ?_
              refine y_getX 150 (m 376 18) c209_147 rfl kf376_18 rfl ?_
              refine y_top 1 (by omega) ?_
              refine y_imul 151 c209_150 rfl ?_
              refine y_top 8 (by decide) ?_
              refine y_aload 152 c209_151 rfl rfl rfl ?_
              refine y_getR 155 c209_152 rfl kf376_40 ?_
              refine y_iload 156 c209_155 rfl rfl ?_
              refine y_iconst 157 c209_156 rfl ?_
              refine y_iadd 158 c209_157 rfl ?_
              refine y_iaT 159 ((-2147483648)) 2147483647 c209_158 rfl ka403 (by omega) hT rfl (fun v14062 hv14062 gv14062 => ?_)
              have gv14062_ : m 403 (1000 * 1 + 8 * k.toNat + 4) = v14062 := by rw [show 1000 * 1 + 8 * k.toNat + 4 = ((1000 + 8 * k) + 4).toNat by omega]; exact (rfl).symm.trans hv14062
              refine y_iadd 160 c209_159 rfl ?_
              refine y_iaT 161 ((-2147483648)) 2147483647 c209_160 rfl ka402 (by omega) hT rfl (fun v14063 hv14063 gv14063 => ?_)
              refine y_callP 164 [.ref 376, yI 1, yI r14061, yI v14063] [] c209_161 rfl rfl rfl rfl rfl (ycanO km149 ko376) (t149_1 hT hG.2.2.2.2.1 (by omega) (by omega)) (fun r14064 hr14064 => ?_)
              refine y_if 171 167 c209_164 rfl rfl (yz_eq (by omega)) (fun hb14065 => ?_) (fun hb14065 => ?_)
              · refine y_iconst 172 c209_171 rfl ?_
                refine y_istore 174 c209_172 rfl rfl ?_
                refine y_aload 175 c209_174 rfl rfl rfl ?_
                refine y_iload 177 c209_175 rfl rfl ?_
                refine y_iconst 178 c209_177 rfl ?_
                refine y_inlB 181 [.ref 376, yI 0, yI 2] [] [some (.ref 376), some (yI 0), some (yI 2)] c209_178 rfl rfl rfl rfl rfl (ycanO km23 ko376) kn23 rfl rfl ?_
                refine y_aload 1 c23_0 rfl rfl rfl ?_
                refine y_iload 2 c23_1 rfl rfl ?_
                refine y_if 9 5 c23_2 rfl rfl (yz_eq (by omega)) (fun hb14066 => ?_) (fun hb14066 => ?_)
                · refine y_iload 10 c23_9 rfl rfl ?_
                  refine y_putI 13 c23_10 rfl kf376_57 (y_fit0 _) ?_
                  have hT14067 := hT.up 376 57 2 0 4 rfl (by omega)
                  have hF14068 := hF.up 376 57 2 rfl
                  refine y_iload 14 c23_13 rfl rfl ?_
                  refine y_ireturnK c23_14 (y_fit1 (by omega)) ?_
                  refine y_if 191 184 c209_181 rfl rfl (yz_eq (by omega)) (fun hb14069 => ?_) (fun hb14069 => ?_)
                  · have es14070 : (yup m 376 57 2) 376 51 = m 376 51 := rfl
                    exact y_retU c209_191 ⟨rfl, hT14067, hF14068, (VX.sc hV (by decide))⟩
                  · exfalso; omega
                · exfalso; omega
              · refine y_iconst 168 c209_167 rfl ?_
                refine y_goto 172 c209_168 rfl ?_
                refine y_istore 174 c209_172 rfl rfl ?_
                refine y_aload 175 c209_174 rfl rfl rfl ?_
                refine y_iload 177 c209_175 rfl rfl ?_
                refine y_iconst 178 c209_177 rfl ?_
                refine y_inlB 181 [.ref 376, yI 1, yI 2] [] [some (.ref 376), some (yI 1), some (yI 2)] c209_178 rfl rfl rfl rfl rfl (ycanO km23 ko376) kn23 rfl rfl ?_
                refine y_aload 1 c23_0 rfl rfl rfl ?_
                refine y_iload 2 c23_1 rfl rfl ?_
                refine y_if 9 5 c23_2 rfl rfl (yz_eq (by omega)) (fun hb14071 => ?_) (fun hb14071 => ?_)
                · exfalso; omega
                · refine y_iconst 6 c23_5 rfl ?_
                  refine y_goto 10 c23_6 rfl ?_
                  refine y_putI 13 c23_10 rfl kf376_57 (y_fit0 _) ?_
                  have hT14072 := hT.up 376 57 0 0 4 rfl (by omega)
                  have hF14073 := hF.up 376 57 0 rfl
                  refine y_iload 14 c23_13 rfl rfl ?_
                  refine y_ireturnK c23_14 (y_fit1 (by omega)) ?_
                  refine y_if 191 184 c209_181 rfl rfl (yz_eq (by omega)) (fun hb14074 => ?_) (fun hb14074 => ?_)
                  · exfalso; omega
                  · refine y_aload 185 c209_184 rfl rfl rfl ?_
                    refine y_iload 186 c209_185 rfl rfl ?_
                    refine y_iload 188 c209_186 rfl rfl ?_
                    have es14076 : (yup m 376 57 0) 376 51 = m 376 51 := rfl
                    have es14077 : (yup m 376 57 0) 376 54 = m 376 54 := rfl
                    have es14078 : (yup m 376 57 0) 376 18 = m 376 18 := rfl
                    have hVc : VX 1 (yup m 376 57 0) := (VX.sc hV (by decide))
                    refine y_callUB 191 [.ref 376, yI v14037, yI r14049] [] c209_188 rfl rfl rfl rfl rfl (ycanO km202 ko376) (t202_1 hT14072 hVc (by omega) (by omega) (by omega)) (fun mq14075 nq14075 hq14075 => ?_)
                    obtain ⟨rfl, hTq14075, hFq14075, hVq14075⟩ := hq14075
                    have hF14079 := hF14073.tr hFq14075 wGv_wPl
                    have es14080 : mq14075 376 51 = m 376 51 := ((hFq14075 376 51 rfl).trans (yup_nk (by decide)))
                    exact y_retU c209_191 ⟨rfl, hTq14075, hF14079, hVq14075⟩
          · have f3 : 0 ≤ m 403 (1000 * 1 + 8 * k.toNat + 3) ∧ m 403 (1000 * 1 + 8 * k.toNat + 3) < m 388 1 := by omega
            clear hw hns hfx
            refine y_aload 80 c209_79 rfl rfl rfl ?_
            refine y_aload 81 c209_80 rfl rfl rfl ?_
            refine y_getR 84 c209_81 rfl kf376_40 ?_
            refine y_iload 85 c209_84 rfl rfl ?_
            refine y_iconst 86 c209_85 rfl ?_
            refine y_iadd 87 c209_86 rfl ?_
            refine y_iaT 88 ((-2147483648)) 2147483647 c209_87 rfl ka403 (by omega) hT rfl (fun v14081 hv14081 gv14081 => ?_)
            have gv14081_ : m 403 (1000 * 1 + 8 * k.toNat + 3) = v14081 := by rw [show 1000 * 1 + 8 * k.toNat + 3 = ((1000 + 8 * k) + 3).toNat by omega]; exact (rfl).symm.trans hv14081
            have tb14083 := hT.atp 376 18 0 1 rfl
            have hVc : VX 1 m := hV
            refine y_callIB 91 [.ref 376, yI v14081] [] c209_88 rfl rfl rfl rfl rfl (ycanO km201 ko376) (t201_1 hT hVc (by omega)) (fun rq14082 mq14082 nq14082 hq14082 => ?_)
            obtain ⟨rfl, hTq14082, hFq14082, hq14082, hcq14082, hVq14082⟩ := hq14082
            have hF14084 := hF.tr hFq14082 wMk_wPl
            refine y_istore 93 c209_91 rfl rfl ?_
            refine y_aload 94 c209_93 rfl rfl rfl ?_
            refine y_getX 97 (mq14082 376 57) c209_94 rfl kf376_57 rfl ?_
            have tb14085 := hTq14082.atp 376 57 0 4 rfl
            refine y_if 107 100 c209_97 rfl rfl (yz_ne (by omega)) (fun hb14086 => ?_) (fun hb14086 => ?_)
            · refine y_goto 191 c209_107 rfl ?_
              have tb14087 := hTq14082.atp 376 51 0 30 rfl
              exact y_retU c209_191 ⟨rfl, hTq14082, hF14084, hVq14082⟩
            · refine y_aload 101 c209_100 rfl rfl rfl ?_
              refine y_iload 102 c209_101 rfl rfl ?_
              refine y_iload 104 c209_102 rfl rfl ?_
              have tb14089 := hTq14082.atp 376 51 0 30 rfl
              have es14090 : mq14082 376 54 = m 376 54 := (hFq14082 376 54 rfl)
              have es14091 : mq14082 376 18 = m 376 18 := (hFq14082 376 18 rfl)
              have hVc : VX 1 mq14082 := hVq14082
              refine y_callUB 107 [.ref 376, yI v14037, yI rq14082] [] c209_104 rfl rfl rfl rfl rfl (ycanO km202 ko376) (t202_1 hTq14082 hVc (by omega) (by omega) (by omega)) (fun mq14088 nq14088 hq14088 => ?_)
              obtain ⟨rfl, hTq14088, hFq14088, hVq14088⟩ := hq14088
              have hF14092 := hF14084.tr hFq14088 wGv_wPl
              refine y_goto 191 c209_107 rfl ?_
              have es14093 : mq14088 376 51 = mq14082 376 51 := (hFq14088 376 51 rfl)
              exact y_retU c209_191 ⟨rfl, hTq14088, hF14092, hVq14088⟩
        · clear hw hns hfx
          refine y_aload 67 c209_66 rfl rfl rfl ?_
          refine y_iload 68 c209_67 rfl rfl ?_
          have tb14095 := hT.atp 376 18 0 1 rfl
          have hVc : VX 1 m := hV
          refine y_callUB 71 [.ref 376, yI (1000 + 8 * k)] [] c209_68 rfl rfl rfl rfl rfl (ycanO km208 ko376) (t208_1 (k := k) hT (by omega) hG hVc (by omega) (by omega) (by omega)) (fun mq14094 nq14094 hq14094 => ?_)
          obtain ⟨rfl, hTq14094, hFq14094, hVq14094⟩ := hq14094
          have hF14096 := hF.tr hFq14094 (fun _ _ e => e)
          refine y_goto 191 c209_71 rfl ?_
          have tb14097 := hTq14094.atp 376 51 0 30 rfl
          exact y_retU c209_191 ⟨rfl, hTq14094, hF14096, hVq14094⟩
    · have f3 : 0 ≤ m 403 (1000 * 1 + 8 * k.toNat + 3) ∧ m 403 (1000 * 1 + 8 * k.toNat + 3) ≤ 47 := by omega
      clear hw hns hfx
      refine y_aload 37 c209_36 rfl rfl rfl ?_
      refine y_iload 38 c209_37 rfl rfl ?_
      refine y_aload 39 c209_38 rfl rfl rfl ?_
      refine y_aload 40 c209_39 rfl rfl rfl ?_
      refine y_getR 43 c209_40 rfl kf376_40 ?_
      refine y_iload 44 c209_43 rfl rfl ?_
      refine y_iconst 45 c209_44 rfl ?_
      refine y_iadd 46 c209_45 rfl ?_
      refine y_iaT 47 ((-2147483648)) 2147483647 c209_46 rfl ka403 (by omega) hT rfl (fun v14098 hv14098 gv14098 => ?_)
      have gv14098_ : m 403 (1000 * 1 + 8 * k.toNat + 3) = v14098 := by rw [show 1000 * 1 + 8 * k.toNat + 3 = ((1000 + 8 * k) + 3).toNat by omega]; exact (rfl).symm.trans hv14098
      have tb14099 := hT.atp 376 18 0 1 rfl
      have hVg : VX 1 m := hV
      refine y_callP 50 [.ref 376, yI v14098] [yI v14037, .ref 376] c209_47 rfl rfl rfl rfl rfl (ycanO km205 ko376) (t205_1 hT hVg (by omega) (by omega)) (fun r14100 hr14100 => ?_)
      have hVc : VX 1 m := hV
      refine y_callUB 53 [.ref 376, yI v14037, yI r14100] [] c209_50 rfl rfl rfl rfl rfl (ycanO km202 ko376) (t202_1 hT hVc (by omega) (by omega) (by omega)) (fun mq14101 nq14101 hq14101 => ?_)
      obtain ⟨rfl, hTq14101, hFq14101, hVq14101⟩ := hq14101
      have hF14102 := hF.tr hFq14101 wGv_wPl
      refine y_goto 191 c209_53 rfl ?_
      have es14103 : mq14101 376 51 = m 376 51 := (hFq14101 376 51 rfl)
      exact y_retU c209_191 ⟨rfl, hTq14101, hF14102, hVq14101⟩
  · clear hw hns hfx
    refine y_aload 23 c209_22 rfl rfl rfl ?_
    refine y_iload 24 c209_23 rfl rfl ?_
    refine y_iconst 25 c209_24 rfl ?_
    have tb14105 := hT.atp 376 18 0 1 rfl
    have hVc : VX 1 m := hV
    refine y_callUB 28 [.ref 376, yI v14037, yI 0] [] c209_25 rfl rfl rfl rfl rfl (ycanO km202 ko376) (t202_1 hT hVc (by omega) (by omega) (by omega)) (fun mq14104 nq14104 hq14104 => ?_)
    obtain ⟨rfl, hTq14104, hFq14104, hVq14104⟩ := hq14104
    have hF14106 := hF.tr hFq14104 wGv_wPl
    refine y_goto 191 c209_28 rfl ?_
    have es14107 : mq14104 376 51 = m 376 51 := (hFq14104 376 51 rfl)
    exact y_retU c209_191 ⟨rfl, hTq14104, hF14106, hVq14104⟩

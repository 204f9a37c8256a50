/-! CONTRACTS: the model, a run. Printed by wip/whole/gen9g.py -/
set_option maxRecDepth 100000 in
theorem t203_0 {L : Nat} {xs : Nat → Int32} {d nn : Nat} {m : yM} {k e f g h : Int} (hT : Ty gT m) (hn : m 376 18 = 0) (hG : GQ 0 m) (hV : VX 0 m) (hk : 0 ≤ k ∧ k < m 384 0) (he : 0 ≤ e ∧ e ≤ m 376 51) (hf : 0 ≤ f ∧ f ≤ m 376 51) (hg : 0 ≤ g ∧ g ≤ m 376 51) (hh : 0 ≤ h ∧ h ≤ 124) : YC (gZ L xs) (d + 1) 203 [.ref 376, yI k, yI e, yI f, yI g, yI h] m nn (qU (fun m' n' => n' = nn ∧ Ty gT m' ∧ Fr wEn m m' ∧ VX 0 m' ∧ ((m' 376 57 = 4 ∧ m' 376 54 = m 376 54) ∨ (m' 376 57 = m 376 57 ∧ m' 376 54 = m 376 54 + 1 ∧ m' 376 55 < m 390 0 ∧ m' 412 (m 376 54).toNat = h)) ∧ ∀ q, q ≠ (m 376 54).toNat → m' 412 q = m 412 q)) := by
  have tb383 := hT.atp 383 0 0 6 rfl
  have tb384 := hT.atp 384 0 0 10 rfl
  have tb388 := hT.atp 388 0 0 12 rfl
  have tb390 := hT.atp 390 0 0 125 rfl
  have tm51 := hT.atp 376 51 0 30 rfl
  have tm54 := hT.atp 376 54 0 4 rfl
  have tm55 := hT.atp 376 55 0 124 rfl
  have tm56 := hT.atp 376 56 0 201 rfl
  have tm57 := hT.atp 376 57 0 4 rfl
  have g90 : m 390 0 ≤ 100 := hG.2.2.2.2.2.2.2.2.2.2.1
  refine YC.mkB [some (.ref 376), some (yI k), some (yI e), some (yI f), some (yI g), some (yI h), none] kn203 rfl rfl ?_
  have hF : Fr wEn m m := Fr.rf
  refine y_aload 1 c203_0 rfl rfl rfl ?_
  refine y_getX 4 (m 376 54) c203_1 rfl kf376_54 rfl ?_
  refine y_iconst 5 c203_4 rfl ?_
  refine y_icmp 14 8 c203_5 rfl rfl (yc_ne (by omega) (by omega)) (fun hb13173 => ?_) (fun hb13173 => ?_)
  · refine y_aload 15 c203_14 rfl rfl rfl ?_
    refine y_getR 18 c203_15 rfl kf376_53 ?_
    refine y_aload 19 c203_18 rfl rfl rfl ?_
    refine y_getX 22 (m 376 54) c203_19 rfl kf376_54 rfl ?_
    refine y_iload 24 c203_22 rfl rfl ?_
    refine y_iastore 25 c203_24 rfl ka412 (by omega) (y_nar0 _) ?_
    have hT13174 := hT.up 412 ((m 376 54).toNat) h 0 124 rfl (by omega)
    have hF13175 := hF.up 412 ((m 376 54).toNat) h rfl
    refine y_aload 26 c203_25 rfl rfl rfl ?_
    refine y_dup 27 c203_26 rfl rfl ?_
    refine y_getX 30 (m 376 54) c203_27 rfl kf376_54 rfl ?_
    refine y_iconst 31 c203_30 rfl ?_
    refine y_iadd 32 c203_31 rfl ?_
    refine y_putI 35 c203_32 rfl kf376_54 (y_fit0 _) ?_
    have hT13176 := hT13174.up 376 54 ((m 376 54) + 1) 0 4 rfl (by omega)
    have hF13177 := hF13175.up 376 54 ((m 376 54) + 1) rfl
    refine y_iconst 36 c203_35 rfl ?_
    refine y_istore 38 c203_36 rfl rfl ?_
    have es13178 : (yup (yup m 412 ((m 376 54).toNat) h) 376 54 ((m 376 54) + 1)) 376 54 = (m 376 54) + 1 := rfl
    have es13179 : (yup (yup m 412 ((m 376 54).toNat) h) 376 54 ((m 376 54) + 1)) 376 51 = m 376 51 := rfl
    refine t203a hT13176 (by omega) (fun z6 mz hTmz hFmz z1 z0 => ?_) 48 0 _ (by omega) (by omega) hT13176 Fr.rf (fun q hq => rfl) (fun q h1 h2 => by omega)
    have hF13180 := hF13177.tr hFmz (wRo_wEn rfl)
    have eo : (yup (yup m 412 ((m 376 54).toNat) h) 376 54 ((m 376 54) + 1)) 376 54 = m 376 54 + 1 := yup_eq _ _ _ _
    rw [show 48 * ((yup (yup m 412 ((m 376 54).toNat) h) 376 54 ((m 376 54) + 1)) 376 54 - 1) = 48 * m 376 54 by omega] at z1 z0
    have hVz : VX 0 mz := VX.ent hV (by omega) ((hFmz 376 54 rfl).trans eo) (hFmz 376 51 rfl) (hFmz 388 0 rfl) (fun q hq => z1 q hq) (fun q h1 h2 => z0 q h1 h2) (fun q => hFmz 410 q rfl) (fun q => hFmz 409 q rfl)
    have hmx := hG.2.2.2.1 k.toNat (by omega)
    refine y_aload 70 c203_69 rfl rfl rfl ?_
    refine y_getR 73 c203_70 rfl kf376_35 ?_
    refine y_iconst 75 c203_73 rfl ?_
    refine y_aload 76 c203_75 rfl rfl rfl ?_
    refine y_getX 79 (m 376 18) c203_76 rfl kf376_18 ((hFmz 376 18 rfl).trans ((yup_nk (by decide)).trans (yup_na (by decide)))) ?_
    have tb13181 := hT.atp 376 18 0 1 rfl
    refine y_top 0 (by omega) ?_
    refine y_imul 80 c203_79 rfl ?_
    refine y_top 0 (by decide) ?_
    refine y_iload 81 c203_80 rfl rfl ?_
    refine y_iadd 82 c203_81 rfl ?_
    refine y_iaT 83 0 46 c203_82 rfl ka398 (by omega) hTmz rfl (fun v13182 hv13182 gv13182 => ?_)
    have gv13182_ : m 398 (10 * 0 + k.toNat) = v13182 := by rw [show 10 * 0 + k.toNat = (0 + k).toNat by omega]; exact (((hFmz 398 _ rfl).trans ((yup_na (by decide)).trans (yup_na (by decide))))).symm.trans hv13182
    refine y_istore 85 c203_83 rfl rfl ?_
    refine y_aload 86 c203_85 rfl rfl rfl ?_
    refine y_iload 88 c203_86 rfl rfl ?_
    refine y_iconst 89 c203_88 rfl ?_
    refine y_iadd 90 c203_89 rfl ?_
    refine y_iload 91 c203_90 rfl rfl ?_
    have es13184 : mz 376 51 = m 376 51 := ((hFmz 376 51 rfl).trans ((yup_nk (by decide)).trans (yup_na (by decide))))
    have es13185 : mz 376 54 = (m 376 54) + 1 := ((hFmz 376 54 rfl).trans (yup_eq _ _ _ _))
    have es13186 : mz 376 18 = m 376 18 := ((hFmz 376 18 rfl).trans ((yup_nk (by decide)).trans (yup_na (by decide))))
    have hVc : VX 0 mz := hVz
    refine y_callUB 94 [.ref 376, yI (v13182 + 1), yI e] [] c203_91 rfl rfl rfl rfl rfl (ycanO km202 ko376) (t202_0 hTmz hVc (by omega) (by omega) (by omega)) (fun mq13183 nq13183 hq13183 => ?_)
    obtain ⟨rfl, hTq13183, hFq13183, hVq13183⟩ := hq13183
    have hF13187 := hF13180.tr hFq13183 wGv_wEn
    refine y_aload 95 c203_94 rfl rfl rfl ?_
    refine y_getR 98 c203_95 rfl kf376_34 ?_
    refine y_iconst 100 c203_98 rfl ?_
    refine y_aload 101 c203_100 rfl rfl rfl ?_
    refine y_getX 104 (m 376 18) c203_101 rfl kf376_18 ((hFq13183 376 18 rfl).trans ((hFmz 376 18 rfl).trans ((yup_nk (by decide)).trans (yup_na (by decide))))) ?_
    refine y_top 0 (by omega) ?_
    refine y_imul 105 c203_104 rfl ?_
    refine y_top 0 (by decide) ?_
    refine y_iload 106 c203_105 rfl rfl ?_
    refine y_iadd 107 c203_106 rfl ?_
    refine y_iaT 108 0 2 c203_107 rfl ka397 (by omega) hTq13183 rfl (fun v13188 hv13188 gv13188 => ?_)
    have gv13188_ : m 397 (10 * 0 + k.toNat) = v13188 := by rw [show 10 * 0 + k.toNat = (0 + k).toNat by omega]; exact (((hFq13183 397 _ rfl).trans ((hFmz 397 _ rfl).trans ((yup_na (by decide)).trans (yup_na (by decide)))))).symm.trans hv13188
    refine y_if 120 111 c203_108 rfl rfl (yz_le (by omega)) (fun hb13189 => ?_) (fun hb13189 => ?_)
    · refine y_aload 121 c203_120 rfl rfl rfl ?_
      refine y_getR 124 c203_121 rfl kf376_34 ?_
      refine y_iconst 126 c203_124 rfl ?_
      refine y_aload 127 c203_126 rfl rfl rfl ?_
      refine y_getX 130 (m 376 18) c203_127 rfl kf376_18 ((hFq13183 376 18 rfl).trans ((hFmz 376 18 rfl).trans ((yup_nk (by decide)).trans (yup_na (by decide))))) ?_
      refine y_top 0 (by omega) ?_
      refine y_imul 131 c203_130 rfl ?_
      refine y_top 0 (by decide) ?_
      refine y_iload 132 c203_131 rfl rfl ?_
      refine y_iadd 133 c203_132 rfl ?_
      refine y_iaT 134 0 2 c203_133 rfl ka397 (by omega) hTq13183 rfl (fun v13190 hv13190 gv13190 => ?_)
      have gv13190_ : m 397 (10 * 0 + k.toNat) = v13190 := by rw [show 10 * 0 + k.toNat = (0 + k).toNat by omega]; exact (((hFq13183 397 _ rfl).trans ((hFmz 397 _ rfl).trans ((yup_na (by decide)).trans (yup_na (by decide)))))).symm.trans hv13190
      refine y_iconst 135 c203_134 rfl ?_
      refine y_icmp 148 138 c203_135 rfl rfl (yc_le (by omega) (by omega)) (fun hb13191 => ?_) (fun hb13191 => ?_)
      · refine y_aload 149 c203_148 rfl rfl rfl ?_
        refine y_aload 150 c203_149 rfl rfl rfl ?_
        refine y_getR 153 c203_150 rfl kf376_36 ?_
        refine y_iconst 155 c203_153 rfl ?_
        refine y_aload 156 c203_155 rfl rfl rfl ?_
        refine y_getX 159 (m 376 18) c203_156 rfl kf376_18 ((hFq13183 376 18 rfl).trans ((hFmz 376 18 rfl).trans ((yup_nk (by decide)).trans (yup_na (by decide))))) ?_
        refine y_top 0 (by omega) ?_
        refine y_imul 160 c203_159 rfl ?_
        refine y_top 0 (by decide) ?_
        refine y_iload 161 c203_160 rfl rfl ?_
        refine y_iadd 162 c203_161 rfl ?_
        refine y_iaT 163 0 125 c203_162 rfl ka399 (by omega) hTq13183 rfl (fun v13192 hv13192 gv13192 => ?_)
        have gv13192_ : m 399 (10 * 0 + k.toNat) = v13192 := by rw [show 10 * 0 + k.toNat = (0 + k).toNat by omega]; exact (((hFq13183 399 _ rfl).trans ((hFmz 399 _ rfl).trans ((yup_na (by decide)).trans (yup_na (by decide)))))).symm.trans hv13192
        refine y_putI 166 c203_163 rfl kf376_55 (y_fit0 _) ?_
        have hT13193 := hTq13183.up 376 55 v13192 0 124 rfl (by omega)
        have hF13194 := hF13187.up 376 55 v13192 rfl
        have es13195 : (yup mq13183 376 55 v13192) 376 54 = (m 376 54) + 1 := ((yup_nk (by decide)).trans ((hFq13183 376 54 rfl).trans ((hFmz 376 54 rfl).trans (yup_eq _ _ _ _))))
        have es13196 : (yup mq13183 376 55 v13192) 376 55 = v13192 := rfl
        have es13197 : (yup mq13183 376 55 v13192) 376 57 = m 376 57 := ((yup_nk (by decide)).trans ((hFq13183 376 57 rfl).trans ((hFmz 376 57 rfl).trans ((yup_nk (by decide)).trans (yup_na (by decide))))))
        have es13198 : (yup mq13183 376 55 v13192) 376 51 = m 376 51 := ((yup_nk (by decide)).trans ((hFq13183 376 51 rfl).trans ((hFmz 376 51 rfl).trans ((yup_nk (by decide)).trans (yup_na (by decide))))))
        have e12 : (yup mq13183 376 55 v13192) 412 (m 376 54).toNat = h := ((yup_na (by decide)).trans ((hFq13183 412 _ rfl).trans ((hFmz 412 _ rfl).trans ((yup_na (by decide)).trans (yup_eq _ _ _ _)))))
        exact y_retU c203_166 ⟨rfl, hT13193, hF13194, (VX.sc hVq13183 (by decide)), by omega, fun q hq => ((yup_na (by decide)).trans ((hFq13183 412 _ rfl).trans ((hFmz 412 _ rfl).trans ((yup_na (by decide)).trans (yup_nk hq)))))⟩
      · refine y_aload 139 c203_138 rfl rfl rfl ?_
        refine y_iload 141 c203_139 rfl rfl ?_
        refine y_iconst 142 c203_141 rfl ?_
        refine y_iadd 143 c203_142 rfl ?_
        refine y_iload 145 c203_143 rfl rfl ?_
        have es13200 : mq13183 376 51 = m 376 51 := ((hFq13183 376 51 rfl).trans ((hFmz 376 51 rfl).trans ((yup_nk (by decide)).trans (yup_na (by decide)))))
        have es13201 : mq13183 376 54 = (m 376 54) + 1 := ((hFq13183 376 54 rfl).trans ((hFmz 376 54 rfl).trans (yup_eq _ _ _ _)))
        have es13202 : mq13183 376 18 = m 376 18 := ((hFq13183 376 18 rfl).trans ((hFmz 376 18 rfl).trans ((yup_nk (by decide)).trans (yup_na (by decide)))))
        have hVc : VX 0 mq13183 := hVq13183
        refine y_callUB 148 [.ref 376, yI (v13182 + 3), yI g] [] c203_145 rfl rfl rfl rfl rfl (ycanO km202 ko376) (t202_0 hTq13183 hVc (by omega) (by omega) (by omega)) (fun mq13199 nq13199 hq13199 => ?_)
        obtain ⟨rfl, hTq13199, hFq13199, hVq13199⟩ := hq13199
        have hF13203 := hF13187.tr hFq13199 wGv_wEn
        refine y_aload 149 c203_148 rfl rfl rfl ?_
        refine y_aload 150 c203_149 rfl rfl rfl ?_
        refine y_getR 153 c203_150 rfl kf376_36 ?_
        refine y_iconst 155 c203_153 rfl ?_
        refine y_aload 156 c203_155 rfl rfl rfl ?_
        refine y_getX 159 (m 376 18) c203_156 rfl kf376_18 ((hFq13199 376 18 rfl).trans ((hFq13183 376 18 rfl).trans ((hFmz 376 18 rfl).trans ((yup_nk (by decide)).trans (yup_na (by decide)))))) ?_
        refine y_top 0 (by omega) ?_
        refine y_imul 160 c203_159 rfl ?_
        refine y_top 0 (by decide) ?_
        refine y_iload 161 c203_160 rfl rfl ?_
        refine y_iadd 162 c203_161 rfl ?_
        refine y_iaT 163 0 125 c203_162 rfl ka399 (by omega) hTq13199 rfl (fun v13204 hv13204 gv13204 => ?_)
        have gv13204_ : m 399 (10 * 0 + k.toNat) = v13204 := by rw [show 10 * 0 + k.toNat = (0 + k).toNat by omega]; exact (((hFq13199 399 _ rfl).trans ((hFq13183 399 _ rfl).trans ((hFmz 399 _ rfl).trans ((yup_na (by decide)).trans (yup_na (by decide))))))).symm.trans hv13204
        refine y_putI 166 c203_163 rfl kf376_55 (y_fit0 _) ?_
        have hT13205 := hTq13199.up 376 55 v13204 0 124 rfl (by omega)
        have hF13206 := hF13203.up 376 55 v13204 rfl
        have es13207 : (yup mq13199 376 55 v13204) 376 54 = (m 376 54) + 1 := ((yup_nk (by decide)).trans ((hFq13199 376 54 rfl).trans ((hFq13183 376 54 rfl).trans ((hFmz 376 54 rfl).trans (yup_eq _ _ _ _)))))
        have es13208 : (yup mq13199 376 55 v13204) 376 55 = v13204 := rfl
        have es13209 : (yup mq13199 376 55 v13204) 376 57 = m 376 57 := ((yup_nk (by decide)).trans ((hFq13199 376 57 rfl).trans ((hFq13183 376 57 rfl).trans ((hFmz 376 57 rfl).trans ((yup_nk (by decide)).trans (yup_na (by decide)))))))
        have es13210 : (yup mq13199 376 55 v13204) 376 51 = m 376 51 := ((yup_nk (by decide)).trans ((hFq13199 376 51 rfl).trans ((hFq13183 376 51 rfl).trans ((hFmz 376 51 rfl).trans ((yup_nk (by decide)).trans (yup_na (by decide)))))))
        have e12 : (yup mq13199 376 55 v13204) 412 (m 376 54).toNat = h := ((yup_na (by decide)).trans ((hFq13199 412 _ rfl).trans ((hFq13183 412 _ rfl).trans ((hFmz 412 _ rfl).trans ((yup_na (by decide)).trans (yup_eq _ _ _ _))))))
        exact y_retU c203_166 ⟨rfl, hT13205, hF13206, (VX.sc hVq13199 (by decide)), by omega, fun q hq => ((yup_na (by decide)).trans ((hFq13199 412 _ rfl).trans ((hFq13183 412 _ rfl).trans ((hFmz 412 _ rfl).trans ((yup_na (by decide)).trans (yup_nk hq))))))⟩
    · refine y_aload 112 c203_111 rfl rfl rfl ?_
      refine y_iload 114 c203_112 rfl rfl ?_
      refine y_iconst 115 c203_114 rfl ?_
      refine y_iadd 116 c203_115 rfl ?_
      refine y_iload 117 c203_116 rfl rfl ?_
      have es13212 : mq13183 376 51 = m 376 51 := ((hFq13183 376 51 rfl).trans ((hFmz 376 51 rfl).trans ((yup_nk (by decide)).trans (yup_na (by decide)))))
      have es13213 : mq13183 376 54 = (m 376 54) + 1 := ((hFq13183 376 54 rfl).trans ((hFmz 376 54 rfl).trans (yup_eq _ _ _ _)))
      have es13214 : mq13183 376 18 = m 376 18 := ((hFq13183 376 18 rfl).trans ((hFmz 376 18 rfl).trans ((yup_nk (by decide)).trans (yup_na (by decide)))))
      have hVc : VX 0 mq13183 := hVq13183
      refine y_callUB 120 [.ref 376, yI (v13182 + 2), yI f] [] c203_117 rfl rfl rfl rfl rfl (ycanO km202 ko376) (t202_0 hTq13183 hVc (by omega) (by omega) (by omega)) (fun mq13211 nq13211 hq13211 => ?_)
      obtain ⟨rfl, hTq13211, hFq13211, hVq13211⟩ := hq13211
      have hF13215 := hF13187.tr hFq13211 wGv_wEn
      refine y_aload 121 c203_120 rfl rfl rfl ?_
      refine y_getR 124 c203_121 rfl kf376_34 ?_
      refine y_iconst 126 c203_124 rfl ?_
      refine y_aload 127 c203_126 rfl rfl rfl ?_
      refine y_getX 130 (m 376 18) c203_127 rfl kf376_18 ((hFq13211 376 18 rfl).trans ((hFq13183 376 18 rfl).trans ((hFmz 376 18 rfl).trans ((yup_nk (by decide)).trans (yup_na (by decide)))))) ?_
      refine y_top 0 (by omega) ?_
      refine y_imul 131 c203_130 rfl ?_
      refine y_top 0 (by decide) ?_
      refine y_iload 132 c203_131 rfl rfl ?_
      refine y_iadd 133 c203_132 rfl ?_
      refine y_iaT 134 0 2 c203_133 rfl ka397 (by omega) hTq13211 rfl (fun v13216 hv13216 gv13216 => ?_)
      have gv13216_ : m 397 (10 * 0 + k.toNat) = v13216 := by rw [show 10 * 0 + k.toNat = (0 + k).toNat by omega]; exact (((hFq13211 397 _ rfl).trans ((hFq13183 397 _ rfl).trans ((hFmz 397 _ rfl).trans ((yup_na (by decide)).trans (yup_na (by decide))))))).symm.trans hv13216
      refine y_iconst 135 c203_134 rfl ?_
      refine y_icmp 148 138 c203_135 rfl rfl (yc_le (by omega) (by omega)) (fun hb13217 => ?_) (fun hb13217 => ?_)
      · refine y_aload 149 c203_148 rfl rfl rfl ?_
        refine y_aload 150 c203_149 rfl rfl rfl ?_
        refine y_getR 153 c203_150 rfl kf376_36 ?_
        refine y_iconst 155 c203_153 rfl ?_
        refine y_aload 156 c203_155 rfl rfl rfl ?_
        refine y_getX 159 (m 376 18) c203_156 rfl kf376_18 ((hFq13211 376 18 rfl).trans ((hFq13183 376 18 rfl).trans ((hFmz 376 18 rfl).trans ((yup_nk (by decide)).trans (yup_na (by decide)))))) ?_
        refine y_top 0 (by omega) ?_
        refine y_imul 160 c203_159 rfl ?_
        refine y_top 0 (by decide) ?_
        refine y_iload 161 c203_160 rfl rfl ?_
        refine y_iadd 162 c203_161 rfl ?_
        refine y_iaT 163 0 125 c203_162 rfl ka399 (by omega) hTq13211 rfl (fun v13218 hv13218 gv13218 => ?_)
        have gv13218_ : m 399 (10 * 0 + k.toNat) = v13218 := by rw [show 10 * 0 + k.toNat = (0 + k).toNat by omega]; exact (((hFq13211 399 _ rfl).trans ((hFq13183 399 _ rfl).trans ((hFmz 399 _ rfl).trans ((yup_na (by decide)).trans (yup_na (by decide))))))).symm.trans hv13218
        refine y_putI 166 c203_163 rfl kf376_55 (y_fit0 _) ?_
        have hT13219 := hTq13211.up 376 55 v13218 0 124 rfl (by omega)
        have hF13220 := hF13215.up 376 55 v13218 rfl
        have es13221 : (yup mq13211 376 55 v13218) 376 54 = (m 376 54) + 1 := ((yup_nk (by decide)).trans ((hFq13211 376 54 rfl).trans ((hFq13183 376 54 rfl).trans ((hFmz 376 54 rfl).trans (yup_eq _ _ _ _)))))
        have es13222 : (yup mq13211 376 55 v13218) 376 55 = v13218 := rfl
        have es13223 : (yup mq13211 376 55 v13218) 376 57 = m 376 57 := ((yup_nk (by decide)).trans ((hFq13211 376 57 rfl).trans ((hFq13183 376 57 rfl).trans ((hFmz 376 57 rfl).trans ((yup_nk (by decide)).trans (yup_na (by decide)))))))
        have es13224 : (yup mq13211 376 55 v13218) 376 51 = m 376 51 := ((yup_nk (by decide)).trans ((hFq13211 376 51 rfl).trans ((hFq13183 376 51 rfl).trans ((hFmz 376 51 rfl).trans ((yup_nk (by decide)).trans (yup_na (by decide)))))))
        have e12 : (yup mq13211 376 55 v13218) 412 (m 376 54).toNat = h := ((yup_na (by decide)).trans ((hFq13211 412 _ rfl).trans ((hFq13183 412 _ rfl).trans ((hFmz 412 _ rfl).trans ((yup_na (by decide)).trans (yup_eq _ _ _ _))))))
        exact y_retU c203_166 ⟨rfl, hT13219, hF13220, (VX.sc hVq13211 (by decide)), by omega, fun q hq => ((yup_na (by decide)).trans ((hFq13211 412 _ rfl).trans ((hFq13183 412 _ rfl).trans ((hFmz 412 _ rfl).trans ((yup_na (by decide)).trans (yup_nk hq))))))⟩
      · refine y_aload 139 c203_138 rfl rfl rfl ?_
        refine y_iload 141 c203_139 rfl rfl ?_
        refine y_iconst 142 c203_141 rfl ?_
        refine y_iadd 143 c203_142 rfl ?_
        refine y_iload 145 c203_143 rfl rfl ?_
        have es13226 : mq13211 376 51 = m 376 51 := ((hFq13211 376 51 rfl).trans ((hFq13183 376 51 rfl).trans ((hFmz 376 51 rfl).trans ((yup_nk (by decide)).trans (yup_na (by decide))))))
        have es13227 : mq13211 376 54 = (m 376 54) + 1 := ((hFq13211 376 54 rfl).trans ((hFq13183 376 54 rfl).trans ((hFmz 376 54 rfl).trans (yup_eq _ _ _ _))))
        have es13228 : mq13211 376 18 = m 376 18 := ((hFq13211 376 18 rfl).trans ((hFq13183 376 18 rfl).trans ((hFmz 376 18 rfl).trans ((yup_nk (by decide)).trans (yup_na (by decide))))))
        have hVc : VX 0 mq13211 := hVq13211
        refine y_callUB 148 [.ref 376, yI (v13182 + 3), yI g] [] c203_145 rfl rfl rfl rfl rfl (ycanO km202 ko376) (t202_0 hTq13211 hVc (by omega) (by omega) (by omega)) (fun mq13225 nq13225 hq13225 => ?_)
        obtain ⟨rfl, hTq13225, hFq13225, hVq13225⟩ := hq13225
        have hF13229 := hF13215.tr hFq13225 wGv_wEn
        refine y_aload 149 c203_148 rfl rfl rfl ?_
        refine y_aload 150 c203_149 rfl rfl rfl ?_
        refine y_getR 153 c203_150 rfl kf376_36 ?_
        refine y_iconst 155 c203_153 rfl ?_
        refine y_aload 156 c203_155 rfl rfl rfl ?_
        refine y_getX 159 (m 376 18) c203_156 rfl kf376_18 ((hFq13225 376 18 rfl).trans ((hFq13211 376 18 rfl).trans ((hFq13183 376 18 rfl).trans ((hFmz 376 18 rfl).trans ((yup_nk (by decide)).trans (yup_na (by decide))))))) ?_
        refine y_top 0 (by omega) ?_
        refine y_imul 160 c203_159 rfl ?_
        refine y_top 0 (by decide) ?_
        refine y_iload 161 c203_160 rfl rfl ?_
        refine y_iadd 162 c203_161 rfl ?_
        refine y_iaT 163 0 125 c203_162 rfl ka399 (by omega) hTq13225 rfl (fun v13230 hv13230 gv13230 => ?_)
        have gv13230_ : m 399 (10 * 0 + k.toNat) = v13230 := by rw [show 10 * 0 + k.toNat = (0 + k).toNat by omega]; exact (((hFq13225 399 _ rfl).trans ((hFq13211 399 _ rfl).trans ((hFq13183 399 _ rfl).trans ((hFmz 399 _ rfl).trans ((yup_na (by decide)).trans (yup_na (by decide)))))))).symm.trans hv13230
        refine y_putI 166 c203_163 rfl kf376_55 (y_fit0 _) ?_
        have hT13231 := hTq13225.up 376 55 v13230 0 124 rfl (by omega)
        have hF13232 := hF13229.up 376 55 v13230 rfl
        have es13233 : (yup mq13225 376 55 v13230) 376 54 = (m 376 54) + 1 := ((yup_nk (by decide)).trans ((hFq13225 376 54 rfl).trans ((hFq13211 376 54 rfl).trans ((hFq13183 376 54 rfl).trans ((hFmz 376 54 rfl).trans (yup_eq _ _ _ _))))))
        have es13234 : (yup mq13225 376 55 v13230) 376 55 = v13230 := rfl
        have es13235 : (yup mq13225 376 55 v13230) 376 57 = m 376 57 := ((yup_nk (by decide)).trans ((hFq13225 376 57 rfl).trans ((hFq13211 376 57 rfl).trans ((hFq13183 376 57 rfl).trans ((hFmz 376 57 rfl).trans ((yup_nk (by decide)).trans (yup_na (by decide))))))))
        have es13236 : (yup mq13225 376 55 v13230) 376 51 = m 376 51 := ((yup_nk (by decide)).trans ((hFq13225 376 51 rfl).trans ((hFq13211 376 51 rfl).trans ((hFq13183 376 51 rfl).trans ((hFmz 376 51 rfl).trans ((yup_nk (by decide)).trans (yup_na (by decide))))))))
        have e12 : (yup mq13225 376 55 v13230) 412 (m 376 54).toNat = h := ((yup_na (by decide)).trans ((hFq13225 412 _ rfl).trans ((hFq13211 412 _ rfl).trans ((hFq13183 412 _ rfl).trans ((hFmz 412 _ rfl).trans ((yup_na (by decide)).trans (yup_eq _ _ _ _)))))))
        exact y_retU c203_166 ⟨rfl, hT13231, hF13232, (VX.sc hVq13225 (by decide)), by omega, fun q hq => ((yup_na (by decide)).trans ((hFq13225 412 _ rfl).trans ((hFq13211 412 _ rfl).trans ((hFq13183 412 _ rfl).trans ((hFmz 412 _ rfl).trans ((yup_na (by decide)).trans (yup_nk hq)))))))⟩
  · refine y_aload 9 c203_8 rfl rfl rfl ?_
    refine y_iconst 10 c203_9 rfl ?_
    refine y_putI 13 c203_10 rfl kf376_57 (y_fit0 _) ?_
    have hT13237 := hT.up 376 57 4 0 4 rfl (by omega)
    have hF13238 := hF.up 376 57 4 rfl
    have es13239 : (yup m 376 57 4) 376 54 = m 376 54 := rfl
    have es13240 : (yup m 376 57 4) 376 55 = m 376 55 := rfl
    have es13241 : (yup m 376 57 4) 376 57 = 4 := rfl
    have es13242 : (yup m 376 57 4) 376 51 = m 376 51 := rfl
    exact y_retU c203_13 ⟨rfl, hT13237, hF13238, (VX.sc hV (by decide)), by omega, fun q hq => (yup_na (by decide))⟩
set_option maxRecDepth 100000 in
theorem t203_1 {L : Nat} {xs : Nat → Int32} {d nn : Nat} {m : yM} {k e f g h : Int} (hT : Ty gT m) (hn : m 376 18 = 1) (hG : GQ 1 m) (hV : VX 1 m) (hk : 0 ≤ k ∧ k < m 384 1) (he : 0 ≤ e ∧ e ≤ m 376 51) (hf : 0 ≤ f ∧ f ≤ m 376 51) (hg : 0 ≤ g ∧ g ≤ m 376 51) (hh : 0 ≤ h ∧ h ≤ 124) : YC (gZ L xs) (d + 1) 203 [.ref 376, yI k, yI e, yI f, yI g, yI h] m nn (qU (fun m' n' => n' = nn ∧ Ty gT m' ∧ Fr wEn m m' ∧ VX 1 m' ∧ ((m' 376 57 = 4 ∧ m' 376 54 = m 376 54) ∨ (m' 376 57 = m 376 57 ∧ m' 376 54 = m 376 54 + 1 ∧ m' 376 55 < m 390 1 ∧ m' 412 (m 376 54).toNat = h)) ∧ ∀ q, q ≠ (m 376 54).toNat → m' 412 q = m 412 q)) := by
  have tb383 := hT.atp 383 1 0 6 rfl
  have tb384 := hT.atp 384 1 0 10 rfl
  have tb388 := hT.atp 388 1 0 12 rfl
  have tb390 := hT.atp 390 1 0 125 rfl
  have tm51 := hT.atp 376 51 0 30 rfl
  have tm54 := hT.atp 376 54 0 4 rfl
  have tm55 := hT.atp 376 55 0 124 rfl
  have tm56 := hT.atp 376 56 0 201 rfl
  have tm57 := hT.atp 376 57 0 4 rfl
  have g90 : m 390 1 ≤ 100 := hG.2.2.2.2.2.2.2.2.2.2.1
  refine YC.mkB [some (.ref 376), some (yI k), some (yI e), some (yI f), some (yI g), some (yI h), none] kn203 rfl rfl ?_
  have hF : Fr wEn m m := Fr.rf
  refine y_aload 1 c203_0 rfl rfl rfl ?_
  refine y_getX 4 (m 376 54) c203_1 rfl kf376_54 rfl ?_
  refine y_iconst 5 c203_4 rfl ?_
  refine y_icmp 14 8 c203_5 rfl rfl (yc_ne (by omega) (by omega)) (fun hb13270 => ?_) (fun hb13270 => ?_)
  · refine y_aload 15 c203_14 rfl rfl rfl ?_
    refine y_getR 18 c203_15 rfl kf376_53 ?_
    refine y_aload 19 c203_18 rfl rfl rfl ?_
    refine y_getX 22 (m 376 54) c203_19 rfl kf376_54 rfl ?_
    refine y_iload 24 c203_22 rfl rfl ?_
    refine y_iastore 25 c203_24 rfl ka412 (by omega) (y_nar0 _) ?_
    have hT13271 := hT.up 412 ((m 376 54).toNat) h 0 124 rfl (by omega)
    have hF13272 := hF.up 412 ((m 376 54).toNat) h rfl
    refine y_aload 26 c203_25 rfl rfl rfl ?_
    refine y_dup 27 c203_26 rfl rfl ?_
    refine y_getX 30 (m 376 54) c203_27 rfl kf376_54 rfl ?_
    refine y_iconst 31 c203_30 rfl ?_
    refine y_iadd 32 c203_31 rfl ?_
    refine y_putI 35 c203_32 rfl kf376_54 (y_fit0 _) ?_
    have hT13273 := hT13271.up 376 54 ((m 376 54) + 1) 0 4 rfl (by omega)
    have hF13274 := hF13272.up 376 54 ((m 376 54) + 1) rfl
    refine y_iconst 36 c203_35 rfl ?_
    refine y_istore 38 c203_36 rfl rfl ?_
    have es13275 : (yup (yup m 412 ((m 376 54).toNat) h) 376 54 ((m 376 54) + 1)) 376 54 = (m 376 54) + 1 := rfl
    have es13276 : (yup (yup m 412 ((m 376 54).toNat) h) 376 54 ((m 376 54) + 1)) 376 51 = m 376 51 := rfl
    refine t203a hT13273 (by omega) (fun z6 mz hTmz hFmz z1 z0 => ?_) 48 0 _ (by omega) (by omega) hT13273 Fr.rf (fun q hq => rfl) (fun q h1 h2 => by omega)
    have hF13277 := hF13274.tr hFmz (wRo_wEn rfl)
    have eo : (yup (yup m 412 ((m 376 54).toNat) h) 376 54 ((m 376 54) + 1)) 376 54 = m 376 54 + 1 := yup_eq _ _ _ _
    rw [show 48 * ((yup (yup m 412 ((m 376 54).toNat) h) 376 54 ((m 376 54) + 1)) 376 54 - 1) = 48 * m 376 54 by omega] at z1 z0
    have hVz : VX 1 mz := VX.ent hV (by omega) ((hFmz 376 54 rfl).trans eo) (hFmz 376 51 rfl) (hFmz 388 1 rfl) (fun q hq => z1 q hq) (fun q h1 h2 => z0 q h1 h2) (fun q => hFmz 410 q rfl) (fun q => hFmz 409 q rfl)
    have hmx := hG.2.2.2.1 k.toNat (by omega)
    refine y_aload 70 c203_69 rfl rfl rfl ?_
    refine y_getR 73 c203_70 rfl kf376_35 ?_
    refine y_iconst 75 c203_73 rfl ?_
    refine y_aload 76 c203_75 rfl rfl rfl ?_
    refine y_getX 79 (m 376 18) c203_76 rfl kf376_18 ((hFmz 376 18 rfl).trans ((yup_nk (by decide)).trans (yup_na (by decide)))) ?_
    have tb13278 := hT.atp 376 18 0 1 rfl
    refine y_top 1 (by omega) ?_
    refine y_imul 80 c203_79 rfl ?_
    refine y_top 10 (by decide) ?_
    refine y_iload 81 c203_80 rfl rfl ?_
    refine y_iadd 82 c203_81 rfl ?_
    refine y_iaT 83 0 46 c203_82 rfl ka398 (by omega) hTmz rfl (fun v13279 hv13279 gv13279 => ?_)
    have gv13279_ : m 398 (10 * 1 + k.toNat) = v13279 := by rw [show 10 * 1 + k.toNat = (10 + k).toNat by omega]; exact (((hFmz 398 _ rfl).trans ((yup_na (by decide)).trans (yup_na (by decide))))).symm.trans hv13279
    refine y_istore 85 c203_83 rfl rfl ?_
    refine y_aload 86 c203_85 rfl rfl rfl ?_
    refine y_iload 88 c203_86 rfl rfl ?_
    refine y_iconst 89 c203_88 rfl ?_
    refine y_iadd 90 c203_89 rfl ?_
    refine y_iload 91 c203_90 rfl rfl ?_
    have es13281 : mz 376 51 = m 376 51 := ((hFmz 376 51 rfl).trans ((yup_nk (by decide)).trans (yup_na (by decide))))
    have es13282 : mz 376 54 = (m 376 54) + 1 := ((hFmz 376 54 rfl).trans (yup_eq _ _ _ _))
    have es13283 : mz 376 18 = m 376 18 := ((hFmz 376 18 rfl).trans ((yup_nk (by decide)).trans (yup_na (by decide))))
    have hVc : VX 1 mz := hVz
    refine y_callUB 94 [.ref 376, yI (v13279 + 1), yI e] [] c203_91 rfl rfl rfl rfl rfl (ycanO km202 ko376) (t202_1 hTmz hVc (by omega) (by omega) (by omega)) (fun mq13280 nq13280 hq13280 => ?_)
    obtain ⟨rfl, hTq13280, hFq13280, hVq13280⟩ := hq13280
    have hF13284 := hF13277.tr hFq13280 wGv_wEn
    refine y_aload 95 c203_94 rfl rfl rfl ?_
    refine y_getR 98 c203_95 rfl kf376_34 ?_
    refine y_iconst 100 c203_98 rfl ?_
    refine y_aload 101 c203_100 rfl rfl rfl ?_
    refine y_getX 104 (m 376 18) c203_101 rfl kf376_18 ((hFq13280 376 18 rfl).trans ((hFmz 376 18 rfl).trans ((yup_nk (by decide)).trans (yup_na (by decide))))) ?_
    refine y_top 1 (by omega) ?_
    refine y_imul 105 c203_104 rfl ?_
    refine y_top 10 (by decide) ?_
    refine y_iload 106 c203_105 rfl rfl ?_
    refine y_iadd 107 c203_106 rfl ?_
    refine y_iaT 108 0 2 c203_107 rfl ka397 (by omega) hTq13280 rfl (fun v13285 hv13285 gv13285 => ?_)
    have gv13285_ : m 397 (10 * 1 + k.toNat) = v13285 := by rw [show 10 * 1 + k.toNat = (10 + k).toNat by omega]; exact (((hFq13280 397 _ rfl).trans ((hFmz 397 _ rfl).trans ((yup_na (by decide)).trans (yup_na (by decide)))))).symm.trans hv13285
    refine y_if 120 111 c203_108 rfl rfl (yz_le (by omega)) (fun hb13286 => ?_) (fun hb13286 => ?_)
    · refine y_aload 121 c203_120 rfl rfl rfl ?_
      refine y_getR 124 c203_121 rfl kf376_34 ?_
      refine y_iconst 126 c203_124 rfl ?_
      refine y_aload 127 c203_126 rfl rfl rfl ?_
      refine y_getX 130 (m 376 18) c203_127 rfl kf376_18 ((hFq13280 376 18 rfl).trans ((hFmz 376 18 rfl).trans ((yup_nk (by decide)).trans (yup_na (by decide))))) ?_
      refine y_top 1 (by omega) ?_
      refine y_imul 131 c203_130 rfl ?_
      refine y_top 10 (by decide) ?_
      refine y_iload 132 c203_131 rfl rfl ?_
      refine y_iadd 133 c203_132 rfl ?_
      refine y_iaT 134 0 2 c203_133 rfl ka397 (by omega) hTq13280 rfl (fun v13287 hv13287 gv13287 => ?_)
      have gv13287_ : m 397 (10 * 1 + k.toNat) = v13287 := by rw [show 10 * 1 + k.toNat = (10 + k).toNat by omega]; exact (((hFq13280 397 _ rfl).trans ((hFmz 397 _ rfl).trans ((yup_na (by decide)).trans (yup_na (by decide)))))).symm.trans hv13287
      refine y_iconst 135 c203_134 rfl ?_
      refine y_icmp 148 138 c203_135 rfl rfl (yc_le (by omega) (by omega)) (fun hb13288 => ?_) (fun hb13288 => ?_)
      · refine y_aload 149 c203_148 rfl rfl rfl ?_
        refine y_aload 150 c203_149 rfl rfl rfl ?_
        refine y_getR 153 c203_150 rfl kf376_36 ?_
        refine y_iconst 155 c203_153 rfl ?_
        refine y_aload 156 c203_155 rfl rfl rfl ?_
        refine y_getX 159 (m 376 18) c203_156 rfl kf376_18 ((hFq13280 376 18 rfl).trans ((hFmz 376 18 rfl).trans ((yup_nk (by decide)).trans (yup_na (by decide))))) ?_
        refine y_top 1 (by omega) ?_
        refine y_imul 160 c203_159 rfl ?_
        refine y_top 10 (by decide) ?_
        refine y_iload 161 c203_160 rfl rfl ?_
        refine y_iadd 162 c203_161 rfl ?_
        refine y_iaT 163 0 125 c203_162 rfl ka399 (by omega) hTq13280 rfl (fun v13289 hv13289 gv13289 => ?_)
        have gv13289_ : m 399 (10 * 1 + k.toNat) = v13289 := by rw [show 10 * 1 + k.toNat = (10 + k).toNat by omega]; exact (((hFq13280 399 _ rfl).trans ((hFmz 399 _ rfl).trans ((yup_na (by decide)).trans (yup_na (by decide)))))).symm.trans hv13289
        refine y_putI 166 c203_163 rfl kf376_55 (y_fit0 _) ?_
        have hT13290 := hTq13280.up 376 55 v13289 0 124 rfl (by omega)
        have hF13291 := hF13284.up 376 55 v13289 rfl
        have es13292 : (yup mq13280 376 55 v13289) 376 54 = (m 376 54) + 1 := ((yup_nk (by decide)).trans ((hFq13280 376 54 rfl).trans ((hFmz 376 54 rfl).trans (yup_eq _ _ _ _))))
        have es13293 : (yup mq13280 376 55 v13289) 376 55 = v13289 := rfl
        have es13294 : (yup mq13280 376 55 v13289) 376 57 = m 376 57 := ((yup_nk (by decide)).trans ((hFq13280 376 57 rfl).trans ((hFmz 376 57 rfl).trans ((yup_nk (by decide)).trans (yup_na (by decide))))))
        have es13295 : (yup mq13280 376 55 v13289) 376 51 = m 376 51 := ((yup_nk (by decide)).trans ((hFq13280 376 51 rfl).trans ((hFmz 376 51 rfl).trans ((yup_nk (by decide)).trans (yup_na (by decide))))))
        have e12 : (yup mq13280 376 55 v13289) 412 (m 376 54).toNat = h := ((yup_na (by decide)).trans ((hFq13280 412 _ rfl).trans ((hFmz 412 _ rfl).trans ((yup_na (by decide)).trans (yup_eq _ _ _ _)))))
        exact y_retU c203_166 ⟨rfl, hT13290, hF13291, (VX.sc hVq13280 (by decide)), by omega, fun q hq => ((yup_na (by decide)).trans ((hFq13280 412 _ rfl).trans ((hFmz 412 _ rfl).trans ((yup_na (by decide)).trans (yup_nk hq)))))⟩
      · refine y_aload 139 c203_138 rfl rfl rfl ?_
        refine y_iload 141 c203_139 rfl rfl ?_
        refine y_iconst 142 c203_141 rfl ?_
        refine y_iadd 143 c203_142 rfl ?_
        refine y_iload 145 c203_143 rfl rfl ?_
        have es13297 : mq13280 376 51 = m 376 51 := ((hFq13280 376 51 rfl).trans ((hFmz 376 51 rfl).trans ((yup_nk (by decide)).trans (yup_na (by decide)))))
        have es13298 : mq13280 376 54 = (m 376 54) + 1 := ((hFq13280 376 54 rfl).trans ((hFmz 376 54 rfl).trans (yup_eq _ _ _ _)))
        have es13299 : mq13280 376 18 = m 376 18 := ((hFq13280 376 18 rfl).trans ((hFmz 376 18 rfl).trans ((yup_nk (by decide)).trans (yup_na (by decide)))))
        have hVc : VX 1 mq13280 := hVq13280
        refine y_callUB 148 [.ref 376, yI (v13279 + 3), yI g] [] c203_145 rfl rfl rfl rfl rfl (ycanO km202 ko376) (t202_1 hTq13280 hVc (by omega) (by omega) (by omega)) (fun mq13296 nq13296 hq13296 => ?_)
        obtain ⟨rfl, hTq13296, hFq13296, hVq13296⟩ := hq13296
        have hF13300 := hF13284.tr hFq13296 wGv_wEn
        refine y_aload 149 c203_148 rfl rfl rfl ?_
        refine y_aload 150 c203_149 rfl rfl rfl ?_
        refine y_getR 153 c203_150 rfl kf376_36 ?_
        refine y_iconst 155 c203_153 rfl ?_
        refine y_aload 156 c203_155 rfl rfl rfl ?_
        refine y_getX 159 (m 376 18) c203_156 rfl kf376_18 ((hFq13296 376 18 rfl).trans ((hFq13280 376 18 rfl).trans ((hFmz 376 18 rfl).trans ((yup_nk (by decide)).trans (yup_na (by decide)))))) ?_
        refine y_top 1 (by omega) ?_
        refine y_imul 160 c203_159 rfl ?_
        refine y_top 10 (by decide) ?_
        refine y_iload 161 c203_160 rfl rfl ?_
        refine y_iadd 162 c203_161 rfl ?_
        refine y_iaT 163 0 125 c203_162 rfl ka399 (by omega) hTq13296 rfl (fun v13301 hv13301 gv13301 => ?_)
        have gv13301_ : m 399 (10 * 1 + k.toNat) = v13301 := by rw [show 10 * 1 + k.toNat = (10 + k).toNat by omega]; exact (((hFq13296 399 _ rfl).trans ((hFq13280 399 _ rfl).trans ((hFmz 399 _ rfl).trans ((yup_na (by decide)).trans (yup_na (by decide))))))).symm.trans hv13301
        refine y_putI 166 c203_163 rfl kf376_55 (y_fit0 _) ?_
        have hT13302 := hTq13296.up 376 55 v13301 0 124 rfl (by omega)
        have hF13303 := hF13300.up 376 55 v13301 rfl
        have es13304 : (yup mq13296 376 55 v13301) 376 54 = (m 376 54) + 1 := ((yup_nk (by decide)).trans ((hFq13296 376 54 rfl).trans ((hFq13280 376 54 rfl).trans ((hFmz 376 54 rfl).trans (yup_eq _ _ _ _)))))
        have es13305 : (yup mq13296 376 55 v13301) 376 55 = v13301 := rfl
        have es13306 : (yup mq13296 376 55 v13301) 376 57 = m 376 57 := ((yup_nk (by decide)).trans ((hFq13296 376 57 rfl).trans ((hFq13280 376 57 rfl).trans ((hFmz 376 57 rfl).trans ((yup_nk (by decide)).trans (yup_na (by decide)))))))
        have es13307 : (yup mq13296 376 55 v13301) 376 51 = m 376 51 := ((yup_nk (by decide)).trans ((hFq13296 376 51 rfl).trans ((hFq13280 376 51 rfl).trans ((hFmz 376 51 rfl).trans ((yup_nk (by decide)).trans (yup_na (by decide)))))))
        have e12 : (yup mq13296 376 55 v13301) 412 (m 376 54).toNat = h := ((yup_na (by decide)).trans ((hFq13296 412 _ rfl).trans ((hFq13280 412 _ rfl).trans ((hFmz 412 _ rfl).trans ((yup_na (by decide)).trans (yup_eq _ _ _ _))))))
        exact y_retU c203_166 ⟨rfl, hT13302, hF13303, (VX.sc hVq13296 (by decide)), by omega, fun q hq => ((yup_na (by decide)).trans ((hFq13296 412 _ rfl).trans ((hFq13280 412 _ rfl).trans ((hFmz 412 _ rfl).trans ((yup_na (by decide)).trans (yup_nk hq))))))⟩
    · refine y_aload 112 c203_111 rfl rfl rfl ?_
      refine y_iload 114 c203_112 rfl rfl ?_
      refine y_iconst 115 c203_114 rfl ?_
      refine y_iadd 116 c203_115 rfl ?_
      refine y_iload 117 c203_116 rfl rfl ?_
      have es13309 : mq13280 376 51 = m 376 51 := ((hFq13280 376 51 rfl).trans ((hFmz 376 51 rfl).trans ((yup_nk (by decide)).trans (yup_na (by decide)))))
      have es13310 : mq13280 376 54 = (m 376 54) + 1 := ((hFq13280 376 54 rfl).trans ((hFmz 376 54 rfl).trans (yup_eq _ _ _ _)))
      have es13311 : mq13280 376 18 = m 376 18 := ((hFq13280 376 18 rfl).trans ((hFmz 376 18 rfl).trans ((yup_nk (by decide)).trans (yup_na (by decide)))))
      have hVc : VX 1 mq13280 := hVq13280
      refine y_callUB 120 [.ref 376, yI (v13279 + 2), yI f] [] c203_117 rfl rfl rfl rfl rfl (ycanO km202 ko376) (t202_1 hTq13280 hVc (by omega) (by omega) (by omega)) (fun mq13308 nq13308 hq13308 => ?_)
      obtain ⟨rfl, hTq13308, hFq13308, hVq13308⟩ := hq13308
      have hF13312 := hF13284.tr hFq13308 wGv_wEn
      refine y_aload 121 c203_120 rfl rfl rfl ?_
      refine y_getR 124 c203_121 rfl kf376_34 ?_
      refine y_iconst 126 c203_124 rfl ?_
      refine y_aload 127 c203_126 rfl rfl rfl ?_
      refine y_getX 130 (m 376 18) c203_127 rfl kf376_18 ((hFq13308 376 18 rfl).trans ((hFq13280 376 18 rfl).trans ((hFmz 376 18 rfl).trans ((yup_nk (by decide)).trans (yup_na (by decide)))))) ?_
      refine y_top 1 (by omega) ?_
      refine y_imul 131 c203_130 rfl ?_
      refine y_top 10 (by decide) ?_
      refine y_iload 132 c203_131 rfl rfl ?_
      refine y_iadd 133 c203_132 rfl ?_
      refine y_iaT 134 0 2 c203_133 rfl ka397 (by omega) hTq13308 rfl (fun v13313 hv13313 gv13313 => ?_)
      have gv13313_ : m 397 (10 * 1 + k.toNat) = v13313 := by rw [show 10 * 1 + k.toNat = (10 + k).toNat by omega]; exact (((hFq13308 397 _ rfl).trans ((hFq13280 397 _ rfl).trans ((hFmz 397 _ rfl).trans ((yup_na (by decide)).trans (yup_na (by decide))))))).symm.trans hv13313
      refine y_iconst 135 c203_134 rfl ?_
      refine y_icmp 148 138 c203_135 rfl rfl (yc_le (by omega) (by omega)) (fun hb13314 => ?_) (fun hb13314 => ?_)
      · refine y_aload 149 c203_148 rfl rfl rfl ?_
        refine y_aload 150 c203_149 rfl rfl rfl ?_
        refine y_getR 153 c203_150 rfl kf376_36 ?_
        refine y_iconst 155 c203_153 rfl ?_
        refine y_aload 156 c203_155 rfl rfl rfl ?_
        refine y_getX 159 (m 376 18) c203_156 rfl kf376_18 ((hFq13308 376 18 rfl).trans ((hFq13280 376 18 rfl).trans ((hFmz 376 18 rfl).trans ((yup_nk (by decide)).trans (yup_na (by decide)))))) ?_
        refine y_top 1 (by omega) ?_
        refine y_imul 160 c203_159 rfl ?_
        refine y_top 10 (by decide) ?_
        refine y_iload 161 c203_160 rfl rfl ?_
        refine y_iadd 162 c203_161 rfl ?_
        refine y_iaT 163 0 125 c203_162 rfl ka399 (by omega) hTq13308 rfl (fun v13315 hv13315 gv13315 => ?_)
        have gv13315_ : m 399 (10 * 1 + k.toNat) = v13315 := by rw [show 10 * 1 + k.toNat = (10 + k).toNat by omega]; exact (((hFq13308 399 _ rfl).trans ((hFq13280 399 _ rfl).trans ((hFmz 399 _ rfl).trans ((yup_na (by decide)).trans (yup_na (by decide))))))).symm.trans hv13315
        refine y_putI 166 c203_163 rfl kf376_55 (y_fit0 _) ?_
        have hT13316 := hTq13308.up 376 55 v13315 0 124 rfl (by omega)
        have hF13317 := hF13312.up 376 55 v13315 rfl
        have es13318 : (yup mq13308 376 55 v13315) 376 54 = (m 376 54) + 1 := ((yup_nk (by decide)).trans ((hFq13308 376 54 rfl).trans ((hFq13280 376 54 rfl).trans ((hFmz 376 54 rfl).trans (yup_eq _ _ _ _)))))
        have es13319 : (yup mq13308 376 55 v13315) 376 55 = v13315 := rfl
        have es13320 : (yup mq13308 376 55 v13315) 376 57 = m 376 57 := ((yup_nk (by decide)).trans ((hFq13308 376 57 rfl).trans ((hFq13280 376 57 rfl).trans ((hFmz 376 57 rfl).trans ((yup_nk (by decide)).trans (yup_na (by decide)))))))
        have es13321 : (yup mq13308 376 55 v13315) 376 51 = m 376 51 := ((yup_nk (by decide)).trans ((hFq13308 376 51 rfl).trans ((hFq13280 376 51 rfl).trans ((hFmz 376 51 rfl).trans ((yup_nk (by decide)).trans (yup_na (by decide)))))))
        have e12 : (yup mq13308 376 55 v13315) 412 (m 376 54).toNat = h := ((yup_na (by decide)).trans ((hFq13308 412 _ rfl).trans ((hFq13280 412 _ rfl).trans ((hFmz 412 _ rfl).trans ((yup_na (by decide)).trans (yup_eq _ _ _ _))))))
        exact y_retU c203_166 ⟨rfl, hT13316, hF13317, (VX.sc hVq13308 (by decide)), by omega, fun q hq => ((yup_na (by decide)).trans ((hFq13308 412 _ rfl).trans ((hFq13280 412 _ rfl).trans ((hFmz 412 _ rfl).trans ((yup_na (by decide)).trans (yup_nk hq))))))⟩
      · refine y_aload 139 c203_138 rfl rfl rfl ?_
        refine y_iload 141 c203_139 rfl rfl ?_
        refine y_iconst 142 c203_141 rfl ?_
        refine y_iadd 143 c203_142 rfl ?_
        refine y_iload 145 c203_143 rfl rfl ?_
        have es13323 : mq13308 376 51 = m 376 51 := ((hFq13308 376 51 rfl).trans ((hFq13280 376 51 rfl).trans ((hFmz 376 51 rfl).trans ((yup_nk (by decide)).trans (yup_na (by decide))))))
        have es13324 : mq13308 376 54 = (m 376 54) + 1 := ((hFq13308 376 54 rfl).trans ((hFq13280 376 54 rfl).trans ((hFmz 376 54 rfl).trans (yup_eq _ _ _ _))))
        have es13325 : mq13308 376 18 = m 376 18 := ((hFq13308 376 18 rfl).trans ((hFq13280 376 18 rfl).trans ((hFmz 376 18 rfl).trans ((yup_nk (by decide)).trans (yup_na (by decide))))))
        have hVc : VX 1 mq13308 := hVq13308
        refine y_callUB 148 [.ref 376, yI (v13279 + 3), yI g] [] c203_145 rfl rfl rfl rfl rfl (ycanO km202 ko376) (t202_1 hTq13308 hVc (by omega) (by omega) (by omega)) (fun mq13322 nq13322 hq13322 => ?_)
        obtain ⟨rfl, hTq13322, hFq13322, hVq13322⟩ := hq13322
        have hF13326 := hF13312.tr hFq13322 wGv_wEn
        refine y_aload 149 c203_148 rfl rfl rfl ?_
        refine y_aload 150 c203_149 rfl rfl rfl ?_
        refine y_getR 153 c203_150 rfl kf376_36 ?_
        refine y_iconst 155 c203_153 rfl ?_
        refine y_aload 156 c203_155 rfl rfl rfl ?_
        refine y_getX 159 (m 376 18) c203_156 rfl kf376_18 ((hFq13322 376 18 rfl).trans ((hFq13308 376 18 rfl).trans ((hFq13280 376 18 rfl).trans ((hFmz 376 18 rfl).trans ((yup_nk (by decide)).trans (yup_na (by decide))))))) ?_
        refine y_top 1 (by omega) ?_
        refine y_imul 160 c203_159 rfl ?_
        refine y_top 10 (by decide) ?_
        refine y_iload 161 c203_160 rfl rfl ?_
        refine y_iadd 162 c203_161 rfl ?_
        refine y_iaT 163 0 125 c203_162 rfl ka399 (by omega) hTq13322 rfl (fun v13327 hv13327 gv13327 => ?_)
        have gv13327_ : m 399 (10 * 1 + k.toNat) = v13327 := by rw [show 10 * 1 + k.toNat = (10 + k).toNat by omega]; exact (((hFq13322 399 _ rfl).trans ((hFq13308 399 _ rfl).trans ((hFq13280 399 _ rfl).trans ((hFmz 399 _ rfl).trans ((yup_na (by decide)).trans (yup_na (by decide)))))))).symm.trans hv13327
        refine y_putI 166 c203_163 rfl kf376_55 (y_fit0 _) ?_
        have hT13328 := hTq13322.up 376 55 v13327 0 124 rfl (by omega)
        have hF13329 := hF13326.up 376 55 v13327 rfl
        have es13330 : (yup mq13322 376 55 v13327) 376 54 = (m 376 54) + 1 := ((yup_nk (by decide)).trans ((hFq13322 376 54 rfl).trans ((hFq13308 376 54 rfl).trans ((hFq13280 376 54 rfl).trans ((hFmz 376 54 rfl).trans (yup_eq _ _ _ _))))))
        have es13331 : (yup mq13322 376 55 v13327) 376 55 = v13327 := rfl
        have es13332 : (yup mq13322 376 55 v13327) 376 57 = m 376 57 := ((yup_nk (by decide)).trans ((hFq13322 376 57 rfl).trans ((hFq13308 376 57 rfl).trans ((hFq13280 376 57 rfl).trans ((hFmz 376 57 rfl).trans ((yup_nk (by decide)).trans (yup_na (by decide))))))))
        have es13333 : (yup mq13322 376 55 v13327) 376 51 = m 376 51 := ((yup_nk (by decide)).trans ((hFq13322 376 51 rfl).trans ((hFq13308 376 51 rfl).trans ((hFq13280 376 51 rfl).trans ((hFmz 376 51 rfl).trans ((yup_nk (by decide)).trans (yup_na (by decide))))))))
        have e12 : (yup mq13322 376 55 v13327) 412 (m 376 54).toNat = h := ((yup_na (by decide)).trans ((hFq13322 412 _ rfl).trans ((hFq13308 412 _ rfl).trans ((hFq13280 412 _ rfl).trans ((hFmz 412 _ rfl).trans ((yup_na (by decide)).trans (yup_eq _ _ _ _)))))))
        exact y_retU c203_166 ⟨rfl, hT13328, hF13329, (VX.sc hVq13322 (by decide)), by omega, fun q hq => ((yup_na (by decide)).trans ((hFq13322 412 _ rfl).trans ((hFq13308 412 _ rfl).trans ((hFq13280 412 _ rfl).trans ((hFmz 412 _ rfl).trans ((yup_na (by decide)).trans (yup_nk hq)))))))⟩
  · refine y_aload 9 c203_8 rfl rfl rfl ?_
    refine y_iconst 10 c203_9 rfl ?_
    refine y_putI 13 c203_10 rfl kf376_57 (y_fit0 _) ?_
    have hT13334 := hT.up 376 57 4 0 4 rfl (by omega)
    have hF13335 := hF.up 376 57 4 rfl
    have es13336 : (yup m 376 57 4) 376 54 = m 376 54 := rfl
    have es13337 : (yup m 376 57 4) 376 55 = m 376 55 := rfl
    have es13338 : (yup m 376 57 4) 376 57 = 4 := rfl
    have es13339 : (yup m 376 57 4) 376 51 = m 376 51 := rfl
    exact y_retU c203_13 ⟨rfl, hT13334, hF13335, (VX.sc hV (by decide)), by omega, fun q hq => (yup_na (by decide))⟩

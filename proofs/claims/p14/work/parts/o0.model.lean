/-! CONTRACTS: the model, steps. Printed by wip/whole/gen9h.py -/
theorem t121x_0 {L : Nat} {xs : Nat → Int32} {d nn : Nat} {m : yM} {k f : Int} (hT : Ty gT m) (hU : UX 0 m (m 383 0)) (hk : -1 ≤ k ∧ k < m 383 0) (hf : -1 ≤ f ∧ f ≤ 7) : YC (gZ L xs) d 121 [.ref 376, yI 0, yI k, yI f] m nn (qP m nn (fun r => r = 0 ∨ (r = 1 ∧ 0 ≤ f))) := by
  by_cases q : 0 ≤ f
  · exact YC.mono (t121_0 hT hU hk hf) (fun o m' n' h => by obtain ⟨z, e, h1, h2⟩ := h; exact ⟨z, e, by omega, h2⟩)
  · refine YC.mkB [some (.ref 376), some (yI 0), some (yI k), some (yI f), none] kn121 rfl rfl ?_
    refine y_iload 1 c121_0 rfl rfl ?_
    refine y_if 6 4 c121_1 rfl rfl (yz_ge (by omega)) (fun hb => ?_) (fun hb => ?_)
    · exfalso; omega
    · refine y_iconst 5 c121_4 rfl ?_
      exact y_retP c121_5 (y_fit1 (by omega)) (by omega)
set_option maxRecDepth 100000 in
theorem t204_0 {L : Nat} {xs : Nat → Int32} {d nn : Nat} {m : yM} {k u : Int} (hT : Ty gT m) (hn : m 376 18 = 0) (hG : GQ 0 m) (hV : VX 0 m) (hf : 1 ≤ m 376 54) (hBR : BRm 0 m) (hk : 0 ≤ k ∧ k ≤ 9) (hu : 0 ≤ u ∧ u ≤ m 376 51) : YC (gZ L xs) (d + 1) 204 [.ref 376, yI k, yI u] m nn (qU (fun m' n' => n' = nn ∧ Ty gT m' ∧ Fr wLv m m' ∧ VX 0 m' ∧ m' 376 54 = m 376 54 - 1 ∧ (m' 376 54 = 0 ∨ m' 376 55 < m 390 0))) := by
  have tb383 := hT.atp 383 0 0 6 rfl
  have tb384 := hT.atp 384 0 0 10 rfl
  have tb388 := hT.atp 388 0 0 12 rfl
  have tb390 := hT.atp 390 0 0 125 rfl
  have tm51 := hT.atp 376 51 0 30 rfl
  have tm54 := hT.atp 376 54 0 4 rfl
  have tm55 := hT.atp 376 55 0 124 rfl
  have tm56 := hT.atp 376 56 0 201 rfl
  have tm57 := hT.atp 376 57 0 4 rfl
  have g90 : m 390 0 ≤ 100 := hG.2.2.2.2.2.2.2.2.2.2.1
  refine YC.mkB [some (.ref 376), some (yI k), some (yI u), none] kn204 rfl rfl ?_
  have hF : Fr wLv m m := Fr.rf
  refine y_iload 1 c204_0 rfl rfl ?_
  refine y_if 36 4 c204_1 rfl rfl (yz_le (by omega)) (fun hb13340 => ?_) (fun hb13340 => ?_)
  · refine y_aload 37 c204_36 rfl rfl rfl ?_
    refine y_dup 38 c204_37 rfl rfl ?_
    refine y_getX 41 (m 376 54) c204_38 rfl kf376_54 rfl ?_
    refine y_iconst 42 c204_41 rfl ?_
    refine y_isub 43 c204_42 rfl ?_
    refine y_putI 46 c204_43 rfl kf376_54 (y_fit0 _) ?_
    have hT13341 := hT.up 376 54 ((m 376 54) - 1) 0 4 rfl (by omega)
    have hF13342 := hF.up 376 54 ((m 376 54) - 1) rfl
    refine y_aload 47 c204_46 rfl rfl rfl ?_
    refine y_getX 50 ((m 376 54) - 1) c204_47 rfl kf376_54 rfl ?_
    refine y_if 54 53 c204_50 rfl rfl (yz_ne (by omega)) (fun hb13343 => ?_) (fun hb13343 => ?_)
    · refine y_iconst 57 c204_54 rfl ?_
      refine y_aload 58 c204_57 rfl rfl rfl ?_
      refine y_getX 61 (m 376 18) c204_58 rfl kf376_18 rfl ?_
      have tb13344 := hT.atp 376 18 0 1 rfl
      refine y_top 0 (by omega) ?_
      refine y_imul 62 c204_61 rfl ?_
      refine y_top 0 (by decide) ?_
      refine y_iconst 64 c204_62 rfl ?_
      refine y_aload 65 c204_64 rfl rfl rfl ?_
      refine y_getR 68 c204_65 rfl kf376_53 ?_
      refine y_aload 69 c204_68 rfl rfl rfl ?_
      refine y_getX 72 ((m 376 54) - 1) c204_69 rfl kf376_54 rfl ?_
      refine y_iaT 73 0 124 c204_72 rfl ka412 (by omega) hT13341 rfl (fun v13345 hv13345 gv13345 => ?_)
      have gv13345_ : m 412 (m 376 54 - 1).toNat = v13345 := by rw [show (m 376 54 - 1).toNat = ((m 376 54) - 1).toNat by omega]; exact ((yup_na (by decide))).symm.trans hv13345
      have hbr := hBR (m 376 54 - 1).toNat (by omega) (by omega)
      rw [gv13345_] at hbr
      refine y_imul 74 c204_73 rfl ?_
      refine y_iadd 75 c204_74 rfl ?_
      refine y_istore 76 c204_75 rfl rfl ?_
      refine y_aload 77 c204_76 rfl rfl rfl ?_
      refine y_getR 80 c204_77 rfl kf376_40 ?_
      refine y_iload 81 c204_80 rfl rfl ?_
      refine y_iconst 82 c204_81 rfl ?_
      refine y_iadd 83 c204_82 rfl ?_
      refine y_iaT 84 ((-2147483648)) 2147483647 c204_83 rfl ka403 (by omega) hT13341 rfl (fun v13346 hv13346 gv13346 => ?_)
      have hwv13346 := hG.1.1 v13345.toNat (by omega)
      unfold OW at hwv13346
      have hfxv13346 := hG.2.2.2.2.2.2.1 v13345.toNat (by omega)
      have hnsv13346 := hG.2.2.2.2.2.2.2.2.2.2.2 v13345.toNat (by omega)
      have hlev13346 := hG.2.2.1.1 v13345.toNat
      have htgv13346 := hG.2.2.1.2 v13345.toNat (by omega)
      have gv13346_ : m 403 (1000 * 0 + 8 * v13345.toNat + 2) = v13346 := by rw [show 1000 * 0 + 8 * v13345.toNat + 2 = ((0 + (8 * v13345)) + 2).toNat by omega]; exact ((yup_na (by decide))).symm.trans hv13346
      refine y_if 100 87 c204_84 rfl rfl (yz_lt (by omega)) (fun hb13347 => ?_) (fun hb13347 => ?_)
      · refine y_aload 101 c204_100 rfl rfl rfl ?_
        refine y_aload 102 c204_101 rfl rfl rfl ?_
        refine y_getR 105 c204_102 rfl kf376_53 ?_
        refine y_aload 106 c204_105 rfl rfl rfl ?_
        refine y_getX 109 ((m 376 54) - 1) c204_106 rfl kf376_54 rfl ?_
        refine y_iaT 110 0 124 c204_109 rfl ka412 (by omega) hT13341 rfl (fun v13348 hv13348 gv13348 => ?_)
        have gv13348_ : m 412 (m 376 54 - 1).toNat = v13348 := by rw [show (m 376 54 - 1).toNat = ((m 376 54) - 1).toNat by omega]; exact ((yup_na (by decide))).symm.trans hv13348
        refine y_iconst 111 c204_110 rfl ?_
        refine y_iadd 112 c204_111 rfl ?_
        refine y_putI 115 c204_112 rfl kf376_55 (y_fit0 _) ?_
        have hT13349 := hT13341.up 376 55 (v13348 + 1) 0 124 rfl (by omega)
        have hF13350 := hF13342.up 376 55 (v13348 + 1) rfl
        have es13351 : (yup (yup m 376 54 ((m 376 54) - 1)) 376 55 (v13348 + 1)) 376 54 = (m 376 54) - 1 := rfl
        have es13352 : (yup (yup m 376 54 ((m 376 54) - 1)) 376 55 (v13348 + 1)) 376 55 = v13348 + 1 := rfl
        have es13353 : (yup (yup m 376 54 ((m 376 54) - 1)) 376 55 (v13348 + 1)) 376 51 = m 376 51 := rfl
        exact y_retU c204_115 ⟨rfl, hT13349, hF13350, (VX.sc (VX.dne (w := m 376 54) hV (rfl) (by omega)) (by decide)), by omega, by omega⟩
      · refine y_aload 88 c204_87 rfl rfl rfl ?_
        refine y_aload 89 c204_88 rfl rfl rfl ?_
        refine y_getR 92 c204_89 rfl kf376_40 ?_
        refine y_iload 93 c204_92 rfl rfl ?_
        refine y_iconst 94 c204_93 rfl ?_
        refine y_iadd 95 c204_94 rfl ?_
        refine y_iaT 96 ((-2147483648)) 2147483647 c204_95 rfl ka403 (by omega) hT13341 rfl (fun v13354 hv13354 gv13354 => ?_)
        have gv13354_ : m 403 (1000 * 0 + 8 * v13345.toNat + 2) = v13354 := by rw [show 1000 * 0 + 8 * v13345.toNat + 2 = ((0 + (8 * v13345)) + 2).toNat by omega]; exact ((yup_na (by decide))).symm.trans hv13354
        refine y_iload 97 c204_96 rfl rfl ?_
        have es13356 : (yup m 376 54 ((m 376 54) - 1)) 376 51 = m 376 51 := rfl
        have es13357 : (yup m 376 54 ((m 376 54) - 1)) 376 54 = (m 376 54) - 1 := rfl
        have es13358 : (yup m 376 54 ((m 376 54) - 1)) 376 18 = m 376 18 := rfl
        have hVc : VX 0 (yup m 376 54 ((m 376 54) - 1)) := (VX.dne (w := m 376 54) hV (rfl) (by omega))
        refine y_callUB 100 [.ref 376, yI v13354, yI u] [] c204_97 rfl rfl rfl rfl rfl (ycanO km202 ko376) (t202_0 hT13341 hVc (by omega) (by omega) (by omega)) (fun mq13355 nq13355 hq13355 => ?_)
        obtain ⟨rfl, hTq13355, hFq13355, hVq13355⟩ := hq13355
        have hF13359 := hF13342.tr hFq13355 wGv_wLv
        refine y_aload 101 c204_100 rfl rfl rfl ?_
        refine y_aload 102 c204_101 rfl rfl rfl ?_
        refine y_getR 105 c204_102 rfl kf376_53 ?_
        refine y_aload 106 c204_105 rfl rfl rfl ?_
        refine y_getX 109 ((m 376 54) - 1) c204_106 rfl kf376_54 ((hFq13355 376 54 rfl).trans (yup_eq _ _ _ _)) ?_
        refine y_iaT 110 0 124 c204_109 rfl ka412 (by omega) hTq13355 rfl (fun v13360 hv13360 gv13360 => ?_)
        have gv13360_ : m 412 (m 376 54 - 1).toNat = v13360 := by rw [show (m 376 54 - 1).toNat = ((m 376 54) - 1).toNat by omega]; exact (((hFq13355 412 _ rfl).trans (yup_na (by decide)))).symm.trans hv13360
        refine y_iconst 111 c204_110 rfl ?_
        refine y_iadd 112 c204_111 rfl ?_
        refine y_putI 115 c204_112 rfl kf376_55 (y_fit0 _) ?_
        have hT13361 := hTq13355.up 376 55 (v13360 + 1) 0 124 rfl (by omega)
        have hF13362 := hF13359.up 376 55 (v13360 + 1) rfl
        have es13363 : (yup mq13355 376 55 (v13360 + 1)) 376 54 = (m 376 54) - 1 := ((yup_nk (by decide)).trans ((hFq13355 376 54 rfl).trans (yup_eq _ _ _ _)))
        have es13364 : (yup mq13355 376 55 (v13360 + 1)) 376 55 = v13360 + 1 := rfl
        have es13365 : (yup mq13355 376 55 (v13360 + 1)) 376 51 = m 376 51 := ((yup_nk (by decide)).trans ((hFq13355 376 51 rfl).trans (yup_nk (by decide))))
        exact y_retU c204_115 ⟨rfl, hT13361, hF13362, (VX.sc hVq13355 (by decide)), by omega, by omega⟩
    · have es13366 : (yup m 376 54 ((m 376 54) - 1)) 376 54 = (m 376 54) - 1 := rfl
      have es13367 : (yup m 376 54 ((m 376 54) - 1)) 376 55 = m 376 55 := rfl
      have es13368 : (yup m 376 54 ((m 376 54) - 1)) 376 51 = m 376 51 := rfl
      exact y_retU c204_53 ⟨rfl, hT13341, hF13342, (VX.dne (w := m 376 54) hV (rfl) (by omega)), by omega, by omega⟩
  · refine y_aload 5 c204_4 rfl rfl rfl ?_
    refine y_getR 8 c204_5 rfl kf376_48 ?_
    refine y_iconst 10 c204_8 rfl ?_
    refine y_aload 11 c204_10 rfl rfl rfl ?_
    refine y_getR 14 c204_11 rfl kf376_35 ?_
    refine y_iconst 16 c204_14 rfl ?_
    refine y_aload 17 c204_16 rfl rfl rfl ?_
    refine y_getX 20 (m 376 18) c204_17 rfl kf376_18 rfl ?_
    have tb13369 := hT.atp 376 18 0 1 rfl
    refine y_top 0 (by omega) ?_
    refine y_imul 21 c204_20 rfl ?_
    refine y_top 0 (by decide) ?_
    refine y_iload 22 c204_21 rfl rfl ?_
    refine y_iadd 23 c204_22 rfl ?_
    refine y_iaT 24 0 46 c204_23 rfl ka398 (by omega) hT rfl (fun v13370 hv13370 gv13370 => ?_)
    refine y_imul 25 c204_24 rfl ?_
    refine y_aload 26 c204_25 rfl rfl rfl ?_
    refine y_getR 29 c204_26 rfl kf376_49 ?_
    refine y_iload 30 c204_29 rfl rfl ?_
    refine y_iconst 31 c204_30 rfl ?_
    refine y_isub 32 c204_31 rfl ?_
    refine y_iaT 33 0 11 c204_32 rfl ka409 (by omega) hT rfl (fun v13371 hv13371 gv13371 => ?_)
    refine y_iadd 34 c204_33 rfl ?_
    refine y_iconst 35 c204_34 rfl ?_
    refine y_iastore 36 c204_35 rfl ka408 (by omega) (y_nar1 (by omega)) ?_
    have hT13372 := hT.up 408 (((12 * v13370) + v13371).toNat) 1 0 1 rfl (by omega)
    have hF13373 := hF.up 408 (((12 * v13370) + v13371).toNat) 1 rfl
    refine y_aload 37 c204_36 rfl rfl rfl ?_
    refine y_dup 38 c204_37 rfl rfl ?_
    refine y_getX 41 (m 376 54) c204_38 rfl kf376_54 rfl ?_
    refine y_iconst 42 c204_41 rfl ?_
    refine y_isub 43 c204_42 rfl ?_
    refine y_putI 46 c204_43 rfl kf376_54 (y_fit0 _) ?_
    have hT13374 := hT13372.up 376 54 ((m 376 54) - 1) 0 4 rfl (by omega)
    have hF13375 := hF13373.up 376 54 ((m 376 54) - 1) rfl
    refine y_aload 47 c204_46 rfl rfl rfl ?_
    refine y_getX 50 ((m 376 54) - 1) c204_47 rfl kf376_54 rfl ?_
    refine y_if 54 53 c204_50 rfl rfl (yz_ne (by omega)) (fun hb13376 => ?_) (fun hb13376 => ?_)
    · refine y_iconst 57 c204_54 rfl ?_
      refine y_aload 58 c204_57 rfl rfl rfl ?_
      refine y_getX 61 (m 376 18) c204_58 rfl kf376_18 rfl ?_
      refine y_top 0 (by omega) ?_
      refine y_imul 62 c204_61 rfl ?_
      refine y_top 0 (by decide) ?_
      refine y_iconst 64 c204_62 rfl ?_
      refine y_aload 65 c204_64 rfl rfl rfl ?_
      refine y_getR 68 c204_65 rfl kf376_53 ?_
      refine y_aload 69 c204_68 rfl rfl rfl ?_
      refine y_getX 72 ((m 376 54) - 1) c204_69 rfl kf376_54 rfl ?_
      refine y_iaT 73 0 124 c204_72 rfl ka412 (by omega) hT13374 rfl (fun v13377 hv13377 gv13377 => ?_)
      have gv13377_ : m 412 (m 376 54 - 1).toNat = v13377 := by rw [show (m 376 54 - 1).toNat = ((m 376 54) - 1).toNat by omega]; exact (((yup_na (by decide)).trans (yup_na (by decide)))).symm.trans hv13377
      have hbr := hBR (m 376 54 - 1).toNat (by omega) (by omega)
      rw [gv13377_] at hbr
      refine y_imul 74 c204_73 rfl ?_
      refine y_iadd 75 c204_74 rfl ?_
      refine y_istore 76 c204_75 rfl rfl ?_
      refine y_aload 77 c204_76 rfl rfl rfl ?_
      refine y_getR 80 c204_77 rfl kf376_40 ?_
      refine y_iload 81 c204_80 rfl rfl ?_
      refine y_iconst 82 c204_81 rfl ?_
      refine y_iadd 83 c204_82 rfl ?_
      refine y_iaT 84 ((-2147483648)) 2147483647 c204_83 rfl ka403 (by omega) hT13374 rfl (fun v13378 hv13378 gv13378 => ?_)
      have hwv13378 := hG.1.1 v13377.toNat (by omega)
      unfold OW at hwv13378
      have hfxv13378 := hG.2.2.2.2.2.2.1 v13377.toNat (by omega)
      have hnsv13378 := hG.2.2.2.2.2.2.2.2.2.2.2 v13377.toNat (by omega)
      have hlev13378 := hG.2.2.1.1 v13377.toNat
      have htgv13378 := hG.2.2.1.2 v13377.toNat (by omega)
      have gv13378_ : m 403 (1000 * 0 + 8 * v13377.toNat + 2) = v13378 := by rw [show 1000 * 0 + 8 * v13377.toNat + 2 = ((0 + (8 * v13377)) + 2).toNat by omega]; exact (((yup_na (by decide)).trans (yup_na (by decide)))).symm.trans hv13378
      refine y_if 100 87 c204_84 rfl rfl (yz_lt (by omega)) (fun hb13379 => ?_) (fun hb13379 => ?_)
      · refine y_aload 101 c204_100 rfl rfl rfl ?_
        refine y_aload 102 c204_101 rfl rfl rfl ?_
        refine y_getR 105 c204_102 rfl kf376_53 ?_
        refine y_aload 106 c204_105 rfl rfl rfl ?_
        refine y_getX 109 ((m 376 54) - 1) c204_106 rfl kf376_54 rfl ?_
        refine y_iaT 110 0 124 c204_109 rfl ka412 (by omega) hT13374 rfl (fun v13380 hv13380 gv13380 => ?_)
        have gv13380_ : m 412 (m 376 54 - 1).toNat = v13380 := by rw [show (m 376 54 - 1).toNat = ((m 376 54) - 1).toNat by omega]; exact (((yup_na (by decide)).trans (yup_na (by decide)))).symm.trans hv13380
        refine y_iconst 111 c204_110 rfl ?_
        refine y_iadd 112 c204_111 rfl ?_
        refine y_putI 115 c204_112 rfl kf376_55 (y_fit0 _) ?_
        have hT13381 := hT13374.up 376 55 (v13380 + 1) 0 124 rfl (by omega)
        have hF13382 := hF13375.up 376 55 (v13380 + 1) rfl
        have es13383 : (yup (yup (yup m 408 (((12 * v13370) + v13371).toNat) 1) 376 54 ((m 376 54) - 1)) 376 55 (v13380 + 1)) 376 54 = (m 376 54) - 1 := rfl
        have es13384 : (yup (yup (yup m 408 (((12 * v13370) + v13371).toNat) 1) 376 54 ((m 376 54) - 1)) 376 55 (v13380 + 1)) 376 55 = v13380 + 1 := rfl
        have es13385 : (yup (yup (yup m 408 (((12 * v13370) + v13371).toNat) 1) 376 54 ((m 376 54) - 1)) 376 55 (v13380 + 1)) 376 51 = m 376 51 := rfl
        exact y_retU c204_115 ⟨rfl, hT13381, hF13382, (VX.sc (VX.dne (w := m 376 54) (VX.na hV (by decide)) (rfl) (by omega)) (by decide)), by omega, by omega⟩
      · refine y_aload 88 c204_87 rfl rfl rfl ?_
        refine y_aload 89 c204_88 rfl rfl rfl ?_
        refine y_getR 92 c204_89 rfl kf376_40 ?_
        refine y_iload 93 c204_92 rfl rfl ?_
        refine y_iconst 94 c204_93 rfl ?_
        refine y_iadd 95 c204_94 rfl ?_
        refine y_iaT 96 ((-2147483648)) 2147483647 c204_95 rfl ka403 (by omega) hT13374 rfl (fun v13386 hv13386 gv13386 => ?_)
        have gv13386_ : m 403 (1000 * 0 + 8 * v13377.toNat + 2) = v13386 := by rw [show 1000 * 0 + 8 * v13377.toNat + 2 = ((0 + (8 * v13377)) + 2).toNat by omega]; exact (((yup_na (by decide)).trans (yup_na (by decide)))).symm.trans hv13386
        refine y_iload 97 c204_96 rfl rfl ?_
        have es13388 : (yup (yup m 408 (((12 * v13370) + v13371).toNat) 1) 376 54 ((m 376 54) - 1)) 376 51 = m 376 51 := rfl
        have es13389 : (yup (yup m 408 (((12 * v13370) + v13371).toNat) 1) 376 54 ((m 376 54) - 1)) 376 54 = (m 376 54) - 1 := rfl
        have es13390 : (yup (yup m 408 (((12 * v13370) + v13371).toNat) 1) 376 54 ((m 376 54) - 1)) 376 18 = m 376 18 := rfl
        have hVc : VX 0 (yup (yup m 408 (((12 * v13370) + v13371).toNat) 1) 376 54 ((m 376 54) - 1)) := (VX.dne (w := m 376 54) (VX.na hV (by decide)) (rfl) (by omega))
        refine y_callUB 100 [.ref 376, yI v13386, yI u] [] c204_97 rfl rfl rfl rfl rfl (ycanO km202 ko376) (t202_0 hT13374 hVc (by omega) (by omega) (by omega)) (fun mq13387 nq13387 hq13387 => ?_)
        obtain ⟨rfl, hTq13387, hFq13387, hVq13387⟩ := hq13387
        have hF13391 := hF13375.tr hFq13387 wGv_wLv
        refine y_aload 101 c204_100 rfl rfl rfl ?_
        refine y_aload 102 c204_101 rfl rfl rfl ?_
        refine y_getR 105 c204_102 rfl kf376_53 ?_
        refine y_aload 106 c204_105 rfl rfl rfl ?_
        refine y_getX 109 ((m 376 54) - 1) c204_106 rfl kf376_54 ((hFq13387 376 54 rfl).trans (yup_eq _ _ _ _)) ?_
        refine y_iaT 110 0 124 c204_109 rfl ka412 (by omega) hTq13387 rfl (fun v13392 hv13392 gv13392 => ?_)
        have gv13392_ : m 412 (m 376 54 - 1).toNat = v13392 := by rw [show (m 376 54 - 1).toNat = ((m 376 54) - 1).toNat by omega]; exact (((hFq13387 412 _ rfl).trans ((yup_na (by decide)).trans (yup_na (by decide))))).symm.trans hv13392
        refine y_iconst 111 c204_110 rfl ?_
        refine y_iadd 112 c204_111 rfl ?_
        refine y_putI 115 c204_112 rfl kf376_55 (y_fit0 _) ?_
        have hT13393 := hTq13387.up 376 55 (v13392 + 1) 0 124 rfl (by omega)
        have hF13394 := hF13391.up 376 55 (v13392 + 1) rfl
        have es13395 : (yup mq13387 376 55 (v13392 + 1)) 376 54 = (m 376 54) - 1 := ((yup_nk (by decide)).trans ((hFq13387 376 54 rfl).trans (yup_eq _ _ _ _)))
        have es13396 : (yup mq13387 376 55 (v13392 + 1)) 376 55 = v13392 + 1 := rfl
        have es13397 : (yup mq13387 376 55 (v13392 + 1)) 376 51 = m 376 51 := ((yup_nk (by decide)).trans ((hFq13387 376 51 rfl).trans ((yup_nk (by decide)).trans (yup_na (by decide)))))
        exact y_retU c204_115 ⟨rfl, hT13393, hF13394, (VX.sc hVq13387 (by decide)), by omega, by omega⟩
    · have es13398 : (yup (yup m 408 (((12 * v13370) + v13371).toNat) 1) 376 54 ((m 376 54) - 1)) 376 54 = (m 376 54) - 1 := rfl
      have es13399 : (yup (yup m 408 (((12 * v13370) + v13371).toNat) 1) 376 54 ((m 376 54) - 1)) 376 55 = m 376 55 := rfl
      have es13400 : (yup (yup m 408 (((12 * v13370) + v13371).toNat) 1) 376 54 ((m 376 54) - 1)) 376 51 = m 376 51 := rfl
      exact y_retU c204_53 ⟨rfl, hT13374, hF13375, (VX.dne (w := m 376 54) (VX.na hV (by decide)) (rfl) (by omega)), by omega, by omega⟩
set_option maxRecDepth 100000 in
theorem t207_0 {L : Nat} {xs : Nat → Int32} {d nn : Nat} {m : yM} {k : Int} (hT : Ty gT m) (hn : m 376 18 = 0) (hG : GQ 0 m) (hV : VX 0 m) (hf : 1 ≤ m 376 54) (hko : 0 ≤ k ∧ k < m 390 0) (h7 : m 403 (1000 * 0 + 8 * k.toNat) = 7) : YC (gZ L xs) (d + 2) 207 [.ref 376, yI (0 + 8 * k)] m nn (qU (fun m' n' => n' = nn ∧ Ty gT m' ∧ Fr wEn m m' ∧ VX 0 m' ∧ (m' 376 57 ≠ 0 ∨ (m' 376 54 = m 376 54 + 1 ∧ m' 376 55 < m 390 0 ∧ m' 412 (m 376 54).toNat = m 376 55)) ∧ ∀ q, q ≠ (m 376 54).toNat → m' 412 q = m 412 q)) := by
  have tb383 := hT.atp 383 0 0 6 rfl
  have tb384 := hT.atp 384 0 0 10 rfl
  have tb388 := hT.atp 388 0 0 12 rfl
  have tb390 := hT.atp 390 0 0 125 rfl
  have tm51 := hT.atp 376 51 0 30 rfl
  have tm54 := hT.atp 376 54 0 4 rfl
  have tm55 := hT.atp 376 55 0 124 rfl
  have tm56 := hT.atp 376 56 0 201 rfl
  have tm57 := hT.atp 376 57 0 4 rfl
  have g90 : m 390 0 ≤ 100 := hG.2.2.2.2.2.2.2.2.2.2.1
  refine YC.mkB [some (.ref 376), some (yI (0 + 8 * k)), none, none, none, none, none] kn207 rfl rfl ?_
  have hF : Fr wEn m m := Fr.rf
  refine y_aload 1 c207_0 rfl rfl rfl ?_
  refine y_aload 2 c207_1 rfl rfl rfl ?_
  refine y_getR 5 c207_2 rfl kf376_40 ?_
  refine y_iload 6 c207_5 rfl rfl ?_
  refine y_iconst 7 c207_6 rfl ?_
  refine y_iadd 8 c207_7 rfl ?_
  refine y_iaT 9 ((-2147483648)) 2147483647 c207_8 rfl ka403 (by omega) hT rfl (fun v13401 hv13401 gv13401 => ?_)
  have hwv13401 := hG.1.1 k.toNat (by omega)
  unfold OW at hwv13401
  have hfxv13401 := hG.2.2.2.2.2.2.1 k.toNat (by omega)
  have hnsv13401 := hG.2.2.2.2.2.2.2.2.2.2.2 k.toNat (by omega)
  have hlev13401 := hG.2.2.1.1 k.toNat
  have htgv13401 := hG.2.2.1.2 k.toNat (by omega)
  have gv13401_ : m 403 (1000 * 0 + 8 * k.toNat + 3) = v13401 := by rw [show 1000 * 0 + 8 * k.toNat + 3 = ((0 + 8 * k) + 3).toNat by omega]; exact (rfl).symm.trans hv13401
  have tb13402 := hT.atp 376 18 0 1 rfl
  have hVg : VX 0 m := hV
  refine y_callP 12 [.ref 376, yI v13401] [] c207_9 rfl rfl rfl rfl rfl (ycanO km205 ko376) (t205_0 hT hVg (by omega) (by omega)) (fun r13403 hr13403 => ?_)
  refine y_istore 13 c207_12 rfl rfl ?_
  refine y_aload 14 c207_13 rfl rfl rfl ?_
  refine y_iload 15 c207_14 rfl rfl ?_
  refine y_if 22 18 c207_15 rfl rfl (yz_le (by omega)) (fun hb13404 => ?_) (fun hb13404 => ?_)
  · refine y_iconst 23 c207_22 rfl ?_
    refine y_iconst 24 c207_23 rfl ?_
    refine y_inlB 27 [.ref 376, yI 0, yI 1] [] [some (.ref 376), some (yI 0), some (yI 1)] c207_24 rfl rfl rfl rfl rfl (ycanO km23 ko376) kn23 rfl rfl ?_
    refine y_aload 1 c23_0 rfl rfl rfl ?_
    refine y_iload 2 c23_1 rfl rfl ?_
    refine y_if 9 5 c23_2 rfl rfl (yz_eq (by omega)) (fun hb13405 => ?_) (fun hb13405 => ?_)
    · refine y_iload 10 c23_9 rfl rfl ?_
      refine y_putI 13 c23_10 rfl kf376_57 (y_fit0 _) ?_
      have hT13406 := hT.up 376 57 1 0 4 rfl (by omega)
      have hF13407 := hF.up 376 57 1 rfl
      refine y_iload 14 c23_13 rfl rfl ?_
      refine y_ireturnK c23_14 (y_fit1 (by omega)) ?_
      refine y_if 31 30 c207_27 rfl rfl (yz_ne (by omega)) (fun hb13408 => ?_) (fun hb13408 => ?_)
      · exfalso; omega
      · have es13409 : (yup m 376 57 1) 376 57 = 1 := rfl
        have es13410 : (yup m 376 57 1) 376 54 = m 376 54 := rfl
        have es13411 : (yup m 376 57 1) 376 55 = m 376 55 := rfl
        exact y_retU c207_30 ⟨rfl, hT13406, hF13407, (VX.sc hV (by decide)), Or.inl (by omega), fun q hq => (yup_na (by decide))⟩
    · exfalso; omega
  · refine y_iconst 19 c207_18 rfl ?_
    refine y_goto 23 c207_19 rfl ?_
    refine y_iconst 24 c207_23 rfl ?_
    refine y_inlB 27 [.ref 376, yI 1, yI 1] [] [some (.ref 376), some (yI 1), some (yI 1)] c207_24 rfl rfl rfl rfl rfl (ycanO km23 ko376) kn23 rfl rfl ?_
    refine y_aload 1 c23_0 rfl rfl rfl ?_
    refine y_iload 2 c23_1 rfl rfl ?_
    refine y_if 9 5 c23_2 rfl rfl (yz_eq (by omega)) (fun hb13412 => ?_) (fun hb13412 => ?_)
    · exfalso; omega
    · refine y_iconst 6 c23_5 rfl ?_
      refine y_goto 10 c23_6 rfl ?_
      refine y_putI 13 c23_10 rfl kf376_57 (y_fit0 _) ?_
      have hT13413 := hT.up 376 57 0 0 4 rfl (by omega)
      have hF13414 := hF.up 376 57 0 rfl
      refine y_iload 14 c23_13 rfl rfl ?_
      refine y_ireturnK c23_14 (y_fit1 (by omega)) ?_
      refine y_if 31 30 c207_27 rfl rfl (yz_ne (by omega)) (fun hb13415 => ?_) (fun hb13415 => ?_)
      · refine y_aload 32 c207_31 rfl rfl rfl ?_
        refine y_getR 35 c207_32 rfl kf376_40 ?_
        refine y_iload 36 c207_35 rfl rfl ?_
        refine y_iconst 37 c207_36 rfl ?_
        refine y_iadd 38 c207_37 rfl ?_
        refine y_iaT 39 ((-2147483648)) 2147483647 c207_38 rfl ka403 (by omega) hT13413 rfl (fun v13416 hv13416 gv13416 => ?_)
        have gv13416_ : m 403 (1000 * 0 + 8 * k.toNat + 5) = v13416 := by rw [show 1000 * 0 + 8 * k.toNat + 5 = ((0 + 8 * k) + 5).toNat by omega]; exact ((yup_na (by decide))).symm.trans hv13416
        refine y_iconst 41 c207_39 rfl ?_
        refine y_irem 42 c207_41 rfl (by omega) (by omega) ?_
        refine y_istore 43 c207_42 rfl rfl ?_
        refine y_aload 44 c207_43 rfl rfl rfl ?_
        refine y_aload 45 c207_44 rfl rfl rfl ?_
        refine y_getX 48 (m 376 18) c207_45 rfl kf376_18 rfl ?_
        refine y_top 0 (by omega) ?_
        refine y_aload 49 c207_48 rfl rfl rfl ?_
        refine y_iload 50 c207_49 rfl rfl ?_
        have es13417 : (yup m 376 57 0) 376 51 = m 376 51 := rfl
        have es13418 : (yup m 376 57 0) 376 54 = m 376 54 := rfl
        have es13419 : (yup m 376 57 0) 376 18 = m 376 18 := rfl
        have es13420 : (yup m 376 57 0) 383 0 = m 383 0 := rfl
        have hVg : VX 0 (yup m 376 57 0) := (VX.sc hV (by decide))
        refine y_callP 53 [.ref 376, yI r13403] [yI 0, .ref 376] c207_50 rfl rfl rfl rfl rfl (ycanO km206 ko376) (t206_0 hT13413 (by omega) (hG.fr hT (by decide) (fun a q ha => hF13414 a q (wEn_G2 a q ha))) hVg (by omega)) (fun r13421 hr13421 => ?_)
        refine y_aload 54 c207_53 rfl rfl rfl ?_
        refine y_getR 57 c207_54 rfl kf376_40 ?_
        refine y_iload 58 c207_57 rfl rfl ?_
        refine y_iconst 59 c207_58 rfl ?_
        refine y_iadd 60 c207_59 rfl ?_
        refine y_iaT 61 ((-2147483648)) 2147483647 c207_60 rfl ka403 (by omega) hT13413 rfl (fun v13422 hv13422 gv13422 => ?_)
        have gv13422_ : m 403 (1000 * 0 + 8 * k.toNat + 4) = v13422 := by rw [show 1000 * 0 + 8 * k.toNat + 4 = ((0 + 8 * k) + 4).toNat by omega]; exact ((yup_na (by decide))).symm.trans hv13422
        refine y_iload 62 c207_61 rfl rfl ?_
        have es13423 : (yup m 376 57 0) 383 0 = m 383 0 := rfl
        have es13424 : (yup m 376 57 0) 384 0 = m 384 0 := rfl
        refine y_callP 65 [.ref 376, yI 0, yI r13421, yI v13422, yI (v13416 % 16)] [] c207_62 rfl rfl rfl rfl rfl (ycanO km142 ko376) (t142_0 hT13413 (by rw [show (yup m 376 57 0) 383 0 = m 383 0 from rfl]; exact hG.2.2.2.2.1.fr (fun q => (yup_na (by decide)))) (by omega) (by omega) (by omega)) (fun r13425 hr13425 => ?_)
        refine y_istore 67 c207_65 rfl rfl ?_
        refine y_aload 68 c207_67 rfl rfl rfl ?_
        refine y_iload 70 c207_68 rfl rfl ?_
        refine y_if 77 73 c207_70 rfl rfl (yz_lt (by omega)) (fun hb13426 => ?_) (fun hb13426 => ?_)
        · refine y_iconst 78 c207_77 rfl ?_
          refine y_iconst 79 c207_78 rfl ?_
          refine y_inlB 82 [.ref 376, yI 0, yI 3] [] [some (.ref 376), some (yI 0), some (yI 3)] c207_79 rfl rfl rfl rfl rfl (ycanO km23 ko376) kn23 rfl rfl ?_
          refine y_aload 1 c23_0 rfl rfl rfl ?_
          refine y_iload 2 c23_1 rfl rfl ?_
          refine y_if 9 5 c23_2 rfl rfl (yz_eq (by omega)) (fun hb13427 => ?_) (fun hb13427 => ?_)
          · refine y_iload 10 c23_9 rfl rfl ?_
            refine y_putI 13 c23_10 rfl kf376_57 (y_fit0 _) ?_
            have hT13428 := hT13413.up 376 57 3 0 4 rfl (by omega)
            have hF13429 := hF13414.up 376 57 3 rfl
            refine y_iload 14 c23_13 rfl rfl ?_
            refine y_ireturnK c23_14 (y_fit1 (by omega)) ?_
            refine y_if 86 85 c207_82 rfl rfl (yz_ne (by omega)) (fun hb13430 => ?_) (fun hb13430 => ?_)
            · exfalso; omega
            · have es13431 : (yup (yup m 376 57 0) 376 57 3) 376 57 = 3 := rfl
              have es13432 : (yup (yup m 376 57 0) 376 57 3) 376 54 = m 376 54 := rfl
              have es13433 : (yup (yup m 376 57 0) 376 57 3) 376 55 = m 376 55 := rfl
              exact y_retU c207_85 ⟨rfl, hT13428, hF13429, (VX.sc (VX.sc hV (by decide)) (by decide)), Or.inl (by omega), fun q hq => ((yup_na (by decide)).trans (yup_na (by decide)))⟩
          · exfalso; omega
        · refine y_iconst 74 c207_73 rfl ?_
          refine y_goto 78 c207_74 rfl ?_
          refine y_iconst 79 c207_78 rfl ?_
          refine y_inlB 82 [.ref 376, yI 1, yI 3] [] [some (.ref 376), some (yI 1), some (yI 3)] c207_79 rfl rfl rfl rfl rfl (ycanO km23 ko376) kn23 rfl rfl ?_
          refine y_aload 1 c23_0 rfl rfl rfl ?_
          refine y_iload 2 c23_1 rfl rfl ?_
          refine y_if 9 5 c23_2 rfl rfl (yz_eq (by omega)) (fun hb13434 => ?_) (fun hb13434 => ?_)
          · exfalso; omega
          · refine y_iconst 6 c23_5 rfl ?_
            refine y_goto 10 c23_6 rfl ?_
            refine y_putI 13 c23_10 rfl kf376_57 (y_fit0 _) ?_
            have hT13435 := hT13413.up 376 57 0 0 4 rfl (by omega)
            have hF13436 := hF13414.up 376 57 0 rfl
            refine y_iload 14 c23_13 rfl rfl ?_
            refine y_ireturnK c23_14 (y_fit1 (by omega)) ?_
            refine y_if 86 85 c207_82 rfl rfl (yz_ne (by omega)) (fun hb13437 => ?_) (fun hb13437 => ?_)
            · refine y_iload 87 c207_86 rfl rfl ?_
              refine y_if 106 90 c207_87 rfl rfl (yz_le (by omega)) (fun hb13438 => ?_) (fun hb13438 => ?_)
              · refine y_iconst 107 c207_106 rfl ?_
                refine y_istore 109 c207_107 rfl rfl ?_
                refine y_iload 110 c207_109 rfl rfl ?_
                refine y_iconst 111 c207_110 rfl ?_
                refine y_icmp 130 114 c207_111 rfl rfl (yc_le (by omega) (by omega)) (fun hb13439 => ?_) (fun hb13439 => ?_)
                · refine y_iconst 131 c207_130 rfl ?_
                  refine y_istore 133 c207_131 rfl rfl ?_
                  refine y_aload 134 c207_133 rfl rfl rfl ?_
                  refine y_iload 136 c207_134 rfl rfl ?_
                  refine y_iload 137 c207_136 rfl rfl ?_
                  refine y_iload 139 c207_137 rfl rfl ?_
                  refine y_iload 141 c207_139 rfl rfl ?_
                  refine y_aload 142 c207_141 rfl rfl rfl ?_
                  refine y_getX 145 (m 376 55) c207_142 rfl kf376_55 rfl ?_
                  have es13441 : (yup (yup m 376 57 0) 376 57 0) 376 51 = m 376 51 := rfl
                  have es13442 : (yup (yup m 376 57 0) 376 57 0) 376 54 = m 376 54 := rfl
                  have es13443 : (yup (yup m 376 57 0) 376 57 0) 376 18 = m 376 18 := rfl
                  have es13444 : (yup (yup m 376 57 0) 376 57 0) 384 0 = m 384 0 := rfl
                  have es13445 : (yup (yup m 376 57 0) 376 57 0) 390 0 = m 390 0 := rfl
                  have es13446 : (yup (yup m 376 57 0) 376 57 0) 376 57 = 0 := rfl
                  have es13447 : (yup (yup m 376 57 0) 376 57 0) 376 55 = m 376 55 := rfl
                  have hVc : VX 0 (yup (yup m 376 57 0) 376 57 0) := (VX.sc (VX.sc hV (by decide)) (by decide))
                  refine y_callUB 148 [.ref 376, yI r13425, yI r13403, yI 0, yI 0, yI (m 376 55)] [] c207_145 rfl rfl rfl rfl rfl (ycanO km203 ko376) (t203_0 hT13435 (by omega) (hG.fr hT (by decide) (fun a q ha => hF13436 a q (wEn_G2 a q ha))) hVc (by omega) (by omega) (by omega) (by omega) (by omega)) (fun mq13440 nq13440 hq13440 => ?_)
                  obtain ⟨rfl, hTq13440, hFq13440, hVq13440, hq13440, hqq13440⟩ := hq13440
                  have hF13448 := hF13436.tr hFq13440 (fun _ _ e => e)
                  have tb13449 := hTq13440.atp 376 57 0 4 rfl
                  have tb13450 := hTq13440.atp 376 54 0 4 rfl
                  have tb13451 := hTq13440.atp 376 55 0 124 rfl
                  have e54 : (yup (yup m 376 57 0) 376 57 0) 376 54 = m 376 54 := rfl
                  have e57 : (yup (yup m 376 57 0) 376 57 0) 376 57 = 0 := rfl
                  rw [e54] at hq13440 hqq13440
                  refine y_retU c207_148 ⟨rfl, hTq13440, hF13448, hVq13440, ?_, fun q hq => (hqq13440 q hq).trans (((yup_na (by decide)).trans (yup_na (by decide))))⟩
                  rcases hq13440 with z | z
                  · exact Or.inl (by omega)
                  · exact Or.inr ⟨z.2.1, by omega, z.2.2.2⟩
                · exfalso; omega
              · refine y_aload 91 c207_90 rfl rfl rfl ?_
                refine y_aload 92 c207_91 rfl rfl rfl ?_
                refine y_getR 95 c207_92 rfl kf376_40 ?_
                refine y_iload 96 c207_95 rfl rfl ?_
                refine y_iconst 98 c207_96 rfl ?_
                refine y_iadd 99 c207_98 rfl ?_
                refine y_iaT 100 ((-2147483648)) 2147483647 c207_99 rfl ka403 (by omega) hT13435 rfl (fun v13452 hv13452 gv13452 => ?_)
                have gv13452_ : m 403 (1000 * 0 + 8 * k.toNat + 6) = v13452 := by rw [show 1000 * 0 + 8 * k.toNat + 6 = ((0 + 8 * k) + 6).toNat by omega]; exact (((yup_na (by decide)).trans (yup_na (by decide)))).symm.trans hv13452
                have es13453 : (yup (yup m 376 57 0) 376 57 0) 376 51 = m 376 51 := rfl
                have es13454 : (yup (yup m 376 57 0) 376 57 0) 376 54 = m 376 54 := rfl
                have es13455 : (yup (yup m 376 57 0) 376 57 0) 376 18 = m 376 18 := rfl
                have hVg : VX 0 (yup (yup m 376 57 0) 376 57 0) := (VX.sc (VX.sc hV (by decide)) (by decide))
                refine y_callP 103 [.ref 376, yI v13452] [] c207_100 rfl rfl rfl rfl rfl (ycanO km205 ko376) (t205_0 hT13435 hVg (by omega) (by omega)) (fun r13456 hr13456 => ?_)
                refine y_goto 107 c207_103 rfl ?_
                refine y_istore 109 c207_107 rfl rfl ?_
                refine y_iload 110 c207_109 rfl rfl ?_
                refine y_iconst 111 c207_110 rfl ?_
                refine y_icmp 130 114 c207_111 rfl rfl (yc_le (by omega) (by omega)) (fun hb13457 => ?_) (fun hb13457 => ?_)
                · refine y_iconst 131 c207_130 rfl ?_
                  refine y_istore 133 c207_131 rfl rfl ?_
                  refine y_aload 134 c207_133 rfl rfl rfl ?_
                  refine y_iload 136 c207_134 rfl rfl ?_
                  refine y_iload 137 c207_136 rfl rfl ?_
                  refine y_iload 139 c207_137 rfl rfl ?_
                  refine y_iload 141 c207_139 rfl rfl ?_
                  refine y_aload 142 c207_141 rfl rfl rfl ?_
                  refine y_getX 145 (m 376 55) c207_142 rfl kf376_55 rfl ?_
                  have es13459 : (yup (yup m 376 57 0) 376 57 0) 376 51 = m 376 51 := rfl
                  have es13460 : (yup (yup m 376 57 0) 376 57 0) 376 54 = m 376 54 := rfl
                  have es13461 : (yup (yup m 376 57 0) 376 57 0) 376 18 = m 376 18 := rfl
                  have es13462 : (yup (yup m 376 57 0) 376 57 0) 384 0 = m 384 0 := rfl
                  have es13463 : (yup (yup m 376 57 0) 376 57 0) 390 0 = m 390 0 := rfl
                  have es13464 : (yup (yup m 376 57 0) 376 57 0) 376 57 = 0 := rfl
                  have es13465 : (yup (yup m 376 57 0) 376 57 0) 376 55 = m 376 55 := rfl
                  have hVc : VX 0 (yup (yup m 376 57 0) 376 57 0) := (VX.sc (VX.sc hV (by decide)) (by decide))
                  refine y_callUB 148 [.ref 376, yI r13425, yI r13403, yI r13456, yI 0, yI (m 376 55)] [] c207_145 rfl rfl rfl rfl rfl (ycanO km203 ko376) (t203_0 hT13435 (by omega) (hG.fr hT (by decide) (fun a q ha => hF13436 a q (wEn_G2 a q ha))) hVc (by omega) (by omega) (by omega) (by omega) (by omega)) (fun mq13458 nq13458 hq13458 => ?_)
                  obtain ⟨rfl, hTq13458, hFq13458, hVq13458, hq13458, hqq13458⟩ := hq13458
                  have hF13466 := hF13436.tr hFq13458 (fun _ _ e => e)
                  have tb13467 := hTq13458.atp 376 57 0 4 rfl
                  have tb13468 := hTq13458.atp 376 54 0 4 rfl
                  have tb13469 := hTq13458.atp 376 55 0 124 rfl
                  have e54 : (yup (yup m 376 57 0) 376 57 0) 376 54 = m 376 54 := rfl
                  have e57 : (yup (yup m 376 57 0) 376 57 0) 376 57 = 0 := rfl
                  rw [e54] at hq13458 hqq13458
                  refine y_retU c207_148 ⟨rfl, hTq13458, hF13466, hVq13458, ?_, fun q hq => (hqq13458 q hq).trans (((yup_na (by decide)).trans (yup_na (by decide))))⟩
                  rcases hq13458 with z | z
                  · exact Or.inl (by omega)
                  · exact Or.inr ⟨z.2.1, by omega, z.2.2.2⟩
                · refine y_aload 115 c207_114 rfl rfl rfl ?_
                  refine y_aload 116 c207_115 rfl rfl rfl ?_
                  refine y_getR 119 c207_116 rfl kf376_40 ?_
                  refine y_iload 120 c207_119 rfl rfl ?_
                  refine y_iconst 122 c207_120 rfl ?_
                  refine y_iadd 123 c207_122 rfl ?_
                  refine y_iaT 124 ((-2147483648)) 2147483647 c207_123 rfl ka403 (by omega) hT13435 rfl (fun v13470 hv13470 gv13470 => ?_)
                  have gv13470_ : m 403 (1000 * 0 + 8 * k.toNat + 7) = v13470 := by rw [show 1000 * 0 + 8 * k.toNat + 7 = ((0 + 8 * k) + 7).toNat by omega]; exact (((yup_na (by decide)).trans (yup_na (by decide)))).symm.trans hv13470
                  have es13471 : (yup (yup m 376 57 0) 376 57 0) 376 51 = m 376 51 := rfl
                  have es13472 : (yup (yup m 376 57 0) 376 57 0) 376 54 = m 376 54 := rfl
                  have es13473 : (yup (yup m 376 57 0) 376 57 0) 376 18 = m 376 18 := rfl
                  have hVg : VX 0 (yup (yup m 376 57 0) 376 57 0) := (VX.sc (VX.sc hV (by decide)) (by decide))
                  refine y_callP 127 [.ref 376, yI v13470] [] c207_124 rfl rfl rfl rfl rfl (ycanO km205 ko376) (t205_0 hT13435 hVg (by omega) (by omega)) (fun r13474 hr13474 => ?_)
                  refine y_goto 131 c207_127 rfl ?_
                  refine y_istore 133 c207_131 rfl rfl ?_
                  refine y_aload 134 c207_133 rfl rfl rfl ?_
                  refine y_iload 136 c207_134 rfl rfl ?_
                  refine y_iload 137 c207_136 rfl rfl ?_
                  refine y_iload 139 c207_137 rfl rfl ?_
                  refine y_iload 141 c207_139 rfl rfl ?_
                  refine y_aload 142 c207_141 rfl rfl rfl ?_
                  refine y_getX 145 (m 376 55) c207_142 rfl kf376_55 rfl ?_
                  have es13476 : (yup (yup m 376 57 0) 376 57 0) 376 51 = m 376 51 := rfl
                  have es13477 : (yup (yup m 376 57 0) 376 57 0) 376 54 = m 376 54 := rfl
                  have es13478 : (yup (yup m 376 57 0) 376 57 0) 376 18 = m 376 18 := rfl
                  have es13479 : (yup (yup m 376 57 0) 376 57 0) 384 0 = m 384 0 := rfl
                  have es13480 : (yup (yup m 376 57 0) 376 57 0) 390 0 = m 390 0 := rfl
                  have es13481 : (yup (yup m 376 57 0) 376 57 0) 376 57 = 0 := rfl
                  have es13482 : (yup (yup m 376 57 0) 376 57 0) 376 55 = m 376 55 := rfl
                  have hVc : VX 0 (yup (yup m 376 57 0) 376 57 0) := (VX.sc (VX.sc hV (by decide)) (by decide))
                  refine y_callUB 148 [.ref 376, yI r13425, yI r13403, yI r13456, yI r13474, yI (m 376 55)] [] c207_145 rfl rfl rfl rfl rfl (ycanO km203 ko376) (t203_0 hT13435 (by omega) (hG.fr hT (by decide) (fun a q ha => hF13436 a q (wEn_G2 a q ha))) hVc (by omega) (by omega) (by omega) (by omega) (by omega)) (fun mq13475 nq13475 hq13475 => ?_)
                  obtain ⟨rfl, hTq13475, hFq13475, hVq13475, hq13475, hqq13475⟩ := hq13475
                  have hF13483 := hF13436.tr hFq13475 (fun _ _ e => e)
                  have tb13484 := hTq13475.atp 376 57 0 4 rfl
                  have tb13485 := hTq13475.atp 376 54 0 4 rfl
                  have tb13486 := hTq13475.atp 376 55 0 124 rfl
                  have e54 : (yup (yup m 376 57 0) 376 57 0) 376 54 = m 376 54 := rfl
                  have e57 : (yup (yup m 376 57 0) 376 57 0) 376 57 = 0 := rfl
                  rw [e54] at hq13475 hqq13475
                  refine y_retU c207_148 ⟨rfl, hTq13475, hF13483, hVq13475, ?_, fun q hq => (hqq13475 q hq).trans (((yup_na (by decide)).trans (yup_na (by decide))))⟩
                  rcases hq13475 with z | z
                  · exact Or.inl (by omega)
                  · exact Or.inr ⟨z.2.1, by omega, z.2.2.2⟩
            · exfalso; omega
      · exfalso; omega
theorem t121x_1 {L : Nat} {xs : Nat → Int32} {d nn : Nat} {m : yM} {k f : Int} (hT : Ty gT m) (hU : UX 1 m (m 383 1)) (hk : -1 ≤ k ∧ k < m 383 1) (hf : -1 ≤ f ∧ f ≤ 7) : YC (gZ L xs) d 121 [.ref 376, yI 1, yI k, yI f] m nn (qP m nn (fun r => r = 0 ∨ (r = 1 ∧ 0 ≤ f))) := by
  by_cases q : 0 ≤ f
  · exact YC.mono (t121_1 hT hU hk hf) (fun o m' n' h => by obtain ⟨z, e, h1, h2⟩ := h; exact ⟨z, e, by omega, h2⟩)
  · refine YC.mkB [some (.ref 376), some (yI 1), some (yI k), some (yI f), none] kn121 rfl rfl ?_
    refine y_iload 1 c121_0 rfl rfl ?_
    refine y_if 6 4 c121_1 rfl rfl (yz_ge (by omega)) (fun hb => ?_) (fun hb => ?_)
    · exfalso; omega
    · refine y_iconst 5 c121_4 rfl ?_
      exact y_retP c121_5 (y_fit1 (by omega)) (by omega)
set_option maxRecDepth 100000 in
theorem t204_1 {L : Nat} {xs : Nat → Int32} {d nn : Nat} {m : yM} {k u : Int} (hT : Ty gT m) (hn : m 376 18 = 1) (hG : GQ 1 m) (hV : VX 1 m) (hf : 1 ≤ m 376 54) (hBR : BRm 1 m) (hk : 0 ≤ k ∧ k ≤ 9) (hu : 0 ≤ u ∧ u ≤ m 376 51) : YC (gZ L xs) (d + 1) 204 [.ref 376, yI k, yI u] m nn (qU (fun m' n' => n' = nn ∧ Ty gT m' ∧ Fr wLv m m' ∧ VX 1 m' ∧ m' 376 54 = m 376 54 - 1 ∧ (m' 376 54 = 0 ∨ m' 376 55 < m 390 1))) := by
  have tb383 := hT.atp 383 1 0 6 rfl
  have tb384 := hT.atp 384 1 0 10 rfl
  have tb388 := hT.atp 388 1 0 12 rfl
  have tb390 := hT.atp 390 1 0 125 rfl
  have tm51 := hT.atp 376 51 0 30 rfl
  have tm54 := hT.atp 376 54 0 4 rfl
  have tm55 := hT.atp 376 55 0 124 rfl
  have tm56 := hT.atp 376 56 0 201 rfl
  have tm57 := hT.atp 376 57 0 4 rfl
  have g90 : m 390 1 ≤ 100 := hG.2.2.2.2.2.2.2.2.2.2.1
  refine YC.mkB [some (.ref 376), some (yI k), some (yI u), none] kn204 rfl rfl ?_
  have hF : Fr wLv m m := Fr.rf
  refine y_iload 1 c204_0 rfl rfl ?_
  refine y_if 36 4 c204_1 rfl rfl (yz_le (by omega)) (fun hb13807 => ?_) (fun hb13807 => ?_)
  · refine y_aload 37 c204_36 rfl rfl rfl ?_
    refine y_dup 38 c204_37 rfl rfl ?_
    refine y_getX 41 (m 376 54) c204_38 rfl kf376_54 rfl ?_
    refine y_iconst 42 c204_41 rfl ?_
    refine y_isub 43 c204_42 rfl ?_
    refine y_putI 46 c204_43 rfl kf376_54 (y_fit0 _) ?_
    have hT13808 := hT.up 376 54 ((m 376 54) - 1) 0 4 rfl (by omega)
    have hF13809 := hF.up 376 54 ((m 376 54) - 1) rfl
    refine y_aload 47 c204_46 rfl rfl rfl ?_
    refine y_getX 50 ((m 376 54) - 1) c204_47 rfl kf376_54 rfl ?_
    refine y_if 54 53 c204_50 rfl rfl (yz_ne (by omega)) (fun hb13810 => ?_) (fun hb13810 => ?_)
    · refine y_iconst 57 c204_54 rfl ?_
      refine y_aload 58 c204_57 rfl rfl rfl ?_
      refine y_getX 61 (m 376 18) c204_58 rfl kf376_18 rfl ?_
      have tb13811 := hT.atp 376 18 0 1 rfl
      refine y_top 1 (by omega) ?_
      refine y_imul 62 c204_61 rfl ?_
      refine y_top 1000 (by decide) ?_
      refine y_iconst 64 c204_62 rfl ?_
      refine y_aload 65 c204_64 rfl rfl rfl ?_
      refine y_getR 68 c204_65 rfl kf376_53 ?_
      refine y_aload 69 c204_68 rfl rfl rfl ?_
      refine y_getX 72 ((m 376 54) - 1) c204_69 rfl kf376_54 rfl ?_
      refine y_iaT 73 0 124 c204_72 rfl ka412 (by omega) hT13808 rfl (fun v13812 hv13812 gv13812 => ?_)
      have gv13812_ : m 412 (m 376 54 - 1).toNat = v13812 := by rw [show (m 376 54 - 1).toNat = ((m 376 54) - 1).toNat by omega]; exact ((yup_na (by decide))).symm.trans hv13812
      have hbr := hBR (m 376 54 - 1).toNat (by omega) (by omega)
      rw [gv13812_] at hbr
      refine y_imul 74 c204_73 rfl ?_
      refine y_iadd 75 c204_74 rfl ?_
      refine y_istore 76 c204_75 rfl rfl ?_
      refine y_aload 77 c204_76 rfl rfl rfl ?_
      refine y_getR 80 c204_77 rfl kf376_40 ?_
      refine y_iload 81 c204_80 rfl rfl ?_
      refine y_iconst 82 c204_81 rfl ?_
      refine y_iadd 83 c204_82 rfl ?_
      refine y_iaT 84 ((-2147483648)) 2147483647 c204_83 rfl ka403 (by omega) hT13808 rfl (fun v13813 hv13813 gv13813 => ?_)
      have hwv13813 := hG.1.1 v13812.toNat (by omega)
      unfold OW at hwv13813
      have hfxv13813 := hG.2.2.2.2.2.2.1 v13812.toNat (by omega)
      have hnsv13813 := hG.2.2.2.2.2.2.2.2.2.2.2 v13812.toNat (by omega)
      have hlev13813 := hG.2.2.1.1 v13812.toNat
      have htgv13813 := hG.2.2.1.2 v13812.toNat (by omega)
      have gv13813_ : m 403 (1000 * 1 + 8 * v13812.toNat + 2) = v13813 := by rw [show 1000 * 1 + 8 * v13812.toNat + 2 = ((1000 + (8 * v13812)) + 2).toNat by omega]; exact ((yup_na (by decide))).symm.trans hv13813
      refine y_if 100 87 c204_84 rfl rfl (yz_lt (by omega)) (fun hb13814 => ?_) (fun hb13814 => ?_)
      · refine y_aload 101 c204_100 rfl rfl rfl ?_
        refine y_aload 102 c204_101 rfl rfl rfl ?_
        refine y_getR 105 c204_102 rfl kf376_53 ?_
        refine y_aload 106 c204_105 rfl rfl rfl ?_
        refine y_getX 109 ((m 376 54) - 1) c204_106 rfl kf376_54 rfl ?_
        refine y_iaT 110 0 124 c204_109 rfl ka412 (by omega) hT13808 rfl (fun v13815 hv13815 gv13815 => ?_)
        have gv13815_ : m 412 (m 376 54 - 1).toNat = v13815 := by rw [show (m 376 54 - 1).toNat = ((m 376 54) - 1).toNat by omega]; exact ((yup_na (by decide))).symm.trans hv13815
        refine y_iconst 111 c204_110 rfl ?_
        refine y_iadd 112 c204_111 rfl ?_
        refine y_putI 115 c204_112 rfl kf376_55 (y_fit0 _) ?_
        have hT13816 := hT13808.up 376 55 (v13815 + 1) 0 124 rfl (by omega)
        have hF13817 := hF13809.up 376 55 (v13815 + 1) rfl
        have es13818 : (yup (yup m 376 54 ((m 376 54) - 1)) 376 55 (v13815 + 1)) 376 54 = (m 376 54) - 1 := rfl
        have es13819 : (yup (yup m 376 54 ((m 376 54) - 1)) 376 55 (v13815 + 1)) 376 55 = v13815 + 1 := rfl
        have es13820 : (yup (yup m 376 54 ((m 376 54) - 1)) 376 55 (v13815 + 1)) 376 51 = m 376 51 := rfl
        exact y_retU c204_115 ⟨rfl, hT13816, hF13817, (VX.sc (VX.dne (w := m 376 54) hV (rfl) (by omega)) (by decide)), by omega, by omega⟩
      · refine y_aload 88 c204_87 rfl rfl rfl ?_
        refine y_aload 89 c204_88 rfl rfl rfl ?_
        refine y_getR 92 c204_89 rfl kf376_40 ?_
        refine y_iload 93 c204_92 rfl rfl ?_
        refine y_iconst 94 c204_93 rfl ?_
        refine y_iadd 95 c204_94 rfl ?_
        refine y_iaT 96 ((-2147483648)) 2147483647 c204_95 rfl ka403 (by omega) hT13808 rfl (fun v13821 hv13821 gv13821 => ?_)
        have gv13821_ : m 403 (1000 * 1 + 8 * v13812.toNat + 2) = v13821 := by rw [show 1000 * 1 + 8 * v13812.toNat + 2 = ((1000 + (8 * v13812)) + 2).toNat by omega]; exact ((yup_na (by decide))).symm.trans hv13821
        refine y_iload 97 c204_96 rfl rfl ?_
        have es13823 : (yup m 376 54 ((m 376 54) - 1)) 376 51 = m 376 51 := rfl
        have es13824 : (yup m 376 54 ((m 376 54) - 1)) 376 54 = (m 376 54) - 1 := rfl
        have es13825 : (yup m 376 54 ((m 376 54) - 1)) 376 18 = m 376 18 := rfl
        have hVc : VX 1 (yup m 376 54 ((m 376 54) - 1)) := (VX.dne (w := m 376 54) hV (rfl) (by omega))
        refine y_callUB 100 [.ref 376, yI v13821, yI u] [] c204_97 rfl rfl rfl rfl rfl (ycanO km202 ko376) (t202_1 hT13808 hVc (by omega) (by omega) (by omega)) (fun mq13822 nq13822 hq13822 => ?_)
        obtain ⟨rfl, hTq13822, hFq13822, hVq13822⟩ := hq13822
        have hF13826 := hF13809.tr hFq13822 wGv_wLv
        refine y_aload 101 c204_100 rfl rfl rfl ?_
        refine y_aload 102 c204_101 rfl rfl rfl ?_
        refine y_getR 105 c204_102 rfl kf376_53 ?_
        refine y_aload 106 c204_105 rfl rfl rfl ?_
        refine y_getX 109 ((m 376 54) - 1) c204_106 rfl kf376_54 ((hFq13822 376 54 rfl).trans (yup_eq _ _ _ _)) ?_
        refine y_iaT 110 0 124 c204_109 rfl ka412 (by omega) hTq13822 rfl (fun v13827 hv13827 gv13827 => ?_)
        have gv13827_ : m 412 (m 376 54 - 1).toNat = v13827 := by rw [show (m 376 54 - 1).toNat = ((m 376 54) - 1).toNat by omega]; exact (((hFq13822 412 _ rfl).trans (yup_na (by decide)))).symm.trans hv13827
        refine y_iconst 111 c204_110 rfl ?_
        refine y_iadd 112 c204_111 rfl ?_
        refine y_putI 115 c204_112 rfl kf376_55 (y_fit0 _) ?_
        have hT13828 := hTq13822.up 376 55 (v13827 + 1) 0 124 rfl (by omega)
        have hF13829 := hF13826.up 376 55 (v13827 + 1) rfl
        have es13830 : (yup mq13822 376 55 (v13827 + 1)) 376 54 = (m 376 54) - 1 := ((yup_nk (by decide)).trans ((hFq13822 376 54 rfl).trans (yup_eq _ _ _ _)))
        have es13831 : (yup mq13822 376 55 (v13827 + 1)) 376 55 = v13827 + 1 := rfl
        have es13832 : (yup mq13822 376 55 (v13827 + 1)) 376 51 = m 376 51 := ((yup_nk (by decide)).trans ((hFq13822 376 51 rfl).trans (yup_nk (by decide))))
        exact y_retU c204_115 ⟨rfl, hT13828, hF13829, (VX.sc hVq13822 (by decide)), by omega, by omega⟩
    · have es13833 : (yup m 376 54 ((m 376 54) - 1)) 376 54 = (m 376 54) - 1 := rfl
      have es13834 : (yup m 376 54 ((m 376 54) - 1)) 376 55 = m 376 55 := rfl
      have es13835 : (yup m 376 54 ((m 376 54) - 1)) 376 51 = m 376 51 := rfl
      exact y_retU c204_53 ⟨rfl, hT13808, hF13809, (VX.dne (w := m 376 54) hV (rfl) (by omega)), by omega, by omega⟩
  · refine y_aload 5 c204_4 rfl rfl rfl ?_
    refine y_getR 8 c204_5 rfl kf376_48 ?_
    refine y_iconst 10 c204_8 rfl ?_
    refine y_aload 11 c204_10 rfl rfl rfl ?_
    refine y_getR 14 c204_11 rfl kf376_35 ?_
    refine y_iconst 16 c204_14 rfl ?_
    refine y_aload 17 c204_16 rfl rfl rfl ?_
    refine y_getX 20 (m 376 18) c204_17 rfl kf376_18 rfl ?_
    have tb13836 := hT.atp 376 18 0 1 rfl
    refine y_top 1 (by omega) ?_
    refine y_imul 21 c204_20 rfl ?_
    refine y_top 10 (by decide) ?_
    refine y_iload 22 c204_21 rfl rfl ?_
    refine y_iadd 23 c204_22 rfl ?_
    refine y_iaT 24 0 46 c204_23 rfl ka398 (by omega) hT rfl (fun v13837 hv13837 gv13837 => ?_)
    refine y_imul 25 c204_24 rfl ?_
    refine y_aload 26 c204_25 rfl rfl rfl ?_
    refine y_getR 29 c204_26 rfl kf376_49 ?_
    refine y_iload 30 c204_29 rfl rfl ?_
    refine y_iconst 31 c204_30 rfl ?_
    refine y_isub 32 c204_31 rfl ?_
    refine y_iaT 33 0 11 c204_32 rfl ka409 (by omega) hT rfl (fun v13838 hv13838 gv13838 => ?_)
    refine y_iadd 34 c204_33 rfl ?_
    refine y_iconst 35 c204_34 rfl ?_
    refine y_iastore 36 c204_35 rfl ka408 (by omega) (y_nar1 (by omega)) ?_
    have hT13839 := hT.up 408 (((12 * v13837) + v13838).toNat) 1 0 1 rfl (by omega)
    have hF13840 := hF.up 408 (((12 * v13837) + v13838).toNat) 1 rfl
    refine y_aload 37 c204_36 rfl rfl rfl ?_
    refine y_dup 38 c204_37 rfl rfl ?_
    refine y_getX 41 (m 376 54) c204_38 rfl kf376_54 rfl ?_
    refine y_iconst 42 c204_41 rfl ?_
    refine y_isub 43 c204_42 rfl ?_
    refine y_putI 46 c204_43 rfl kf376_54 (y_fit0 _) ?_
    have hT13841 := hT13839.up 376 54 ((m 376 54) - 1) 0 4 rfl (by omega)
    have hF13842 := hF13840.up 376 54 ((m 376 54) - 1) rfl
    refine y_aload 47 c204_46 rfl rfl rfl ?_
    refine y_getX 50 ((m 376 54) - 1) c204_47 rfl kf376_54 rfl ?_
    refine y_if 54 53 c204_50 rfl rfl (yz_ne (by omega)) (fun hb13843 => ?_) (fun hb13843 => ?_)
    · refine y_iconst 57 c204_54 rfl ?_
      refine y_aload 58 c204_57 rfl rfl rfl ?_
      refine y_getX 61 (m 376 18) c204_58 rfl kf376_18 rfl ?_
      refine y_top 1 (by omega) ?_
      refine y_imul 62 c204_61 rfl ?_
      refine y_top 1000 (by decide) ?_
      refine y_iconst 64 c204_62 rfl ?_
      refine y_aload 65 c204_64 rfl rfl rfl ?_
      refine y_getR 68 c204_65 rfl kf376_53 ?_
      refine y_aload 69 c204_68 rfl rfl rfl ?_
      refine y_getX 72 ((m 376 54) - 1) c204_69 rfl kf376_54 rfl ?_
      refine y_iaT 73 0 124 c204_72 rfl ka412 (by omega) hT13841 rfl (fun v13844 hv13844 gv13844 => ?_)
      have gv13844_ : m 412 (m 376 54 - 1).toNat = v13844 := by rw [show (m 376 54 - 1).toNat = ((m 376 54) - 1).toNat by omega]; exact (((yup_na (by decide)).trans (yup_na (by decide)))).symm.trans hv13844
      have hbr := hBR (m 376 54 - 1).toNat (by omega) (by omega)
      rw [gv13844_] at hbr
      refine y_imul 74 c204_73 rfl ?_
      refine y_iadd 75 c204_74 rfl ?_
      refine y_istore 76 c204_75 rfl rfl ?_
      refine y_aload 77 c204_76 rfl rfl rfl ?_
      refine y_getR 80 c204_77 rfl kf376_40 ?_
      refine y_iload 81 c204_80 rfl rfl ?_
      refine y_iconst 82 c204_81 rfl ?_
      refine y_iadd 83 c204_82 rfl ?_
      refine y_iaT 84 ((-2147483648)) 2147483647 c204_83 rfl ka403 (by omega) hT13841 rfl (fun v13845 hv13845 gv13845 => ?_)
      have hwv13845 := hG.1.1 v13844.toNat (by omega)
      unfold OW at hwv13845
      have hfxv13845 := hG.2.2.2.2.2.2.1 v13844.toNat (by omega)
      have hnsv13845 := hG.2.2.2.2.2.2.2.2.2.2.2 v13844.toNat (by omega)
      have hlev13845 := hG.2.2.1.1 v13844.toNat
      have htgv13845 := hG.2.2.1.2 v13844.toNat (by omega)
      have gv13845_ : m 403 (1000 * 1 + 8 * v13844.toNat + 2) = v13845 := by rw [show 1000 * 1 + 8 * v13844.toNat + 2 = ((1000 + (8 * v13844)) + 2).toNat by omega]; exact (((yup_na (by decide)).trans (yup_na (by decide)))).symm.trans hv13845
      refine y_if 100 87 c204_84 rfl rfl (yz_lt (by omega)) (fun hb13846 => ?_) (fun hb13846 => ?_)
      · refine y_aload 101 c204_100 rfl rfl rfl ?_
        refine y_aload 102 c204_101 rfl rfl rfl ?_
        refine y_getR 105 c204_102 rfl kf376_53 ?_
        refine y_aload 106 c204_105 rfl rfl rfl ?_
        refine y_getX 109 ((m 376 54) - 1) c204_106 rfl kf376_54 rfl ?_
        refine y_iaT 110 0 124 c204_109 rfl ka412 (by omega) hT13841 rfl (fun v13847 hv13847 gv13847 => ?_)
        have gv13847_ : m 412 (m 376 54 - 1).toNat = v13847 := by rw [show (m 376 54 - 1).toNat = ((m 376 54) - 1).toNat by omega]; exact (((yup_na (by decide)).trans (yup_na (by decide)))).symm.trans hv13847
        refine y_iconst 111 c204_110 rfl ?_
        refine y_iadd 112 c204_111 rfl ?_
        refine y_putI 115 c204_112 rfl kf376_55 (y_fit0 _) ?_
        have hT13848 := hT13841.up 376 55 (v13847 + 1) 0 124 rfl (by omega)
        have hF13849 := hF13842.up 376 55 (v13847 + 1) rfl
        have es13850 : (yup (yup (yup m 408 (((12 * v13837) + v13838).toNat) 1) 376 54 ((m 376 54) - 1)) 376 55 (v13847 + 1)) 376 54 = (m 376 54) - 1 := rfl
        have es13851 : (yup (yup (yup m 408 (((12 * v13837) + v13838).toNat) 1) 376 54 ((m 376 54) - 1)) 376 55 (v13847 + 1)) 376 55 = v13847 + 1 := rfl
        have es13852 : (yup (yup (yup m 408 (((12 * v13837) + v13838).toNat) 1) 376 54 ((m 376 54) - 1)) 376 55 (v13847 + 1)) 376 51 = m 376 51 := rfl
        exact y_retU c204_115 ⟨rfl, hT13848, hF13849, (VX.sc (VX.dne (w := m 376 54) (VX.na hV (by decide)) (rfl) (by omega)) (by decide)), by omega, by omega⟩
      · refine y_aload 88 c204_87 rfl rfl rfl ?_
        refine y_aload 89 c204_88 rfl rfl rfl ?_
        refine y_getR 92 c204_89 rfl kf376_40 ?_
        refine y_iload 93 c204_92 rfl rfl ?_
        refine y_iconst 94 c204_93 rfl ?_
        refine y_iadd 95 c204_94 rfl ?_
        refine y_iaT 96 ((-2147483648)) 2147483647 c204_95 rfl ka403 (by omega) hT13841 rfl (fun v13853 hv13853 gv13853 => ?_)
        have gv13853_ : m 403 (1000 * 1 + 8 * v13844.toNat + 2) = v13853 := by rw [show 1000 * 1 + 8 * v13844.toNat + 2 = ((1000 + (8 * v13844)) + 2).toNat by omega]; exact (((yup_na (by decide)).trans (yup_na (by decide)))).symm.trans hv13853
        refine y_iload 97 c204_96 rfl rfl ?_
        have es13855 : (yup (yup m 408 (((12 * v13837) + v13838).toNat) 1) 376 54 ((m 376 54) - 1)) 376 51 = m 376 51 := rfl
        have es13856 : (yup (yup m 408 (((12 * v13837) + v13838).toNat) 1) 376 54 ((m 376 54) - 1)) 376 54 = (m 376 54) - 1 := rfl
        have es13857 : (yup (yup m 408 (((12 * v13837) + v13838).toNat) 1) 376 54 ((m 376 54) - 1)) 376 18 = m 376 18 := rfl
        have hVc : VX 1 (yup (yup m 408 (((12 * v13837) + v13838).toNat) 1) 376 54 ((m 376 54) - 1)) := (VX.dne (w := m 376 54) (VX.na hV (by decide)) (rfl) (by omega))
        refine y_callUB 100 [.ref 376, yI v13853, yI u] [] c204_97 rfl rfl rfl rfl rfl (ycanO km202 ko376) (t202_1 hT13841 hVc (by omega) (by omega) (by omega)) (fun mq13854 nq13854 hq13854 => ?_)
        obtain ⟨rfl, hTq13854, hFq13854, hVq13854⟩ := hq13854
        have hF13858 := hF13842.tr hFq13854 wGv_wLv
        refine y_aload 101 c204_100 rfl rfl rfl ?_
        refine y_aload 102 c204_101 rfl rfl rfl ?_
        refine y_getR 105 c204_102 rfl kf376_53 ?_
        refine y_aload 106 c204_105 rfl rfl rfl ?_
        refine y_getX 109 ((m 376 54) - 1) c204_106 rfl kf376_54 ((hFq13854 376 54 rfl).trans (yup_eq _ _ _ _)) ?_
        refine y_iaT 110 0 124 c204_109 rfl ka412 (by omega) hTq13854 rfl (fun v13859 hv13859 gv13859 => ?_)
        have gv13859_ : m 412 (m 376 54 - 1).toNat = v13859 := by rw [show (m 376 54 - 1).toNat = ((m 376 54) - 1).toNat by omega]; exact (((hFq13854 412 _ rfl).trans ((yup_na (by decide)).trans (yup_na (by decide))))).symm.trans hv13859
        refine y_iconst 111 c204_110 rfl ?_
        refine y_iadd 112 c204_111 rfl ?_
        refine y_putI 115 c204_112 rfl kf376_55 (y_fit0 _) ?_
        have hT13860 := hTq13854.up 376 55 (v13859 + 1) 0 124 rfl (by omega)
        have hF13861 := hF13858.up 376 55 (v13859 + 1) rfl
        have es13862 : (yup mq13854 376 55 (v13859 + 1)) 376 54 = (m 376 54) - 1 := ((yup_nk (by decide)).trans ((hFq13854 376 54 rfl).trans (yup_eq _ _ _ _)))
        have es13863 : (yup mq13854 376 55 (v13859 + 1)) 376 55 = v13859 + 1 := rfl
        have es13864 : (yup mq13854 376 55 (v13859 + 1)) 376 51 = m 376 51 := ((yup_nk (by decide)).trans ((hFq13854 376 51 rfl).trans ((yup_nk (by decide)).trans (yup_na (by decide)))))
        exact y_retU c204_115 ⟨rfl, hT13860, hF13861, (VX.sc hVq13854 (by decide)), by omega, by omega⟩
    · have es13865 : (yup (yup m 408 (((12 * v13837) + v13838).toNat) 1) 376 54 ((m 376 54) - 1)) 376 54 = (m 376 54) - 1 := rfl
      have es13866 : (yup (yup m 408 (((12 * v13837) + v13838).toNat) 1) 376 54 ((m 376 54) - 1)) 376 55 = m 376 55 := rfl
      have es13867 : (yup (yup m 408 (((12 * v13837) + v13838).toNat) 1) 376 54 ((m 376 54) - 1)) 376 51 = m 376 51 := rfl
      exact y_retU c204_53 ⟨rfl, hT13841, hF13842, (VX.dne (w := m 376 54) (VX.na hV (by decide)) (rfl) (by omega)), by omega, by omega⟩
set_option maxRecDepth 100000 in
theorem t207_1 {L : Nat} {xs : Nat → Int32} {d nn : Nat} {m : yM} {k : Int} (hT : Ty gT m) (hn : m 376 18 = 1) (hG : GQ 1 m) (hV : VX 1 m) (hf : 1 ≤ m 376 54) (hko : 0 ≤ k ∧ k < m 390 1) (h7 : m 403 (1000 * 1 + 8 * k.toNat) = 7) : YC (gZ L xs) (d + 2) 207 [.ref 376, yI (1000 + 8 * k)] m nn (qU (fun m' n' => n' = nn ∧ Ty gT m' ∧ Fr wEn m m' ∧ VX 1 m' ∧ (m' 376 57 ≠ 0 ∨ (m' 376 54 = m 376 54 + 1 ∧ m' 376 55 < m 390 1 ∧ m' 412 (m 376 54).toNat = m 376 55)) ∧ ∀ q, q ≠ (m 376 54).toNat → m' 412 q = m 412 q)) := by
  have tb383 := hT.atp 383 1 0 6 rfl
  have tb384 := hT.atp 384 1 0 10 rfl
  have tb388 := hT.atp 388 1 0 12 rfl
  have tb390 := hT.atp 390 1 0 125 rfl
  have tm51 := hT.atp 376 51 0 30 rfl
  have tm54 := hT.atp 376 54 0 4 rfl
  have tm55 := hT.atp 376 55 0 124 rfl
  have tm56 := hT.atp 376 56 0 201 rfl
  have tm57 := hT.atp 376 57 0 4 rfl
  have g90 : m 390 1 ≤ 100 := hG.2.2.2.2.2.2.2.2.2.2.1
  refine YC.mkB [some (.ref 376), some (yI (1000 + 8 * k)), none, none, none, none, none] kn207 rfl rfl ?_
  have hF : Fr wEn m m := Fr.rf
  refine y_aload 1 c207_0 rfl rfl rfl ?_
  refine y_aload 2 c207_1 rfl rfl rfl ?_
  refine y_getR 5 c207_2 rfl kf376_40 ?_
  refine y_iload 6 c207_5 rfl rfl ?_
  refine y_iconst 7 c207_6 rfl ?_
  refine y_iadd 8 c207_7 rfl ?_
  refine y_iaT 9 ((-2147483648)) 2147483647 c207_8 rfl ka403 (by omega) hT rfl (fun v13868 hv13868 gv13868 => ?_)
  have hwv13868 := hG.1.1 k.toNat (by omega)
  unfold OW at hwv13868
  have hfxv13868 := hG.2.2.2.2.2.2.1 k.toNat (by omega)
  have hnsv13868 := hG.2.2.2.2.2.2.2.2.2.2.2 k.toNat (by omega)
  have hlev13868 := hG.2.2.1.1 k.toNat
  have htgv13868 := hG.2.2.1.2 k.toNat (by omega)
  have gv13868_ : m 403 (1000 * 1 + 8 * k.toNat + 3) = v13868 := by rw [show 1000 * 1 + 8 * k.toNat + 3 = ((1000 + 8 * k) + 3).toNat by omega]; exact (rfl).symm.trans hv13868
  have tb13869 := hT.atp 376 18 0 1 rfl
  have hVg : VX 1 m := hV
  refine y_callP 12 [.ref 376, yI v13868] [] c207_9 rfl rfl rfl rfl rfl (ycanO km205 ko376) (t205_1 hT hVg (by omega) (by omega)) (fun r13870 hr13870 => ?_)
  refine y_istore 13 c207_12 rfl rfl ?_
  refine y_aload 14 c207_13 rfl rfl rfl ?_
  refine y_iload 15 c207_14 rfl rfl ?_
  refine y_if 22 18 c207_15 rfl rfl (yz_le (by omega)) (fun hb13871 => ?_) (fun hb13871 => ?_)
  · refine y_iconst 23 c207_22 rfl ?_
    refine y_iconst 24 c207_23 rfl ?_
    refine y_inlB 27 [.ref 376, yI 0, yI 1] [] [some (.ref 376), some (yI 0), some (yI 1)] c207_24 rfl rfl rfl rfl rfl (ycanO km23 ko376) kn23 rfl rfl ?_
    refine y_aload 1 c23_0 rfl rfl rfl ?_
    refine y_iload 2 c23_1 rfl rfl ?_
    refine y_if 9 5 c23_2 rfl rfl (yz_eq (by omega)) (fun hb13872 => ?_) (fun hb13872 => ?_)
    · refine y_iload 10 c23_9 rfl rfl ?_
      refine y_putI 13 c23_10 rfl kf376_57 (y_fit0 _) ?_
      have hT13873 := hT.up 376 57 1 0 4 rfl (by omega)
      have hF13874 := hF.up 376 57 1 rfl
      refine y_iload 14 c23_13 rfl rfl ?_
      refine y_ireturnK c23_14 (y_fit1 (by omega)) ?_
      refine y_if 31 30 c207_27 rfl rfl (yz_ne (by omega)) (fun hb13875 => ?_) (fun hb13875 => ?_)
      · exfalso; omega
      · have es13876 : (yup m 376 57 1) 376 57 = 1 := rfl
        have es13877 : (yup m 376 57 1) 376 54 = m 376 54 := rfl
        have es13878 : (yup m 376 57 1) 376 55 = m 376 55 := rfl
        exact y_retU c207_30 ⟨rfl, hT13873, hF13874, (VX.sc hV (by decide)), Or.inl (by omega), fun q hq => (yup_na (by decide))⟩
    · exfalso; omega
  · refine y_iconst 19 c207_18 rfl ?_
    refine y_goto 23 c207_19 rfl ?_
    refine y_iconst 24 c207_23 rfl ?_
    refine y_inlB 27 [.ref 376, yI 1, yI 1] [] [some (.ref 376), some (yI 1), some (yI 1)] c207_24 rfl rfl rfl rfl rfl (ycanO km23 ko376) kn23 rfl rfl ?_
    refine y_aload 1 c23_0 rfl rfl rfl ?_
    refine y_iload 2 c23_1 rfl rfl ?_
    refine y_if 9 5 c23_2 rfl rfl (yz_eq (by omega)) (fun hb13879 => ?_) (fun hb13879 => ?_)
    · exfalso; omega
    · refine y_iconst 6 c23_5 rfl ?_
      refine y_goto 10 c23_6 rfl ?_
      refine y_putI 13 c23_10 rfl kf376_57 (y_fit0 _) ?_
      have hT13880 := hT.up 376 57 0 0 4 rfl (by omega)
      have hF13881 := hF.up 376 57 0 rfl
      refine y_iload 14 c23_13 rfl rfl ?_
      refine y_ireturnK c23_14 (y_fit1 (by omega)) ?_
      refine y_if 31 30 c207_27 rfl rfl (yz_ne (by omega)) (fun hb13882 => ?_) (fun hb13882 => ?_)
      · refine y_aload 32 c207_31 rfl rfl rfl ?_
        refine y_getR 35 c207_32 rfl kf376_40 ?_
        refine y_iload 36 c207_35 rfl rfl ?_
        refine y_iconst 37 c207_36 rfl ?_
        refine y_iadd 38 c207_37 rfl ?_
        refine y_iaT 39 ((-2147483648)) 2147483647 c207_38 rfl ka403 (by omega) hT13880 rfl (fun v13883 hv13883 gv13883 => ?_)
        have gv13883_ : m 403 (1000 * 1 + 8 * k.toNat + 5) = v13883 := by rw [show 1000 * 1 + 8 * k.toNat + 5 = ((1000 + 8 * k) + 5).toNat by omega]; exact ((yup_na (by decide))).symm.trans hv13883
        refine y_iconst 41 c207_39 rfl ?_
        refine y_irem 42 c207_41 rfl (by omega) (by omega) ?_
        refine y_istore 43 c207_42 rfl rfl ?_
        refine y_aload 44 c207_43 rfl rfl rfl ?_
        refine y_aload 45 c207_44 rfl rfl rfl ?_
        refine y_getX 48 (m 376 18) c207_45 rfl kf376_18 rfl ?_
        refine y_top 1 (by omega) ?_
        refine y_aload 49 c207_48 rfl rfl rfl ?_
        refine y_iload 50 c207_49 rfl rfl ?_
        have es13884 : (yup m 376 57 0) 376 51 = m 376 51 := rfl
        have es13885 : (yup m 376 57 0) 376 54 = m 376 54 := rfl
        have es13886 : (yup m 376 57 0) 376 18 = m 376 18 := rfl
        have es13887 : (yup m 376 57 0) 383 1 = m 383 1 := rfl
        have hVg : VX 1 (yup m 376 57 0) := (VX.sc hV (by decide))
        refine y_callP 53 [.ref 376, yI r13870] [yI 1, .ref 376] c207_50 rfl rfl rfl rfl rfl (ycanO km206 ko376) (t206_1 hT13880 (by omega) (hG.fr hT (by decide) (fun a q ha => hF13881 a q (wEn_G2 a q ha))) hVg (by omega)) (fun r13888 hr13888 => ?_)
        refine y_aload 54 c207_53 rfl rfl rfl ?_
        refine y_getR 57 c207_54 rfl kf376_40 ?_
        refine y_iload 58 c207_57 rfl rfl ?_
        refine y_iconst 59 c207_58 rfl ?_
        refine y_iadd 60 c207_59 rfl ?_
        refine y_iaT 61 ((-2147483648)) 2147483647 c207_60 rfl ka403 (by omega) hT13880 rfl (fun v13889 hv13889 gv13889 => ?_)
        have gv13889_ : m 403 (1000 * 1 + 8 * k.toNat + 4) = v13889 := by rw [show 1000 * 1 + 8 * k.toNat + 4 = ((1000 + 8 * k) + 4).toNat by omega]; exact ((yup_na (by decide))).symm.trans hv13889
        refine y_iload 62 c207_61 rfl rfl ?_
        have es13890 : (yup m 376 57 0) 383 1 = m 383 1 := rfl
        have es13891 : (yup m 376 57 0) 384 1 = m 384 1 := rfl
        refine y_callP 65 [.ref 376, yI 1, yI r13888, yI v13889, yI (v13883 % 16)] [] c207_62 rfl rfl rfl rfl rfl (ycanO km142 ko376) (t142_1 hT13880 (by rw [show (yup m 376 57 0) 383 1 = m 383 1 from rfl]; exact hG.2.2.2.2.1.fr (fun q => (yup_na (by decide)))) (by omega) (by omega) (by omega)) (fun r13892 hr13892 => ?_)
        refine y_istore 67 c207_65 rfl rfl ?_
        refine y_aload 68 c207_67 rfl rfl rfl ?_
        refine y_iload 70 c207_68 rfl rfl ?_
        refine y_if 77 73 c207_70 rfl rfl (yz_lt (by omega)) (fun hb13893 => ?_) (fun hb13893 => ?_)
        · refine y_iconst 78 c207_77 rfl ?_
          refine y_iconst 79 c207_78 rfl ?_
          refine y_inlB 82 [.ref 376, yI 0, yI 3] [] [some (.ref 376), some (yI 0), some (yI 3)] c207_79 rfl rfl rfl rfl rfl (ycanO km23 ko376) kn23 rfl rfl ?_
          refine y_aload 1 c23_0 rfl rfl rfl ?_
          refine y_iload 2 c23_1 rfl rfl ?_
          refine y_if 9 5 c23_2 rfl rfl (yz_eq (by omega)) (fun hb13894 => ?_) (fun hb13894 => ?_)
          · refine y_iload 10 c23_9 rfl rfl ?_
            refine y_putI 13 c23_10 rfl kf376_57 (y_fit0 _) ?_
            have hT13895 := hT13880.up 376 57 3 0 4 rfl (by omega)
            have hF13896 := hF13881.up 376 57 3 rfl
            refine y_iload 14 c23_13 rfl rfl ?_
            refine y_ireturnK c23_14 (y_fit1 (by omega)) ?_
            refine y_if 86 85 c207_82 rfl rfl (yz_ne (by omega)) (fun hb13897 => ?_) (fun hb13897 => ?_)
            · exfalso; omega
            · have es13898 : (yup (yup m 376 57 0) 376 57 3) 376 57 = 3 := rfl
              have es13899 : (yup (yup m 376 57 0) 376 57 3) 376 54 = m 376 54 := rfl
              have es13900 : (yup (yup m 376 57 0) 376 57 3) 376 55 = m 376 55 := rfl
              exact y_retU c207_85 ⟨rfl, hT13895, hF13896, (VX.sc (VX.sc hV (by decide)) (by decide)), Or.inl (by omega), fun q hq => ((yup_na (by decide)).trans (yup_na (by decide)))⟩
          · exfalso; omega
        · refine y_iconst 74 c207_73 rfl ?_
          refine y_goto 78 c207_74 rfl ?_
          refine y_iconst 79 c207_78 rfl ?_
          refine y_inlB 82 [.ref 376, yI 1, yI 3] [] [some (.ref 376), some (yI 1), some (yI 3)] c207_79 rfl rfl rfl rfl rfl (ycanO km23 ko376) kn23 rfl rfl ?_
          refine y_aload 1 c23_0 rfl rfl rfl ?_
          refine y_iload 2 c23_1 rfl rfl ?_
          refine y_if 9 5 c23_2 rfl rfl (yz_eq (by omega)) (fun hb13901 => ?_) (fun hb13901 => ?_)
          · exfalso; omega
          · refine y_iconst 6 c23_5 rfl ?_
            refine y_goto 10 c23_6 rfl ?_
            refine y_putI 13 c23_10 rfl kf376_57 (y_fit0 _) ?_
            have hT13902 := hT13880.up 376 57 0 0 4 rfl (by omega)
            have hF13903 := hF13881.up 376 57 0 rfl
            refine y_iload 14 c23_13 rfl rfl ?_
            refine y_ireturnK c23_14 (y_fit1 (by omega)) ?_
            refine y_if 86 85 c207_82 rfl rfl (yz_ne (by omega)) (fun hb13904 => ?_) (fun hb13904 => ?_)
            · refine y_iload 87 c207_86 rfl rfl ?_
              refine y_if 106 90 c207_87 rfl rfl (yz_le (by omega)) (fun hb13905 => ?_) (fun hb13905 => ?_)
              · refine y_iconst 107 c207_106 rfl ?_
                refine y_istore 109 c207_107 rfl rfl ?_
                refine y_iload 110 c207_109 rfl rfl ?_
                refine y_iconst 111 c207_110 rfl ?_
                refine y_icmp 130 114 c207_111 rfl rfl (yc_le (by omega) (by omega)) (fun hb13906 => ?_) (fun hb13906 => ?_)
                · refine y_iconst 131 c207_130 rfl ?_
                  refine y_istore 133 c207_131 rfl rfl ?_
                  refine y_aload 134 c207_133 rfl rfl rfl ?_
                  refine y_iload 136 c207_134 rfl rfl ?_
                  refine y_iload 137 c207_136 rfl rfl ?_
                  refine y_iload 139 c207_137 rfl rfl ?_
                  refine y_iload 141 c207_139 rfl rfl ?_
                  refine y_aload 142 c207_141 rfl rfl rfl ?_
                  refine y_getX 145 (m 376 55) c207_142 rfl kf376_55 rfl ?_
                  have es13908 : (yup (yup m 376 57 0) 376 57 0) 376 51 = m 376 51 := rfl
                  have es13909 : (yup (yup m 376 57 0) 376 57 0) 376 54 = m 376 54 := rfl
                  have es13910 : (yup (yup m 376 57 0) 376 57 0) 376 18 = m 376 18 := rfl
                  have es13911 : (yup (yup m 376 57 0) 376 57 0) 384 1 = m 384 1 := rfl
                  have es13912 : (yup (yup m 376 57 0) 376 57 0) 390 1 = m 390 1 := rfl
                  have es13913 : (yup (yup m 376 57 0) 376 57 0) 376 57 = 0 := rfl
                  have es13914 : (yup (yup m 376 57 0) 376 57 0) 376 55 = m 376 55 := rfl
                  have hVc : VX 1 (yup (yup m 376 57 0) 376 57 0) := (VX.sc (VX.sc hV (by decide)) (by decide))
                  refine y_callUB 148 [.ref 376, yI r13892, yI r13870, yI 0, yI 0, yI (m 376 55)] [] c207_145 rfl rfl rfl rfl rfl (ycanO km203 ko376) (t203_1 hT13902 (by omega) (hG.fr hT (by decide) (fun a q ha => hF13903 a q (wEn_G2 a q ha))) hVc (by omega) (by omega) (by omega) (by omega) (by omega)) (fun mq13907 nq13907 hq13907 => ?_)
                  obtain ⟨rfl, hTq13907, hFq13907, hVq13907, hq13907, hqq13907⟩ := hq13907
                  have hF13915 := hF13903.tr hFq13907 (fun _ _ e => e)
                  have tb13916 := hTq13907.atp 376 57 0 4 rfl
                  have tb13917 := hTq13907.atp 376 54 0 4 rfl
                  have tb13918 := hTq13907.atp 376 55 0 124 rfl
                  have e54 : (yup (yup m 376 57 0) 376 57 0) 376 54 = m 376 54 := rfl
                  have e57 : (yup (yup m 376 57 0) 376 57 0) 376 57 = 0 := rfl
                  rw [e54] at hq13907 hqq13907
                  refine y_retU c207_148 ⟨rfl, hTq13907, hF13915, hVq13907, ?_, fun q hq => (hqq13907 q hq).trans (((yup_na (by decide)).trans (yup_na (by decide))))⟩
                  rcases hq13907 with z | z
                  · exact Or.inl (by omega)
                  · exact Or.inr ⟨z.2.1, by omega, z.2.2.2⟩
                · exfalso; omega
              · refine y_aload 91 c207_90 rfl rfl rfl ?_
                refine y_aload 92 c207_91 rfl rfl rfl ?_
                refine y_getR 95 c207_92 rfl kf376_40 ?_
                refine y_iload 96 c207_95 rfl rfl ?_
                refine y_iconst 98 c207_96 rfl ?_
                refine y_iadd 99 c207_98 rfl ?_
                refine y_iaT 100 ((-2147483648)) 2147483647 c207_99 rfl ka403 (by omega) hT13902 rfl (fun v13919 hv13919 gv13919 => ?_)
                have gv13919_ : m 403 (1000 * 1 + 8 * k.toNat + 6) = v13919 := by rw [show 1000 * 1 + 8 * k.toNat + 6 = ((1000 + 8 * k) + 6).toNat by omega]; exact (((yup_na (by decide)).trans (yup_na (by decide)))).symm.trans hv13919
                have es13920 : (yup (yup m 376 57 0) 376 57 0) 376 51 = m 376 51 := rfl
                have es13921 : (yup (yup m 376 57 0) 376 57 0) 376 54 = m 376 54 := rfl
                have es13922 : (yup (yup m 376 57 0) 376 57 0) 376 18 = m 376 18 := rfl
                have hVg : VX 1 (yup (yup m 376 57 0) 376 57 0) := (VX.sc (VX.sc hV (by decide)) (by decide))
                refine y_callP 103 [.ref 376, yI v13919] [] c207_100 rfl rfl rfl rfl rfl (ycanO km205 ko376) (t205_1 hT13902 hVg (by omega) (by omega)) (fun r13923 hr13923 => ?_)
                refine y_goto 107 c207_103 rfl ?_
                refine y_istore 109 c207_107 rfl rfl ?_
                refine y_iload 110 c207_109 rfl rfl ?_
                refine y_iconst 111 c207_110 rfl ?_
                refine y_icmp 130 114 c207_111 rfl rfl (yc_le (by omega) (by omega)) (fun hb13924 => ?_) (fun hb13924 => ?_)
                · refine y_iconst 131 c207_130 rfl ?_
                  refine y_istore 133 c207_131 rfl rfl ?_
                  refine y_aload 134 c207_133 rfl rfl rfl ?_
                  refine y_iload 136 c207_134 rfl rfl ?_
                  refine y_iload 137 c207_136 rfl rfl ?_
                  refine y_iload 139 c207_137 rfl rfl ?_
                  refine y_iload 141 c207_139 rfl rfl ?_
                  refine y_aload 142 c207_141 rfl rfl rfl ?_
                  refine y_getX 145 (m 376 55) c207_142 rfl kf376_55 rfl ?_
                  have es13926 : (yup (yup m 376 57 0) 376 57 0) 376 51 = m 376 51 := rfl
                  have es13927 : (yup (yup m 376 57 0) 376 57 0) 376 54 = m 376 54 := rfl
                  have es13928 : (yup (yup m 376 57 0) 376 57 0) 376 18 = m 376 18 := rfl
                  have es13929 : (yup (yup m 376 57 0) 376 57 0) 384 1 = m 384 1 := rfl
                  have es13930 : (yup (yup m 376 57 0) 376 57 0) 390 1 = m 390 1 := rfl
                  have es13931 : (yup (yup m 376 57 0) 376 57 0) 376 57 = 0 := rfl
                  have es13932 : (yup (yup m 376 57 0) 376 57 0) 376 55 = m 376 55 := rfl
                  have hVc : VX 1 (yup (yup m 376 57 0) 376 57 0) := (VX.sc (VX.sc hV (by decide)) (by decide))
                  refine y_callUB 148 [.ref 376, yI r13892, yI r13870, yI r13923, yI 0, yI (m 376 55)] [] c207_145 rfl rfl rfl rfl rfl (ycanO km203 ko376) (t203_1 hT13902 (by omega) (hG.fr hT (by decide) (fun a q ha => hF13903 a q (wEn_G2 a q ha))) hVc (by omega) (by omega) (by omega) (by omega) (by omega)) (fun mq13925 nq13925 hq13925 => ?_)
                  obtain ⟨rfl, hTq13925, hFq13925, hVq13925, hq13925, hqq13925⟩ := hq13925
                  have hF13933 := hF13903.tr hFq13925 (fun _ _ e => e)
                  have tb13934 := hTq13925.atp 376 57 0 4 rfl
                  have tb13935 := hTq13925.atp 376 54 0 4 rfl
                  have tb13936 := hTq13925.atp 376 55 0 124 rfl
                  have e54 : (yup (yup m 376 57 0) 376 57 0) 376 54 = m 376 54 := rfl
                  have e57 : (yup (yup m 376 57 0) 376 57 0) 376 57 = 0 := rfl
                  rw [e54] at hq13925 hqq13925
                  refine y_retU c207_148 ⟨rfl, hTq13925, hF13933, hVq13925, ?_, fun q hq => (hqq13925 q hq).trans (((yup_na (by decide)).trans (yup_na (by decide))))⟩
                  rcases hq13925 with z | z
                  · exact Or.inl (by omega)
                  · exact Or.inr ⟨z.2.1, by omega, z.2.2.2⟩
                · refine y_aload 115 c207_114 rfl rfl rfl ?_
                  refine y_aload 116 c207_115 rfl rfl rfl ?_
                  refine y_getR 119 c207_116 rfl kf376_40 ?_
                  refine y_iload 120 c207_119 rfl rfl ?_
                  refine y_iconst 122 c207_120 rfl ?_
                  refine y_iadd 123 c207_122 rfl ?_
                  refine y_iaT 124 ((-2147483648)) 2147483647 c207_123 rfl ka403 (by omega) hT13902 rfl (fun v13937 hv13937 gv13937 => ?_)
                  have gv13937_ : m 403 (1000 * 1 + 8 * k.toNat + 7) = v13937 := by rw [show 1000 * 1 + 8 * k.toNat + 7 = ((1000 + 8 * k) + 7).toNat by omega]; exact (((yup_na (by decide)).trans (yup_na (by decide)))).symm.trans hv13937
                  have es13938 : (yup (yup m 376 57 0) 376 57 0) 376 51 = m 376 51 := rfl
                  have es13939 : (yup (yup m 376 57 0) 376 57 0) 376 54 = m 376 54 := rfl
                  have es13940 : (yup (yup m 376 57 0) 376 57 0) 376 18 = m 376 18 := rfl
                  have hVg : VX 1 (yup (yup m 376 57 0) 376 57 0) := (VX.sc (VX.sc hV (by decide)) (by decide))
                  refine y_callP 127 [.ref 376, yI v13937] [] c207_124 rfl rfl rfl rfl rfl (ycanO km205 ko376) (t205_1 hT13902 hVg (by omega) (by omega)) (fun r13941 hr13941 => ?_)
                  refine y_goto 131 c207_127 rfl ?_
                  refine y_istore 133 c207_131 rfl rfl ?_
                  refine y_aload 134 c207_133 rfl rfl rfl ?_
                  refine y_iload 136 c207_134 rfl rfl ?_
                  refine y_iload 137 c207_136 rfl rfl ?_
                  refine y_iload 139 c207_137 rfl rfl ?_
                  refine y_iload 141 c207_139 rfl rfl ?_
                  refine y_aload 142 c207_141 rfl rfl rfl ?_
                  refine y_getX 145 (m 376 55) c207_142 rfl kf376_55 rfl ?_
                  have es13943 : (yup (yup m 376 57 0) 376 57 0) 376 51 = m 376 51 := rfl
                  have es13944 : (yup (yup m 376 57 0) 376 57 0) 376 54 = m 376 54 := rfl
                  have es13945 : (yup (yup m 376 57 0) 376 57 0) 376 18 = m 376 18 := rfl
                  have es13946 : (yup (yup m 376 57 0) 376 57 0) 384 1 = m 384 1 := rfl
                  have es13947 : (yup (yup m 376 57 0) 376 57 0) 390 1 = m 390 1 := rfl
                  have es13948 : (yup (yup m 376 57 0) 376 57 0) 376 57 = 0 := rfl
                  have es13949 : (yup (yup m 376 57 0) 376 57 0) 376 55 = m 376 55 := rfl
                  have hVc : VX 1 (yup (yup m 376 57 0) 376 57 0) := (VX.sc (VX.sc hV (by decide)) (by decide))
                  refine y_callUB 148 [.ref 376, yI r13892, yI r13870, yI r13923, yI r13941, yI (m 376 55)] [] c207_145 rfl rfl rfl rfl rfl (ycanO km203 ko376) (t203_1 hT13902 (by omega) (hG.fr hT (by decide) (fun a q ha => hF13903 a q (wEn_G2 a q ha))) hVc (by omega) (by omega) (by omega) (by omega) (by omega)) (fun mq13942 nq13942 hq13942 => ?_)
                  obtain ⟨rfl, hTq13942, hFq13942, hVq13942, hq13942, hqq13942⟩ := hq13942
                  have hF13950 := hF13903.tr hFq13942 (fun _ _ e => e)
                  have tb13951 := hTq13942.atp 376 57 0 4 rfl
                  have tb13952 := hTq13942.atp 376 54 0 4 rfl
                  have tb13953 := hTq13942.atp 376 55 0 124 rfl
                  have e54 : (yup (yup m 376 57 0) 376 57 0) 376 54 = m 376 54 := rfl
                  have e57 : (yup (yup m 376 57 0) 376 57 0) 376 57 = 0 := rfl
                  rw [e54] at hq13942 hqq13942
                  refine y_retU c207_148 ⟨rfl, hTq13942, hF13950, hVq13942, ?_, fun q hq => (hqq13942 q hq).trans (((yup_na (by decide)).trans (yup_na (by decide))))⟩
                  rcases hq13942 with z | z
                  · exact Or.inl (by omega)
                  · exact Or.inr ⟨z.2.1, by omega, z.2.2.2⟩
            · exfalso; omega
      · exfalso; omega

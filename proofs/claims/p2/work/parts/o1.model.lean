/-! CONTRACTS: the model, steps. Printed by wip/whole/gen9h.py -/
set_option maxRecDepth 100000 in
theorem t204_0 {L : Nat} {xs : Nat → Int32} {d nn : Nat} {m : yM} {k u : Int} (hT : Ty gT m) (hn : m 376 18 = 0) (hG : GQ 0 m) (hV : VX 0 m) (hf : 1 ≤ m 376 54) (hBR : BRm 0 m) (hk : 0 ≤ k ∧ k ≤ 9) (hu : 0 ≤ u ∧ u ≤ m 376 51) : YC (gZ L xs) (d + 1) 204 [.ref 376, yI k, yI u] m nn (qU (fun m' n' => n' = nn ∧ Ty gT m' ∧ Fr wLv m m' ∧ VX 0 m' ∧ m' 376 54 = m 376 54 - 1 ∧ (m' 376 54 = 0 ∨ m' 376 55 < m 390 0))) := by
  have tb383 := hT.atp 383 0 0 6 rfl
  have tb384 := hT.atp 384 0 0 10 rfl
  have tb388 := hT.atp 388 0 0 12 rfl
  have tb390 := hT.atp 390 0 0 125 rfl
  have tm51 := hT.atp 376 51 0 30 rfl
  have tm54 := hT.atp 376 54 0 4 rfl
  have tm55 := hT.atp 376 55 0 124 rfl
  have tm56 := hT.atp 376 56 0 201 rfl
  have tm57 := hT.atp 376 57 0 4 rfl
  have g90 : m 390 0 ≤ 100 := hG.2.2.2.2.2.2.2.2.2.2.1
  refine YC.mkB [some (.ref 376), some (yI k), some (yI u), none] kn204 rfl rfl ?_
  have hF : Fr wLv m m := Fr.rf
  refine y_iload 1 c204_0 rfl rfl ?_
  refine y_if 36 4 c204_1 rfl rfl (yz_le (by omega)) (fun hb13340 => ?_) (fun hb13340 => ?_)
  · refine y_aload 37 c204_36 rfl rfl rfl ?_
    refine y_dup 38 c204_37 rfl rfl ?_
    refine y_getX 41 (m 376 54) c204_38 rfl kf376_54 rfl ?_
    refine y_iconst 42 c204_41 rfl ?_
    refine y_isub 43 c204_42 rfl ?_
    refine y_putI 46 c204_43 rfl kf376_54 (y_fit0 _) ?_
    have hT13341 := hT.up 376 54 ((m 376 54) - 1) 0 4 rfl (by omega)
    have hF13342 := hF.up 376 54 ((m 376 54) - 1) rfl
    refine y_aload 47 c204_46 rfl rfl rfl ?_
    refine y_getX 50 ((m 376 54) - 1) c204_47 rfl kf376_54 rfl ?_
    refine y_if 54 53 c204_50 rfl rfl (yz_ne (by omega)) (fun hb13343 => ?_) (fun hb13343 => ?_)
    · refine y_iconst 57 c204_54 rfl ?_
      refine y_aload 58 c204_57 rfl rfl rfl ?_
      refine y_getX 61 (m 376 18) c204_58 rfl kf376_18 rfl ?_
      have tb13344 := hT.atp 376 18 0 1 rfl
      refine y_top 0 (by omega) ?_
      refine y_imul 62 c204_61 rfl ?_
      refine y_top 0 (by decide) ?_
      refine y_iconst 64 c204_62 rfl ?_
      refine y_aload 65 c204_64 rfl rfl rfl ?_
      refine y_getR 68 c204_65 rfl kf376_53 ?_
      refine y_aload 69 c204_68 rfl rfl rfl ?_
      refine y_getX 72 ((m 376 54) - 1) c204_69 rfl kf376_54 rfl ?_
      refine y_iaT 73 0 124 c204_72 rfl ka412 (by omega) hT13341 rfl (fun v13345 hv13345 gv13345 => ?_)
      have gv13345_ : m 412 (m 376 54 - 1).toNat = v13345 := by rw [show (m 376 54 - 1).toNat = ((m 376 54) - 1).toNat by omega]; exact ((yup_na (by decide))).symm.trans hv13345
      have hbr := hBR (m 376 54 - 1).toNat (by omega) (by omega)
      rw [gv13345_] at hbr
      refine y_imul 74 c204_73 rfl ?_
      refine y_iadd 75 c204_74 rfl ?_
      refine y_istore 76 c204_75 rfl rfl ?_
      refine y_aload 77 c204_76 rfl rfl rfl ?_
      refine y_getR 80 c204_77 rfl kf376_40 ?_
      refine y_iload 81 c204_80 rfl rfl ?_
      refine y_iconst 82 c204_81 rfl ?_
      refine y_iadd 83 c204_82 rfl ?_
      refine y_iaT 84 ((-2147483648)) 2147483647 c204_83 rfl ka403 (by omega) hT13341 rfl (fun v13346 hv13346 gv13346 => ?_)
      have hwv13346 := hG.1.1 v13345.toNat (by omega)
      unfold OW at hwv13346
      have hfxv13346 := hG.2.2.2.2.2.2.1 v13345.toNat (by omega)
      have hnsv13346 := hG.2.2.2.2.2.2.2.2.2.2.2 v13345.toNat (by omega)
      have hlev13346 := hG.2.2.1 v13345.toNat
      have htgv13346 := hG.1.2.1 v13345.toNat (by omega)
      have gv13346_ : m 403 (1000 * 0 + 8 * v13345.toNat + 2) = v13346 := by rw [show 1000 * 0 + 8 * v13345.toNat + 2 = ((0 + (8 * v13345)) + 2).toNat by omega]; exact ((yup_na (by decide))).symm.trans hv13346
      refine y_if 100 87 c204_84 rfl rfl (yz_lt (by omega)) (fun hb13347 => ?_) (fun hb13347 => ?_)
      · refine y_aload 101 c204_100 rfl rfl rfl ?_
        refine y_aload 102 c204_101 rfl rfl rfl ?_
        refine y_getR 105 c204_102 rfl kf376_53 ?_
        refine y_aload 106 c204_105 rfl rfl rfl ?_
        refine y_getX 109 ((m 376 54) - 1) c204_106 rfl kf376_54 rfl ?_
        refine y_iaT 110 0 124 c204_109 rfl ka412 (by omega) hT13341 rfl (fun v13348 hv13348 gv13348 => ?_)
        have gv13348_ : m 412 (m 376 54 - 1).toNat = v13348 := by rw [show (m 376 54 - 1).toNat = ((m 376 54) - 1).toNat by omega]; exact ((yup_na (by decide))).symm.trans hv13348
        refine y_iconst 111 c204_110 rfl ?_
        refine y_iadd 112 c204_111 rfl ?_
        refine y_putI 115 c204_112 rfl kf376_55 (y_fit0 _) ?_
        have hT13349 := hT13341.up 376 55 (v13348 + 1) 0 124 rfl (by omega)
        have hF13350 := hF13342.up 376 55 (v13348 + 1) rfl
        have es13351 : (yup (yup m 376 54 ((m 376 54) - 1)) 376 55 (v13348 + 1)) 376 54 = (m 376 54) - 1 := rfl
        have es13352 : (yup (yup m 376 54 ((m 376 54) - 1)) 376 55 (v13348 + 1)) 376 55 = v13348 + 1 := rfl
        have es13353 : (yup (yup m 376 54 ((m 376 54) - 1)) 376 55 (v13348 + 1)) 376 51 = m 376 51 := rfl
        exact y_retU c204_115 ⟨rfl, hT13349, hF13350, (VX.sc (VX.dn hV (by omega)) (by decide)), by omega, by omega⟩
      · refine y_aload 88 c204_87 rfl rfl rfl ?_
        refine y_aload 89 c204_88 rfl rfl rfl ?_
        refine y_getR 92 c204_89 rfl kf376_40 ?_
        refine y_iload 93 c204_92 rfl rfl ?_
        refine y_iconst 94 c204_93 rfl ?_
        refine y_iadd 95 c204_94 rfl ?_
        refine y_iaT 96 ((-2147483648)) 2147483647 c204_95 rfl ka403 (by omega) hT13341 rfl (fun v13354 hv13354 gv13354 => ?_)
        have gv13354_ : m 403 (1000 * 0 + 8 * v13345.toNat + 2) = v13354 := by rw [show 1000 * 0 + 8 * v13345.toNat + 2 = ((0 + (8 * v13345)) + 2).toNat by omega]; exact ((yup_na (by decide))).symm.trans hv13354
        refine y_iload 97 c204_96 rfl rfl ?_
        have es13356 : (yup m 376 54 ((m 376 54) - 1)) 376 51 = m 376 51 := rfl
        have es13357 : (yup m 376 54 ((m 376 54) - 1)) 376 54 = (m 376 54) - 1 := rfl
        have es13358 : (yup m 376 54 ((m 376 54) - 1)) 376 18 = m 376 18 := rfl
        have hVc : VX 0 (yup m 376 54 ((m 376 54) - 1)) := (VX.dn hV (by omega))
        refine y_callUB 100 [.ref 376, yI v13354, yI u] [] c204_97 rfl rfl rfl rfl rfl (ycanO km202 ko376) (t202_0 hT13341 hVc (by omega) (by omega) (by omega)) (fun mq13355 nq13355 hq13355 => ?_)
        obtain ⟨rfl, hTq13355, hFq13355, hVq13355⟩ := hq13355
        have hF13359 := hF13342.tr hFq13355 wGv_wLv
        refine y_aload 101 c204_100 rfl rfl rfl ?_
        refine y_aload 102 c204_101 rfl rfl rfl ?_
        refine y_getR 105 c204_102 rfl kf376_53 ?_
        refine y_aload 106 c204_105 rfl rfl rfl ?_
        refine y_getX 109 ((m 376 54) - 1) c204_106 rfl kf376_54 ((hFq13355 376 54 rfl).trans (yup_eq _ _ _ _)) ?_
        refine y_iaT 110 0 124 c204_109 rfl ka412 (by omega) hTq13355 rfl (fun v13360 hv13360 gv13360 => ?_)
        have gv13360_ : m 412 (m 376 54 - 1).toNat = v13360 := by rw [show (m 376 54 - 1).toNat = ((m 376 54) - 1).toNat by omega]; exact (((hFq13355 412 _ rfl).trans (yup_na (by decide)))).symm.trans hv13360
        refine y_iconst 111 c204_110 rfl ?_
        refine y_iadd 112 c204_111 rfl ?_
        refine y_putI 115 c204_112 rfl kf376_55 (y_fit0 _) ?_
        have hT13361 := hTq13355.up 376 55 (v13360 + 1) 0 124 rfl (by omega)
        have hF13362 := hF13359.up 376 55 (v13360 + 1) rfl
        have es13363 : (yup mq13355 376 55 (v13360 + 1)) 376 54 = (m 376 54) - 1 := ((yup_nk (by decide)).trans ((hFq13355 376 54 rfl).trans (yup_eq _ _ _ _)))
        have es13364 : (yup mq13355 376 55 (v13360 + 1)) 376 55 = v13360 + 1 := rfl
        have es13365 : (yup mq13355 376 55 (v13360 + 1)) 376 51 = m 376 51 := ((yup_nk (by decide)).trans ((hFq13355 376 51 rfl).trans (yup_nk (by decide))))
        exact y_retU c204_115 ⟨rfl, hT13361, hF13362, (VX.sc hVq13355 (by decide)), by omega, by omega⟩
    · have es13366 : (yup m 376 54 ((m 376 54) - 1)) 376 54 = (m 376 54) - 1 := rfl
      have es13367 : (yup m 376 54 ((m 376 54) - 1)) 376 55 = m 376 55 := rfl
      have es13368 : (yup m 376 54 ((m 376 54) - 1)) 376 51 = m 376 51 := rfl
      exact y_retU c204_53 ⟨rfl, hT13341, hF13342, (VX.dn hV (by omega)), by omega, by omega⟩
  · refine y_aload 5 c204_4 rfl rfl rfl ?_
    refine y_getR 8 c204_5 rfl kf376_48 ?_
    refine y_iconst 10 c204_8 rfl ?_
    refine y_aload 11 c204_10 rfl rfl rfl ?_
    refine y_getR 14 c204_11 rfl kf376_35 ?_
    refine y_iconst 16 c204_14 rfl ?_
    refine y_aload 17 c204_16 rfl rfl rfl ?_
    refine y_getX 20 (m 376 18) c204_17 rfl kf376_18 rfl ?_
    have tb13369 := hT.atp 376 18 0 1 rfl
    refine y_top 0 (by omega) ?_
    refine y_imul 21 c204_20 rfl ?_
    refine y_top 0 (by decide) ?_
    refine y_iload 22 c204_21 rfl rfl ?_
    refine y_iadd 23 c204_22 rfl ?_
    refine y_iaT 24 0 46 c204_23 rfl ka398 (by omega) hT rfl (fun v13370 hv13370 gv13370 => ?_)
    refine y_imul 25 c204_24 rfl ?_
    refine y_aload 26 c204_25 rfl rfl rfl ?_
    refine y_getR 29 c204_26 rfl kf376_49 ?_
    refine y_iload 30 c204_29 rfl rfl ?_
    refine y_iconst 31 c204_30 rfl ?_
    refine y_isub 32 c204_31 rfl ?_
    refine y_iaT 33 0 11 c204_32 rfl ka409 (by omega) hT rfl (fun v13371 hv13371 gv13371 => ?_)
    refine y_iadd 34 c204_33 rfl ?_
    refine y_iconst 35 c204_34 rfl ?_
    refine y_iastore 36 c204_35 rfl ka408 (by omega) (y_nar1 (by omega)) ?_
    have hT13372 := hT.up 408 (((12 * v13370) + v13371).toNat) 1 0 1 rfl (by omega)
    have hF13373 := hF.up 408 (((12 * v13370) + v13371).toNat) 1 rfl
    refine y_aload 37 c204_36 rfl rfl rfl ?_
    refine y_dup 38 c204_37 rfl rfl ?_
    refine y_getX 41 (m 376 54) c204_38 rfl kf376_54 rfl ?_
    refine y_iconst 42 c204_41 rfl ?_
    refine y_isub 43 c204_42 rfl ?_
    refine y_putI 46 c204_43 rfl kf376_54 (y_fit0 _) ?_
    have hT13374 := hT13372.up 376 54 ((m 376 54) - 1) 0 4 rfl (by omega)
    have hF13375 := hF13373.up 376 54 ((m 376 54) - 1) rfl
    refine y_aload 47 c204_46 rfl rfl rfl ?_
    refine y_getX 50 ((m 376 54) - 1) c204_47 rfl kf376_54 rfl ?_
    refine y_if 54 53 c204_50 rfl rfl (yz_ne (by omega)) (fun hb13376 => ?_) (fun hb13376 => ?_)
    · refine y_iconst 57 c204_54 rfl ?_
      refine y_aload 58 c204_57 rfl rfl rfl ?_
      refine y_getX 61 (m 376 18) c204_58 rfl kf376_18 rfl ?_
      refine y_top 0 (by omega) ?_
      refine y_imul 62 c204_61 rfl ?_
      refine y_top 0 (by decide) ?_
      refine y_iconst 64 c204_62 rfl ?_
      refine y_aload 65 c204_64 rfl rfl rfl ?_
      refine y_getR 68 c204_65 rfl kf376_53 ?_
      refine y_aload 69 c204_68 rfl rfl rfl ?_
      refine y_getX 72 ((m 376 54) - 1) c204_69 rfl kf376_54 rfl ?_
      refine y_iaT 73 0 124 c204_72 rfl ka412 (by omega) hT13374 rfl (fun v13377 hv13377 gv13377 => ?_)
      have gv13377_ : m 412 (m 376 54 - 1).toNat = v13377 := by rw [show (m 376 54 - 1).toNat = ((m 376 54) - 1).toNat by omega]; exact (((yup_na (by decide)).trans (yup_na (by decide)))).symm.trans hv13377
      have hbr := hBR (m 376 54 - 1).toNat (by omega) (by omega)
      rw [gv13377_] at hbr
      refine y_imul 74 c204_73 rfl ?_
      refine y_iadd 75 c204_74 rfl ?_
      refine y_istore 76 c204_75 rfl rfl ?_
      refine y_aload 77 c204_76 rfl rfl rfl ?_
      refine y_getR 80 c204_77 rfl kf376_40 ?_
      refine y_iload 81 c204_80 rfl rfl ?_
      refine y_iconst 82 c204_81 rfl ?_
      refine y_iadd 83 c204_82 rfl ?_
      refine y_iaT 84 ((-2147483648)) 2147483647 c204_83 rfl ka403 (by omega) hT13374 rfl (fun v13378 hv13378 gv13378 => ?_)
      have hwv13378 := hG.1.1 v13377.toNat (by omega)
      unfold OW at hwv13378
      have hfxv13378 := hG.2.2.2.2.2.2.1 v13377.toNat (by omega)
      have hnsv13378 := hG.2.2.2.2.2.2.2.2.2.2.2 v13377.toNat (by omega)
      have hlev13378 := hG.2.2.1 v13377.toNat
      have htgv13378 := hG.1.2.1 v13377.toNat (by omega)
      have gv13378_ : m 403 (1000 * 0 + 8 * v13377.toNat + 2) = v13378 := by rw [show 1000 * 0 + 8 * v13377.toNat + 2 = ((0 + (8 * v13377)) + 2).toNat by omega]; exact (((yup_na (by decide)).trans (yup_na (by decide)))).symm.trans hv13378
      refine y_if 100 87 c204_84 rfl rfl (yz_lt (by omega)) (fun hb13379 => ?_) (fun hb13379 => ?_)
      · refine y_aload 101 c204_100 rfl rfl rfl ?_
        refine y_aload 102 c204_101 rfl rfl rfl ?_
        refine y_getR 105 c204_102 rfl kf376_53 ?_
        refine y_aload 106 c204_105 rfl rfl rfl ?_
        refine y_getX 109 ((m 376 54) - 1) c204_106 rfl kf376_54 rfl ?_
        refine y_iaT 110 0 124 c204_109 rfl ka412 (by omega) hT13374 rfl (fun v13380 hv13380 gv13380 => ?_)
        have gv13380_ : m 412 (m 376 54 - 1).toNat = v13380 := by rw [show (m 376 54 - 1).toNat = ((m 376 54) - 1).toNat by omega]; exact (((yup_na (by decide)).trans (yup_na (by decide)))).symm.trans hv13380
        refine y_iconst 111 c204_110 rfl ?_
        refine y_iadd 112 c204_111 rfl ?_
        refine y_putI 115 c204_112 rfl kf376_55 (y_fit0 _) ?_
        have hT13381 := hT13374.up 376 55 (v13380 + 1) 0 124 rfl (by omega)
        have hF13382 := hF13375.up 376 55 (v13380 + 1) rfl
        have es13383 : (yup (yup (yup m 408 (((12 * v13370) + v13371).toNat) 1) 376 54 ((m 376 54) - 1)) 376 55 (v13380 + 1)) 376 54 = (m 376 54) - 1 := rfl
        have es13384 : (yup (yup (yup m 408 (((12 * v13370) + v13371).toNat) 1) 376 54 ((m 376 54) - 1)) 376 55 (v13380 + 1)) 376 55 = v13380 + 1 := rfl
        have es13385 : (yup (yup (yup m 408 (((12 * v13370) + v13371).toNat) 1) 376 54 ((m 376 54) - 1)) 376 55 (v13380 + 1)) 376 51 = m 376 51 := rfl
        exact y_retU c204_115 ⟨rfl, hT13381, hF13382, (VX.sc (VX.dn (VX.na hV (by decide)) (by omega)) (by decide)), by omega, by omega⟩
      · refine y_aload 88 c204_87 rfl rfl rfl ?_
        refine y_aload 89 c204_88 rfl rfl rfl ?_
        refine y_getR 92 c204_89 rfl kf376_40 ?_
        refine y_iload 93 c204_92 rfl rfl ?_
        refine y_iconst 94 c204_93 rfl ?_
        refine y_iadd 95 c204_94 rfl ?_
        refine y_iaT 96 ((-2147483648)) 2147483647 c204_95 rfl ka403 (by omega) hT13374 rfl (fun v13386 hv13386 gv13386 => ?_)
        have gv13386_ : m 403 (1000 * 0 + 8 * v13377.toNat + 2) = v13386 := by rw [show 1000 * 0 + 8 * v13377.toNat + 2 = ((0 + (8 * v13377)) + 2).toNat by omega]; exact (((yup_na (by decide)).trans (yup_na (by decide)))).symm.trans hv13386
        refine y_iload 97 c204_96 rfl rfl ?_
        have es13388 : (yup (yup m 408 (((12 * v13370) + v13371).toNat) 1) 376 54 ((m 376 54) - 1)) 376 51 = m 376 51 := rfl
        have es13389 : (yup (yup m 408 (((12 * v13370) + v13371).toNat) 1) 376 54 ((m 376 54) - 1)) 376 54 = (m 376 54) - 1 := rfl
        have es13390 : (yup (yup m 408 (((12 * v13370) + v13371).toNat) 1) 376 54 ((m 376 54) - 1)) 376 18 = m 376 18 := rfl
        have hVc : VX 0 (yup (yup m 408 (((12 * v13370) + v13371).toNat) 1) 376 54 ((m 376 54) - 1)) := (VX.dn (VX.na hV (by decide)) (by omega))
        refine y_callUB 100 [.ref 376, yI v13386, yI u] [] c204_97 rfl rfl rfl rfl rfl (ycanO km202 ko376) (t202_0 hT13374 hVc (by omega) (by omega) (by omega)) (fun mq13387 nq13387 hq13387 => ?_)
        obtain ⟨rfl, hTq13387, hFq13387, hVq13387⟩ := hq13387
        have hF13391 := hF13375.tr hFq13387 wGv_wLv
        refine y_aload 101 c204_100 rfl rfl rfl ?_
        refine y_aload 102 c204_101 rfl rfl rfl ?_
        refine y_getR 105 c204_102 rfl kf376_53 ?_
        refine y_aload 106 c204_105 rfl rfl rfl ?_
        refine y_getX 109 ((m 376 54) - 1) c204_106 rfl kf376_54 ((hFq13387 376 54 rfl).trans (yup_eq _ _ _ _)) ?_
        refine y_iaT 110 0 124 c204_109 rfl ka412 (by omega) hTq13387 rfl (fun v13392 hv13392 gv13392 => ?_)
        have gv13392_ : m 412 (m 376 54 - 1).toNat = v13392 := by rw [show (m 376 54 - 1).toNat = ((m 376 54) - 1).toNat by omega]; exact (((hFq13387 412 _ rfl).trans ((yup_na (by decide)).trans (yup_na (by decide))))).symm.trans hv13392
        refine y_iconst 111 c204_110 rfl ?_
        refine y_iadd 112 c204_111 rfl ?_
        refine y_putI 115 c204_112 rfl kf376_55 (y_fit0 _) ?_
        have hT13393 := hTq13387.up 376 55 (v13392 + 1) 0 124 rfl (by omega)
        have hF13394 := hF13391.up 376 55 (v13392 + 1) rfl
        have es13395 : (yup mq13387 376 55 (v13392 + 1)) 376 54 = (m 376 54) - 1 := ((yup_nk (by decide)).trans ((hFq13387 376 54 rfl).trans (yup_eq _ _ _ _)))
        have es13396 : (yup mq13387 376 55 (v13392 + 1)) 376 55 = v13392 + 1 := rfl
        have es13397 : (yup mq13387 376 55 (v13392 + 1)) 376 51 = m 376 51 := ((yup_nk (by decide)).trans ((hFq13387 376 51 rfl).trans ((yup_nk (by decide)).trans (yup_na (by decide)))))
        exact y_retU c204_115 ⟨rfl, hT13393, hF13394, (VX.sc hVq13387 (by decide)), by omega, by omega⟩
    · have es13398 : (yup (yup m 408 (((12 * v13370) + v13371).toNat) 1) 376 54 ((m 376 54) - 1)) 376 54 = (m 376 54) - 1 := rfl
      have es13399 : (yup (yup m 408 (((12 * v13370) + v13371).toNat) 1) 376 54 ((m 376 54) - 1)) 376 55 = m 376 55 := rfl
      have es13400 : (yup (yup m 408 (((12 * v13370) + v13371).toNat) 1) 376 54 ((m 376 54) - 1)) 376 51 = m 376 51 := rfl
      exact y_retU c204_53 ⟨rfl, hT13374, hF13375, (VX.dn (VX.na hV (by decide)) (by omega)), by omega, by omega⟩
set_option maxRecDepth 100000 in
theorem t207_0 {L : Nat} {xs : Nat → Int32} {d nn : Nat} {m : yM} {k : Int} (hT : Ty gT m) (hn : m 376 18 = 0) (hG : GQ 0 m) (hV : VX 0 m) (hf : 1 ≤ m 376 54) (hko : 0 ≤ k ∧ k < m 390 0) (h7 : m 403 (1000 * 0 + 8 * k.toNat) = 7) : YC (gZ L xs) (d + 2) 207 [.ref 376, yI (0 + 8 * k)] m nn (qU (fun m' n' => n' = nn ∧ Ty gT m' ∧ Fr wEn m m' ∧ VX 0 m' ∧ (m' 376 57 ≠ 0 ∨ (m' 376 54 = m 376 54 + 1 ∧ m' 376 55 < m 390 0 ∧ m' 412 (m 376 54).toNat = m 376 55)) ∧ ∀ q, q ≠ (m 376 54).toNat → m' 412 q = m 412 q)) := by
  have tb383 := hT.atp 383 0 0 6 rfl
  have tb384 := hT.atp 384 0 0 10 rfl
  have tb388 := hT.atp 388 0 0 12 rfl
  have tb390 := hT.atp 390 0 0 125 rfl
  have tm51 := hT.atp 376 51 0 30 rfl
  have tm54 := hT.atp 376 54 0 4 rfl
  have tm55 := hT.atp 376 55 0 124 rfl
  have tm56 := hT.atp 376 56 0 201 rfl
  have tm57 := hT.atp 376 57 0 4 rfl
  have g90 : m 390 0 ≤ 100 := hG.2.2.2.2.2.2.2.2.2.2.1
  refine YC.mkB [some (.ref 376), some (yI (0 + 8 * k)), none, none, none, none, none] kn207 rfl rfl ?_
  have hF : Fr wEn m m := Fr.rf
  refine y_aload 1 c207_0 rfl rfl rfl ?_
  refine y_aload 2 c207_1 rfl rfl rfl ?_
  refine y_getR 5 c207_2 rfl kf376_40 ?_
  refine y_iload 6 c207_5 rfl rfl ?_
  refine y_iconst 7 c207_6 rfl ?_
  refine y_iadd 8 c207_7 rfl ?_
  refine y_iaT 9 ((-2147483648)) 2147483647 c207_8 rfl ka403 (by omega) hT rfl (fun v13401 hv13401 gv13401 => ?_)
  have hwv13401 := hG.1.1 k.toNat (by omega)
  unfold OW at hwv13401
  have hfxv13401 := hG.2.2.2.2.2.2.1 k.toNat (by omega)
  have hnsv13401 := hG.2.2.2.2.2.2.2.2.2.2.2 k.toNat (by omega)
  have hlev13401 := hG.2.2.1 k.toNat
  have htgv13401 := hG.1.2.1 k.toNat (by omega)
  have gv13401_ : m 403 (1000 * 0 + 8 * k.toNat + 3) = v13401 := by rw [show 1000 * 0 + 8 * k.toNat + 3 = ((0 + 8 * k) + 3).toNat by omega]; exact (rfl).symm.trans hv13401
  have tb13402 := hT.atp 376 18 0 1 rfl
  have hVg : VX 0 m := hV
  refine y_callP 12 [.ref 376, yI v13401] [] c207_9 rfl rfl rfl rfl rfl (ycanO km205 ko376) (t205_0 hT hVg (by omega) (by omega)) (fun r13403 hr13403 => ?_)
  refine y_istore 13 c207_12 rfl rfl ?_
  refine y_aload 14 c207_13 rfl rfl rfl ?_
  refine y_iload 15 c207_14 rfl rfl ?_
  refine y_if 22 18 c207_15 rfl rfl (yz_le (by omega)) (fun hb13404 => ?_) (fun hb13404 => ?_)
  · refine y_iconst 23 c207_22 rfl ?_
    refine y_iconst 24 c207_23 rfl ?_
    refine y_inlB 27 [.ref 376, yI 0, yI 1] [] [some (.ref 376), some (yI 0), some (yI 1)] c207_24 rfl rfl rfl rfl rfl (ycanO km23 ko376) kn23 rfl rfl ?_
    refine y_aload 1 c23_0 rfl rfl rfl ?_
    refine y_iload 2 c23_1 rfl rfl ?_
    refine y_if 9 5 c23_2 rfl rfl (yz_eq (by omega)) (fun hb13405 => ?_) (fun hb13405 => ?_)
    · refine y_iload 10 c23_9 rfl rfl ?_
      refine y_putI 13 c23_10 rfl kf376_57 (y_fit0 _) ?_
      have hT13406 := hT.up 376 57 1 0 4 rfl (by omega)
      have hF13407 := hF.up 376 57 1 rfl
      refine y_iload 14 c23_13 rfl rfl ?_
      refine y_ireturnK c23_14 (y_fit1 (by omega)) ?_
      refine y_if 31 30 c207_27 rfl rfl (yz_ne (by omega)) (fun hb13408 => ?_) (fun hb13408 => ?_)
      · exfalso; omega
      · have es13409 : (yup m 376 57 1) 376 57 = 1 := rfl
        have es13410 : (yup m 376 57 1) 376 54 = m 376 54 := rfl
        have es13411 : (yup m 376 57 1) 376 55 = m 376 55 := rfl
        exact y_retU c207_30 ⟨rfl, hT13406, hF13407, (VX.sc hV (by decide)), Or.inl (by omega), fun q hq => (yup_na (by decide))⟩
    · exfalso; omega
  · refine y_iconst 19 c207_18 rfl ?_
    refine y_goto 23 c207_19 rfl ?_
    refine y_iconst 24 c207_23 rfl ?_
    refine y_inlB 27 [.ref 376, yI 1, yI 1] [] [some (.ref 376), some (yI 1), some (yI 1)] c207_24 rfl rfl rfl rfl rfl (ycanO km23 ko376) kn23 rfl rfl ?_
    refine y_aload 1 c23_0 rfl rfl rfl ?_
    refine y_iload 2 c23_1 rfl rfl ?_
    refine y_if 9 5 c23_2 rfl rfl (yz_eq (by omega)) (fun hb13412 => ?_) (fun hb13412 => ?_)
    · exfalso; omega
    · refine y_iconst 6 c23_5 rfl ?_
      refine y_goto 10 c23_6 rfl ?_
      refine y_putI 13 c23_10 rfl kf376_57 (y_fit0 _) ?_
      have hT13413 := hT.up 376 57 0 0 4 rfl (by omega)
      have hF13414 := hF.up 376 57 0 rfl
      refine y_iload 14 c23_13 rfl rfl ?_
      refine y_ireturnK c23_14 (y_fit1 (by omega)) ?_
      refine y_if 31 30 c207_27 rfl rfl (yz_ne (by omega)) (fun hb13415 => ?_) (fun hb13415 => ?_)
      · refine y_aload 32 c207_31 rfl rfl rfl ?_
        refine y_getR 35 c207_32 rfl kf376_40 ?_
        refine y_iload 36 c207_35 rfl rfl ?_
        refine y_iconst 37 c207_36 rfl ?_
        refine y_iadd 38 c207_37 rfl ?_
        refine y_iaT 39 ((-2147483648)) 2147483647 c207_38 rfl ka403 (by omega) hT13413 rfl (fun v13416 hv13416 gv13416 => ?_)
        have gv13416_ : m 403 (1000 * 0 + 8 * k.toNat + 5) = v13416 := by rw [show 1000 * 0 + 8 * k.toNat + 5 = ((0 + 8 * k) + 5).toNat by omega]; exact ((yup_na (by decide))).symm.trans hv13416
        refine y_iconst 41 c207_39 rfl ?_
        refine y_irem 42 c207_41 rfl (by omega) (by omega) ?_
        refine y_istore 43 c207_42 rfl rfl ?_
        refine y_aload 44 c207_43 rfl rfl rfl ?_
        refine y_aload 45 c207_44 rfl rfl rfl ?_
        refine y_getX 48 (m 376 18) c207_45 rfl kf376_18 rfl ?_
        refine y_top 0 (by omega) ?_
        refine y_aload 49 c207_48 rfl rfl rfl ?_
        refine y_iload 50 c207_49 rfl rfl ?_
        have es13417 : (yup m 376 57 0) 376 51 = m 376 51 := rfl
        have es13418 : (yup m 376 57 0) 376 54 = m 376 54 := rfl
        have es13419 : (yup m 376 57 0) 376 18 = m 376 18 := rfl
        have es13420 : (yup m 376 57 0) 383 0 = m 383 0 := rfl
        have hVg : VX 0 (yup m 376 57 0) := (VX.sc hV (by decide))
        refine y_callP 53 [.ref 376, yI r13403] [yI 0, .ref 376] c207_50 rfl rfl rfl rfl rfl (ycanO km206 ko376) (t206_0 hT13413 (by omega) (hG.fr hT (by decide) (fun a q ha => hF13414 a q (wEn_G2 a q ha))) hVg (by omega)) (fun r13421 hr13421 => ?_)
        refine y_aload 54 c207_53 rfl rfl rfl ?_
        refine y_getR 57 c207_54 rfl kf376_40 ?_
        refine y_iload 58 c207_57 rfl rfl ?_
        refine y_iconst 59 c207_58 rfl ?_
        refine y_iadd 60 c207_59 rfl ?_
        refine y_iaT 61 ((-2147483648)) 2147483647 c207_60 rfl ka403 (by omega) hT13413 rfl (fun v13422 hv13422 gv13422 => ?_)
        have gv13422_ : m 403 (1000 * 0 + 8 * k.toNat + 4) = v13422 := by rw [show 1000 * 0 + 8 * k.toNat + 4 = ((0 + 8 * k) + 4).toNat by omega]; exact ((yup_na (by decide))).symm.trans hv13422
        refine y_iload 62 c207_61 rfl rfl ?_
        have es13423 : (yup m 376 57 0) 383 0 = m 383 0 := rfl
        have es13424 : (yup m 376 57 0) 384 0 = m 384 0 := rfl
        refine y_callP 65 [.ref 376, yI 0, yI r13421, yI v13422, yI (v13416 % 16)] [] c207_62 rfl rfl rfl rfl rfl (ycanO km142 ko376) (t142_0 hT13413 (by rw [show (yup m 376 57 0) 383 0 = m 383 0 from rfl]; exact hG.2.2.2.2.1.fr (fun q => (yup_na (by decide)))) (by omega) (by omega) (by omega)) (fun r13425 hr13425 => ?_)
        refine y_istore 67 c207_65 rfl rfl ?_
        refine y_aload 68 c207_67 rfl rfl rfl ?_
        refine y_iload 70 c207_68 rfl rfl ?_
        refine y_if 77 73 c207_70 rfl rfl (yz_lt (by omega)) (fun hb13426 => ?_) (fun hb13426 => ?_)
        · refine y_iconst 78 c207_77 rfl ?_
          refine y_iconst 79 c207_78 rfl ?_
          refine y_inlB 82 [.ref 376, yI 0, yI 3] [] [some (.ref 376), some (yI 0), some (yI 3)] c207_79 rfl rfl rfl rfl rfl (ycanO km23 ko376) kn23 rfl rfl ?_
          refine y_aload 1 c23_0 rfl rfl rfl ?_
          refine y_iload 2 c23_1 rfl rfl ?_
          refine y_if 9 5 c23_2 rfl rfl (yz_eq (by omega)) (fun hb13427 => ?_) (fun hb13427 => ?_)
          · refine y_iload 10 c23_9 rfl rfl ?_
            refine y_putI 13 c23_10 rfl kf376_57 (y_fit0 _) ?_
            have hT13428 := hT13413.up 376 57 3 0 4 rfl (by omega)
            have hF13429 := hF13414.up 376 57 3 rfl
            refine y_iload 14 c23_13 rfl rfl ?_
            refine y_ireturnK c23_14 (y_fit1 (by omega)) ?_
            refine y_if 86 85 c207_82 rfl rfl (yz_ne (by omega)) (fun hb13430 => ?_) (fun hb13430 => ?_)
            · exfalso; omega
            · have es13431 : (yup (yup m 376 57 0) 376 57 3) 376 57 = 3 := rfl
              have es13432 : (yup (yup m 376 57 0) 376 57 3) 376 54 = m 376 54 := rfl
              have es13433 : (yup (yup m 376 57 0) 376 57 3) 376 55 = m 376 55 := rfl
              exact y_retU c207_85 ⟨rfl, hT13428, hF13429, (VX.sc (VX.sc hV (by decide)) (by decide)), Or.inl (by omega), fun q hq => ((yup_na (by decide)).trans (yup_na (by decide)))⟩
          · exfalso; omega
        · refine y_iconst 74 c207_73 rfl ?_
          refine y_goto 78 c207_74 rfl ?_
          refine y_iconst 79 c207_78 rfl ?_
          refine y_inlB 82 [.ref 376, yI 1, yI 3] [] [some (.ref 376), some (yI 1), some (yI 3)] c207_79 rfl rfl rfl rfl rfl (ycanO km23 ko376) kn23 rfl rfl ?_
          refine y_aload 1 c23_0 rfl rfl rfl ?_
          refine y_iload 2 c23_1 rfl rfl ?_
          refine y_if 9 5 c23_2 rfl rfl (yz_eq (by omega)) (fun hb13434 => ?_) (fun hb13434 => ?_)
          · exfalso; omega
          · refine y_iconst 6 c23_5 rfl ?_
            refine y_goto 10 c23_6 rfl ?_
            refine y_putI 13 c23_10 rfl kf376_57 (y_fit0 _) ?_
            have hT13435 := hT13413.up 376 57 0 0 4 rfl (by omega)
            have hF13436 := hF13414.up 376 57 0 rfl
            refine y_iload 14 c23_13 rfl rfl ?_
            refine y_ireturnK c23_14 (y_fit1 (by omega)) ?_
            refine y_if 86 85 c207_82 rfl rfl (yz_ne (by omega)) (fun hb13437 => ?_) (fun hb13437 => ?_)
            · refine y_iload 87 c207_86 rfl rfl ?_
              refine y_if 106 90 c207_87 rfl rfl (yz_le (by omega)) (fun hb13438 => ?_) (fun hb13438 => ?_)
              · refine y_iconst 107 c207_106 rfl ?_
                refine y_istore 109 c207_107 rfl rfl ?_
                refine y_iload 110 c207_109 rfl rfl ?_
                refine y_iconst 111 c207_110 rfl ?_
                refine y_icmp 130 114 c207_111 rfl rfl (yc_le (by omega) (by omega)) (fun hb13439 => ?_) (fun hb13439 => ?_)
                · refine y_iconst 131 c207_130 rfl ?_
                  refine y_istore 133 c207_131 rfl rfl ?_
                  refine y_aload 134 c207_133 rfl rfl rfl ?_
                  refine y_iload 136 c207_134 rfl rfl ?_
                  refine y_iload 137 c207_136 rfl rfl ?_
                  refine y_iload 139 c207_137 rfl rfl ?_
                  refine y_iload 141 c207_139 rfl rfl ?_
                  refine y_aload 142 c207_141 rfl rfl rfl ?_
                  refine y_getX 145 (m 376 55) c207_142 rfl kf376_55 rfl ?_
                  have es13441 : (yup (yup m 376 57 0) 376 57 0) 376 51 = m 376 51 := rfl
                  have es13442 : (yup (yup m 376 57 0) 376 57 0) 376 54 = m 376 54 := rfl
                  have es13443 : (yup (yup m 376 57 0) 376 57 0) 376 18 = m 376 18 := rfl
                  have es13444 : (yup (yup m 376 57 0) 376 57 0) 384 0 = m 384 0 := rfl
                  have es13445 : (yup (yup m 376 57 0) 376 57 0) 390 0 = m 390 0 := rfl
                  have es13446 : (yup (yup m 376 57 0) 376 57 0) 376 57 = 0 := rfl
                  have es13447 : (yup (yup m 376 57 0) 376 57 0) 376 55 = m 376 55 := rfl
                  have hVc : VX 0 (yup (yup m 376 57 0) 376 57 0) := (VX.sc (VX.sc hV (by decide)) (by decide))
                  refine y_callUB 148 [.ref 376, yI r13425, yI r13403, yI 0, yI 0, yI (m 376 55)] [] c207_145 rfl rfl rfl rfl rfl (ycanO km203 ko376) (t203_0 hT13435 (by omega) (hG.fr hT (by decide) (fun a q ha => hF13436 a q (wEn_G2 a q ha))) hVc (by omega) (by omega) (by omega) (by omega) (by omega)) (fun mq13440 nq13440 hq13440 => ?_)
                  obtain ⟨rfl, hTq13440, hFq13440, hVq13440, hq13440, hqq13440⟩ := hq13440
                  have hF13448 := hF13436.tr hFq13440 (fun _ _ e => e)
                  have tb13449 := hTq13440.atp 376 57 0 4 rfl
                  have tb13450 := hTq13440.atp 376 54 0 4 rfl
                  have tb13451 := hTq13440.atp 376 55 0 124 rfl
                  have e54 : (yup (yup m 376 57 0) 376 57 0) 376 54 = m 376 54 := rfl
                  have e57 : (yup (yup m 376 57 0) 376 57 0) 376 57 = 0 := rfl
                  rw [e54] at hq13440 hqq13440
                  refine y_retU c207_148 ⟨rfl, hTq13440, hF13448, hVq13440, ?_, fun q hq => (hqq13440 q hq).trans (((yup_na (by decide)).trans (yup_na (by decide))))⟩
                  rcases hq13440 with z | z
                  · exact Or.inl (by omega)
                  · exact Or.inr ⟨z.2.1, by omega, z.2.2.2⟩
                · exfalso; omega
              · refine y_aload 91 c207_90 rfl rfl rfl ?_
                refine y_aload 92 c207_91 rfl rfl rfl ?_
                refine y_getR 95 c207_92 rfl kf376_40 ?_
                refine y_iload 96 c207_95 rfl rfl ?_
                refine y_iconst 98 c207_96 rfl ?_
                refine y_iadd 99 c207_98 rfl ?_
                refine y_iaT 100 ((-2147483648)) 2147483647 c207_99 rfl ka403 (by omega) hT13435 rfl (fun v13452 hv13452 gv13452 => ?_)
                have gv13452_ : m 403 (1000 * 0 + 8 * k.toNat + 6) = v13452 := by rw [show 1000 * 0 + 8 * k.toNat + 6 = ((0 + 8 * k) + 6).toNat by omega]; exact (((yup_na (by decide)).trans (yup_na (by decide)))).symm.trans hv13452
                have es13453 : (yup (yup m 376 57 0) 376 57 0) 376 51 = m 376 51 := rfl
                have es13454 : (yup (yup m 376 57 0) 376 57 0) 376 54 = m 376 54 := rfl
                have es13455 : (yup (yup m 376 57 0) 376 57 0) 376 18 = m 376 18 := rfl
                have hVg : VX 0 (yup (yup m 376 57 0) 376 57 0) := (VX.sc (VX.sc hV (by decide)) (by decide))
                refine y_callP 103 [.ref 376, yI v13452] [] c207_100 rfl rfl rfl rfl rfl (ycanO km205 ko376) (t205_0 hT13435 hVg (by omega) (by omega)) (fun r13456 hr13456 => ?_)
                refine y_goto 107 c207_103 rfl ?_
                refine y_istore 109 c207_107 rfl rfl ?_
                refine y_iload 110 c207_109 rfl rfl ?_
                refine y_iconst 111 c207_110 rfl ?_
                refine y_icmp 130 114 c207_111 rfl rfl (yc_le (by omega) (by omega)) (fun hb13457 => ?_) (fun hb13457 => ?_)
                · refine y_iconst 131 c207_130 rfl ?_
                  refine y_istore 133 c207_131 rfl rfl ?_
                  refine y_aload 134 c207_133 rfl rfl rfl ?_
                  refine y_iload 136 c207_134 rfl rfl ?_
                  refine y_iload 137 c207_136 rfl rfl ?_
                  refine y_iload 139 c207_137 rfl rfl ?_
                  refine y_iload 141 c207_139 rfl rfl ?_
                  refine y_aload 142 c207_141 rfl rfl rfl ?_
                  refine y_getX 145 (m 376 55) c207_142 rfl kf376_55 rfl ?_
                  have es13459 : (yup (yup m 376 57 0) 376 57 0) 376 51 = m 376 51 := rfl
                  have es13460 : (yup (yup m 376 57 0) 376 57 0) 376 54 = m 376 54 := rfl
                  have es13461 : (yup (yup m 376 57 0) 376 57 0) 376 18 = m 376 18 := rfl
                  have es13462 : (yup (yup m 376 57 0) 376 57 0) 384 0 = m 384 0 := rfl
                  have es13463 : (yup (yup m 376 57 0) 376 57 0) 390 0 = m 390 0 := rfl
                  have es13464 : (yup (yup m 376 57 0) 376 57 0) 376 57 = 0 := rfl
                  have es13465 : (yup (yup m 376 57 0) 376 57 0) 376 55 = m 376 55 := rfl
                  have hVc : VX 0 (yup (yup m 376 57 0) 376 57 0) := (VX.sc (VX.sc hV (by decide)) (by decide))
                  refine y_callUB 148 [.ref 376, yI r13425, yI r13403, yI r13456, yI 0, yI (m 376 55)] [] c207_145 rfl rfl rfl rfl rfl (ycanO km203 ko376) (t203_0 hT13435 (by omega) (hG.fr hT (by decide) (fun a q ha => hF13436 a q (wEn_G2 a q ha))) hVc (by omega) (by omega) (by omega) (by omega) (by omega)) (fun mq13458 nq13458 hq13458 => ?_)
                  obtain ⟨rfl, hTq13458, hFq13458, hVq13458, hq13458, hqq13458⟩ := hq13458
                  have hF13466 := hF13436.tr hFq13458 (fun _ _ e => e)
                  have tb13467 := hTq13458.atp 376 57 0 4 rfl
                  have tb13468 := hTq13458.atp 376 54 0 4 rfl
                  have tb13469 := hTq13458.atp 376 55 0 124 rfl
                  have e54 : (yup (yup m 376 57 0) 376 57 0) 376 54 = m 376 54 := rfl
                  have e57 : (yup (yup m 376 57 0) 376 57 0) 376 57 = 0 := rfl
                  rw [e54] at hq13458 hqq13458
                  refine y_retU c207_148 ⟨rfl, hTq13458, hF13466, hVq13458, ?_, fun q hq => (hqq13458 q hq).trans (((yup_na (by decide)).trans (yup_na (by decide))))⟩
                  rcases hq13458 with z | z
                  · exact Or.inl (by omega)
                  · exact Or.inr ⟨z.2.1, by omega, z.2.2.2⟩
                · refine y_aload 115 c207_114 rfl rfl rfl ?_
                  refine y_aload 116 c207_115 rfl rfl rfl ?_
                  refine y_getR 119 c207_116 rfl kf376_40 ?_
                  refine y_iload 120 c207_119 rfl rfl ?_
                  refine y_iconst 122 c207_120 rfl ?_
                  refine y_iadd 123 c207_122 rfl ?_
                  refine y_iaT 124 ((-2147483648)) 2147483647 c207_123 rfl ka403 (by omega) hT13435 rfl (fun v13470 hv13470 gv13470 => ?_)
                  have gv13470_ : m 403 (1000 * 0 + 8 * k.toNat + 7) = v13470 := by rw [show 1000 * 0 + 8 * k.toNat + 7 = ((0 + 8 * k) + 7).toNat by omega]; exact (((yup_na (by decide)).trans (yup_na (by decide)))).symm.trans hv13470
                  have es13471 : (yup (yup m 376 57 0) 376 57 0) 376 51 = m 376 51 := rfl
                  have es13472 : (yup (yup m 376 57 0) 376 57 0) 376 54 = m 376 54 := rfl
                  have es13473 : (yup (yup m 376 57 0) 376 57 0) 376 18 = m 376 18 := rfl
                  have hVg : VX 0 (yup (yup m 376 57 0) 376 57 0) := (VX.sc (VX.sc hV (by decide)) (by decide))
                  refine y_callP 127 [.ref 376, yI v13470] [] c207_124 rfl rfl rfl rfl rfl (ycanO km205 ko376) (t205_0 hT13435 hVg (by omega) (by omega)) (fun r13474 hr13474 => ?_)
                  refine y_goto 131 c207_127 rfl ?_
                  refine y_istore 133 c207_131 rfl rfl ?_
                  refine y_aload 134 c207_133 rfl rfl rfl ?_
                  refine y_iload 136 c207_134 rfl rfl ?_
                  refine y_iload 137 c207_136 rfl rfl ?_
                  refine y_iload 139 c207_137 rfl rfl ?_
                  refine y_iload 141 c207_139 rfl rfl ?_
                  refine y_aload 142 c207_141 rfl rfl rfl ?_
                  refine y_getX 145 (m 376 55) c207_142 rfl kf376_55 rfl ?_
                  have es13476 : (yup (yup m 376 57 0) 376 57 0) 376 51 = m 376 51 := rfl
                  have es13477 : (yup (yup m 376 57 0) 376 57 0) 376 54 = m 376 54 := rfl
                  have es13478 : (yup (yup m 376 57 0) 376 57 0) 376 18 = m 376 18 := rfl
                  have es13479 : (yup (yup m 376 57 0) 376 57 0) 384 0 = m 384 0 := rfl
                  have es13480 : (yup (yup m 376 57 0) 376 57 0) 390 0 = m 390 0 := rfl
                  have es13481 : (yup (yup m 376 57 0) 376 57 0) 376 57 = 0 := rfl
                  have es13482 : (yup (yup m 376 57 0) 376 57 0) 376 55 = m 376 55 := rfl
                  have hVc : VX 0 (yup (yup m 376 57 0) 376 57 0) := (VX.sc (VX.sc hV (by decide)) (by decide))
                  refine y_callUB 148 [.ref 376, yI r13425, yI r13403, yI r13456, yI r13474, yI (m 376 55)] [] c207_145 rfl rfl rfl rfl rfl (ycanO km203 ko376) (t203_0 hT13435 (by omega) (hG.fr hT (by decide) (fun a q ha => hF13436 a q (wEn_G2 a q ha))) hVc (by omega) (by omega) (by omega) (by omega) (by omega)) (fun mq13475 nq13475 hq13475 => ?_)
                  obtain ⟨rfl, hTq13475, hFq13475, hVq13475, hq13475, hqq13475⟩ := hq13475
                  have hF13483 := hF13436.tr hFq13475 (fun _ _ e => e)
                  have tb13484 := hTq13475.atp 376 57 0 4 rfl
                  have tb13485 := hTq13475.atp 376 54 0 4 rfl
                  have tb13486 := hTq13475.atp 376 55 0 124 rfl
                  have e54 : (yup (yup m 376 57 0) 376 57 0) 376 54 = m 376 54 := rfl
                  have e57 : (yup (yup m 376 57 0) 376 57 0) 376 57 = 0 := rfl
                  rw [e54] at hq13475 hqq13475
                  refine y_retU c207_148 ⟨rfl, hTq13475, hF13483, hVq13475, ?_, fun q hq => (hqq13475 q hq).trans (((yup_na (by decide)).trans (yup_na (by decide))))⟩
                  rcases hq13475 with z | z
                  · exact Or.inl (by omega)
                  · exact Or.inr ⟨z.2.1, by omega, z.2.2.2⟩
            · exfalso; omega
      · exfalso; omega
set_option maxRecDepth 100000 in
theorem t208_0 {L : Nat} {xs : Nat → Int32} {d nn : Nat} {m : yM} {k : Int} (hT : Ty gT m) (hn : m 376 18 = 0) (hG : GQ 0 m) (hV : VX 0 m) (hf : 1 ≤ m 376 54) (hko : 0 ≤ k ∧ k < m 390 0) (h45 : m 403 (1000 * 0 + 8 * k.toNat) = 4 ∨ m 403 (1000 * 0 + 8 * k.toNat) = 5) : YC (gZ L xs) (d + 2) 208 [.ref 376, yI (0 + 8 * k)] m nn (qU (fun m' n' => n' = nn ∧ Ty gT m' ∧ Fr wPl m m' ∧ VX 0 m')) := by
  have tb383 := hT.atp 383 0 0 6 rfl
  have tb384 := hT.atp 384 0 0 10 rfl
  have tb388 := hT.atp 388 0 0 12 rfl
  have tb390 := hT.atp 390 0 0 125 rfl
  have tm51 := hT.atp 376 51 0 30 rfl
  have tm54 := hT.atp 376 54 0 4 rfl
  have tm55 := hT.atp 376 55 0 124 rfl
  have tm56 := hT.atp 376 56 0 201 rfl
  have tm57 := hT.atp 376 57 0 4 rfl
  have g90 : m 390 0 ≤ 100 := hG.2.2.2.2.2.2.2.2.2.2.1
  refine YC.mkB [some (.ref 376), some (yI (0 + 8 * k)), none, none, none] kn208 rfl rfl ?_
  have hF : Fr wPl m m := Fr.rf
  refine y_aload 1 c208_0 rfl rfl rfl ?_
  refine y_getR 4 c208_1 rfl kf376_40 ?_
  refine y_iload 5 c208_4 rfl rfl ?_
  refine y_iaT 6 ((-2147483648)) 2147483647 c208_5 rfl ka403 (by omega) hT rfl (fun v13487 hv13487 gv13487 => ?_)
  have hwv13487 := hG.1.1 k.toNat (by omega)
  unfold OW at hwv13487
  have hfxv13487 := hG.2.2.2.2.2.2.1 k.toNat (by omega)
  have hnsv13487 := hG.2.2.2.2.2.2.2.2.2.2.2 k.toNat (by omega)
  have hlev13487 := hG.2.2.1 k.toNat
  have htgv13487 := hG.1.2.1 k.toNat (by omega)
  have gv13487_ : m 403 (1000 * 0 + 8 * k.toNat) = v13487 := by rw [show 1000 * 0 + 8 * k.toNat = (0 + 8 * k).toNat by omega]; exact (rfl).symm.trans hv13487
  refine y_iconst 7 c208_6 rfl ?_
  refine y_icmp 14 10 c208_7 rfl rfl (yc_ne (by omega) (by omega)) (fun hb13488 => ?_) (fun hb13488 => ?_)
  · refine y_iconst 15 c208_14 rfl ?_
    refine y_istore 16 c208_15 rfl rfl ?_
    refine y_aload 17 c208_16 rfl rfl rfl ?_
    refine y_iload 18 c208_17 rfl rfl ?_
    refine y_if 32 21 c208_18 rfl rfl (yz_eq (by omega)) (fun hb13489 => ?_) (fun hb13489 => ?_)
    · refine y_aload 33 c208_32 rfl rfl rfl ?_
      refine y_getR 36 c208_33 rfl kf376_40 ?_
      refine y_iload 37 c208_36 rfl rfl ?_
      refine y_iconst 38 c208_37 rfl ?_
      refine y_iadd 39 c208_38 rfl ?_
      refine y_iaT 40 ((-2147483648)) 2147483647 c208_39 rfl ka403 (by omega) hT rfl (fun v13490 hv13490 gv13490 => ?_)
      have gv13490_ : m 403 (1000 * 0 + 8 * k.toNat + 2) = v13490 := by rw [show 1000 * 0 + 8 * k.toNat + 2 = ((0 + 8 * k) + 2).toNat by omega]; exact (rfl).symm.trans hv13490
      have tb13491 := hT.atp 376 18 0 1 rfl
      have hVg : VX 0 m := hV
      refine y_callP 43 [.ref 376, yI v13490] [] c208_40 rfl rfl rfl rfl rfl (ycanO km205 ko376) (t205_0 hT hVg (by omega) (by omega)) (fun r13492 hr13492 => ?_)
      refine y_istore 44 c208_43 rfl rfl ?_
      refine y_aload 45 c208_44 rfl rfl rfl ?_
      refine y_iload 46 c208_45 rfl rfl ?_
      refine y_if 53 49 c208_46 rfl rfl (yz_le (by omega)) (fun hb13493 => ?_) (fun hb13493 => ?_)
      · refine y_iconst 54 c208_53 rfl ?_
        refine y_iconst 55 c208_54 rfl ?_
        refine y_inlB 58 [.ref 376, yI 0, yI 1] [] [some (.ref 376), some (yI 0), some (yI 1)] c208_55 rfl rfl rfl rfl rfl (ycanO km23 ko376) kn23 rfl rfl ?_
        refine y_aload 1 c23_0 rfl rfl rfl ?_
        refine y_iload 2 c23_1 rfl rfl ?_
        refine y_if 9 5 c23_2 rfl rfl (yz_eq (by omega)) (fun hb13494 => ?_) (fun hb13494 => ?_)
        · refine y_iload 10 c23_9 rfl rfl ?_
          refine y_putI 13 c23_10 rfl kf376_57 (y_fit0 _) ?_
          have hT13495 := hT.up 376 57 1 0 4 rfl (by omega)
          have hF13496 := hF.up 376 57 1 rfl
          refine y_iload 14 c23_13 rfl rfl ?_
          refine y_ireturnK c23_14 (y_fit1 (by omega)) ?_
          refine y_if 90 61 c208_58 rfl rfl (yz_eq (by omega)) (fun hb13497 => ?_) (fun hb13497 => ?_)
          · have es13498 : (yup m 376 57 1) 376 51 = m 376 51 := rfl
            exact y_retU c208_90 ⟨rfl, hT13495, hF13496, (VX.sc hV (by decide))⟩
          · exfalso; omega
        · exfalso; omega
      · refine y_iconst 50 c208_49 rfl ?_
        refine y_goto 54 c208_50 rfl ?_
        refine y_iconst 55 c208_54 rfl ?_
        refine y_inlB 58 [.ref 376, yI 1, yI 1] [] [some (.ref 376), some (yI 1), some (yI 1)] c208_55 rfl rfl rfl rfl rfl (ycanO km23 ko376) kn23 rfl rfl ?_
        refine y_aload 1 c23_0 rfl rfl rfl ?_
        refine y_iload 2 c23_1 rfl rfl ?_
        refine y_if 9 5 c23_2 rfl rfl (yz_eq (by omega)) (fun hb13499 => ?_) (fun hb13499 => ?_)
        · exfalso; omega
        · refine y_iconst 6 c23_5 rfl ?_
          refine y_goto 10 c23_6 rfl ?_
          refine y_putI 13 c23_10 rfl kf376_57 (y_fit0 _) ?_
          have hT13500 := hT.up 376 57 0 0 4 rfl (by omega)
          have hF13501 := hF.up 376 57 0 rfl
          refine y_iload 14 c23_13 rfl rfl ?_
          refine y_ireturnK c23_14 (y_fit1 (by omega)) ?_
          refine y_if 90 61 c208_58 rfl rfl (yz_eq (by omega)) (fun hb13502 => ?_) (fun hb13502 => ?_)
          · exfalso; omega
          · refine y_aload 62 c208_61 rfl rfl rfl ?_
            refine y_aload 63 c208_62 rfl rfl rfl ?_
            refine y_aload 64 c208_63 rfl rfl rfl ?_
            refine y_getX 67 (m 376 18) c208_64 rfl kf376_18 rfl ?_
            refine y_top 0 (by omega) ?_
            refine y_aload 68 c208_67 rfl rfl rfl ?_
            refine y_iload 69 c208_68 rfl rfl ?_
            have es13503 : (yup m 376 57 0) 376 51 = m 376 51 := rfl
            have es13504 : (yup m 376 57 0) 376 54 = m 376 54 := rfl
            have es13505 : (yup m 376 57 0) 376 18 = m 376 18 := rfl
            have es13506 : (yup m 376 57 0) 383 0 = m 383 0 := rfl
            have hVg : VX 0 (yup m 376 57 0) := (VX.sc hV (by decide))
            refine y_callP 72 [.ref 376, yI r13492] [yI 0, .ref 376, .ref 376] c208_69 rfl rfl rfl rfl rfl (ycanO km206 ko376) (t206_0 hT13500 (by omega) (hG.fr hT (by decide) (fun a q ha => hF13501 a q (wPl_G2 a q ha))) hVg (by omega)) (fun r13507 hr13507 => ?_)
            refine y_aload 73 c208_72 rfl rfl rfl ?_
            refine y_getR 76 c208_73 rfl kf376_40 ?_
            refine y_iload 77 c208_76 rfl rfl ?_
            refine y_iconst 78 c208_77 rfl ?_
            refine y_iadd 79 c208_78 rfl ?_
            refine y_iaT 80 ((-2147483648)) 2147483647 c208_79 rfl ka403 (by omega) hT13500 rfl (fun v13508 hv13508 gv13508 => ?_)
            have gv13508_ : m 403 (1000 * 0 + 8 * k.toNat + 4) = v13508 := by rw [show 1000 * 0 + 8 * k.toNat + 4 = ((0 + 8 * k) + 4).toNat by omega]; exact ((yup_na (by decide))).symm.trans hv13508
            have es13509 : (yup m 376 57 0) 383 0 = m 383 0 := rfl
            refine y_callP 83 [.ref 376, yI 0, yI r13507, yI v13508] [.ref 376] c208_80 rfl rfl rfl rfl rfl (ycanO km121 ko376) (t121_0 hT13500 (by rw [show (yup m 376 57 0) 383 0 = m 383 0 from rfl]; exact hG.2.2.2.2.1.fr (fun q => (yup_na (by decide)))) (by omega) (by omega)) (fun r13510 hr13510 => ?_)
            refine y_iconst 84 c208_83 rfl ?_
            refine y_inlB 87 [.ref 376, yI r13510, yI 3] [] [some (.ref 376), some (yI r13510), some (yI 3)] c208_84 rfl rfl rfl rfl rfl (ycanO km23 ko376) kn23 rfl rfl ?_
            refine y_aload 1 c23_0 rfl rfl rfl ?_
            refine y_iload 2 c23_1 rfl rfl ?_
            refine y_if 9 5 c23_2 rfl rfl (yz_eq (by omega)) (fun hb13511 => ?_) (fun hb13511 => ?_)
            · refine y_iload 10 c23_9 rfl rfl ?_
              refine y_putI 13 c23_10 rfl kf376_57 (y_fit0 _) ?_
              have hT13512 := hT13500.up 376 57 3 0 4 rfl (by omega)
              have hF13513 := hF13501.up 376 57 3 rfl
              refine y_iload 14 c23_13 rfl rfl ?_
              refine y_ireturnK c23_14 (y_fit1 (by omega)) ?_
              refine y_if 91 90 c208_87 rfl rfl (yz_ne (by omega)) (fun hb13514 => ?_) (fun hb13514 => ?_)
              · exfalso; omega
              · have es13515 : (yup (yup m 376 57 0) 376 57 3) 376 51 = m 376 51 := rfl
                exact y_retU c208_90 ⟨rfl, hT13512, hF13513, (VX.sc (VX.sc hV (by decide)) (by decide))⟩
            · refine y_iconst 6 c23_5 rfl ?_
              refine y_goto 10 c23_6 rfl ?_
              refine y_putI 13 c23_10 rfl kf376_57 (y_fit0 _) ?_
              have hT13516 := hT13500.up 376 57 0 0 4 rfl (by omega)
              have hF13517 := hF13501.up 376 57 0 rfl
              refine y_iload 14 c23_13 rfl rfl ?_
              refine y_ireturnK c23_14 (y_fit1 (by omega)) ?_
              refine y_if 91 90 c208_87 rfl rfl (yz_ne (by omega)) (fun hb13518 => ?_) (fun hb13518 => ?_)
              · refine y_iconst 93 c208_91 rfl ?_
                refine y_iload 94 c208_93 rfl rfl ?_
                refine y_iconst 95 c208_94 rfl ?_
                refine y_isub 96 c208_95 rfl ?_
                refine y_imul 97 c208_96 rfl ?_
                refine y_aload 98 c208_97 rfl rfl rfl ?_
                refine y_getR 101 c208_98 rfl kf376_40 ?_
                refine y_iload 102 c208_101 rfl rfl ?_
                refine y_iconst 103 c208_102 rfl ?_
                refine y_iadd 104 c208_103 rfl ?_
                refine y_iaT 105 ((-2147483648)) 2147483647 c208_104 rfl ka403 (by omega) hT13516 rfl (fun v13519 hv13519 gv13519 => ?_)
                have gv13519_ : m 403 (1000 * 0 + 8 * k.toNat + 4) = v13519 := by rw [show 1000 * 0 + 8 * k.toNat + 4 = ((0 + 8 * k) + 4).toNat by omega]; exact (((yup_na (by decide)).trans (yup_na (by decide)))).symm.trans hv13519
                refine y_iadd 106 c208_105 rfl ?_
                refine y_istore 108 c208_106 rfl rfl ?_
                refine y_iload 109 c208_108 rfl rfl ?_
                refine y_if 134 112 c208_109 rfl rfl (yz_eq (by omega)) (fun hb13520 => ?_) (fun hb13520 => ?_)
                · refine y_aload 135 c208_134 rfl rfl rfl ?_
                  refine y_getR 138 c208_135 rfl kf376_50 ?_
                  refine y_iload 140 c208_138 rfl rfl ?_
                  refine y_aload 141 c208_140 rfl rfl rfl ?_
                  refine y_aload 142 c208_141 rfl rfl rfl ?_
                  refine y_getR 145 c208_142 rfl kf376_40 ?_
                  refine y_iload 146 c208_145 rfl rfl ?_
                  refine y_iconst 147 c208_146 rfl ?_
                  refine y_iadd 148 c208_147 rfl ?_
                  refine y_iaT 149 ((-2147483648)) 2147483647 c208_148 rfl ka403 (by omega) hT13516 rfl (fun v13521 hv13521 gv13521 => ?_)
                  have gv13521_ : m 403 (1000 * 0 + 8 * k.toNat + 3) = v13521 := by rw [show 1000 * 0 + 8 * k.toNat + 3 = ((0 + 8 * k) + 3).toNat by omega]; exact (((yup_na (by decide)).trans (yup_na (by decide)))).symm.trans hv13521
                  have es13522 : (yup (yup m 376 57 0) 376 57 0) 376 51 = m 376 51 := rfl
                  have es13523 : (yup (yup m 376 57 0) 376 57 0) 376 54 = m 376 54 := rfl
                  have es13524 : (yup (yup m 376 57 0) 376 57 0) 376 18 = m 376 18 := rfl
                  have hVg : VX 0 (yup (yup m 376 57 0) 376 57 0) := (VX.sc (VX.sc hV (by decide)) (by decide))
                  refine y_callP 152 [.ref 376, yI v13521] [yI ((8 * (r13492 - 1)) + v13519), .ref 410] c208_149 rfl rfl rfl rfl rfl (ycanO km205 ko376) (t205_0 hT13516 hVg (by omega) (by omega)) (fun r13525 hr13525 => ?_)
                  refine y_iastore 153 c208_152 rfl ka410 (by omega) (y_nar0 _) ?_
                  have hT13526 := hT13516.up 410 (((8 * (r13492 - 1)) + v13519).toNat) r13525 0 30 rfl (by omega)
                  have hF13527 := hF13517.up 410 (((8 * (r13492 - 1)) + v13519).toNat) r13525 rfl
                  have es13528 : (yup (yup (yup m 376 57 0) 376 57 0) 410 (((8 * (r13492 - 1)) + v13519).toNat) r13525) 376 51 = m 376 51 := rfl
                  exact y_retU c208_153 ⟨rfl, hT13526, hF13527, (VX.up0 (VX.sc (VX.sc hV (by decide)) (by decide)) (by omega))⟩
                · exfalso; omega
              · exfalso; omega
    · exfalso; omega
  · refine y_iconst 11 c208_10 rfl ?_
    refine y_goto 15 c208_11 rfl ?_
    refine y_istore 16 c208_15 rfl rfl ?_
    refine y_aload 17 c208_16 rfl rfl rfl ?_
    refine y_iload 18 c208_17 rfl rfl ?_
    refine y_if 32 21 c208_18 rfl rfl (yz_eq (by omega)) (fun hb13529 => ?_) (fun hb13529 => ?_)
    · exfalso; omega
    · refine y_aload 22 c208_21 rfl rfl rfl ?_
      refine y_getR 25 c208_22 rfl kf376_40 ?_
      refine y_iload 26 c208_25 rfl rfl ?_
      refine y_iconst 27 c208_26 rfl ?_
      refine y_iadd 28 c208_27 rfl ?_
      refine y_iaT 29 ((-2147483648)) 2147483647 c208_28 rfl ka403 (by omega) hT rfl (fun v13530 hv13530 gv13530 => ?_)
      have gv13530_ : m 403 (1000 * 0 + 8 * k.toNat + 3) = v13530 := by rw [show 1000 * 0 + 8 * k.toNat + 3 = ((0 + 8 * k) + 3).toNat by omega]; exact (rfl).symm.trans hv13530
      refine y_goto 40 c208_29 rfl ?_
      have tb13531 := hT.atp 376 18 0 1 rfl
      have hVg : VX 0 m := hV
      refine y_callP 43 [.ref 376, yI v13530] [] c208_40 rfl rfl rfl rfl rfl (ycanO km205 ko376) (t205_0 hT hVg (by omega) (by omega)) (fun r13532 hr13532 => ?_)
      refine y_istore 44 c208_43 rfl rfl ?_
      refine y_aload 45 c208_44 rfl rfl rfl ?_
      refine y_iload 46 c208_45 rfl rfl ?_
      refine y_if 53 49 c208_46 rfl rfl (yz_le (by omega)) (fun hb13533 => ?_) (fun hb13533 => ?_)
      · refine y_iconst 54 c208_53 rfl ?_
        refine y_iconst 55 c208_54 rfl ?_
        refine y_inlB 58 [.ref 376, yI 0, yI 1] [] [some (.ref 376), some (yI 0), some (yI 1)] c208_55 rfl rfl rfl rfl rfl (ycanO km23 ko376) kn23 rfl rfl ?_
        refine y_aload 1 c23_0 rfl rfl rfl ?_
        refine y_iload 2 c23_1 rfl rfl ?_
        refine y_if 9 5 c23_2 rfl rfl (yz_eq (by omega)) (fun hb13534 => ?_) (fun hb13534 => ?_)
        · refine y_iload 10 c23_9 rfl rfl ?_
          refine y_putI 13 c23_10 rfl kf376_57 (y_fit0 _) ?_
          have hT13535 := hT.up 376 57 1 0 4 rfl (by omega)
          have hF13536 := hF.up 376 57 1 rfl
          refine y_iload 14 c23_13 rfl rfl ?_
          refine y_ireturnK c23_14 (y_fit1 (by omega)) ?_
          refine y_if 90 61 c208_58 rfl rfl (yz_eq (by omega)) (fun hb13537 => ?_) (fun hb13537 => ?_)
          · have es13538 : (yup m 376 57 1) 376 51 = m 376 51 := rfl
            exact y_retU c208_90 ⟨rfl, hT13535, hF13536, (VX.sc hV (by decide))⟩
          · exfalso; omega
        · exfalso; omega
      · refine y_iconst 50 c208_49 rfl ?_
        refine y_goto 54 c208_50 rfl ?_
        refine y_iconst 55 c208_54 rfl ?_
        refine y_inlB 58 [.ref 376, yI 1, yI 1] [] [some (.ref 376), some (yI 1), some (yI 1)] c208_55 rfl rfl rfl rfl rfl (ycanO km23 ko376) kn23 rfl rfl ?_
        refine y_aload 1 c23_0 rfl rfl rfl ?_
        refine y_iload 2 c23_1 rfl rfl ?_
        refine y_if 9 5 c23_2 rfl rfl (yz_eq (by omega)) (fun hb13539 => ?_) (fun hb13539 => ?_)
        · exfalso; omega
        · refine y_iconst 6 c23_5 rfl ?_
          refine y_goto 10 c23_6 rfl ?_
          refine y_putI 13 c23_10 rfl kf376_57 (y_fit0 _) ?_
          have hT13540 := hT.up 376 57 0 0 4 rfl (by omega)
          have hF13541 := hF.up 376 57 0 rfl
          refine y_iload 14 c23_13 rfl rfl ?_
          refine y_ireturnK c23_14 (y_fit1 (by omega)) ?_
          refine y_if 90 61 c208_58 rfl rfl (yz_eq (by omega)) (fun hb13542 => ?_) (fun hb13542 => ?_)
          · exfalso; omega
          · refine y_aload 62 c208_61 rfl rfl rfl ?_
            refine y_aload 63 c208_62 rfl rfl rfl ?_
            refine y_aload 64 c208_63 rfl rfl rfl ?_
            refine y_getX 67 (m 376 18) c208_64 rfl kf376_18 rfl ?_
            refine y_top 0 (by omega) ?_
            refine y_aload 68 c208_67 rfl rfl rfl ?_
            refine y_iload 69 c208_68 rfl rfl ?_
            have es13543 : (yup m 376 57 0) 376 51 = m 376 51 := rfl
            have es13544 : (yup m 376 57 0) 376 54 = m 376 54 := rfl
            have es13545 : (yup m 376 57 0) 376 18 = m 376 18 := rfl
            have es13546 : (yup m 376 57 0) 383 0 = m 383 0 := rfl
            have hVg : VX 0 (yup m 376 57 0) := (VX.sc hV (by decide))
            refine y_callP 72 [.ref 376, yI r13532] [yI 0, .ref 376, .ref 376] c208_69 rfl rfl rfl rfl rfl (ycanO km206 ko376) (t206_0 hT13540 (by omega) (hG.fr hT (by decide) (fun a q ha => hF13541 a q (wPl_G2 a q ha))) hVg (by omega)) (fun r13547 hr13547 => ?_)
            refine y_aload 73 c208_72 rfl rfl rfl ?_
            refine y_getR 76 c208_73 rfl kf376_40 ?_
            refine y_iload 77 c208_76 rfl rfl ?_
            refine y_iconst 78 c208_77 rfl ?_
            refine y_iadd 79 c208_78 rfl ?_
            refine y_iaT 80 ((-2147483648)) 2147483647 c208_79 rfl ka403 (by omega) hT13540 rfl (fun v13548 hv13548 gv13548 => ?_)
            have gv13548_ : m 403 (1000 * 0 + 8 * k.toNat + 4) = v13548 := by rw [show 1000 * 0 + 8 * k.toNat + 4 = ((0 + 8 * k) + 4).toNat by omega]; exact ((yup_na (by decide))).symm.trans hv13548
            have es13549 : (yup m 376 57 0) 383 0 = m 383 0 := rfl
            refine y_callP 83 [.ref 376, yI 0, yI r13547, yI v13548] [.ref 376] c208_80 rfl rfl rfl rfl rfl (ycanO km121 ko376) (t121_0 hT13540 (by rw [show (yup m 376 57 0) 383 0 = m 383 0 from rfl]; exact hG.2.2.2.2.1.fr (fun q => (yup_na (by decide)))) (by omega) (by omega)) (fun r13550 hr13550 => ?_)
            refine y_iconst 84 c208_83 rfl ?_
            refine y_inlB 87 [.ref 376, yI r13550, yI 3] [] [some (.ref 376), some (yI r13550), some (yI 3)] c208_84 rfl rfl rfl rfl rfl (ycanO km23 ko376) kn23 rfl rfl ?_
            refine y_aload 1 c23_0 rfl rfl rfl ?_
            refine y_iload 2 c23_1 rfl rfl ?_
            refine y_if 9 5 c23_2 rfl rfl (yz_eq (by omega)) (fun hb13551 => ?_) (fun hb13551 => ?_)
            · refine y_iload 10 c23_9 rfl rfl ?_
              refine y_putI 13 c23_10 rfl kf376_57 (y_fit0 _) ?_
              have hT13552 := hT13540.up 376 57 3 0 4 rfl (by omega)
              have hF13553 := hF13541.up 376 57 3 rfl
              refine y_iload 14 c23_13 rfl rfl ?_
              refine y_ireturnK c23_14 (y_fit1 (by omega)) ?_
              refine y_if 91 90 c208_87 rfl rfl (yz_ne (by omega)) (fun hb13554 => ?_) (fun hb13554 => ?_)
              · exfalso; omega
              · have es13555 : (yup (yup m 376 57 0) 376 57 3) 376 51 = m 376 51 := rfl
                exact y_retU c208_90 ⟨rfl, hT13552, hF13553, (VX.sc (VX.sc hV (by decide)) (by decide))⟩
            · refine y_iconst 6 c23_5 rfl ?_
              refine y_goto 10 c23_6 rfl ?_
              refine y_putI 13 c23_10 rfl kf376_57 (y_fit0 _) ?_
              have hT13556 := hT13540.up 376 57 0 0 4 rfl (by omega)
              have hF13557 := hF13541.up 376 57 0 rfl
              refine y_iload 14 c23_13 rfl rfl ?_
              refine y_ireturnK c23_14 (y_fit1 (by omega)) ?_
              refine y_if 91 90 c208_87 rfl rfl (yz_ne (by omega)) (fun hb13558 => ?_) (fun hb13558 => ?_)
              · refine y_iconst 93 c208_91 rfl ?_
                refine y_iload 94 c208_93 rfl rfl ?_
                refine y_iconst 95 c208_94 rfl ?_
                refine y_isub 96 c208_95 rfl ?_
                refine y_imul 97 c208_96 rfl ?_
                refine y_aload 98 c208_97 rfl rfl rfl ?_
                refine y_getR 101 c208_98 rfl kf376_40 ?_
                refine y_iload 102 c208_101 rfl rfl ?_
                refine y_iconst 103 c208_102 rfl ?_
                refine y_iadd 104 c208_103 rfl ?_
                refine y_iaT 105 ((-2147483648)) 2147483647 c208_104 rfl ka403 (by omega) hT13556 rfl (fun v13559 hv13559 gv13559 => ?_)
                have gv13559_ : m 403 (1000 * 0 + 8 * k.toNat + 4) = v13559 := by rw [show 1000 * 0 + 8 * k.toNat + 4 = ((0 + 8 * k) + 4).toNat by omega]; exact (((yup_na (by decide)).trans (yup_na (by decide)))).symm.trans hv13559
                refine y_iadd 106 c208_105 rfl ?_
                refine y_istore 108 c208_106 rfl rfl ?_
                refine y_iload 109 c208_108 rfl rfl ?_
                refine y_if 134 112 c208_109 rfl rfl (yz_eq (by omega)) (fun hb13560 => ?_) (fun hb13560 => ?_)
                · exfalso; omega
                · refine y_aload 113 c208_112 rfl rfl rfl ?_
                  refine y_aload 114 c208_113 rfl rfl rfl ?_
                  refine y_getR 117 c208_114 rfl kf376_40 ?_
                  refine y_iload 118 c208_117 rfl rfl ?_
                  refine y_iconst 119 c208_118 rfl ?_
                  refine y_iadd 120 c208_119 rfl ?_
                  refine y_iaT 121 ((-2147483648)) 2147483647 c208_120 rfl ka403 (by omega) hT13556 rfl (fun v13561 hv13561 gv13561 => ?_)
                  have gv13561_ : m 403 (1000 * 0 + 8 * k.toNat + 2) = v13561 := by rw [show 1000 * 0 + 8 * k.toNat + 2 = ((0 + 8 * k) + 2).toNat by omega]; exact (((yup_na (by decide)).trans (yup_na (by decide)))).symm.trans hv13561
                  refine y_aload 122 c208_121 rfl rfl rfl ?_
                  refine y_getR 125 c208_122 rfl kf376_50 ?_
                  refine y_iload 127 c208_125 rfl rfl ?_
                  refine y_iaT 128 0 30 c208_127 rfl ka410 (by omega) hT13556 rfl (fun v13562 hv13562 gv13562 => ?_)
                  have gv13562_ : v13562 ≤ m 376 51 := by have h0 := hV.2.1 ((8 * (r13532 - 1)) + v13559).toNat (by omega); rw [← show _ = m 410 ((8 * (r13532 - 1)) + v13559).toNat from ((yup_na (by decide)).trans (yup_na (by decide))), hv13562] at h0; exact h0
                  have es13564 : (yup (yup m 376 57 0) 376 57 0) 376 51 = m 376 51 := rfl
                  have es13565 : (yup (yup m 376 57 0) 376 57 0) 376 54 = m 376 54 := rfl
                  have es13566 : (yup (yup m 376 57 0) 376 57 0) 376 18 = m 376 18 := rfl
                  have hVc : VX 0 (yup (yup m 376 57 0) 376 57 0) := (VX.sc (VX.sc hV (by decide)) (by decide))
                  refine y_callUB 131 [.ref 376, yI v13561, yI v13562] [] c208_128 rfl rfl rfl rfl rfl (ycanO km202 ko376) (t202_0 hT13556 hVc (by omega) (by omega) (by omega)) (fun mq13563 nq13563 hq13563 => ?_)
                  obtain ⟨rfl, hTq13563, hFq13563, hVq13563⟩ := hq13563
                  have hF13567 := hF13557.tr hFq13563 wGv_wPl
                  refine y_goto 153 c208_131 rfl ?_
                  have es13568 : mq13563 376 51 = m 376 51 := ((hFq13563 376 51 rfl).trans ((yup_nk (by decide)).trans (yup_nk (by decide))))
                  exact y_retU c208_153 ⟨rfl, hTq13563, hF13567, hVq13563⟩
              · exfalso; omega
set_option maxRecDepth 100000 in
theorem t209_0 {L : Nat} {xs : Nat → Int32} {d nn : Nat} {m : yM} {k : Int} (hT : Ty gT m) (hn : m 376 18 = 0) (hG : GQ 0 m) (hV : VX 0 m) (hf : 1 ≤ m 376 54) (hko : 0 ≤ k ∧ k < m 390 0) (hwh : m 403 (1000 * 0 + 8 * k.toNat) ≠ 6 ∧ m 403 (1000 * 0 + 8 * k.toNat) ≠ 7 ∧ m 403 (1000 * 0 + 8 * k.toNat) ≤ 8) : YC (gZ L xs) (d + 3) 209 [.ref 376, yI (0 + 8 * k)] m nn (qU (fun m' n' => n' = nn ∧ Ty gT m' ∧ Fr wPl m m' ∧ VX 0 m')) := by
  have tb383 := hT.atp 383 0 0 6 rfl
  have tb384 := hT.atp 384 0 0 10 rfl
  have tb388 := hT.atp 388 0 0 12 rfl
  have tb390 := hT.atp 390 0 0 125 rfl
  have tm51 := hT.atp 376 51 0 30 rfl
  have tm54 := hT.atp 376 54 0 4 rfl
  have tm55 := hT.atp 376 55 0 124 rfl
  have tm56 := hT.atp 376 56 0 201 rfl
  have tm57 := hT.atp 376 57 0 4 rfl
  have g90 : m 390 0 ≤ 100 := hG.2.2.2.2.2.2.2.2.2.2.1
  refine YC.mkB [some (.ref 376), some (yI (0 + 8 * k)), none, none, none, none] kn209 rfl rfl ?_
  have hF : Fr wPl m m := Fr.rf
  refine y_aload 1 c209_0 rfl rfl rfl ?_
  refine y_getR 4 c209_1 rfl kf376_40 ?_
  refine y_iload 5 c209_4 rfl rfl ?_
  refine y_iaT 6 ((-2147483648)) 2147483647 c209_5 rfl ka403 (by omega) hT rfl (fun v13569 hv13569 gv13569 => ?_)
  have hwv13569 := hG.1.1 k.toNat (by omega)
  unfold OW at hwv13569
  have hfxv13569 := hG.2.2.2.2.2.2.1 k.toNat (by omega)
  have hnsv13569 := hG.2.2.2.2.2.2.2.2.2.2.2 k.toNat (by omega)
  have hlev13569 := hG.2.2.1 k.toNat
  have htgv13569 := hG.1.2.1 k.toNat (by omega)
  have gv13569_ : m 403 (1000 * 0 + 8 * k.toNat) = v13569 := by rw [show 1000 * 0 + 8 * k.toNat = (0 + 8 * k).toNat by omega]; exact (rfl).symm.trans hv13569
  refine y_istore 7 c209_6 rfl rfl ?_
  refine y_aload 8 c209_7 rfl rfl rfl ?_
  refine y_getR 11 c209_8 rfl kf376_40 ?_
  refine y_iload 12 c209_11 rfl rfl ?_
  refine y_iconst 13 c209_12 rfl ?_
  refine y_iadd 14 c209_13 rfl ?_
  refine y_iaT 15 ((-2147483648)) 2147483647 c209_14 rfl ka403 (by omega) hT rfl (fun v13570 hv13570 gv13570 => ?_)
  have gv13570_ : m 403 (1000 * 0 + 8 * k.toNat + 2) = v13570 := by rw [show 1000 * 0 + 8 * k.toNat + 2 = ((0 + 8 * k) + 2).toNat by omega]; exact (rfl).symm.trans hv13570
  refine y_istore 16 c209_15 rfl rfl ?_
  refine y_iload 17 c209_16 rfl rfl ?_
  refine y_iconst 19 c209_17 rfl ?_
  refine y_icmp 31 22 c209_19 rfl rfl (yc_ne (by omega) (by omega)) (fun hb13571 => ?_) (fun hb13571 => ?_)
  · refine y_iload 32 c209_31 rfl rfl ?_
    refine y_iconst 33 c209_32 rfl ?_
    refine y_icmp 56 36 c209_33 rfl rfl (yc_ne (by omega) (by omega)) (fun hb13572 => ?_) (fun hb13572 => ?_)
    · refine y_iload 57 c209_56 rfl rfl ?_
      refine y_iconst 58 c209_57 rfl ?_
      refine y_icmp 66 61 c209_58 rfl rfl (yc_eq (by omega) (by omega)) (fun hb13573 => ?_) (fun hb13573 => ?_)
      · refine y_aload 67 c209_66 rfl rfl rfl ?_
        refine y_iload 68 c209_67 rfl rfl ?_
        have tb13575 := hT.atp 376 18 0 1 rfl
        have hVc : VX 0 m := hV
        refine y_callUB 71 [.ref 376, yI (0 + 8 * k)] [] c209_68 rfl rfl rfl rfl rfl (ycanO km208 ko376) (t208_0 (k := k) hT (by omega) hG hVc (by omega) (by omega) (by omega)) (fun mq13574 nq13574 hq13574 => ?_)
        obtain ⟨rfl, hTq13574, hFq13574, hVq13574⟩ := hq13574
        have hF13576 := hF.tr hFq13574 (fun _ _ e => e)
        refine y_goto 191 c209_71 rfl ?_
        have tb13577 := hTq13574.atp 376 51 0 30 rfl
        exact y_retU c209_191 ⟨rfl, hTq13574, hF13576, hVq13574⟩
      · refine y_iload 62 c209_61 rfl rfl ?_
        refine y_iconst 63 c209_62 rfl ?_
        refine y_icmp 74 66 c209_63 rfl rfl (yc_ne (by omega) (by omega)) (fun hb13578 => ?_) (fun hb13578 => ?_)
        · refine y_iload 75 c209_74 rfl rfl ?_
          refine y_iconst 76 c209_75 rfl ?_
          refine y_icmp 110 79 c209_76 rfl rfl (yc_ne (by omega) (by omega)) (fun hb13579 => ?_) (fun hb13579 => ?_)
          · refine y_aload 111 c209_110 rfl rfl rfl ?_
            refine y_aload 112 c209_111 rfl rfl rfl ?_
            refine y_getR 115 c209_112 rfl kf376_40 ?_
            refine y_iload 116 c209_115 rfl rfl ?_
            refine y_iconst 117 c209_116 rfl ?_
            refine y_iadd 118 c209_117 rfl ?_
            refine y_iaT 119 ((-2147483648)) 2147483647 c209_118 rfl ka403 (by omega) hT rfl (fun v13580 hv13580 gv13580 => ?_)
            have gv13580_ : m 403 (1000 * 0 + 8 * k.toNat + 3) = v13580 := by rw [show 1000 * 0 + 8 * k.toNat + 3 = ((0 + 8 * k) + 3).toNat by omega]; exact (rfl).symm.trans hv13580
            have tb13581 := hT.atp 376 18 0 1 rfl
            have hVg : VX 0 m := hV
            refine y_callP 122 [.ref 376, yI v13580] [] c209_119 rfl rfl rfl rfl rfl (ycanO km205 ko376) (t205_0 hT hVg (by omega) (by omega)) (fun r13582 hr13582 => ?_)
            refine y_istore 124 c209_122 rfl rfl ?_
            refine y_iload 126 c209_124 rfl rfl ?_
            refine y_if 167 129 c209_126 rfl rfl (yz_eq (by omega)) (fun hb13583 => ?_) (fun hb13583 => ?_)
            · refine y_iconst 168 c209_167 rfl ?_
              refine y_goto 172 c209_168 rfl ?_
              refine y_istore 174 c209_172 rfl rfl ?_
              refine y_aload 175 c209_174 rfl rfl rfl ?_
              refine y_iload 177 c209_175 rfl rfl ?_
              refine y_iconst 178 c209_177 rfl ?_
              refine y_inlB 181 [.ref 376, yI 1, yI 2] [] [some (.ref 376), some (yI 1), some (yI 2)] c209_178 rfl rfl rfl rfl rfl (ycanO km23 ko376) kn23 rfl rfl ?_
              refine y_aload 1 c23_0 rfl rfl rfl ?_
              refine y_iload 2 c23_1 rfl rfl ?_
              refine y_if 9 5 c23_2 rfl rfl (yz_eq (by omega)) (fun hb13584 => ?_) (fun hb13584 => ?_)
              · exfalso; omega
              · refine y_iconst 6 c23_5 rfl ?_
                refine y_goto 10 c23_6 rfl ?_
                refine y_putI 13 c23_10 rfl kf376_57 (y_fit0 _) ?_
                have hT13585 := hT.up 376 57 0 0 4 rfl (by omega)
                have hF13586 := hF.up 376 57 0 rfl
                refine y_iload 14 c23_13 rfl rfl ?_
                refine y_ireturnK c23_14 (y_fit1 (by omega)) ?_
                refine y_if 191 184 c209_181 rfl rfl (yz_eq (by omega)) (fun hb13587 => ?_) (fun hb13587 => ?_)
                · exfalso; omega
                · refine y_aload 185 c209_184 rfl rfl rfl ?_
                  refine y_iload 186 c209_185 rfl rfl ?_
                  refine y_iload 188 c209_186 rfl rfl ?_
                  have es13589 : (yup m 376 57 0) 376 51 = m 376 51 := rfl
                  have es13590 : (yup m 376 57 0) 376 54 = m 376 54 := rfl
                  have es13591 : (yup m 376 57 0) 376 18 = m 376 18 := rfl
                  have hVc : VX 0 (yup m 376 57 0) := (VX.sc hV (by decide))
                  refine y_callUB 191 [.ref 376, yI v13570, yI r13582] [] c209_188 rfl rfl rfl rfl rfl (ycanO km202 ko376) (t202_0 hT13585 hVc (by omega) (by omega) (by omega)) (fun mq13588 nq13588 hq13588 => ?_)
                  obtain ⟨rfl, hTq13588, hFq13588, hVq13588⟩ := hq13588
                  have hF13592 := hF13586.tr hFq13588 wGv_wPl
                  have es13593 : mq13588 376 51 = m 376 51 := ((hFq13588 376 51 rfl).trans (yup_nk (by decide)))
                  exact y_retU c209_191 ⟨rfl, hTq13588, hF13592, hVq13588⟩
            · refine y_aload 130 c209_129 rfl rfl rfl ?_
              refine y_aload 131 c209_130 rfl rfl rfl ?_
              refine y_getX 134 (m 376 18) c209_131 rfl kf376_18 rfl ?_
              refine y_top 0 (by omega) ?_
              refine y_aload 135 c209_134 rfl rfl rfl ?_
              refine y_iload 137 c209_135 rfl rfl ?_
              have hVg : VX 0 m := hV
              refine y_callP 140 [.ref 376, yI r13582] [yI 0, .ref 376] c209_137 rfl rfl rfl rfl rfl (ycanO km206 ko376) (t206_0 hT (by omega) hG hVg (by omega)) (fun r13594 hr13594 => ?_)
              refine y_aload 141 c209_140 rfl rfl rfl ?_
              refine y_getR 144 c209_141 rfl kf376_39 ?_
              refine y_iconst 146 c209_144 rfl ?_
              refine y_aload 147 c209_146 rfl rfl rfl ?_
              refine y_getX 150 (m 376 18) c209_147 rfl kf376_18 rfl ?_
              refine y_top 0 (by omega) ?_
              refine y_imul 151 c209_150 rfl ?_
              refine y_top 0 (by decide) ?_
              refine y_aload 152 c209_151 rfl rfl rfl ?_
              refine y_getR 155 c209_152 rfl kf376_40 ?_
              refine y_iload 156 c209_155 rfl rfl ?_
              refine y_iconst 157 c209_156 rfl ?_
              refine y_iadd 158 c209_157 rfl ?_
              refine y_iaT 159 ((-2147483648)) 2147483647 c209_158 rfl ka403 (by omega) hT rfl (fun v13595 hv13595 gv13595 => ?_)
              have gv13595_ : m 403 (1000 * 0 + 8 * k.toNat + 4) = v13595 := by rw [show 1000 * 0 + 8 * k.toNat + 4 = ((0 + 8 * k) + 4).toNat by omega]; exact (rfl).symm.trans hv13595
              refine y_iadd 160 c209_159 rfl ?_
              refine y_iaT 161 ((-2147483648)) 2147483647 c209_160 rfl ka402 (by omega) hT rfl (fun v13596 hv13596 gv13596 => ?_)
              refine y_callP 164 [.ref 376, yI 0, yI r13594, yI v13596] [] c209_161 rfl rfl rfl rfl rfl (ycanO km149 ko376) (t149_0 hT hG.2.2.2.2.1 (by omega) (by omega)) (fun r13597 hr13597 => ?_)
              refine y_if 171 167 c209_164 rfl rfl (yz_eq (by omega)) (fun hb13598 => ?_) (fun hb13598 => ?_)
              · refine y_iconst 172 c209_171 rfl ?_
                refine y_istore 174 c209_172 rfl rfl ?_
                refine y_aload 175 c209_174 rfl rfl rfl ?_
                refine y_iload 177 c209_175 rfl rfl ?_
                refine y_iconst 178 c209_177 rfl ?_
                refine y_inlB 181 [.ref 376, yI 0, yI 2] [] [some (.ref 376), some (yI 0), some (yI 2)] c209_178 rfl rfl rfl rfl rfl (ycanO km23 ko376) kn23 rfl rfl ?_
                refine y_aload 1 c23_0 rfl rfl rfl ?_
                refine y_iload 2 c23_1 rfl rfl ?_
                refine y_if 9 5 c23_2 rfl rfl (yz_eq (by omega)) (fun hb13599 => ?_) (fun hb13599 => ?_)
                · refine y_iload 10 c23_9 rfl rfl ?_
                  refine y_putI 13 c23_10 rfl kf376_57 (y_fit0 _) ?_
                  have hT13600 := hT.up 376 57 2 0 4 rfl (by omega)
                  have hF13601 := hF.up 376 57 2 rfl
                  refine y_iload 14 c23_13 rfl rfl ?_
                  refine y_ireturnK c23_14 (y_fit1 (by omega)) ?_
                  refine y_if 191 184 c209_181 rfl rfl (yz_eq (by omega)) (fun hb13602 => ?_) (fun hb13602 => ?_)
                  · have es13603 : (yup m 376 57 2) 376 51 = m 376 51 := rfl
                    exact y_retU c209_191 ⟨rfl, hT13600, hF13601, (VX.sc hV (by decide))⟩
                  · exfalso; omega
                · exfalso; omega
              · refine y_iconst 168 c209_167 rfl ?_
                refine y_goto 172 c209_168 rfl ?_
                refine y_istore 174 c209_172 rfl rfl ?_
                refine y_aload 175 c209_174 rfl rfl rfl ?_
                refine y_iload 177 c209_175 rfl rfl ?_
                refine y_iconst 178 c209_177 rfl ?_
                refine y_inlB 181 [.ref 376, yI 1, yI 2] [] [some (.ref 376), some (yI 1), some (yI 2)] c209_178 rfl rfl rfl rfl rfl (ycanO km23 ko376) kn23 rfl rfl ?_
                refine y_aload 1 c23_0 rfl rfl rfl ?_
                refine y_iload 2 c23_1 rfl rfl ?_
                refine y_if 9 5 c23_2 rfl rfl (yz_eq (by omega)) (fun hb13604 => ?_) (fun hb13604 => ?_)
                · exfalso; omega
                · refine y_iconst 6 c23_5 rfl ?_
                  refine y_goto 10 c23_6 rfl ?_
                  refine y_putI 13 c23_10 rfl kf376_57 (y_fit0 _) ?_
                  have hT13605 := hT.up 376 57 0 0 4 rfl (by omega)
                  have hF13606 := hF.up 376 57 0 rfl
                  refine y_iload 14 c23_13 rfl rfl ?_
                  refine y_ireturnK c23_14 (y_fit1 (by omega)) ?_
                  refine y_if 191 184 c209_181 rfl rfl (yz_eq (by omega)) (fun hb13607 => ?_) (fun hb13607 => ?_)
                  · exfalso; omega
                  · refine y_aload 185 c209_184 rfl rfl rfl ?_
                    refine y_iload 186 c209_185 rfl rfl ?_
                    refine y_iload 188 c209_186 rfl rfl ?_
                    have es13609 : (yup m 376 57 0) 376 51 = m 376 51 := rfl
                    have es13610 : (yup m 376 57 0) 376 54 = m 376 54 := rfl
                    have es13611 : (yup m 376 57 0) 376 18 = m 376 18 := rfl
                    have hVc : VX 0 (yup m 376 57 0) := (VX.sc hV (by decide))
                    refine y_callUB 191 [.ref 376, yI v13570, yI r13582] [] c209_188 rfl rfl rfl rfl rfl (ycanO km202 ko376) (t202_0 hT13605 hVc (by omega) (by omega) (by omega)) (fun mq13608 nq13608 hq13608 => ?_)
                    obtain ⟨rfl, hTq13608, hFq13608, hVq13608⟩ := hq13608
                    have hF13612 := hF13606.tr hFq13608 wGv_wPl
                    have es13613 : mq13608 376 51 = m 376 51 := ((hFq13608 376 51 rfl).trans (yup_nk (by decide)))
                    exact y_retU c209_191 ⟨rfl, hTq13608, hF13612, hVq13608⟩
          · refine y_aload 80 c209_79 rfl rfl rfl ?_
            refine y_aload 81 c209_80 rfl rfl rfl ?_
            refine y_getR 84 c209_81 rfl kf376_40 ?_
            refine y_iload 85 c209_84 rfl rfl ?_
            refine y_iconst 86 c209_85 rfl ?_
            refine y_iadd 87 c209_86 rfl ?_
            refine y_iaT 88 ((-2147483648)) 2147483647 c209_87 rfl ka403 (by omega) hT rfl (fun v13614 hv13614 gv13614 => ?_)
            have gv13614_ : m 403 (1000 * 0 + 8 * k.toNat + 3) = v13614 := by rw [show 1000 * 0 + 8 * k.toNat + 3 = ((0 + 8 * k) + 3).toNat by omega]; exact (rfl).symm.trans hv13614
            have tb13616 := hT.atp 376 18 0 1 rfl
            have hVc : VX 0 m := hV
            refine y_callIB 91 [.ref 376, yI v13614] [] c209_88 rfl rfl rfl rfl rfl (ycanO km201 ko376) (t201_0 hT hVc (by omega)) (fun rq13615 mq13615 nq13615 hq13615 => ?_)
            obtain ⟨rfl, hTq13615, hFq13615, hq13615, hcq13615, hVq13615⟩ := hq13615
            have hF13617 := hF.tr hFq13615 wMk_wPl
            refine y_istore 93 c209_91 rfl rfl ?_
            refine y_aload 94 c209_93 rfl rfl rfl ?_
            refine y_getX 97 (mq13615 376 57) c209_94 rfl kf376_57 rfl ?_
            have tb13618 := hTq13615.atp 376 57 0 4 rfl
            refine y_if 107 100 c209_97 rfl rfl (yz_ne (by omega)) (fun hb13619 => ?_) (fun hb13619 => ?_)
            · refine y_goto 191 c209_107 rfl ?_
              have tb13620 := hTq13615.atp 376 51 0 30 rfl
              exact y_retU c209_191 ⟨rfl, hTq13615, hF13617, hVq13615⟩
            · refine y_aload 101 c209_100 rfl rfl rfl ?_
              refine y_iload 102 c209_101 rfl rfl ?_
              refine y_iload 104 c209_102 rfl rfl ?_
              have tb13622 := hTq13615.atp 376 51 0 30 rfl
              have es13623 : mq13615 376 54 = m 376 54 := (hFq13615 376 54 rfl)
              have es13624 : mq13615 376 18 = m 376 18 := (hFq13615 376 18 rfl)
              have hVc : VX 0 mq13615 := hVq13615
              refine y_callUB 107 [.ref 376, yI v13570, yI rq13615] [] c209_104 rfl rfl rfl rfl rfl (ycanO km202 ko376) (t202_0 hTq13615 hVc (by omega) (by omega) (by omega)) (fun mq13621 nq13621 hq13621 => ?_)
              obtain ⟨rfl, hTq13621, hFq13621, hVq13621⟩ := hq13621
              have hF13625 := hF13617.tr hFq13621 wGv_wPl
              refine y_goto 191 c209_107 rfl ?_
              have es13626 : mq13621 376 51 = mq13615 376 51 := (hFq13621 376 51 rfl)
              exact y_retU c209_191 ⟨rfl, hTq13621, hF13625, hVq13621⟩
        · refine y_aload 67 c209_66 rfl rfl rfl ?_
          refine y_iload 68 c209_67 rfl rfl ?_
          have tb13628 := hT.atp 376 18 0 1 rfl
          have hVc : VX 0 m := hV
          refine y_callUB 71 [.ref 376, yI (0 + 8 * k)] [] c209_68 rfl rfl rfl rfl rfl (ycanO km208 ko376) (t208_0 (k := k) hT (by omega) hG hVc (by omega) (by omega) (by omega)) (fun mq13627 nq13627 hq13627 => ?_)
          obtain ⟨rfl, hTq13627, hFq13627, hVq13627⟩ := hq13627
          have hF13629 := hF.tr hFq13627 (fun _ _ e => e)
          refine y_goto 191 c209_71 rfl ?_
          have tb13630 := hTq13627.atp 376 51 0 30 rfl
          exact y_retU c209_191 ⟨rfl, hTq13627, hF13629, hVq13627⟩
    · refine y_aload 37 c209_36 rfl rfl rfl ?_
      refine y_iload 38 c209_37 rfl rfl ?_
      refine y_aload 39 c209_38 rfl rfl rfl ?_
      refine y_aload 40 c209_39 rfl rfl rfl ?_
      refine y_getR 43 c209_40 rfl kf376_40 ?_
      refine y_iload 44 c209_43 rfl rfl ?_
      refine y_iconst 45 c209_44 rfl ?_
      refine y_iadd 46 c209_45 rfl ?_
      refine y_iaT 47 ((-2147483648)) 2147483647 c209_46 rfl ka403 (by omega) hT rfl (fun v13631 hv13631 gv13631 => ?_)
      have gv13631_ : m 403 (1000 * 0 + 8 * k.toNat + 3) = v13631 := by rw [show 1000 * 0 + 8 * k.toNat + 3 = ((0 + 8 * k) + 3).toNat by omega]; exact (rfl).symm.trans hv13631
      have tb13632 := hT.atp 376 18 0 1 rfl
      have hVg : VX 0 m := hV
      refine y_callP 50 [.ref 376, yI v13631] [yI v13570, .ref 376] c209_47 rfl rfl rfl rfl rfl (ycanO km205 ko376) (t205_0 hT hVg (by omega) (by omega)) (fun r13633 hr13633 => ?_)
      have hVc : VX 0 m := hV
      refine y_callUB 53 [.ref 376, yI v13570, yI r13633] [] c209_50 rfl rfl rfl rfl rfl (ycanO km202 ko376) (t202_0 hT hVc (by omega) (by omega) (by omega)) (fun mq13634 nq13634 hq13634 => ?_)
      obtain ⟨rfl, hTq13634, hFq13634, hVq13634⟩ := hq13634
      have hF13635 := hF.tr hFq13634 wGv_wPl
      refine y_goto 191 c209_53 rfl ?_
      have es13636 : mq13634 376 51 = m 376 51 := (hFq13634 376 51 rfl)
      exact y_retU c209_191 ⟨rfl, hTq13634, hF13635, hVq13634⟩
  · refine y_aload 23 c209_22 rfl rfl rfl ?_
    refine y_iload 24 c209_23 rfl rfl ?_
    refine y_iconst 25 c209_24 rfl ?_
    have tb13638 := hT.atp 376 18 0 1 rfl
    have hVc : VX 0 m := hV
    refine y_callUB 28 [.ref 376, yI v13570, yI 0] [] c209_25 rfl rfl rfl rfl rfl (ycanO km202 ko376) (t202_0 hT hVc (by omega) (by omega) (by omega)) (fun mq13637 nq13637 hq13637 => ?_)
    obtain ⟨rfl, hTq13637, hFq13637, hVq13637⟩ := hq13637
    have hF13639 := hF.tr hFq13637 wGv_wPl
    refine y_goto 191 c209_28 rfl ?_
    have es13640 : mq13637 376 51 = m 376 51 := (hFq13637 376 51 rfl)
    exact y_retU c209_191 ⟨rfl, hTq13637, hF13639, hVq13637⟩
set_option maxRecDepth 100000 in
theorem t204_1 {L : Nat} {xs : Nat → Int32} {d nn : Nat} {m : yM} {k u : Int} (hT : Ty gT m) (hn : m 376 18 = 1) (hG : GQ 1 m) (hV : VX 1 m) (hf : 1 ≤ m 376 54) (hBR : BRm 1 m) (hk : 0 ≤ k ∧ k ≤ 9) (hu : 0 ≤ u ∧ u ≤ m 376 51) : YC (gZ L xs) (d + 1) 204 [.ref 376, yI k, yI u] m nn (qU (fun m' n' => n' = nn ∧ Ty gT m' ∧ Fr wLv m m' ∧ VX 1 m' ∧ m' 376 54 = m 376 54 - 1 ∧ (m' 376 54 = 0 ∨ m' 376 55 < m 390 1))) := by
  have tb383 := hT.atp 383 1 0 6 rfl
  have tb384 := hT.atp 384 1 0 10 rfl
  have tb388 := hT.atp 388 1 0 12 rfl
  have tb390 := hT.atp 390 1 0 125 rfl
  have tm51 := hT.atp 376 51 0 30 rfl
  have tm54 := hT.atp 376 54 0 4 rfl
  have tm55 := hT.atp 376 55 0 124 rfl
  have tm56 := hT.atp 376 56 0 201 rfl
  have tm57 := hT.atp 376 57 0 4 rfl
  have g90 : m 390 1 ≤ 100 := hG.2.2.2.2.2.2.2.2.2.2.1
  refine YC.mkB [some (.ref 376), some (yI k), some (yI u), none] kn204 rfl rfl ?_
  have hF : Fr wLv m m := Fr.rf
  refine y_iload 1 c204_0 rfl rfl ?_
  refine y_if 36 4 c204_1 rfl rfl (yz_le (by omega)) (fun hb13807 => ?_) (fun hb13807 => ?_)
  · refine y_aload 37 c204_36 rfl rfl rfl ?_
    refine y_dup 38 c204_37 rfl rfl ?_
    refine y_getX 41 (m 376 54) c204_38 rfl kf376_54 rfl ?_
    refine y_iconst 42 c204_41 rfl ?_
    refine y_isub 43 c204_42 rfl ?_
    refine y_putI 46 c204_43 rfl kf376_54 (y_fit0 _) ?_
    have hT13808 := hT.up 376 54 ((m 376 54) - 1) 0 4 rfl (by omega)
    have hF13809 := hF.up 376 54 ((m 376 54) - 1) rfl
    refine y_aload 47 c204_46 rfl rfl rfl ?_
    refine y_getX 50 ((m 376 54) - 1) c204_47 rfl kf376_54 rfl ?_
    refine y_if 54 53 c204_50 rfl rfl (yz_ne (by omega)) (fun hb13810 => ?_) (fun hb13810 => ?_)
    · refine y_iconst 57 c204_54 rfl ?_
      refine y_aload 58 c204_57 rfl rfl rfl ?_
      refine y_getX 61 (m 376 18) c204_58 rfl kf376_18 rfl ?_
      have tb13811 := hT.atp 376 18 0 1 rfl
      refine y_top 1 (by omega) ?_
      refine y_imul 62 c204_61 rfl ?_
      refine y_top 1000 (by decide) ?_
      refine y_iconst 64 c204_62 rfl ?_
      refine y_aload 65 c204_64 rfl rfl rfl ?_
      refine y_getR 68 c204_65 rfl kf376_53 ?_
      refine y_aload 69 c204_68 rfl rfl rfl ?_
      refine y_getX 72 ((m 376 54) - 1) c204_69 rfl kf376_54 rfl ?_
      refine y_iaT 73 0 124 c204_72 rfl ka412 (by omega) hT13808 rfl (fun v13812 hv13812 gv13812 => ?_)
      have gv13812_ : m 412 (m 376 54 - 1).toNat = v13812 := by rw [show (m 376 54 - 1).toNat = ((m 376 54) - 1).toNat by omega]; exact ((yup_na (by decide))).symm.trans hv13812
      have hbr := hBR (m 376 54 - 1).toNat (by omega) (by omega)
      rw [gv13812_] at hbr
      refine y_imul 74 c204_73 rfl ?_
      refine y_iadd 75 c204_74 rfl ?_
      refine y_istore 76 c204_75 rfl rfl ?_
      refine y_aload 77 c204_76 rfl rfl rfl ?_
      refine y_getR 80 c204_77 rfl kf376_40 ?_
      refine y_iload 81 c204_80 rfl rfl ?_
      refine y_iconst 82 c204_81 rfl ?_
      refine y_iadd 83 c204_82 rfl ?_
      refine y_iaT 84 ((-2147483648)) 2147483647 c204_83 rfl ka403 (by omega) hT13808 rfl (fun v13813 hv13813 gv13813 => ?_)
      have hwv13813 := hG.1.1 v13812.toNat (by omega)
      unfold OW at hwv13813
      have hfxv13813 := hG.2.2.2.2.2.2.1 v13812.toNat (by omega)
      have hnsv13813 := hG.2.2.2.2.2.2.2.2.2.2.2 v13812.toNat (by omega)
      have hlev13813 := hG.2.2.1 v13812.toNat
      have htgv13813 := hG.1.2.1 v13812.toNat (by omega)
      have gv13813_ : m 403 (1000 * 1 + 8 * v13812.toNat + 2) = v13813 := by rw [show 1000 * 1 + 8 * v13812.toNat + 2 = ((1000 + (8 * v13812)) + 2).toNat by omega]; exact ((yup_na (by decide))).symm.trans hv13813
      refine y_if 100 87 c204_84 rfl rfl (yz_lt (by omega)) (fun hb13814 => ?_) (fun hb13814 => ?_)
      · refine y_aload 101 c204_100 rfl rfl rfl ?_
        refine y_aload 102 c204_101 rfl rfl rfl ?_
        refine y_getR 105 c204_102 rfl kf376_53 ?_
        refine y_aload 106 c204_105 rfl rfl rfl ?_
        refine y_getX 109 ((m 376 54) - 1) c204_106 rfl kf376_54 rfl ?_
        refine y_iaT 110 0 124 c204_109 rfl ka412 (by omega) hT13808 rfl (fun v13815 hv13815 gv13815 => ?_)
        have gv13815_ : m 412 (m 376 54 - 1).toNat = v13815 := by rw [show (m 376 54 - 1).toNat = ((m 376 54) - 1).toNat by omega]; exact ((yup_na (by decide))).symm.trans hv13815
        refine y_iconst 111 c204_110 rfl ?_
        refine y_iadd 112 c204_111 rfl ?_
        refine y_putI 115 c204_112 rfl kf376_55 (y_fit0 _) ?_
        have hT13816 := hT13808.up 376 55 (v13815 + 1) 0 124 rfl (by omega)
        have hF13817 := hF13809.up 376 55 (v13815 + 1) rfl
        have es13818 : (yup (yup m 376 54 ((m 376 54) - 1)) 376 55 (v13815 + 1)) 376 54 = (m 376 54) - 1 := rfl
        have es13819 : (yup (yup m 376 54 ((m 376 54) - 1)) 376 55 (v13815 + 1)) 376 55 = v13815 + 1 := rfl
        have es13820 : (yup (yup m 376 54 ((m 376 54) - 1)) 376 55 (v13815 + 1)) 376 51 = m 376 51 := rfl
        exact y_retU c204_115 ⟨rfl, hT13816, hF13817, (VX.sc (VX.dn hV (by omega)) (by decide)), by omega, by omega⟩
      · refine y_aload 88 c204_87 rfl rfl rfl ?_
        refine y_aload 89 c204_88 rfl rfl rfl ?_
        refine y_getR 92 c204_89 rfl kf376_40 ?_
        refine y_iload 93 c204_92 rfl rfl ?_
        refine y_iconst 94 c204_93 rfl ?_
        refine y_iadd 95 c204_94 rfl ?_
        refine y_iaT 96 ((-2147483648)) 2147483647 c204_95 rfl ka403 (by omega) hT13808 rfl (fun v13821 hv13821 gv13821 => ?_)
        have gv13821_ : m 403 (1000 * 1 + 8 * v13812.toNat + 2) = v13821 := by rw [show 1000 * 1 + 8 * v13812.toNat + 2 = ((1000 + (8 * v13812)) + 2).toNat by omega]; exact ((yup_na (by decide))).symm.trans hv13821
        refine y_iload 97 c204_96 rfl rfl ?_
        have es13823 : (yup m 376 54 ((m 376 54) - 1)) 376 51 = m 376 51 := rfl
        have es13824 : (yup m 376 54 ((m 376 54) - 1)) 376 54 = (m 376 54) - 1 := rfl
        have es13825 : (yup m 376 54 ((m 376 54) - 1)) 376 18 = m 376 18 := rfl
        have hVc : VX 1 (yup m 376 54 ((m 376 54) - 1)) := (VX.dn hV (by omega))
        refine y_callUB 100 [.ref 376, yI v13821, yI u] [] c204_97 rfl rfl rfl rfl rfl (ycanO km202 ko376) (t202_1 hT13808 hVc (by omega) (by omega) (by omega)) (fun mq13822 nq13822 hq13822 => ?_)
        obtain ⟨rfl, hTq13822, hFq13822, hVq13822⟩ := hq13822
        have hF13826 := hF13809.tr hFq13822 wGv_wLv
        refine y_aload 101 c204_100 rfl rfl rfl ?_
        refine y_aload 102 c204_101 rfl rfl rfl ?_
        refine y_getR 105 c204_102 rfl kf376_53 ?_
        refine y_aload 106 c204_105 rfl rfl rfl ?_
        refine y_getX 109 ((m 376 54) - 1) c204_106 rfl kf376_54 ((hFq13822 376 54 rfl).trans (yup_eq _ _ _ _)) ?_
        refine y_iaT 110 0 124 c204_109 rfl ka412 (by omega) hTq13822 rfl (fun v13827 hv13827 gv13827 => ?_)
        have gv13827_ : m 412 (m 376 54 - 1).toNat = v13827 := by rw [show (m 376 54 - 1).toNat = ((m 376 54) - 1).toNat by omega]; exact (((hFq13822 412 _ rfl).trans (yup_na (by decide)))).symm.trans hv13827
        refine y_iconst 111 c204_110 rfl ?_
        refine y_iadd 112 c204_111 rfl ?_
        refine y_putI 115 c204_112 rfl kf376_55 (y_fit0 _) ?_
        have hT13828 := hTq13822.up 376 55 (v13827 + 1) 0 124 rfl (by omega)
        have hF13829 := hF13826.up 376 55 (v13827 + 1) rfl
        have es13830 : (yup mq13822 376 55 (v13827 + 1)) 376 54 = (m 376 54) - 1 := ((yup_nk (by decide)).trans ((hFq13822 376 54 rfl).trans (yup_eq _ _ _ _)))
        have es13831 : (yup mq13822 376 55 (v13827 + 1)) 376 55 = v13827 + 1 := rfl
        have es13832 : (yup mq13822 376 55 (v13827 + 1)) 376 51 = m 376 51 := ((yup_nk (by decide)).trans ((hFq13822 376 51 rfl).trans (yup_nk (by decide))))
        exact y_retU c204_115 ⟨rfl, hT13828, hF13829, (VX.sc hVq13822 (by decide)), by omega, by omega⟩
    · have es13833 : (yup m 376 54 ((m 376 54) - 1)) 376 54 = (m 376 54) - 1 := rfl
      have es13834 : (yup m 376 54 ((m 376 54) - 1)) 376 55 = m 376 55 := rfl
      have es13835 : (yup m 376 54 ((m 376 54) - 1)) 376 51 = m 376 51 := rfl
      exact y_retU c204_53 ⟨rfl, hT13808, hF13809, (VX.dn hV (by omega)), by omega, by omega⟩
  · refine y_aload 5 c204_4 rfl rfl rfl ?_
    refine y_getR 8 c204_5 rfl kf376_48 ?_
    refine y_iconst 10 c204_8 rfl ?_
    refine y_aload 11 c204_10 rfl rfl rfl ?_
    refine y_getR 14 c204_11 rfl kf376_35 ?_
    refine y_iconst 16 c204_14 rfl ?_
    refine y_aload 17 c204_16 rfl rfl rfl ?_
    refine y_getX 20 (m 376 18) c204_17 rfl kf376_18 rfl ?_
    have tb13836 := hT.atp 376 18 0 1 rfl
    refine y_top 1 (by omega) ?_
    refine y_imul 21 c204_20 rfl ?_
    refine y_top 10 (by decide) ?_
    refine y_iload 22 c204_21 rfl rfl ?_
    refine y_iadd 23 c204_22 rfl ?_
    refine y_iaT 24 0 46 c204_23 rfl ka398 (by omega) hT rfl (fun v13837 hv13837 gv13837 => ?_)
    refine y_imul 25 c204_24 rfl ?_
    refine y_aload 26 c204_25 rfl rfl rfl ?_
    refine y_getR 29 c204_26 rfl kf376_49 ?_
    refine y_iload 30 c204_29 rfl rfl ?_
    refine y_iconst 31 c204_30 rfl ?_
    refine y_isub 32 c204_31 rfl ?_
    refine y_iaT 33 0 11 c204_32 rfl ka409 (by omega) hT rfl (fun v13838 hv13838 gv13838 => ?_)
    refine y_iadd 34 c204_33 rfl ?_
    refine y_iconst 35 c204_34 rfl ?_
    refine y_iastore 36 c204_35 rfl ka408 (by omega) (y_nar1 (by omega)) ?_
    have hT13839 := hT.up 408 (((12 * v13837) + v13838).toNat) 1 0 1 rfl (by omega)
    have hF13840 := hF.up 408 (((12 * v13837) + v13838).toNat) 1 rfl
    refine y_aload 37 c204_36 rfl rfl rfl ?_
    refine y_dup 38 c204_37 rfl rfl ?_
    refine y_getX 41 (m 376 54) c204_38 rfl kf376_54 rfl ?_
    refine y_iconst 42 c204_41 rfl ?_
    refine y_isub 43 c204_42 rfl ?_
    refine y_putI 46 c204_43 rfl kf376_54 (y_fit0 _) ?_
    have hT13841 := hT13839.up 376 54 ((m 376 54) - 1) 0 4 rfl (by omega)
    have hF13842 := hF13840.up 376 54 ((m 376 54) - 1) rfl
    refine y_aload 47 c204_46 rfl rfl rfl ?_
    refine y_getX 50 ((m 376 54) - 1) c204_47 rfl kf376_54 rfl ?_
    refine y_if 54 53 c204_50 rfl rfl (yz_ne (by omega)) (fun hb13843 => ?_) (fun hb13843 => ?_)
    · refine y_iconst 57 c204_54 rfl ?_
      refine y_aload 58 c204_57 rfl rfl rfl ?_
      refine y_getX 61 (m 376 18) c204_58 rfl kf376_18 rfl ?_
      refine y_top 1 (by omega) ?_
      refine y_imul 62 c204_61 rfl ?_
      refine y_top 1000 (by decide) ?_
      refine y_iconst 64 c204_62 rfl ?_
      refine y_aload 65 c204_64 rfl rfl rfl ?_
      refine y_getR 68 c204_65 rfl kf376_53 ?_
      refine y_aload 69 c204_68 rfl rfl rfl ?_
      refine y_getX 72 ((m 376 54) - 1) c204_69 rfl kf376_54 rfl ?_
      refine y_iaT 73 0 124 c204_72 rfl ka412 (by omega) hT13841 rfl (fun v13844 hv13844 gv13844 => ?_)
      have gv13844_ : m 412 (m 376 54 - 1).toNat = v13844 := by rw [show (m 376 54 - 1).toNat = ((m 376 54) - 1).toNat by omega]; exact (((yup_na (by decide)).trans (yup_na (by decide)))).symm.trans hv13844
      have hbr := hBR (m 376 54 - 1).toNat (by omega) (by omega)
      rw [gv13844_] at hbr
      refine y_imul 74 c204_73 rfl ?_
      refine y_iadd 75 c204_74 rfl ?_
      refine y_istore 76 c204_75 rfl rfl ?_
      refine y_aload 77 c204_76 rfl rfl rfl ?_
      refine y_getR 80 c204_77 rfl kf376_40 ?_
      refine y_iload 81 c204_80 rfl rfl ?_
      refine y_iconst 82 c204_81 rfl ?_
      refine y_iadd 83 c204_82 rfl ?_
      refine y_iaT 84 ((-2147483648)) 2147483647 c204_83 rfl ka403 (by omega) hT13841 rfl (fun v13845 hv13845 gv13845 => ?_)
      have hwv13845 := hG.1.1 v13844.toNat (by omega)
      unfold OW at hwv13845
      have hfxv13845 := hG.2.2.2.2.2.2.1 v13844.toNat (by omega)
      have hnsv13845 := hG.2.2.2.2.2.2.2.2.2.2.2 v13844.toNat (by omega)
      have hlev13845 := hG.2.2.1 v13844.toNat
      have htgv13845 := hG.1.2.1 v13844.toNat (by omega)
      have gv13845_ : m 403 (1000 * 1 + 8 * v13844.toNat + 2) = v13845 := by rw [show 1000 * 1 + 8 * v13844.toNat + 2 = ((1000 + (8 * v13844)) + 2).toNat by omega]; exact (((yup_na (by decide)).trans (yup_na (by decide)))).symm.trans hv13845
      refine y_if 100 87 c204_84 rfl rfl (yz_lt (by omega)) (fun hb13846 => ?_) (fun hb13846 => ?_)
      · refine y_aload 101 c204_100 rfl rfl rfl ?_
        refine y_aload 102 c204_101 rfl rfl rfl ?_
        refine y_getR 105 c204_102 rfl kf376_53 ?_
        refine y_aload 106 c204_105 rfl rfl rfl ?_
        refine y_getX 109 ((m 376 54) - 1) c204_106 rfl kf376_54 rfl ?_
        refine y_iaT 110 0 124 c204_109 rfl ka412 (by omega) hT13841 rfl (fun v13847 hv13847 gv13847 => ?_)
        have gv13847_ : m 412 (m 376 54 - 1).toNat = v13847 := by rw [show (m 376 54 - 1).toNat = ((m 376 54) - 1).toNat by omega]; exact (((yup_na (by decide)).trans (yup_na (by decide)))).symm.trans hv13847
        refine y_iconst 111 c204_110 rfl ?_
        refine y_iadd 112 c204_111 rfl ?_
        refine y_putI 115 c204_112 rfl kf376_55 (y_fit0 _) ?_
        have hT13848 := hT13841.up 376 55 (v13847 + 1) 0 124 rfl (by omega)
        have hF13849 := hF13842.up 376 55 (v13847 + 1) rfl
        have es13850 : (yup (yup (yup m 408 (((12 * v13837) + v13838).toNat) 1) 376 54 ((m 376 54) - 1)) 376 55 (v13847 + 1)) 376 54 = (m 376 54) - 1 := rfl
        have es13851 : (yup (yup (yup m 408 (((12 * v13837) + v13838).toNat) 1) 376 54 ((m 376 54) - 1)) 376 55 (v13847 + 1)) 376 55 = v13847 + 1 := rfl
        have es13852 : (yup (yup (yup m 408 (((12 * v13837) + v13838).toNat) 1) 376 54 ((m 376 54) - 1)) 376 55 (v13847 + 1)) 376 51 = m 376 51 := rfl
        exact y_retU c204_115 ⟨rfl, hT13848, hF13849, (VX.sc (VX.dn (VX.na hV (by decide)) (by omega)) (by decide)), by omega, by omega⟩
      · refine y_aload 88 c204_87 rfl rfl rfl ?_
        refine y_aload 89 c204_88 rfl rfl rfl ?_
        refine y_getR 92 c204_89 rfl kf376_40 ?_
        refine y_iload 93 c204_92 rfl rfl ?_
        refine y_iconst 94 c204_93 rfl ?_
        refine y_iadd 95 c204_94 rfl ?_
        refine y_iaT 96 ((-2147483648)) 2147483647 c204_95 rfl ka403 (by omega) hT13841 rfl (fun v13853 hv13853 gv13853 => ?_)
        have gv13853_ : m 403 (1000 * 1 + 8 * v13844.toNat + 2) = v13853 := by rw [show 1000 * 1 + 8 * v13844.toNat + 2 = ((1000 + (8 * v13844)) + 2).toNat by omega]; exact (((yup_na (by decide)).trans (yup_na (by decide)))).symm.trans hv13853
        refine y_iload 97 c204_96 rfl rfl ?_
        have es13855 : (yup (yup m 408 (((12 * v13837) + v13838).toNat) 1) 376 54 ((m 376 54) - 1)) 376 51 = m 376 51 := rfl
        have es13856 : (yup (yup m 408 (((12 * v13837) + v13838).toNat) 1) 376 54 ((m 376 54) - 1)) 376 54 = (m 376 54) - 1 := rfl
        have es13857 : (yup (yup m 408 (((12 * v13837) + v13838).toNat) 1) 376 54 ((m 376 54) - 1)) 376 18 = m 376 18 := rfl
        have hVc : VX 1 (yup (yup m 408 (((12 * v13837) + v13838).toNat) 1) 376 54 ((m 376 54) - 1)) := (VX.dn (VX.na hV (by decide)) (by omega))
        refine y_callUB 100 [.ref 376, yI v13853, yI u] [] c204_97 rfl rfl rfl rfl rfl (ycanO km202 ko376) (t202_1 hT13841 hVc (by omega) (by omega) (by omega)) (fun mq13854 nq13854 hq13854 => ?_)
        obtain ⟨rfl, hTq13854, hFq13854, hVq13854⟩ := hq13854
        have hF13858 := hF13842.tr hFq13854 wGv_wLv
        refine y_aload 101 c204_100 rfl rfl rfl ?_
        refine y_aload 102 c204_101 rfl rfl rfl ?_
        refine y_getR 105 c204_102 rfl kf376_53 ?_
        refine y_aload 106 c204_105 rfl rfl rfl ?_
        refine y_getX 109 ((m 376 54) - 1) c204_106 rfl kf376_54 ((hFq13854 376 54 rfl).trans (yup_eq _ _ _ _)) ?_
        refine y_iaT 110 0 124 c204_109 rfl ka412 (by omega) hTq13854 rfl (fun v13859 hv13859 gv13859 => ?_)
        have gv13859_ : m 412 (m 376 54 - 1).toNat = v13859 := by rw [show (m 376 54 - 1).toNat = ((m 376 54) - 1).toNat by omega]; exact (((hFq13854 412 _ rfl).trans ((yup_na (by decide)).trans (yup_na (by decide))))).symm.trans hv13859
        refine y_iconst 111 c204_110 rfl ?_
        refine y_iadd 112 c204_111 rfl ?_
        refine y_putI 115 c204_112 rfl kf376_55 (y_fit0 _) ?_
        have hT13860 := hTq13854.up 376 55 (v13859 + 1) 0 124 rfl (by omega)
        have hF13861 := hF13858.up 376 55 (v13859 + 1) rfl
        have es13862 : (yup mq13854 376 55 (v13859 + 1)) 376 54 = (m 376 54) - 1 := ((yup_nk (by decide)).trans ((hFq13854 376 54 rfl).trans (yup_eq _ _ _ _)))
        have es13863 : (yup mq13854 376 55 (v13859 + 1)) 376 55 = v13859 + 1 := rfl
        have es13864 : (yup mq13854 376 55 (v13859 + 1)) 376 51 = m 376 51 := ((yup_nk (by decide)).trans ((hFq13854 376 51 rfl).trans ((yup_nk (by decide)).trans (yup_na (by decide)))))
        exact y_retU c204_115 ⟨rfl, hT13860, hF13861, (VX.sc hVq13854 (by decide)), by omega, by omega⟩
    · have es13865 : (yup (yup m 408 (((12 * v13837) + v13838).toNat) 1) 376 54 ((m 376 54) - 1)) 376 54 = (m 376 54) - 1 := rfl
      have es13866 : (yup (yup m 408 (((12 * v13837) + v13838).toNat) 1) 376 54 ((m 376 54) - 1)) 376 55 = m 376 55 := rfl
      have es13867 : (yup (yup m 408 (((12 * v13837) + v13838).toNat) 1) 376 54 ((m 376 54) - 1)) 376 51 = m 376 51 := rfl
      exact y_retU c204_53 ⟨rfl, hT13841, hF13842, (VX.dn (VX.na hV (by decide)) (by omega)), by omega, by omega⟩
set_option maxRecDepth 100000 in
theorem t207_1 {L : Nat} {xs : Nat → Int32} {d nn : Nat} {m : yM} {k : Int} (hT : Ty gT m) (hn : m 376 18 = 1) (hG : GQ 1 m) (hV : VX 1 m) (hf : 1 ≤ m 376 54) (hko : 0 ≤ k ∧ k < m 390 1) (h7 : m 403 (1000 * 1 + 8 * k.toNat) = 7) : YC (gZ L xs) (d + 2) 207 [.ref 376, yI (1000 + 8 * k)] m nn (qU (fun m' n' => n' = nn ∧ Ty gT m' ∧ Fr wEn m m' ∧ VX 1 m' ∧ (m' 376 57 ≠ 0 ∨ (m' 376 54 = m 376 54 + 1 ∧ m' 376 55 < m 390 1 ∧ m' 412 (m 376 54).toNat = m 376 55)) ∧ ∀ q, q ≠ (m 376 54).toNat → m' 412 q = m 412 q)) := by
  have tb383 := hT.atp 383 1 0 6 rfl
  have tb384 := hT.atp 384 1 0 10 rfl
  have tb388 := hT.atp 388 1 0 12 rfl
  have tb390 := hT.atp 390 1 0 125 rfl
  have tm51 := hT.atp 376 51 0 30 rfl
  have tm54 := hT.atp 376 54 0 4 rfl
  have tm55 := hT.atp 376 55 0 124 rfl
  have tm56 := hT.atp 376 56 0 201 rfl
  have tm57 := hT.atp 376 57 0 4 rfl
  have g90 : m 390 1 ≤ 100 := hG.2.2.2.2.2.2.2.2.2.2.1
  refine YC.mkB [some (.ref 376), some (yI (1000 + 8 * k)), none, none, none, none, none] kn207 rfl rfl ?_
  have hF : Fr wEn m m := Fr.rf
  refine y_aload 1 c207_0 rfl rfl rfl ?_
  refine y_aload 2 c207_1 rfl rfl rfl ?_
  refine y_getR 5 c207_2 rfl kf376_40 ?_
  refine y_iload 6 c207_5 rfl rfl ?_
  refine y_iconst 7 c207_6 rfl ?_
  refine y_iadd 8 c207_7 rfl ?_
  refine y_iaT 9 ((-2147483648)) 2147483647 c207_8 rfl ka403 (by omega) hT rfl (fun v13868 hv13868 gv13868 => ?_)
  have hwv13868 := hG.1.1 k.toNat (by omega)
  unfold OW at hwv13868
  have hfxv13868 := hG.2.2.2.2.2.2.1 k.toNat (by omega)
  have hnsv13868 := hG.2.2.2.2.2.2.2.2.2.2.2 k.toNat (by omega)
  have hlev13868 := hG.2.2.1 k.toNat
  have htgv13868 := hG.1.2.1 k.toNat (by omega)
  have gv13868_ : m 403 (1000 * 1 + 8 * k.toNat + 3) = v13868 := by rw [show 1000 * 1 + 8 * k.toNat + 3 = ((1000 + 8 * k) + 3).toNat by omega]; exact (rfl).symm.trans hv13868
  have tb13869 := hT.atp 376 18 0 1 rfl
  have hVg : VX 1 m := hV
  refine y_callP 12 [.ref 376, yI v13868] [] c207_9 rfl rfl rfl rfl rfl (ycanO km205 ko376) (t205_1 hT hVg (by omega) (by omega)) (fun r13870 hr13870 => ?_)
  refine y_istore 13 c207_12 rfl rfl ?_
  refine y_aload 14 c207_13 rfl rfl rfl ?_
  refine y_iload 15 c207_14 rfl rfl ?_
  refine y_if 22 18 c207_15 rfl rfl (yz_le (by omega)) (fun hb13871 => ?_) (fun hb13871 => ?_)
  · refine y_iconst 23 c207_22 rfl ?_
    refine y_iconst 24 c207_23 rfl ?_
    refine y_inlB 27 [.ref 376, yI 0, yI 1] [] [some (.ref 376), some (yI 0), some (yI 1)] c207_24 rfl rfl rfl rfl rfl (ycanO km23 ko376) kn23 rfl rfl ?_
    refine y_aload 1 c23_0 rfl rfl rfl ?_
    refine y_iload 2 c23_1 rfl rfl ?_
    refine y_if 9 5 c23_2 rfl rfl (yz_eq (by omega)) (fun hb13872 => ?_) (fun hb13872 => ?_)
    · refine y_iload 10 c23_9 rfl rfl ?_
      refine y_putI 13 c23_10 rfl kf376_57 (y_fit0 _) ?_
      have hT13873 := hT.up 376 57 1 0 4 rfl (by omega)
      have hF13874 := hF.up 376 57 1 rfl
      refine y_iload 14 c23_13 rfl rfl ?_
      refine y_ireturnK c23_14 (y_fit1 (by omega)) ?_
      refine y_if 31 30 c207_27 rfl rfl (yz_ne (by omega)) (fun hb13875 => ?_) (fun hb13875 => ?_)
      · exfalso; omega
      · have es13876 : (yup m 376 57 1) 376 57 = 1 := rfl
        have es13877 : (yup m 376 57 1) 376 54 = m 376 54 := rfl
        have es13878 : (yup m 376 57 1) 376 55 = m 376 55 := rfl
        exact y_retU c207_30 ⟨rfl, hT13873, hF13874, (VX.sc hV (by decide)), Or.inl (by omega), fun q hq => (yup_na (by decide))⟩
    · exfalso; omega
  · refine y_iconst 19 c207_18 rfl ?_
    refine y_goto 23 c207_19 rfl ?_
    refine y_iconst 24 c207_23 rfl ?_
    refine y_inlB 27 [.ref 376, yI 1, yI 1] [] [some (.ref 376), some (yI 1), some (yI 1)] c207_24 rfl rfl rfl rfl rfl (ycanO km23 ko376) kn23 rfl rfl ?_
    refine y_aload 1 c23_0 rfl rfl rfl ?_
    refine y_iload 2 c23_1 rfl rfl ?_
    refine y_if 9 5 c23_2 rfl rfl (yz_eq (by omega)) (fun hb13879 => ?_) (fun hb13879 => ?_)
    · exfalso; omega
    · refine y_iconst 6 c23_5 rfl ?_
      refine y_goto 10 c23_6 rfl ?_
      refine y_putI 13 c23_10 rfl kf376_57 (y_fit0 _) ?_
      have hT13880 := hT.up 376 57 0 0 4 rfl (by omega)
      have hF13881 := hF.up 376 57 0 rfl
      refine y_iload 14 c23_13 rfl rfl ?_
      refine y_ireturnK c23_14 (y_fit1 (by omega)) ?_
      refine y_if 31 30 c207_27 rfl rfl (yz_ne (by omega)) (fun hb13882 => ?_) (fun hb13882 => ?_)
      · refine y_aload 32 c207_31 rfl rfl rfl ?_
        refine y_getR 35 c207_32 rfl kf376_40 ?_
        refine y_iload 36 c207_35 rfl rfl ?_
        refine y_iconst 37 c207_36 rfl ?_
        refine y_iadd 38 c207_37 rfl ?_
        refine y_iaT 39 ((-2147483648)) 2147483647 c207_38 rfl ka403 (by omega) hT13880 rfl (fun v13883 hv13883 gv13883 => ?_)
        have gv13883_ : m 403 (1000 * 1 + 8 * k.toNat + 5) = v13883 := by rw [show 1000 * 1 + 8 * k.toNat + 5 = ((1000 + 8 * k) + 5).toNat by omega]; exact ((yup_na (by decide))).symm.trans hv13883
        refine y_iconst 41 c207_39 rfl ?_
        refine y_irem 42 c207_41 rfl (by omega) (by omega) ?_
        refine y_istore 43 c207_42 rfl rfl ?_
        refine y_aload 44 c207_43 rfl rfl rfl ?_
        refine y_aload 45 c207_44 rfl rfl rfl ?_
        refine y_getX 48 (m 376 18) c207_45 rfl kf376_18 rfl ?_
        refine y_top 1 (by omega) ?_
        refine y_aload 49 c207_48 rfl rfl rfl ?_
        refine y_iload 50 c207_49 rfl rfl ?_
        have es13884 : (yup m 376 57 0) 376 51 = m 376 51 := rfl
        have es13885 : (yup m 376 57 0) 376 54 = m 376 54 := rfl
        have es13886 : (yup m 376 57 0) 376 18 = m 376 18 := rfl
        have es13887 : (yup m 376 57 0) 383 1 = m 383 1 := rfl
        have hVg : VX 1 (yup m 376 57 0) := (VX.sc hV (by decide))
        refine y_callP 53 [.ref 376, yI r13870] [yI 1, .ref 376] c207_50 rfl rfl rfl rfl rfl (ycanO km206 ko376) (t206_1 hT13880 (by omega) (hG.fr hT (by decide) (fun a q ha => hF13881 a q (wEn_G2 a q ha))) hVg (by omega)) (fun r13888 hr13888 => ?_)
        refine y_aload 54 c207_53 rfl rfl rfl ?_
        refine y_getR 57 c207_54 rfl kf376_40 ?_
        refine y_iload 58 c207_57 rfl rfl ?_
        refine y_iconst 59 c207_58 rfl ?_
        refine y_iadd 60 c207_59 rfl ?_
        refine y_iaT 61 ((-2147483648)) 2147483647 c207_60 rfl ka403 (by omega) hT13880 rfl (fun v13889 hv13889 gv13889 => ?_)
        have gv13889_ : m 403 (1000 * 1 + 8 * k.toNat + 4) = v13889 := by rw [show 1000 * 1 + 8 * k.toNat + 4 = ((1000 + 8 * k) + 4).toNat by omega]; exact ((yup_na (by decide))).symm.trans hv13889
        refine y_iload 62 c207_61 rfl rfl ?_
        have es13890 : (yup m 376 57 0) 383 1 = m 383 1 := rfl
        have es13891 : (yup m 376 57 0) 384 1 = m 384 1 := rfl
        refine y_callP 65 [.ref 376, yI 1, yI r13888, yI v13889, yI (v13883 % 16)] [] c207_62 rfl rfl rfl rfl rfl (ycanO km142 ko376) (t142_1 hT13880 (by rw [show (yup m 376 57 0) 383 1 = m 383 1 from rfl]; exact hG.2.2.2.2.1.fr (fun q => (yup_na (by decide)))) (by omega) (by omega) (by omega)) (fun r13892 hr13892 => ?_)
        refine y_istore 67 c207_65 rfl rfl ?_
        refine y_aload 68 c207_67 rfl rfl rfl ?_
        refine y_iload 70 c207_68 rfl rfl ?_
        refine y_if 77 73 c207_70 rfl rfl (yz_lt (by omega)) (fun hb13893 => ?_) (fun hb13893 => ?_)
        · refine y_iconst 78 c207_77 rfl ?_
          refine y_iconst 79 c207_78 rfl ?_
          refine y_inlB 82 [.ref 376, yI 0, yI 3] [] [some (.ref 376), some (yI 0), some (yI 3)] c207_79 rfl rfl rfl rfl rfl (ycanO km23 ko376) kn23 rfl rfl ?_
          refine y_aload 1 c23_0 rfl rfl rfl ?_
          refine y_iload 2 c23_1 rfl rfl ?_
          refine y_if 9 5 c23_2 rfl rfl (yz_eq (by omega)) (fun hb13894 => ?_) (fun hb13894 => ?_)
          · refine y_iload 10 c23_9 rfl rfl ?_
            refine y_putI 13 c23_10 rfl kf376_57 (y_fit0 _) ?_
            have hT13895 := hT13880.up 376 57 3 0 4 rfl (by omega)
            have hF13896 := hF13881.up 376 57 3 rfl
            refine y_iload 14 c23_13 rfl rfl ?_
            refine y_ireturnK c23_14 (y_fit1 (by omega)) ?_
            refine y_if 86 85 c207_82 rfl rfl (yz_ne (by omega)) (fun hb13897 => ?_) (fun hb13897 => ?_)
            · exfalso; omega
            · have es13898 : (yup (yup m 376 57 0) 376 57 3) 376 57 = 3 := rfl
              have es13899 : (yup (yup m 376 57 0) 376 57 3) 376 54 = m 376 54 := rfl
              have es13900 : (yup (yup m 376 57 0) 376 57 3) 376 55 = m 376 55 := rfl
              exact y_retU c207_85 ⟨rfl, hT13895, hF13896, (VX.sc (VX.sc hV (by decide)) (by decide)), Or.inl (by omega), fun q hq => ((yup_na (by decide)).trans (yup_na (by decide)))⟩
          · exfalso; omega
        · refine y_iconst 74 c207_73 rfl ?_
          refine y_goto 78 c207_74 rfl ?_
          refine y_iconst 79 c207_78 rfl ?_
          refine y_inlB 82 [.ref 376, yI 1, yI 3] [] [some (.ref 376), some (yI 1), some (yI 3)] c207_79 rfl rfl rfl rfl rfl (ycanO km23 ko376) kn23 rfl rfl ?_
          refine y_aload 1 c23_0 rfl rfl rfl ?_
          refine y_iload 2 c23_1 rfl rfl ?_
          refine y_if 9 5 c23_2 rfl rfl (yz_eq (by omega)) (fun hb13901 => ?_) (fun hb13901 => ?_)
          · exfalso; omega
          · refine y_iconst 6 c23_5 rfl ?_
            refine y_goto 10 c23_6 rfl ?_
            refine y_putI 13 c23_10 rfl kf376_57 (y_fit0 _) ?_
            have hT13902 := hT13880.up 376 57 0 0 4 rfl (by omega)
            have hF13903 := hF13881.up 376 57 0 rfl
            refine y_iload 14 c23_13 rfl rfl ?_
            refine y_ireturnK c23_14 (y_fit1 (by omega)) ?_
            refine y_if 86 85 c207_82 rfl rfl (yz_ne (by omega)) (fun hb13904 => ?_) (fun hb13904 => ?_)
            · refine y_iload 87 c207_86 rfl rfl ?_
              refine y_if 106 90 c207_87 rfl rfl (yz_le (by omega)) (fun hb13905 => ?_) (fun hb13905 => ?_)
              · refine y_iconst 107 c207_106 rfl ?_
                refine y_istore 109 c207_107 rfl rfl ?_
                refine y_iload 110 c207_109 rfl rfl ?_
                refine y_iconst 111 c207_110 rfl ?_
                refine y_icmp 130 114 c207_111 rfl rfl (yc_le (by omega) (by omega)) (fun hb13906 => ?_) (fun hb13906 => ?_)
                · refine y_iconst 131 c207_130 rfl ?_
                  refine y_istore 133 c207_131 rfl rfl ?_
                  refine y_aload 134 c207_133 rfl rfl rfl ?_
                  refine y_iload 136 c207_134 rfl rfl ?_
                  refine y_iload 137 c207_136 rfl rfl ?_
                  refine y_iload 139 c207_137 rfl rfl ?_
                  refine y_iload 141 c207_139 rfl rfl ?_
                  refine y_aload 142 c207_141 rfl rfl rfl ?_
                  refine y_getX 145 (m 376 55) c207_142 rfl kf376_55 rfl ?_
                  have es13908 : (yup (yup m 376 57 0) 376 57 0) 376 51 = m 376 51 := rfl
                  have es13909 : (yup (yup m 376 57 0) 376 57 0) 376 54 = m 376 54 := rfl
                  have es13910 : (yup (yup m 376 57 0) 376 57 0) 376 18 = m 376 18 := rfl
                  have es13911 : (yup (yup m 376 57 0) 376 57 0) 384 1 = m 384 1 := rfl
                  have es13912 : (yup (yup m 376 57 0) 376 57 0) 390 1 = m 390 1 := rfl
                  have es13913 : (yup (yup m 376 57 0) 376 57 0) 376 57 = 0 := rfl
                  have es13914 : (yup (yup m 376 57 0) 376 57 0) 376 55 = m 376 55 := rfl
                  have hVc : VX 1 (yup (yup m 376 57 0) 376 57 0) := (VX.sc (VX.sc hV (by decide)) (by decide))
                  refine y_callUB 148 [.ref 376, yI r13892, yI r13870, yI 0, yI 0, yI (m 376 55)] [] c207_145 rfl rfl rfl rfl rfl (ycanO km203 ko376) (t203_1 hT13902 (by omega) (hG.fr hT (by decide) (fun a q ha => hF13903 a q (wEn_G2 a q ha))) hVc (by omega) (by omega) (by omega) (by omega) (by omega)) (fun mq13907 nq13907 hq13907 => ?_)
                  obtain ⟨rfl, hTq13907, hFq13907, hVq13907, hq13907, hqq13907⟩ := hq13907
                  have hF13915 := hF13903.tr hFq13907 (fun _ _ e => e)
                  have tb13916 := hTq13907.atp 376 57 0 4 rfl
                  have tb13917 := hTq13907.atp 376 54 0 4 rfl
                  have tb13918 := hTq13907.atp 376 55 0 124 rfl
                  have e54 : (yup (yup m 376 57 0) 376 57 0) 376 54 = m 376 54 := rfl
                  have e57 : (yup (yup m 376 57 0) 376 57 0) 376 57 = 0 := rfl
                  rw [e54] at hq13907 hqq13907
                  refine y_retU c207_148 ⟨rfl, hTq13907, hF13915, hVq13907, ?_, fun q hq => (hqq13907 q hq).trans (((yup_na (by decide)).trans (yup_na (by decide))))⟩
                  rcases hq13907 with z | z
                  · exact Or.inl (by omega)
                  · exact Or.inr ⟨z.2.1, by omega, z.2.2.2⟩
                · exfalso; omega
              · refine y_aload 91 c207_90 rfl rfl rfl ?_
                refine y_aload 92 c207_91 rfl rfl rfl ?_
                refine y_getR 95 c207_92 rfl kf376_40 ?_
                refine y_iload 96 c207_95 rfl rfl ?_
                refine y_iconst 98 c207_96 rfl ?_
                refine y_iadd 99 c207_98 rfl ?_
                refine y_iaT 100 ((-2147483648)) 2147483647 c207_99 rfl ka403 (by omega) hT13902 rfl (fun v13919 hv13919 gv13919 => ?_)
                have gv13919_ : m 403 (1000 * 1 + 8 * k.toNat + 6) = v13919 := by rw [show 1000 * 1 + 8 * k.toNat + 6 = ((1000 + 8 * k) + 6).toNat by omega]; exact (((yup_na (by decide)).trans (yup_na (by decide)))).symm.trans hv13919
                have es13920 : (yup (yup m 376 57 0) 376 57 0) 376 51 = m 376 51 := rfl
                have es13921 : (yup (yup m 376 57 0) 376 57 0) 376 54 = m 376 54 := rfl
                have es13922 : (yup (yup m 376 57 0) 376 57 0) 376 18 = m 376 18 := rfl
                have hVg : VX 1 (yup (yup m 376 57 0) 376 57 0) := (VX.sc (VX.sc hV (by decide)) (by decide))
                refine y_callP 103 [.ref 376, yI v13919] [] c207_100 rfl rfl rfl rfl rfl (ycanO km205 ko376) (t205_1 hT13902 hVg (by omega) (by omega)) (fun r13923 hr13923 => ?_)
                refine y_goto 107 c207_103 rfl ?_
                refine y_istore 109 c207_107 rfl rfl ?_
                refine y_iload 110 c207_109 rfl rfl ?_
                refine y_iconst 111 c207_110 rfl ?_
                refine y_icmp 130 114 c207_111 rfl rfl (yc_le (by omega) (by omega)) (fun hb13924 => ?_) (fun hb13924 => ?_)
                · refine y_iconst 131 c207_130 rfl ?_
                  refine y_istore 133 c207_131 rfl rfl ?_
                  refine y_aload 134 c207_133 rfl rfl rfl ?_
                  refine y_iload 136 c207_134 rfl rfl ?_
                  refine y_iload 137 c207_136 rfl rfl ?_
                  refine y_iload 139 c207_137 rfl rfl ?_
                  refine y_iload 141 c207_139 rfl rfl ?_
                  refine y_aload 142 c207_141 rfl rfl rfl ?_
                  refine y_getX 145 (m 376 55) c207_142 rfl kf376_55 rfl ?_
                  have es13926 : (yup (yup m 376 57 0) 376 57 0) 376 51 = m 376 51 := rfl
                  have es13927 : (yup (yup m 376 57 0) 376 57 0) 376 54 = m 376 54 := rfl
                  have es13928 : (yup (yup m 376 57 0) 376 57 0) 376 18 = m 376 18 := rfl
                  have es13929 : (yup (yup m 376 57 0) 376 57 0) 384 1 = m 384 1 := rfl
                  have es13930 : (yup (yup m 376 57 0) 376 57 0) 390 1 = m 390 1 := rfl
                  have es13931 : (yup (yup m 376 57 0) 376 57 0) 376 57 = 0 := rfl
                  have es13932 : (yup (yup m 376 57 0) 376 57 0) 376 55 = m 376 55 := rfl
                  have hVc : VX 1 (yup (yup m 376 57 0) 376 57 0) := (VX.sc (VX.sc hV (by decide)) (by decide))
                  refine y_callUB 148 [.ref 376, yI r13892, yI r13870, yI r13923, yI 0, yI (m 376 55)] [] c207_145 rfl rfl rfl rfl rfl (ycanO km203 ko376) (t203_1 hT13902 (by omega) (hG.fr hT (by decide) (fun a q ha => hF13903 a q (wEn_G2 a q ha))) hVc (by omega) (by omega) (by omega) (by omega) (by omega)) (fun mq13925 nq13925 hq13925 => ?_)
                  obtain ⟨rfl, hTq13925, hFq13925, hVq13925, hq13925, hqq13925⟩ := hq13925
                  have hF13933 := hF13903.tr hFq13925 (fun _ _ e => e)
                  have tb13934 := hTq13925.atp 376 57 0 4 rfl
                  have tb13935 := hTq13925.atp 376 54 0 4 rfl
                  have tb13936 := hTq13925.atp 376 55 0 124 rfl
                  have e54 : (yup (yup m 376 57 0) 376 57 0) 376 54 = m 376 54 := rfl
                  have e57 : (yup (yup m 376 57 0) 376 57 0) 376 57 = 0 := rfl
                  rw [e54] at hq13925 hqq13925
                  refine y_retU c207_148 ⟨rfl, hTq13925, hF13933, hVq13925, ?_, fun q hq => (hqq13925 q hq).trans (((yup_na (by decide)).trans (yup_na (by decide))))⟩
                  rcases hq13925 with z | z
                  · exact Or.inl (by omega)
                  · exact Or.inr ⟨z.2.1, by omega, z.2.2.2⟩
                · refine y_aload 115 c207_114 rfl rfl rfl ?_
                  refine y_aload 116 c207_115 rfl rfl rfl ?_
                  refine y_getR 119 c207_116 rfl kf376_40 ?_
                  refine y_iload 120 c207_119 rfl rfl ?_
                  refine y_iconst 122 c207_120 rfl ?_
                  refine y_iadd 123 c207_122 rfl ?_
                  refine y_iaT 124 ((-2147483648)) 2147483647 c207_123 rfl ka403 (by omega) hT13902 rfl (fun v13937 hv13937 gv13937 => ?_)
                  have gv13937_ : m 403 (1000 * 1 + 8 * k.toNat + 7) = v13937 := by rw [show 1000 * 1 + 8 * k.toNat + 7 = ((1000 + 8 * k) + 7).toNat by omega]; exact (((yup_na (by decide)).trans (yup_na (by decide)))).symm.trans hv13937
                  have es13938 : (yup (yup m 376 57 0) 376 57 0) 376 51 = m 376 51 := rfl
                  have es13939 : (yup (yup m 376 57 0) 376 57 0) 376 54 = m 376 54 := rfl
                  have es13940 : (yup (yup m 376 57 0) 376 57 0) 376 18 = m 376 18 := rfl
                  have hVg : VX 1 (yup (yup m 376 57 0) 376 57 0) := (VX.sc (VX.sc hV (by decide)) (by decide))
                  refine y_callP 127 [.ref 376, yI v13937] [] c207_124 rfl rfl rfl rfl rfl (ycanO km205 ko376) (t205_1 hT13902 hVg (by omega) (by omega)) (fun r13941 hr13941 => ?_)
                  refine y_goto 131 c207_127 rfl ?_
                  refine y_istore 133 c207_131 rfl rfl ?_
                  refine y_aload 134 c207_133 rfl rfl rfl ?_
                  refine y_iload 136 c207_134 rfl rfl ?_
                  refine y_iload 137 c207_136 rfl rfl ?_
                  refine y_iload 139 c207_137 rfl rfl ?_
                  refine y_iload 141 c207_139 rfl rfl ?_
                  refine y_aload 142 c207_141 rfl rfl rfl ?_
                  refine y_getX 145 (m 376 55) c207_142 rfl kf376_55 rfl ?_
                  have es13943 : (yup (yup m 376 57 0) 376 57 0) 376 51 = m 376 51 := rfl
                  have es13944 : (yup (yup m 376 57 0) 376 57 0) 376 54 = m 376 54 := rfl
                  have es13945 : (yup (yup m 376 57 0) 376 57 0) 376 18 = m 376 18 := rfl
                  have es13946 : (yup (yup m 376 57 0) 376 57 0) 384 1 = m 384 1 := rfl
                  have es13947 : (yup (yup m 376 57 0) 376 57 0) 390 1 = m 390 1 := rfl
                  have es13948 : (yup (yup m 376 57 0) 376 57 0) 376 57 = 0 := rfl
                  have es13949 : (yup (yup m 376 57 0) 376 57 0) 376 55 = m 376 55 := rfl
                  have hVc : VX 1 (yup (yup m 376 57 0) 376 57 0) := (VX.sc (VX.sc hV (by decide)) (by decide))
                  refine y_callUB 148 [.ref 376, yI r13892, yI r13870, yI r13923, yI r13941, yI (m 376 55)] [] c207_145 rfl rfl rfl rfl rfl (ycanO km203 ko376) (t203_1 hT13902 (by omega) (hG.fr hT (by decide) (fun a q ha => hF13903 a q (wEn_G2 a q ha))) hVc (by omega) (by omega) (by omega) (by omega) (by omega)) (fun mq13942 nq13942 hq13942 => ?_)
                  obtain ⟨rfl, hTq13942, hFq13942, hVq13942, hq13942, hqq13942⟩ := hq13942
                  have hF13950 := hF13903.tr hFq13942 (fun _ _ e => e)
                  have tb13951 := hTq13942.atp 376 57 0 4 rfl
                  have tb13952 := hTq13942.atp 376 54 0 4 rfl
                  have tb13953 := hTq13942.atp 376 55 0 124 rfl
                  have e54 : (yup (yup m 376 57 0) 376 57 0) 376 54 = m 376 54 := rfl
                  have e57 : (yup (yup m 376 57 0) 376 57 0) 376 57 = 0 := rfl
                  rw [e54] at hq13942 hqq13942
                  refine y_retU c207_148 ⟨rfl, hTq13942, hF13950, hVq13942, ?_, fun q hq => (hqq13942 q hq).trans (((yup_na (by decide)).trans (yup_na (by decide))))⟩
                  rcases hq13942 with z | z
                  · exact Or.inl (by omega)
                  · exact Or.inr ⟨z.2.1, by omega, z.2.2.2⟩
            · exfalso; omega
      · exfalso; omega
set_option maxRecDepth 100000 in
theorem t208_1 {L : Nat} {xs : Nat → Int32} {d nn : Nat} {m : yM} {k : Int} (hT : Ty gT m) (hn : m 376 18 = 1) (hG : GQ 1 m) (hV : VX 1 m) (hf : 1 ≤ m 376 54) (hko : 0 ≤ k ∧ k < m 390 1) (h45 : m 403 (1000 * 1 + 8 * k.toNat) = 4 ∨ m 403 (1000 * 1 + 8 * k.toNat) = 5) : YC (gZ L xs) (d + 2) 208 [.ref 376, yI (1000 + 8 * k)] m nn (qU (fun m' n' => n' = nn ∧ Ty gT m' ∧ Fr wPl m m' ∧ VX 1 m')) := by
  have tb383 := hT.atp 383 1 0 6 rfl
  have tb384 := hT.atp 384 1 0 10 rfl
  have tb388 := hT.atp 388 1 0 12 rfl
  have tb390 := hT.atp 390 1 0 125 rfl
  have tm51 := hT.atp 376 51 0 30 rfl
  have tm54 := hT.atp 376 54 0 4 rfl
  have tm55 := hT.atp 376 55 0 124 rfl
  have tm56 := hT.atp 376 56 0 201 rfl
  have tm57 := hT.atp 376 57 0 4 rfl
  have g90 : m 390 1 ≤ 100 := hG.2.2.2.2.2.2.2.2.2.2.1
  refine YC.mkB [some (.ref 376), some (yI (1000 + 8 * k)), none, none, none] kn208 rfl rfl ?_
  have hF : Fr wPl m m := Fr.rf
  refine y_aload 1 c208_0 rfl rfl rfl ?_
  refine y_getR 4 c208_1 rfl kf376_40 ?_
  refine y_iload 5 c208_4 rfl rfl ?_
  refine y_iaT 6 ((-2147483648)) 2147483647 c208_5 rfl ka403 (by omega) hT rfl (fun v13954 hv13954 gv13954 => ?_)
  have hwv13954 := hG.1.1 k.toNat (by omega)
  unfold OW at hwv13954
  have hfxv13954 := hG.2.2.2.2.2.2.1 k.toNat (by omega)
  have hnsv13954 := hG.2.2.2.2.2.2.2.2.2.2.2 k.toNat (by omega)
  have hlev13954 := hG.2.2.1 k.toNat
  have htgv13954 := hG.1.2.1 k.toNat (by omega)
  have gv13954_ : m 403 (1000 * 1 + 8 * k.toNat) = v13954 := by rw [show 1000 * 1 + 8 * k.toNat = (1000 + 8 * k).toNat by omega]; exact (rfl).symm.trans hv13954
  refine y_iconst 7 c208_6 rfl ?_
  refine y_icmp 14 10 c208_7 rfl rfl (yc_ne (by omega) (by omega)) (fun hb13955 => ?_) (fun hb13955 => ?_)
  · refine y_iconst 15 c208_14 rfl ?_
    refine y_istore 16 c208_15 rfl rfl ?_
    refine y_aload 17 c208_16 rfl rfl rfl ?_
    refine y_iload 18 c208_17 rfl rfl ?_
    refine y_if 32 21 c208_18 rfl rfl (yz_eq (by omega)) (fun hb13956 => ?_) (fun hb13956 => ?_)
    · refine y_aload 33 c208_32 rfl rfl rfl ?_
      refine y_getR 36 c208_33 rfl kf376_40 ?_
      refine y_iload 37 c208_36 rfl rfl ?_
      refine y_iconst 38 c208_37 rfl ?_
      refine y_iadd 39 c208_38 rfl ?_
      refine y_iaT 40 ((-2147483648)) 2147483647 c208_39 rfl ka403 (by omega) hT rfl (fun v13957 hv13957 gv13957 => ?_)
      have gv13957_ : m 403 (1000 * 1 + 8 * k.toNat + 2) = v13957 := by rw [show 1000 * 1 + 8 * k.toNat + 2 = ((1000 + 8 * k) + 2).toNat by omega]; exact (rfl).symm.trans hv13957
      have tb13958 := hT.atp 376 18 0 1 rfl
      have hVg : VX 1 m := hV
      refine y_callP 43 [.ref 376, yI v13957] [] c208_40 rfl rfl rfl rfl rfl (ycanO km205 ko376) (t205_1 hT hVg (by omega) (by omega)) (fun r13959 hr13959 => ?_)
      refine y_istore 44 c208_43 rfl rfl ?_
      refine y_aload 45 c208_44 rfl rfl rfl ?_
      refine y_iload 46 c208_45 rfl rfl ?_
      refine y_if 53 49 c208_46 rfl rfl (yz_le (by omega)) (fun hb13960 => ?_) (fun hb13960 => ?_)
      · refine y_iconst 54 c208_53 rfl ?_
        refine y_iconst 55 c208_54 rfl ?_
        refine y_inlB 58 [.ref 376, yI 0, yI 1] [] [some (.ref 376), some (yI 0), some (yI 1)] c208_55 rfl rfl rfl rfl rfl (ycanO km23 ko376) kn23 rfl rfl ?_
        refine y_aload 1 c23_0 rfl rfl rfl ?_
        refine y_iload 2 c23_1 rfl rfl ?_
        refine y_if 9 5 c23_2 rfl rfl (yz_eq (by omega)) (fun hb13961 => ?_) (fun hb13961 => ?_)
        · refine y_iload 10 c23_9 rfl rfl ?_
          refine y_putI 13 c23_10 rfl kf376_57 (y_fit0 _) ?_
          have hT13962 := hT.up 376 57 1 0 4 rfl (by omega)
          have hF13963 := hF.up 376 57 1 rfl
          refine y_iload 14 c23_13 rfl rfl ?_
          refine y_ireturnK c23_14 (y_fit1 (by omega)) ?_
          refine y_if 90 61 c208_58 rfl rfl (yz_eq (by omega)) (fun hb13964 => ?_) (fun hb13964 => ?_)
          · have es13965 : (yup m 376 57 1) 376 51 = m 376 51 := rfl
            exact y_retU c208_90 ⟨rfl, hT13962, hF13963, (VX.sc hV (by decide))⟩
          · exfalso; omega
        · exfalso; omega
      · refine y_iconst 50 c208_49 rfl ?_
        refine y_goto 54 c208_50 rfl ?_
        refine y_iconst 55 c208_54 rfl ?_
        refine y_inlB 58 [.ref 376, yI 1, yI 1] [] [some (.ref 376), some (yI 1), some (yI 1)] c208_55 rfl rfl rfl rfl rfl (ycanO km23 ko376) kn23 rfl rfl ?_
        refine y_aload 1 c23_0 rfl rfl rfl ?_
        refine y_iload 2 c23_1 rfl rfl ?_
        refine y_if 9 5 c23_2 rfl rfl (yz_eq (by omega)) (fun hb13966 => ?_) (fun hb13966 => ?_)
        · exfalso; omega
        · refine y_iconst 6 c23_5 rfl ?_
          refine y_goto 10 c23_6 rfl ?_
          refine y_putI 13 c23_10 rfl kf376_57 (y_fit0 _) ?_
          have hT13967 := hT.up 376 57 0 0 4 rfl (by omega)
          have hF13968 := hF.up 376 57 0 rfl
          refine y_iload 14 c23_13 rfl rfl ?_
          refine y_ireturnK c23_14 (y_fit1 (by omega)) ?_
          refine y_if 90 61 c208_58 rfl rfl (yz_eq (by omega)) (fun hb13969 => ?_) (fun hb13969 => ?_)
          · exfalso; omega
          · refine y_aload 62 c208_61 rfl rfl rfl ?_
            refine y_aload 63 c208_62 rfl rfl rfl ?_
            refine y_aload 64 c208_63 rfl rfl rfl ?_
            refine y_getX 67 (m 376 18) c208_64 rfl kf376_18 rfl ?_
            refine y_top 1 (by omega) ?_
            refine y_aload 68 c208_67 rfl rfl rfl ?_
            refine y_iload 69 c208_68 rfl rfl ?_
            have es13970 : (yup m 376 57 0) 376 51 = m 376 51 := rfl
            have es13971 : (yup m 376 57 0) 376 54 = m 376 54 := rfl
            have es13972 : (yup m 376 57 0) 376 18 = m 376 18 := rfl
            have es13973 : (yup m 376 57 0) 383 1 = m 383 1 := rfl
            have hVg : VX 1 (yup m 376 57 0) := (VX.sc hV (by decide))
            refine y_callP 72 [.ref 376, yI r13959] [yI 1, .ref 376, .ref 376] c208_69 rfl rfl rfl rfl rfl (ycanO km206 ko376) (t206_1 hT13967 (by omega) (hG.fr hT (by decide) (fun a q ha => hF13968 a q (wPl_G2 a q ha))) hVg (by omega)) (fun r13974 hr13974 => ?_)
            refine y_aload 73 c208_72 rfl rfl rfl ?_
            refine y_getR 76 c208_73 rfl kf376_40 ?_
            refine y_iload 77 c208_76 rfl rfl ?_
            refine y_iconst 78 c208_77 rfl ?_
            refine y_iadd 79 c208_78 rfl ?_
            refine y_iaT 80 ((-2147483648)) 2147483647 c208_79 rfl ka403 (by omega) hT13967 rfl (fun v13975 hv13975 gv13975 => ?_)
            have gv13975_ : m 403 (1000 * 1 + 8 * k.toNat + 4) = v13975 := by rw [show 1000 * 1 + 8 * k.toNat + 4 = ((1000 + 8 * k) + 4).toNat by omega]; exact ((yup_na (by decide))).symm.trans hv13975
            have es13976 : (yup m 376 57 0) 383 1 = m 383 1 := rfl
            refine y_callP 83 [.ref 376, yI 1, yI r13974, yI v13975] [.ref 376] c208_80 rfl rfl rfl rfl rfl (ycanO km121 ko376) (t121_1 hT13967 (by rw [show (yup m 376 57 0) 383 1 = m 383 1 from rfl]; exact hG.2.2.2.2.1.fr (fun q => (yup_na (by decide)))) (by omega) (by omega)) (fun r13977 hr13977 => ?_)
            refine y_iconst 84 c208_83 rfl ?_
            refine y_inlB 87 [.ref 376, yI r13977, yI 3] [] [some (.ref 376), some (yI r13977), some (yI 3)] c208_84 rfl rfl rfl rfl rfl (ycanO km23 ko376) kn23 rfl rfl ?_
            refine y_aload 1 c23_0 rfl rfl rfl ?_
            refine y_iload 2 c23_1 rfl rfl ?_
            refine y_if 9 5 c23_2 rfl rfl (yz_eq (by omega)) (fun hb13978 => ?_) (fun hb13978 => ?_)
            · refine y_iload 10 c23_9 rfl rfl ?_
              refine y_putI 13 c23_10 rfl kf376_57 (y_fit0 _) ?_
              have hT13979 := hT13967.up 376 57 3 0 4 rfl (by omega)
              have hF13980 := hF13968.up 376 57 3 rfl
              refine y_iload 14 c23_13 rfl rfl ?_
              refine y_ireturnK c23_14 (y_fit1 (by omega)) ?_
              refine y_if 91 90 c208_87 rfl rfl (yz_ne (by omega)) (fun hb13981 => ?_) (fun hb13981 => ?_)
              · exfalso; omega
              · have es13982 : (yup (yup m 376 57 0) 376 57 3) 376 51 = m 376 51 := rfl
                exact y_retU c208_90 ⟨rfl, hT13979, hF13980, (VX.sc (VX.sc hV (by decide)) (by decide))⟩
            · refine y_iconst 6 c23_5 rfl ?_
              refine y_goto 10 c23_6 rfl ?_
              refine y_putI 13 c23_10 rfl kf376_57 (y_fit0 _) ?_
              have hT13983 := hT13967.up 376 57 0 0 4 rfl (by omega)
              have hF13984 := hF13968.up 376 57 0 rfl
              refine y_iload 14 c23_13 rfl rfl ?_
              refine y_ireturnK c23_14 (y_fit1 (by omega)) ?_
              refine y_if 91 90 c208_87 rfl rfl (yz_ne (by omega)) (fun hb13985 => ?_) (fun hb13985 => ?_)
              · refine y_iconst 93 c208_91 rfl ?_
                refine y_iload 94 c208_93 rfl rfl ?_
                refine y_iconst 95 c208_94 rfl ?_
                refine y_isub 96 c208_95 rfl ?_
                refine y_imul 97 c208_96 rfl ?_
                refine y_aload 98 c208_97 rfl rfl rfl ?_
                refine y_getR 101 c208_98 rfl kf376_40 ?_
                refine y_iload 102 c208_101 rfl rfl ?_
                refine y_iconst 103 c208_102 rfl ?_
                refine y_iadd 104 c208_103 rfl ?_
                refine y_iaT 105 ((-2147483648)) 2147483647 c208_104 rfl ka403 (by omega) hT13983 rfl (fun v13986 hv13986 gv13986 => ?_)
                have gv13986_ : m 403 (1000 * 1 + 8 * k.toNat + 4) = v13986 := by rw [show 1000 * 1 + 8 * k.toNat + 4 = ((1000 + 8 * k) + 4).toNat by omega]; exact (((yup_na (by decide)).trans (yup_na (by decide)))).symm.trans hv13986
                refine y_iadd 106 c208_105 rfl ?_
                refine y_istore 108 c208_106 rfl rfl ?_
                refine y_iload 109 c208_108 rfl rfl ?_
                refine y_if 134 112 c208_109 rfl rfl (yz_eq (by omega)) (fun hb13987 => ?_) (fun hb13987 => ?_)
                · refine y_aload 135 c208_134 rfl rfl rfl ?_
                  refine y_getR 138 c208_135 rfl kf376_50 ?_
                  refine y_iload 140 c208_138 rfl rfl ?_
                  refine y_aload 141 c208_140 rfl rfl rfl ?_
                  refine y_aload 142 c208_141 rfl rfl rfl ?_
                  refine y_getR 145 c208_142 rfl kf376_40 ?_
                  refine y_iload 146 c208_145 rfl rfl ?_
                  refine y_iconst 147 c208_146 rfl ?_
                  refine y_iadd 148 c208_147 rfl ?_
                  refine y_iaT 149 ((-2147483648)) 2147483647 c208_148 rfl ka403 (by omega) hT13983 rfl (fun v13988 hv13988 gv13988 => ?_)
                  have gv13988_ : m 403 (1000 * 1 + 8 * k.toNat + 3) = v13988 := by rw [show 1000 * 1 + 8 * k.toNat + 3 = ((1000 + 8 * k) + 3).toNat by omega]; exact (((yup_na (by decide)).trans (yup_na (by decide)))).symm.trans hv13988
                  have es13989 : (yup (yup m 376 57 0) 376 57 0) 376 51 = m 376 51 := rfl
                  have es13990 : (yup (yup m 376 57 0) 376 57 0) 376 54 = m 376 54 := rfl
                  have es13991 : (yup (yup m 376 57 0) 376 57 0) 376 18 = m 376 18 := rfl
                  have hVg : VX 1 (yup (yup m 376 57 0) 376 57 0) := (VX.sc (VX.sc hV (by decide)) (by decide))
                  refine y_callP 152 [.ref 376, yI v13988] [yI ((8 * (r13959 - 1)) + v13986), .ref 410] c208_149 rfl rfl rfl rfl rfl (ycanO km205 ko376) (t205_1 hT13983 hVg (by omega) (by omega)) (fun r13992 hr13992 => ?_)
                  refine y_iastore 153 c208_152 rfl ka410 (by omega) (y_nar0 _) ?_
                  have hT13993 := hT13983.up 410 (((8 * (r13959 - 1)) + v13986).toNat) r13992 0 30 rfl (by omega)
                  have hF13994 := hF13984.up 410 (((8 * (r13959 - 1)) + v13986).toNat) r13992 rfl
                  have es13995 : (yup (yup (yup m 376 57 0) 376 57 0) 410 (((8 * (r13959 - 1)) + v13986).toNat) r13992) 376 51 = m 376 51 := rfl
                  exact y_retU c208_153 ⟨rfl, hT13993, hF13994, (VX.up0 (VX.sc (VX.sc hV (by decide)) (by decide)) (by omega))⟩
                · exfalso; omega
              · exfalso; omega
    · exfalso; omega
  · refine y_iconst 11 c208_10 rfl ?_
    refine y_goto 15 c208_11 rfl ?_
    refine y_istore 16 c208_15 rfl rfl ?_
    refine y_aload 17 c208_16 rfl rfl rfl ?_
    refine y_iload 18 c208_17 rfl rfl ?_
    refine y_if 32 21 c208_18 rfl rfl (yz_eq (by omega)) (fun hb13996 => ?_) (fun hb13996 => ?_)
    · exfalso; omega
    · refine y_aload 22 c208_21 rfl rfl rfl ?_
      refine y_getR 25 c208_22 rfl kf376_40 ?_
      refine y_iload 26 c208_25 rfl rfl ?_
      refine y_iconst 27 c208_26 rfl ?_
      refine y_iadd 28 c208_27 rfl ?_
      refine y_iaT 29 ((-2147483648)) 2147483647 c208_28 rfl ka403 (by omega) hT rfl (fun v13997 hv13997 gv13997 => ?_)
      have gv13997_ : m 403 (1000 * 1 + 8 * k.toNat + 3) = v13997 := by rw [show 1000 * 1 + 8 * k.toNat + 3 = ((1000 + 8 * k) + 3).toNat by omega]; exact (rfl).symm.trans hv13997
      refine y_goto 40 c208_29 rfl ?_
      have tb13998 := hT.atp 376 18 0 1 rfl
      have hVg : VX 1 m := hV
      refine y_callP 43 [.ref 376, yI v13997] [] c208_40 rfl rfl rfl rfl rfl (ycanO km205 ko376) (t205_1 hT hVg (by omega) (by omega)) (fun r13999 hr13999 => ?_)
      refine y_istore 44 c208_43 rfl rfl ?_
      refine y_aload 45 c208_44 rfl rfl rfl ?_
      refine y_iload 46 c208_45 rfl rfl ?_
      refine y_if 53 49 c208_46 rfl rfl (yz_le (by omega)) (fun hb14000 => ?_) (fun hb14000 => ?_)
      · refine y_iconst 54 c208_53 rfl ?_
        refine y_iconst 55 c208_54 rfl ?_
        refine y_inlB 58 [.ref 376, yI 0, yI 1] [] [some (.ref 376), some (yI 0), some (yI 1)] c208_55 rfl rfl rfl rfl rfl (ycanO km23 ko376) kn23 rfl rfl ?_
        refine y_aload 1 c23_0 rfl rfl rfl ?_
        refine y_iload 2 c23_1 rfl rfl ?_
        refine y_if 9 5 c23_2 rfl rfl (yz_eq (by omega)) (fun hb14001 => ?_) (fun hb14001 => ?_)
        · refine y_iload 10 c23_9 rfl rfl ?_
          refine y_putI 13 c23_10 rfl kf376_57 (y_fit0 _) ?_
          have hT14002 := hT.up 376 57 1 0 4 rfl (by omega)
          have hF14003 := hF.up 376 57 1 rfl
          refine y_iload 14 c23_13 rfl rfl ?_
          refine y_ireturnK c23_14 (y_fit1 (by omega)) ?_
          refine y_if 90 61 c208_58 rfl rfl (yz_eq (by omega)) (fun hb14004 => ?_) (fun hb14004 => ?_)
          · have es14005 : (yup m 376 57 1) 376 51 = m 376 51 := rfl
            exact y_retU c208_90 ⟨rfl, hT14002, hF14003, (VX.sc hV (by decide))⟩
          · exfalso; omega
        · exfalso; omega
      · refine y_iconst 50 c208_49 rfl ?_
        refine y_goto 54 c208_50 rfl ?_
        refine y_iconst 55 c208_54 rfl ?_
        refine y_inlB 58 [.ref 376, yI 1, yI 1] [] [some (.ref 376), some (yI 1), some (yI 1)] c208_55 rfl rfl rfl rfl rfl (ycanO km23 ko376) kn23 rfl rfl ?_
        refine y_aload 1 c23_0 rfl rfl rfl ?_
        refine y_iload 2 c23_1 rfl rfl ?_
        refine y_if 9 5 c23_2 rfl rfl (yz_eq (by omega)) (fun hb14006 => ?_) (fun hb14006 => ?_)
        · exfalso; omega
        · refine y_iconst 6 c23_5 rfl ?_
          refine y_goto 10 c23_6 rfl ?_
          refine y_putI 13 c23_10 rfl kf376_57 (y_fit0 _) ?_
          have hT14007 := hT.up 376 57 0 0 4 rfl (by omega)
          have hF14008 := hF.up 376 57 0 rfl
          refine y_iload 14 c23_13 rfl rfl ?_
          refine y_ireturnK c23_14 (y_fit1 (by omega)) ?_
          refine y_if 90 61 c208_58 rfl rfl (yz_eq (by omega)) (fun hb14009 => ?_) (fun hb14009 => ?_)
          · exfalso; omega
          · refine y_aload 62 c208_61 rfl rfl rfl ?_
            refine y_aload 63 c208_62 rfl rfl rfl ?_
            refine y_aload 64 c208_63 rfl rfl rfl ?_
            refine y_getX 67 (m 376 18) c208_64 rfl kf376_18 rfl ?_
            refine y_top 1 (by omega) ?_
            refine y_aload 68 c208_67 rfl rfl rfl ?_
            refine y_iload 69 c208_68 rfl rfl ?_
            have es14010 : (yup m 376 57 0) 376 51 = m 376 51 := rfl
            have es14011 : (yup m 376 57 0) 376 54 = m 376 54 := rfl
            have es14012 : (yup m 376 57 0) 376 18 = m 376 18 := rfl
            have es14013 : (yup m 376 57 0) 383 1 = m 383 1 := rfl
            have hVg : VX 1 (yup m 376 57 0) := (VX.sc hV (by decide))
            refine y_callP 72 [.ref 376, yI r13999] [yI 1, .ref 376, .ref 376] c208_69 rfl rfl rfl rfl rfl (ycanO km206 ko376) (t206_1 hT14007 (by omega) (hG.fr hT (by decide) (fun a q ha => hF14008 a q (wPl_G2 a q ha))) hVg (by omega)) (fun r14014 hr14014 => ?_)
            refine y_aload 73 c208_72 rfl rfl rfl ?_
            refine y_getR 76 c208_73 rfl kf376_40 ?_
            refine y_iload 77 c208_76 rfl rfl ?_
            refine y_iconst 78 c208_77 rfl ?_
            refine y_iadd 79 c208_78 rfl ?_
            refine y_iaT 80 ((-2147483648)) 2147483647 c208_79 rfl ka403 (by omega) hT14007 rfl (fun v14015 hv14015 gv14015 => ?_)
            have gv14015_ : m 403 (1000 * 1 + 8 * k.toNat + 4) = v14015 := by rw [show 1000 * 1 + 8 * k.toNat + 4 = ((1000 + 8 * k) + 4).toNat by omega]; exact ((yup_na (by decide))).symm.trans hv14015
            have es14016 : (yup m 376 57 0) 383 1 = m 383 1 := rfl
            refine y_callP 83 [.ref 376, yI 1, yI r14014, yI v14015] [.ref 376] c208_80 rfl rfl rfl rfl rfl (ycanO km121 ko376) (t121_1 hT14007 (by rw [show (yup m 376 57 0) 383 1 = m 383 1 from rfl]; exact hG.2.2.2.2.1.fr (fun q => (yup_na (by decide)))) (by omega) (by omega)) (fun r14017 hr14017 => ?_)
            refine y_iconst 84 c208_83 rfl ?_
            refine y_inlB 87 [.ref 376, yI r14017, yI 3] [] [some (.ref 376), some (yI r14017), some (yI 3)] c208_84 rfl rfl rfl rfl rfl (ycanO km23 ko376) kn23 rfl rfl ?_
            refine y_aload 1 c23_0 rfl rfl rfl ?_
            refine y_iload 2 c23_1 rfl rfl ?_
            refine y_if 9 5 c23_2 rfl rfl (yz_eq (by omega)) (fun hb14018 => ?_) (fun hb14018 => ?_)
            · refine y_iload 10 c23_9 rfl rfl ?_
              refine y_putI 13 c23_10 rfl kf376_57 (y_fit0 _) ?_
              have hT14019 := hT14007.up 376 57 3 0 4 rfl (by omega)
              have hF14020 := hF14008.up 376 57 3 rfl
              refine y_iload 14 c23_13 rfl rfl ?_
              refine y_ireturnK c23_14 (y_fit1 (by omega)) ?_
              refine y_if 91 90 c208_87 rfl rfl (yz_ne (by omega)) (fun hb14021 => ?_) (fun hb14021 => ?_)
              · exfalso; omega
              · have es14022 : (yup (yup m 376 57 0) 376 57 3) 376 51 = m 376 51 := rfl
                exact y_retU c208_90 ⟨rfl, hT14019, hF14020, (VX.sc (VX.sc hV (by decide)) (by decide))⟩
            · refine y_iconst 6 c23_5 rfl ?_
              refine y_goto 10 c23_6 rfl ?_
              refine y_putI 13 c23_10 rfl kf376_57 (y_fit0 _) ?_
              have hT14023 := hT14007.up 376 57 0 0 4 rfl (by omega)
              have hF14024 := hF14008.up 376 57 0 rfl
              refine y_iload 14 c23_13 rfl rfl ?_
              refine y_ireturnK c23_14 (y_fit1 (by omega)) ?_
              refine y_if 91 90 c208_87 rfl rfl (yz_ne (by omega)) (fun hb14025 => ?_) (fun hb14025 => ?_)
              · refine y_iconst 93 c208_91 rfl ?_
                refine y_iload 94 c208_93 rfl rfl ?_
                refine y_iconst 95 c208_94 rfl ?_
                refine y_isub 96 c208_95 rfl ?_
                refine y_imul 97 c208_96 rfl ?_
                refine y_aload 98 c208_97 rfl rfl rfl ?_
                refine y_getR 101 c208_98 rfl kf376_40 ?_
                refine y_iload 102 c208_101 rfl rfl ?_
                refine y_iconst 103 c208_102 rfl ?_
                refine y_iadd 104 c208_103 rfl ?_
                refine y_iaT 105 ((-2147483648)) 2147483647 c208_104 rfl ka403 (by omega) hT14023 rfl (fun v14026 hv14026 gv14026 => ?_)
                have gv14026_ : m 403 (1000 * 1 + 8 * k.toNat + 4) = v14026 := by rw [show 1000 * 1 + 8 * k.toNat + 4 = ((1000 + 8 * k) + 4).toNat by omega]; exact (((yup_na (by decide)).trans (yup_na (by decide)))).symm.trans hv14026
                refine y_iadd 106 c208_105 rfl ?_
                refine y_istore 108 c208_106 rfl rfl ?_
                refine y_iload 109 c208_108 rfl rfl ?_
                refine y_if 134 112 c208_109 rfl rfl (yz_eq (by omega)) (fun hb14027 => ?_) (fun hb14027 => ?_)
                · exfalso; omega
                · refine y_aload 113 c208_112 rfl rfl rfl ?_
                  refine y_aload 114 c208_113 rfl rfl rfl ?_
                  refine y_getR 117 c208_114 rfl kf376_40 ?_
                  refine y_iload 118 c208_117 rfl rfl ?_
                  refine y_iconst 119 c208_118 rfl ?_
                  refine y_iadd 120 c208_119 rfl ?_
                  refine y_iaT 121 ((-2147483648)) 2147483647 c208_120 rfl ka403 (by omega) hT14023 rfl (fun v14028 hv14028 gv14028 => ?_)
                  have gv14028_ : m 403 (1000 * 1 + 8 * k.toNat + 2) = v14028 := by rw [show 1000 * 1 + 8 * k.toNat + 2 = ((1000 + 8 * k) + 2).toNat by omega]; exact (((yup_na (by decide)).trans (yup_na (by decide)))).symm.trans hv14028
                  refine y_aload 122 c208_121 rfl rfl rfl ?_
                  refine y_getR 125 c208_122 rfl kf376_50 ?_
                  refine y_iload 127 c208_125 rfl rfl ?_
                  refine y_iaT 128 0 30 c208_127 rfl ka410 (by omega) hT14023 rfl (fun v14029 hv14029 gv14029 => ?_)
                  have gv14029_ : v14029 ≤ m 376 51 := by have h0 := hV.2.1 ((8 * (r13999 - 1)) + v14026).toNat (by omega); rw [← show _ = m 410 ((8 * (r13999 - 1)) + v14026).toNat from ((yup_na (by decide)).trans (yup_na (by decide))), hv14029] at h0; exact h0
                  have es14031 : (yup (yup m 376 57 0) 376 57 0) 376 51 = m 376 51 := rfl
                  have es14032 : (yup (yup m 376 57 0) 376 57 0) 376 54 = m 376 54 := rfl
                  have es14033 : (yup (yup m 376 57 0) 376 57 0) 376 18 = m 376 18 := rfl
                  have hVc : VX 1 (yup (yup m 376 57 0) 376 57 0) := (VX.sc (VX.sc hV (by decide)) (by decide))
                  refine y_callUB 131 [.ref 376, yI v14028, yI v14029] [] c208_128 rfl rfl rfl rfl rfl (ycanO km202 ko376) (t202_1 hT14023 hVc (by omega) (by omega) (by omega)) (fun mq14030 nq14030 hq14030 => ?_)
                  obtain ⟨rfl, hTq14030, hFq14030, hVq14030⟩ := hq14030
                  have hF14034 := hF14024.tr hFq14030 wGv_wPl
                  refine y_goto 153 c208_131 rfl ?_
                  have es14035 : mq14030 376 51 = m 376 51 := ((hFq14030 376 51 rfl).trans ((yup_nk (by decide)).trans (yup_nk (by decide))))
                  exact y_retU c208_153 ⟨rfl, hTq14030, hF14034, hVq14030⟩
              · exfalso; omega
set_option maxRecDepth 100000 in
theorem t209_1 {L : Nat} {xs : Nat → Int32} {d nn : Nat} {m : yM} {k : Int} (hT : Ty gT m) (hn : m 376 18 = 1) (hG : GQ 1 m) (hV : VX 1 m) (hf : 1 ≤ m 376 54) (hko : 0 ≤ k ∧ k < m 390 1) (hwh : m 403 (1000 * 1 + 8 * k.toNat) ≠ 6 ∧ m 403 (1000 * 1 + 8 * k.toNat) ≠ 7 ∧ m 403 (1000 * 1 + 8 * k.toNat) ≤ 8) : YC (gZ L xs) (d + 3) 209 [.ref 376, yI (1000 + 8 * k)] m nn (qU (fun m' n' => n' = nn ∧ Ty gT m' ∧ Fr wPl m m' ∧ VX 1 m')) := by
  have tb383 := hT.atp 383 1 0 6 rfl
  have tb384 := hT.atp 384 1 0 10 rfl
  have tb388 := hT.atp 388 1 0 12 rfl
  have tb390 := hT.atp 390 1 0 125 rfl
  have tm51 := hT.atp 376 51 0 30 rfl
  have tm54 := hT.atp 376 54 0 4 rfl
  have tm55 := hT.atp 376 55 0 124 rfl
  have tm56 := hT.atp 376 56 0 201 rfl
  have tm57 := hT.atp 376 57 0 4 rfl
  have g90 : m 390 1 ≤ 100 := hG.2.2.2.2.2.2.2.2.2.2.1
  refine YC.mkB [some (.ref 376), some (yI (1000 + 8 * k)), none, none, none, none] kn209 rfl rfl ?_
  have hF : Fr wPl m m := Fr.rf
  refine y_aload 1 c209_0 rfl rfl rfl ?_
  refine y_getR 4 c209_1 rfl kf376_40 ?_
  refine y_iload 5 c209_4 rfl rfl ?_
  refine y_iaT 6 ((-2147483648)) 2147483647 c209_5 rfl ka403 (by omega) hT rfl (fun v14036 hv14036 gv14036 => ?_)
  have hwv14036 := hG.1.1 k.toNat (by omega)
  unfold OW at hwv14036
  have hfxv14036 := hG.2.2.2.2.2.2.1 k.toNat (by omega)
  have hnsv14036 := hG.2.2.2.2.2.2.2.2.2.2.2 k.toNat (by omega)
  have hlev14036 := hG.2.2.1 k.toNat
  have htgv14036 := hG.1.2.1 k.toNat (by omega)
  have gv14036_ : m 403 (1000 * 1 + 8 * k.toNat) = v14036 := by rw [show 1000 * 1 + 8 * k.toNat = (1000 + 8 * k).toNat by omega]; exact (rfl).symm.trans hv14036
  refine y_istore 7 c209_6 rfl rfl ?_
  refine y_aload 8 c209_7 rfl rfl rfl ?_
  refine y_getR 11 c209_8 rfl kf376_40 ?_
  refine y_iload 12 c209_11 rfl rfl ?_
  refine y_iconst 13 c209_12 rfl ?_
  refine y_iadd 14 c209_13 rfl ?_
  refine y_iaT 15 ((-2147483648)) 2147483647 c209_14 rfl ka403 (by omega) hT rfl (fun v14037 hv14037 gv14037 => ?_)
  have gv14037_ : m 403 (1000 * 1 + 8 * k.toNat + 2) = v14037 := by rw [show 1000 * 1 + 8 * k.toNat + 2 = ((1000 + 8 * k) + 2).toNat by omega]; exact (rfl).symm.trans hv14037
  refine y_istore 16 c209_15 rfl rfl ?_
  refine y_iload 17 c209_16 rfl rfl ?_
  refine y_iconst 19 c209_17 rfl ?_
  refine y_icmp 31 22 c209_19 rfl rfl (yc_ne (by omega) (by omega)) (fun hb14038 => ?_) (fun hb14038 => ?_)
  · refine y_iload 32 c209_31 rfl rfl ?_
    refine y_iconst 33 c209_32 rfl ?_
    refine y_icmp 56 36 c209_33 rfl rfl (yc_ne (by omega) (by omega)) (fun hb14039 => ?_) (fun hb14039 => ?_)
    · refine y_iload 57 c209_56 rfl rfl ?_
      refine y_iconst 58 c209_57 rfl ?_
      refine y_icmp 66 61 c209_58 rfl rfl (yc_eq (by omega) (by omega)) (fun hb14040 => ?_) (fun hb14040 => ?_)
      · refine y_aload 67 c209_66 rfl rfl rfl ?_
        refine y_iload 68 c209_67 rfl rfl ?_
        have tb14042 := hT.atp 376 18 0 1 rfl
        have hVc : VX 1 m := hV
        refine y_callUB 71 [.ref 376, yI (1000 + 8 * k)] [] c209_68 rfl rfl rfl rfl rfl (ycanO km208 ko376) (t208_1 (k := k) hT (by omega) hG hVc (by omega) (by omega) (by omega)) (fun mq14041 nq14041 hq14041 => ?_)
        obtain ⟨rfl, hTq14041, hFq14041, hVq14041⟩ := hq14041
        have hF14043 := hF.tr hFq14041 (fun _ _ e => e)
        refine y_goto 191 c209_71 rfl ?_
        have tb14044 := hTq14041.atp 376 51 0 30 rfl
        exact y_retU c209_191 ⟨rfl, hTq14041, hF14043, hVq14041⟩
      · refine y_iload 62 c209_61 rfl rfl ?_
        refine y_iconst 63 c209_62 rfl ?_
        refine y_icmp 74 66 c209_63 rfl rfl (yc_ne (by omega) (by omega)) (fun hb14045 => ?_) (fun hb14045 => ?_)
        · refine y_iload 75 c209_74 rfl rfl ?_
          refine y_iconst 76 c209_75 rfl ?_
          refine y_icmp 110 79 c209_76 rfl rfl (yc_ne (by omega) (by omega)) (fun hb14046 => ?_) (fun hb14046 => ?_)
          · refine y_aload 111 c209_110 rfl rfl rfl ?_
            refine y_aload 112 c209_111 rfl rfl rfl ?_
            refine y_getR 115 c209_112 rfl kf376_40 ?_
            refine y_iload 116 c209_115 rfl rfl ?_
            refine y_iconst 117 c209_116 rfl ?_
            refine y_iadd 118 c209_117 rfl ?_
            refine y_iaT 119 ((-2147483648)) 2147483647 c209_118 rfl ka403 (by omega) hT rfl (fun v14047 hv14047 gv14047 => ?_)
            have gv14047_ : m 403 (1000 * 1 + 8 * k.toNat + 3) = v14047 := by rw [show 1000 * 1 + 8 * k.toNat + 3 = ((1000 + 8 * k) + 3).toNat by omega]; exact (rfl).symm.trans hv14047
            have tb14048 := hT.atp 376 18 0 1 rfl
            have hVg : VX 1 m := hV
            refine y_callP 122 [.ref 376, yI v14047] [] c209_119 rfl rfl rfl rfl rfl (ycanO km205 ko376) (t205_1 hT hVg (by omega) (by omega)) (fun r14049 hr14049 => ?_)
            refine y_istore 124 c209_122 rfl rfl ?_
            refine y_iload 126 c209_124 rfl rfl ?_
            refine y_if 167 129 c209_126 rfl rfl (yz_eq (by omega)) (fun hb14050 => ?_) (fun hb14050 => ?_)
            · refine y_iconst 168 c209_167 rfl ?_
              refine y_goto 172 c209_168 rfl ?_
              refine y_istore 174 c209_172 rfl rfl ?_
              refine y_aload 175 c209_174 rfl rfl rfl ?_
              refine y_iload 177 c209_175 rfl rfl ?_
              refine y_iconst 178 c209_177 rfl ?_
              refine y_inlB 181 [.ref 376, yI 1, yI 2] [] [some (.ref 376), some (yI 1), some (yI 2)] c209_178 rfl rfl rfl rfl rfl (ycanO km23 ko376) kn23 rfl rfl ?_
              refine y_aload 1 c23_0 rfl rfl rfl ?_
              refine y_iload 2 c23_1 rfl rfl ?_
              refine y_if 9 5 c23_2 rfl rfl (yz_eq (by omega)) (fun hb14051 => ?_) (fun hb14051 => ?_)
              · exfalso; omega
              · refine y_iconst 6 c23_5 rfl ?_
                refine y_goto 10 c23_6 rfl ?_
                refine y_putI 13 c23_10 rfl kf376_57 (y_fit0 _) ?_
                have hT14052 := hT.up 376 57 0 0 4 rfl (by omega)
                have hF14053 := hF.up 376 57 0 rfl
                refine y_iload 14 c23_13 rfl rfl ?_
                refine y_ireturnK c23_14 (y_fit1 (by omega)) ?_
                refine y_if 191 184 c209_181 rfl rfl (yz_eq (by omega)) (fun hb14054 => ?_) (fun hb14054 => ?_)
                · exfalso; omega
                · refine y_aload 185 c209_184 rfl rfl rfl ?_
                  refine y_iload 186 c209_185 rfl rfl ?_
                  refine y_iload 188 c209_186 rfl rfl ?_
                  have es14056 : (yup m 376 57 0) 376 51 = m 376 51 := rfl
                  have es14057 : (yup m 376 57 0) 376 54 = m 376 54 := rfl
                  have es14058 : (yup m 376 57 0) 376 18 = m 376 18 := rfl
                  have hVc : VX 1 (yup m 376 57 0) := (VX.sc hV (by decide))
                  refine y_callUB 191 [.ref 376, yI v14037, yI r14049] [] c209_188 rfl rfl rfl rfl rfl (ycanO km202 ko376) (t202_1 hT14052 hVc (by omega) (by omega) (by omega)) (fun mq14055 nq14055 hq14055 => ?_)
                  obtain ⟨rfl, hTq14055, hFq14055, hVq14055⟩ := hq14055
                  have hF14059 := hF14053.tr hFq14055 wGv_wPl
                  have es14060 : mq14055 376 51 = m 376 51 := ((hFq14055 376 51 rfl).trans (yup_nk (by decide)))
                  exact y_retU c209_191 ⟨rfl, hTq14055, hF14059, hVq14055⟩
            · refine y_aload 130 c209_129 rfl rfl rfl ?_
              refine y_aload 131 c209_130 rfl rfl rfl ?_
              refine y_getX 134 (m 376 18) c209_131 rfl kf376_18 rfl ?_
              refine y_top 1 (by omega) ?_
              refine y_aload 135 c209_134 rfl rfl rfl ?_
              refine y_iload 137 c209_135 rfl rfl ?_
              have hVg : VX 1 m := hV
              refine y_callP 140 [.ref 376, yI r14049] [yI 1, .ref 376] c209_137 rfl rfl rfl rfl rfl (ycanO km206 ko376) (t206_1 hT (by omega) hG hVg (by omega)) (fun r14061 hr14061 => ?_)
              refine y_aload 141 c209_140 rfl rfl rfl ?_
              refine y_getR 144 c209_141 rfl kf376_39 ?_
              refine y_iconst 146 c209_144 rfl ?_
              refine y_aload 147 c209_146 rfl rfl rfl ?_
              refine y_getX 150 (m 376 18) c209_147 rfl kf376_18 rfl ?_
              refine y_top 1 (by omega) ?_
              refine y_imul 151 c209_150 rfl ?_
              refine y_top 8 (by decide) ?_
              refine y_aload 152 c209_151 rfl rfl rfl ?_
              refine y_getR 155 c209_152 rfl kf376_40 ?_
              refine y_iload 156 c209_155 rfl rfl ?_
              refine y_iconst 157 c209_156 rfl ?_
              refine y_iadd 158 c209_157 rfl ?_
              refine y_iaT 159 ((-2147483648)) 2147483647 c209_158 rfl ka403 (by omega) hT rfl (fun v14062 hv14062 gv14062 => ?_)
              have gv14062_ : m 403 (1000 * 1 + 8 * k.toNat + 4) = v14062 := by rw [show 1000 * 1 + 8 * k.toNat + 4 = ((1000 + 8 * k) + 4).toNat by omega]; exact (rfl).symm.trans hv14062
              refine y_iadd 160 c209_159 rfl ?_
              refine y_iaT 161 ((-2147483648)) 2147483647 c209_160 rfl ka402 (by omega) hT rfl (fun v14063 hv14063 gv14063 => ?_)
              refine y_callP 164 [.ref 376, yI 1, yI r14061, yI v14063] [] c209_161 rfl rfl rfl rfl rfl (ycanO km149 ko376) (t149_1 hT hG.2.2.2.2.1 (by omega) (by omega)) (fun r14064 hr14064 => ?_)
              refine y_if 171 167 c209_164 rfl rfl (yz_eq (by omega)) (fun hb14065 => ?_) (fun hb14065 => ?_)
              · refine y_iconst 172 c209_171 rfl ?_
                refine y_istore 174 c209_172 rfl rfl ?_
                refine y_aload 175 c209_174 rfl rfl rfl ?_
                refine y_iload 177 c209_175 rfl rfl ?_
                refine y_iconst 178 c209_177 rfl ?_
                refine y_inlB 181 [.ref 376, yI 0, yI 2] [] [some (.ref 376), some (yI 0), some (yI 2)] c209_178 rfl rfl rfl rfl rfl (ycanO km23 ko376) kn23 rfl rfl ?_
                refine y_aload 1 c23_0 rfl rfl rfl ?_
                refine y_iload 2 c23_1 rfl rfl ?_
                refine y_if 9 5 c23_2 rfl rfl (yz_eq (by omega)) (fun hb14066 => ?_) (fun hb14066 => ?_)
                · refine y_iload 10 c23_9 rfl rfl ?_
                  refine y_putI 13 c23_10 rfl kf376_57 (y_fit0 _) ?_
                  have hT14067 := hT.up 376 57 2 0 4 rfl (by omega)
                  have hF14068 := hF.up 376 57 2 rfl
                  refine y_iload 14 c23_13 rfl rfl ?_
                  refine y_ireturnK c23_14 (y_fit1 (by omega)) ?_
                  refine y_if 191 184 c209_181 rfl rfl (yz_eq (by omega)) (fun hb14069 => ?_) (fun hb14069 => ?_)
                  · have es14070 : (yup m 376 57 2) 376 51 = m 376 51 := rfl
                    exact y_retU c209_191 ⟨rfl, hT14067, hF14068, (VX.sc hV (by decide))⟩
                  · exfalso; omega
                · exfalso; omega
              · refine y_iconst 168 c209_167 rfl ?_
                refine y_goto 172 c209_168 rfl ?_
                refine y_istore 174 c209_172 rfl rfl ?_
                refine y_aload 175 c209_174 rfl rfl rfl ?_
                refine y_iload 177 c209_175 rfl rfl ?_
                refine y_iconst 178 c209_177 rfl ?_
                refine y_inlB 181 [.ref 376, yI 1, yI 2] [] [some (.ref 376), some (yI 1), some (yI 2)] c209_178 rfl rfl rfl rfl rfl (ycanO km23 ko376) kn23 rfl rfl ?_
                refine y_aload 1 c23_0 rfl rfl rfl ?_
                refine y_iload 2 c23_1 rfl rfl ?_
                refine y_if 9 5 c23_2 rfl rfl (yz_eq (by omega)) (fun hb14071 => ?_) (fun hb14071 => ?_)
                · exfalso; omega
                · refine y_iconst 6 c23_5 rfl ?_
                  refine y_goto 10 c23_6 rfl ?_
                  refine y_putI 13 c23_10 rfl kf376_57 (y_fit0 _) ?_
                  have hT14072 := hT.up 376 57 0 0 4 rfl (by omega)
                  have hF14073 := hF.up 376 57 0 rfl
                  refine y_iload 14 c23_13 rfl rfl ?_
                  refine y_ireturnK c23_14 (y_fit1 (by omega)) ?_
                  refine y_if 191 184 c209_181 rfl rfl (yz_eq (by omega)) (fun hb14074 => ?_) (fun hb14074 => ?_)
                  · exfalso; omega
                  · refine y_aload 185 c209_184 rfl rfl rfl ?_
                    refine y_iload 186 c209_185 rfl rfl ?_
                    refine y_iload 188 c209_186 rfl rfl ?_
                    have es14076 : (yup m 376 57 0) 376 51 = m 376 51 := rfl
                    have es14077 : (yup m 376 57 0) 376 54 = m 376 54 := rfl
                    have es14078 : (yup m 376 57 0) 376 18 = m 376 18 := rfl
                    have hVc : VX 1 (yup m 376 57 0) := (VX.sc hV (by decide))
                    refine y_callUB 191 [.ref 376, yI v14037, yI r14049] [] c209_188 rfl rfl rfl rfl rfl (ycanO km202 ko376) (t202_1 hT14072 hVc (by omega) (by omega) (by omega)) (fun mq14075 nq14075 hq14075 => ?_)
                    obtain ⟨rfl, hTq14075, hFq14075, hVq14075⟩ := hq14075
                    have hF14079 := hF14073.tr hFq14075 wGv_wPl
                    have es14080 : mq14075 376 51 = m 376 51 := ((hFq14075 376 51 rfl).trans (yup_nk (by decide)))
                    exact y_retU c209_191 ⟨rfl, hTq14075, hF14079, hVq14075⟩
          · refine y_aload 80 c209_79 rfl rfl rfl ?_
            refine y_aload 81 c209_80 rfl rfl rfl ?_
            refine y_getR 84 c209_81 rfl kf376_40 ?_
            refine y_iload 85 c209_84 rfl rfl ?_
            refine y_iconst 86 c209_85 rfl ?_
            refine y_iadd 87 c209_86 rfl ?_
            refine y_iaT 88 ((-2147483648)) 2147483647 c209_87 rfl ka403 (by omega) hT rfl (fun v14081 hv14081 gv14081 => ?_)
            have gv14081_ : m 403 (1000 * 1 + 8 * k.toNat + 3) = v14081 := by rw [show 1000 * 1 + 8 * k.toNat + 3 = ((1000 + 8 * k) + 3).toNat by omega]; exact (rfl).symm.trans hv14081
            have tb14083 := hT.atp 376 18 0 1 rfl
            have hVc : VX 1 m := hV
            refine y_callIB 91 [.ref 376, yI v14081] [] c209_88 rfl rfl rfl rfl rfl (ycanO km201 ko376) (t201_1 hT hVc (by omega)) (fun rq14082 mq14082 nq14082 hq14082 => ?_)
            obtain ⟨rfl, hTq14082, hFq14082, hq14082, hcq14082, hVq14082⟩ := hq14082
            have hF14084 := hF.tr hFq14082 wMk_wPl
            refine y_istore 93 c209_91 rfl rfl ?_
            refine y_aload 94 c209_93 rfl rfl rfl ?_
            refine y_getX 97 (mq14082 376 57) c209_94 rfl kf376_57 rfl ?_
            have tb14085 := hTq14082.atp 376 57 0 4 rfl
            refine y_if 107 100 c209_97 rfl rfl (yz_ne (by omega)) (fun hb14086 => ?_) (fun hb14086 => ?_)
            · refine y_goto 191 c209_107 rfl ?_
              have tb14087 := hTq14082.atp 376 51 0 30 rfl
              exact y_retU c209_191 ⟨rfl, hTq14082, hF14084, hVq14082⟩
            · refine y_aload 101 c209_100 rfl rfl rfl ?_
              refine y_iload 102 c209_101 rfl rfl ?_
              refine y_iload 104 c209_102 rfl rfl ?_
              have tb14089 := hTq14082.atp 376 51 0 30 rfl
              have es14090 : mq14082 376 54 = m 376 54 := (hFq14082 376 54 rfl)
              have es14091 : mq14082 376 18 = m 376 18 := (hFq14082 376 18 rfl)
              have hVc : VX 1 mq14082 := hVq14082
              refine y_callUB 107 [.ref 376, yI v14037, yI rq14082] [] c209_104 rfl rfl rfl rfl rfl (ycanO km202 ko376) (t202_1 hTq14082 hVc (by omega) (by omega) (by omega)) (fun mq14088 nq14088 hq14088 => ?_)
              obtain ⟨rfl, hTq14088, hFq14088, hVq14088⟩ := hq14088
              have hF14092 := hF14084.tr hFq14088 wGv_wPl
              refine y_goto 191 c209_107 rfl ?_
              have es14093 : mq14088 376 51 = mq14082 376 51 := (hFq14088 376 51 rfl)
              exact y_retU c209_191 ⟨rfl, hTq14088, hF14092, hVq14088⟩
        · refine y_aload 67 c209_66 rfl rfl rfl ?_
          refine y_iload 68 c209_67 rfl rfl ?_
          have tb14095 := hT.atp 376 18 0 1 rfl
          have hVc : VX 1 m := hV
          refine y_callUB 71 [.ref 376, yI (1000 + 8 * k)] [] c209_68 rfl rfl rfl rfl rfl (ycanO km208 ko376) (t208_1 (k := k) hT (by omega) hG hVc (by omega) (by omega) (by omega)) (fun mq14094 nq14094 hq14094 => ?_)
          obtain ⟨rfl, hTq14094, hFq14094, hVq14094⟩ := hq14094
          have hF14096 := hF.tr hFq14094 (fun _ _ e => e)
          refine y_goto 191 c209_71 rfl ?_
          have tb14097 := hTq14094.atp 376 51 0 30 rfl
          exact y_retU c209_191 ⟨rfl, hTq14094, hF14096, hVq14094⟩
    · refine y_aload 37 c209_36 rfl rfl rfl ?_
      refine y_iload 38 c209_37 rfl rfl ?_
      refine y_aload 39 c209_38 rfl rfl rfl ?_
      refine y_aload 40 c209_39 rfl rfl rfl ?_
      refine y_getR 43 c209_40 rfl kf376_40 ?_
      refine y_iload 44 c209_43 rfl rfl ?_
      refine y_iconst 45 c209_44 rfl ?_
      refine y_iadd 46 c209_45 rfl ?_
      refine y_iaT 47 ((-2147483648)) 2147483647 c209_46 rfl ka403 (by omega) hT rfl (fun v14098 hv14098 gv14098 => ?_)
      have gv14098_ : m 403 (1000 * 1 + 8 * k.toNat + 3) = v14098 := by rw [show 1000 * 1 + 8 * k.toNat + 3 = ((1000 + 8 * k) + 3).toNat by omega]; exact (rfl).symm.trans hv14098
      have tb14099 := hT.atp 376 18 0 1 rfl
      have hVg : VX 1 m := hV
      refine y_callP 50 [.ref 376, yI v14098] [yI v14037, .ref 376] c209_47 rfl rfl rfl rfl rfl (ycanO km205 ko376) (t205_1 hT hVg (by omega) (by omega)) (fun r14100 hr14100 => ?_)
      have hVc : VX 1 m := hV
      refine y_callUB 53 [.ref 376, yI v14037, yI r14100] [] c209_50 rfl rfl rfl rfl rfl (ycanO km202 ko376) (t202_1 hT hVc (by omega) (by omega) (by omega)) (fun mq14101 nq14101 hq14101 => ?_)
      obtain ⟨rfl, hTq14101, hFq14101, hVq14101⟩ := hq14101
      have hF14102 := hF.tr hFq14101 wGv_wPl
      refine y_goto 191 c209_53 rfl ?_
      have es14103 : mq14101 376 51 = m 376 51 := (hFq14101 376 51 rfl)
      exact y_retU c209_191 ⟨rfl, hTq14101, hF14102, hVq14101⟩
  · refine y_aload 23 c209_22 rfl rfl rfl ?_
    refine y_iload 24 c209_23 rfl rfl ?_
    refine y_iconst 25 c209_24 rfl ?_
    have tb14105 := hT.atp 376 18 0 1 rfl
    have hVc : VX 1 m := hV
    refine y_callUB 28 [.ref 376, yI v14037, yI 0] [] c209_25 rfl rfl rfl rfl rfl (ycanO km202 ko376) (t202_1 hT hVc (by omega) (by omega) (by omega)) (fun mq14104 nq14104 hq14104 => ?_)
    obtain ⟨rfl, hTq14104, hFq14104, hVq14104⟩ := hq14104
    have hF14106 := hF.tr hFq14104 wGv_wPl
    refine y_goto 191 c209_28 rfl ?_
    have es14107 : mq14104 376 51 = m 376 51 := (hFq14104 376 51 rfl)
    exact y_retU c209_191 ⟨rfl, hTq14104, hF14106, hVq14104⟩

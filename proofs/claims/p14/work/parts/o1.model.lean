/-! CONTRACTS: the model, steps. Printed by wip/whole/gen9h.py -/
set_option maxRecDepth 100000 in
theorem t208_0 {L : Nat} {xs : Nat → Int32} {d nn : Nat} {m : yM} {k : Int} (hT : Ty gT m) (hn : m 376 18 = 0) (hG : GQ 0 m) (hV : VX 0 m) (hf : 1 ≤ m 376 54) (hko : 0 ≤ k ∧ k < m 390 0) (h45 : m 403 (1000 * 0 + 8 * k.toNat) = 4 ∨ m 403 (1000 * 0 + 8 * k.toNat) = 5) : YC (gZ L xs) (d + 2) 208 [.ref 376, yI (0 + 8 * k)] m nn (qU (fun m' n' => n' = nn ∧ Ty gT m' ∧ Fr wPl m m' ∧ VX 0 m')) := by
  have tb383 := hT.atp 383 0 0 6 rfl
  have tb384 := hT.atp 384 0 0 10 rfl
  have tb388 := hT.atp 388 0 0 12 rfl
  have tb390 := hT.atp 390 0 0 125 rfl
  have tm51 := hT.atp 376 51 0 30 rfl
  have tm54 := hT.atp 376 54 0 4 rfl
  have tm55 := hT.atp 376 55 0 124 rfl
  have tm56 := hT.atp 376 56 0 201 rfl
  have tm57 := hT.atp 376 57 0 4 rfl
  have g90 : m 390 0 ≤ 100 := hG.2.2.2.2.2.2.2.2.2.2.1
  have hw := hG.1.1 k.toNat (by omega)
  unfold OW at hw
  have hfx := hG.2.2.2.2.2.2.1 k.toNat (by omega)
  have hns := hG.2.2.2.2.2.2.2.2.2.2.2 k.toNat (by omega)
  obtain ⟨f2, f3, f4⟩ : (0 ≤ m 403 (1000 * 0 + 8 * k.toNat + 2) ∧ m 403 (1000 * 0 + 8 * k.toNat + 2) ≤ 47) ∧ (0 ≤ m 403 (1000 * 0 + 8 * k.toNat + 3) ∧ m 403 (1000 * 0 + 8 * k.toNat + 3) ≤ 47) ∧ (-1 ≤ m 403 (1000 * 0 + 8 * k.toNat + 4) ∧ m 403 (1000 * 0 + 8 * k.toNat + 4) ≤ 7) := by omega
  clear hw hns hfx
  refine YC.mkB [some (.ref 376), some (yI (0 + 8 * k)), none, none, none] kn208 rfl rfl ?_
  have hF : Fr wPl m m := Fr.rf
  refine y_aload 1 c208_0 rfl rfl rfl ?_
  refine y_getR 4 c208_1 rfl kf376_40 ?_
  refine y_iload 5 c208_4 rfl rfl ?_
  refine y_iaT 6 ((-2147483648)) 2147483647 c208_5 rfl ka403 (by omega) hT rfl (fun v13487 hv13487 gv13487 => ?_)
  have gv13487_ : m 403 (1000 * 0 + 8 * k.toNat) = v13487 := by rw [show 1000 * 0 + 8 * k.toNat = (0 + 8 * k).toNat by omega]; exact (rfl).symm.trans hv13487
  refine y_iconst 7 c208_6 rfl ?_
  refine y_icmp 14 10 c208_7 rfl rfl (yc_ne (by omega) (by omega)) (fun hb13488 => ?_) (fun hb13488 => ?_)
  · refine y_iconst 15 c208_14 rfl ?_
    refine y_istore 16 c208_15 rfl rfl ?_
    refine y_aload 17 c208_16 rfl rfl rfl ?_
    refine y_iload 18 c208_17 rfl rfl ?_
    refine y_if 32 21 c208_18 rfl rfl (yz_eq (by omega)) (fun hb13489 => ?_) (fun hb13489 => ?_)
    · refine y_aload 33 c208_32 rfl rfl rfl ?_
      refine y_getR 36 c208_33 rfl kf376_40 ?_
      refine y_iload 37 c208_36 rfl rfl ?_
      refine y_iconst 38 c208_37 rfl ?_
      refine y_iadd 39 c208_38 rfl ?_
      refine y_iaT 40 ((-2147483648)) 2147483647 c208_39 rfl ka403 (by omega) hT rfl (fun v13490 hv13490 gv13490 => ?_)
      have gv13490_ : m 403 (1000 * 0 + 8 * k.toNat + 2) = v13490 := by rw [show 1000 * 0 + 8 * k.toNat + 2 = ((0 + 8 * k) + 2).toNat by omega]; exact (rfl).symm.trans hv13490
      have tb13491 := hT.atp 376 18 0 1 rfl
      have hVg : VX 0 m := hV
      refine y_callP 43 [.ref 376, yI v13490] [] c208_40 rfl rfl rfl rfl rfl (ycanO km205 ko376) (t205_0 hT hVg (by omega) (by omega)) (fun r13492 hr13492 => ?_)
      refine y_istore 44 c208_43 rfl rfl ?_
      refine y_aload 45 c208_44 rfl rfl rfl ?_
      refine y_iload 46 c208_45 rfl rfl ?_
      refine y_if 53 49 c208_46 rfl rfl (yz_le (by omega)) (fun hb13493 => ?_) (fun hb13493 => ?_)
      · refine y_iconst 54 c208_53 rfl ?_
        refine y_iconst 55 c208_54 rfl ?_
        refine y_inlB 58 [.ref 376, yI 0, yI 1] [] [some (.ref 376), some (yI 0), some (yI 1)] c208_55 rfl rfl rfl rfl rfl (ycanO km23 ko376) kn23 rfl rfl ?_
        refine y_aload 1 c23_0 rfl rfl rfl ?_
        refine y_iload 2 c23_1 rfl rfl ?_
        refine y_if 9 5 c23_2 rfl rfl (yz_eq (by omega)) (fun hb13494 => ?_) (fun hb13494 => ?_)
        · refine y_iload 10 c23_9 rfl rfl ?_
          refine y_putI 13 c23_10 rfl kf376_57 (y_fit0 _) ?_
          have hT13495 := hT.up 376 57 1 0 4 rfl (by omega)
          have hF13496 := hF.up 376 57 1 rfl
          refine y_iload 14 c23_13 rfl rfl ?_
          refine y_ireturnK c23_14 (y_fit1 (by omega)) ?_
          refine y_if 90 61 c208_58 rfl rfl (yz_eq (by omega)) (fun hb13497 => ?_) (fun hb13497 => ?_)
          · have es13498 : (yup m 376 57 1) 376 51 = m 376 51 := rfl
            exact y_retU c208_90 ⟨rfl, hT13495, hF13496, (VX.sc hV (by decide))⟩
          · exfalso; omega
        · exfalso; omega
      · refine y_iconst 50 c208_49 rfl ?_
        refine y_goto 54 c208_50 rfl ?_
        refine y_iconst 55 c208_54 rfl ?_
        refine y_inlB 58 [.ref 376, yI 1, yI 1] [] [some (.ref 376), some (yI 1), some (yI 1)] c208_55 rfl rfl rfl rfl rfl (ycanO km23 ko376) kn23 rfl rfl ?_
        refine y_aload 1 c23_0 rfl rfl rfl ?_
        refine y_iload 2 c23_1 rfl rfl ?_
        refine y_if 9 5 c23_2 rfl rfl (yz_eq (by omega)) (fun hb13499 => ?_) (fun hb13499 => ?_)
        · exfalso; omega
        · refine y_iconst 6 c23_5 rfl ?_
          refine y_goto 10 c23_6 rfl ?_
          refine y_putI 13 c23_10 rfl kf376_57 (y_fit0 _) ?_
          have hT13500 := hT.up 376 57 0 0 4 rfl (by omega)
          have hF13501 := hF.up 376 57 0 rfl
          refine y_iload 14 c23_13 rfl rfl ?_
          refine y_ireturnK c23_14 (y_fit1 (by omega)) ?_
          refine y_if 90 61 c208_58 rfl rfl (yz_eq (by omega)) (fun hb13502 => ?_) (fun hb13502 => ?_)
          · exfalso; omega
          · refine y_aload 62 c208_61 rfl rfl rfl ?_
            refine y_aload 63 c208_62 rfl rfl rfl ?_
            refine y_aload 64 c208_63 rfl rfl rfl ?_
            refine y_getX 67 (m 376 18) c208_64 rfl kf376_18 rfl ?_
            refine y_top 0 (by omega) ?_
            refine y_aload 68 c208_67 rfl rfl rfl ?_
            refine y_iload 69 c208_68 rfl rfl ?_
            have es13503 : (yup m 376 57 0) 376 51 = m 376 51 := rfl
            have es13504 : (yup m 376 57 0) 376 54 = m 376 54 := rfl
            have es13505 : (yup m 376 57 0) 376 18 = m 376 18 := rfl
            have es13506 : (yup m 376 57 0) 383 0 = m 383 0 := rfl
            have hVg : VX 0 (yup m 376 57 0) := (VX.sc hV (by decide))
            refine y_callP 72 [.ref 376, yI r13492] [yI 0, .ref 376, .ref 376] c208_69 rfl rfl rfl rfl rfl (ycanO km206 ko376) (t206_0 hT13500 (by omega) (hG.fr hT (by decide) (fun a q ha => hF13501 a q (wPl_G2 a q ha))) hVg (by omega)) (fun r13507 hr13507 => ?_)
            refine y_aload 73 c208_72 rfl rfl rfl ?_
            refine y_getR 76 c208_73 rfl kf376_40 ?_
            refine y_iload 77 c208_76 rfl rfl ?_
            refine y_iconst 78 c208_77 rfl ?_
            refine y_iadd 79 c208_78 rfl ?_
            refine y_iaT 80 ((-2147483648)) 2147483647 c208_79 rfl ka403 (by omega) hT13500 rfl (fun v13508 hv13508 gv13508 => ?_)
            have gv13508_ : m 403 (1000 * 0 + 8 * k.toNat + 4) = v13508 := by rw [show 1000 * 0 + 8 * k.toNat + 4 = ((0 + 8 * k) + 4).toNat by omega]; exact ((yup_na (by decide))).symm.trans hv13508
            have es13509 : (yup m 376 57 0) 383 0 = m 383 0 := rfl
            refine y_callP 83 [.ref 376, yI 0, yI r13507, yI v13508] [.ref 376] c208_80 rfl rfl rfl rfl rfl (ycanO km121 ko376) (t121x_0 hT13500 (by rw [show (yup m 376 57 0) 383 0 = m 383 0 from rfl]; exact hG.2.2.2.2.1.fr (fun q => (yup_na (by decide)))) (by omega) (by omega)) (fun r13510 hr13510 => ?_)
            refine y_iconst 84 c208_83 rfl ?_
            refine y_inlB 87 [.ref 376, yI r13510, yI 3] [] [some (.ref 376), some (yI r13510), some (yI 3)] c208_84 rfl rfl rfl rfl rfl (ycanO km23 ko376) kn23 rfl rfl ?_
            refine y_aload 1 c23_0 rfl rfl rfl ?_
            refine y_iload 2 c23_1 rfl rfl ?_
            refine y_if 9 5 c23_2 rfl rfl (yz_eq (by omega)) (fun hb13511 => ?_) (fun hb13511 => ?_)
            · refine y_iload 10 c23_9 rfl rfl ?_
              refine y_putI 13 c23_10 rfl kf376_57 (y_fit0 _) ?_
              have hT13512 := hT13500.up 376 57 3 0 4 rfl (by omega)
              have hF13513 := hF13501.up 376 57 3 rfl
              refine y_iload 14 c23_13 rfl rfl ?_
              refine y_ireturnK c23_14 (y_fit1 (by omega)) ?_
              refine y_if 91 90 c208_87 rfl rfl (yz_ne (by omega)) (fun hb13514 => ?_) (fun hb13514 => ?_)
              · exfalso; omega
              · have es13515 : (yup (yup m 376 57 0) 376 57 3) 376 51 = m 376 51 := rfl
                exact y_retU c208_90 ⟨rfl, hT13512, hF13513, (VX.sc (VX.sc hV (by decide)) (by decide))⟩
            · refine y_iconst 6 c23_5 rfl ?_
              refine y_goto 10 c23_6 rfl ?_
              refine y_putI 13 c23_10 rfl kf376_57 (y_fit0 _) ?_
              have hT13516 := hT13500.up 376 57 0 0 4 rfl (by omega)
              have hF13517 := hF13501.up 376 57 0 rfl
              refine y_iload 14 c23_13 rfl rfl ?_
              refine y_ireturnK c23_14 (y_fit1 (by omega)) ?_
              refine y_if 91 90 c208_87 rfl rfl (yz_ne (by omega)) (fun hb13518 => ?_) (fun hb13518 => ?_)
              · refine y_iconst 93 c208_91 rfl ?_
                refine y_iload 94 c208_93 rfl rfl ?_
                refine y_iconst 95 c208_94 rfl ?_
                refine y_isub 96 c208_95 rfl ?_
                refine y_imul 97 c208_96 rfl ?_
                refine y_aload 98 c208_97 rfl rfl rfl ?_
                refine y_getR 101 c208_98 rfl kf376_40 ?_
                refine y_iload 102 c208_101 rfl rfl ?_
                refine y_iconst 103 c208_102 rfl ?_
                refine y_iadd 104 c208_103 rfl ?_
                refine y_iaT 105 ((-2147483648)) 2147483647 c208_104 rfl ka403 (by omega) hT13516 rfl (fun v13519 hv13519 gv13519 => ?_)
                have gv13519_ : m 403 (1000 * 0 + 8 * k.toNat + 4) = v13519 := by rw [show 1000 * 0 + 8 * k.toNat + 4 = ((0 + 8 * k) + 4).toNat by omega]; exact (((yup_na (by decide)).trans (yup_na (by decide)))).symm.trans hv13519
                refine y_iadd 106 c208_105 rfl ?_
                refine y_istore 108 c208_106 rfl rfl ?_
                refine y_iload 109 c208_108 rfl rfl ?_
                refine y_if 134 112 c208_109 rfl rfl (yz_eq (by omega)) (fun hb13520 => ?_) (fun hb13520 => ?_)
                · refine y_aload 135 c208_134 rfl rfl rfl ?_
                  refine y_getR 138 c208_135 rfl kf376_50 ?_
                  refine y_iload 140 c208_138 rfl rfl ?_
                  refine y_aload 141 c208_140 rfl rfl rfl ?_
                  refine y_aload 142 c208_141 rfl rfl rfl ?_
                  refine y_getR 145 c208_142 rfl kf376_40 ?_
                  refine y_iload 146 c208_145 rfl rfl ?_
                  refine y_iconst 147 c208_146 rfl ?_
                  refine y_iadd 148 c208_147 rfl ?_
                  refine y_iaT 149 ((-2147483648)) 2147483647 c208_148 rfl ka403 (by omega) hT13516 rfl (fun v13521 hv13521 gv13521 => ?_)
                  have gv13521_ : m 403 (1000 * 0 + 8 * k.toNat + 3) = v13521 := by rw [show 1000 * 0 + 8 * k.toNat + 3 = ((0 + 8 * k) + 3).toNat by omega]; exact (((yup_na (by decide)).trans (yup_na (by decide)))).symm.trans hv13521
                  have es13522 : (yup (yup m 376 57 0) 376 57 0) 376 51 = m 376 51 := rfl
                  have es13523 : (yup (yup m 376 57 0) 376 57 0) 376 54 = m 376 54 := rfl
                  have es13524 : (yup (yup m 376 57 0) 376 57 0) 376 18 = m 376 18 := rfl
                  have hVg : VX 0 (yup (yup m 376 57 0) 376 57 0) := (VX.sc (VX.sc hV (by decide)) (by decide))
                  refine y_callP 152 [.ref 376, yI v13521] [yI ((8 * (r13492 - 1)) + v13519), .ref 410] c208_149 rfl rfl rfl rfl rfl (ycanO km205 ko376) (t205_0 hT13516 hVg (by omega) (by omega)) (fun r13525 hr13525 => ?_)
                  refine y_iastore 153 c208_152 rfl ka410 (by omega) (y_nar0 _) ?_
                  have hT13526 := hT13516.up 410 (((8 * (r13492 - 1)) + v13519).toNat) r13525 0 30 rfl (by omega)
                  have hF13527 := hF13517.up 410 (((8 * (r13492 - 1)) + v13519).toNat) r13525 rfl
                  have es13528 : (yup (yup (yup m 376 57 0) 376 57 0) 410 (((8 * (r13492 - 1)) + v13519).toNat) r13525) 376 51 = m 376 51 := rfl
                  exact y_retU c208_153 ⟨rfl, hT13526, hF13527, (VX.up0e (w := m 376 51) (VX.sc (VX.sc hV (by decide)) (by decide)) (rfl) (by omega))⟩
                · exfalso; omega
              · exfalso; omega
    · exfalso; omega
  · refine y_iconst 11 c208_10 rfl ?_
    refine y_goto 15 c208_11 rfl ?_
    refine y_istore 16 c208_15 rfl rfl ?_
    refine y_aload 17 c208_16 rfl rfl rfl ?_
    refine y_iload 18 c208_17 rfl rfl ?_
    refine y_if 32 21 c208_18 rfl rfl (yz_eq (by omega)) (fun hb13529 => ?_) (fun hb13529 => ?_)
    · exfalso; omega
    · refine y_aload 22 c208_21 rfl rfl rfl ?_
      refine y_getR 25 c208_22 rfl kf376_40 ?_
      refine y_iload 26 c208_25 rfl rfl ?_
      refine y_iconst 27 c208_26 rfl ?_
      refine y_iadd 28 c208_27 rfl ?_
      refine y_iaT 29 ((-2147483648)) 2147483647 c208_28 rfl ka403 (by omega) hT rfl (fun v13530 hv13530 gv13530 => ?_)
      have gv13530_ : m 403 (1000 * 0 + 8 * k.toNat + 3) = v13530 := by rw [show 1000 * 0 + 8 * k.toNat + 3 = ((0 + 8 * k) + 3).toNat by omega]; exact (rfl).symm.trans hv13530
      refine y_goto 40 c208_29 rfl ?_
      have tb13531 := hT.atp 376 18 0 1 rfl
      have hVg : VX 0 m := hV
      refine y_callP 43 [.ref 376, yI v13530] [] c208_40 rfl rfl rfl rfl rfl (ycanO km205 ko376) (t205_0 hT hVg (by omega) (by omega)) (fun r13532 hr13532 => ?_)
      refine y_istore 44 c208_43 rfl rfl ?_
      refine y_aload 45 c208_44 rfl rfl rfl ?_
      refine y_iload 46 c208_45 rfl rfl ?_
      refine y_if 53 49 c208_46 rfl rfl (yz_le (by omega)) (fun hb13533 => ?_) (fun hb13533 => ?_)
      · refine y_iconst 54 c208_53 rfl ?_
        refine y_iconst 55 c208_54 rfl ?_
        refine y_inlB 58 [.ref 376, yI 0, yI 1] [] [some (.ref 376), some (yI 0), some (yI 1)] c208_55 rfl rfl rfl rfl rfl (ycanO km23 ko376) kn23 rfl rfl ?_
        refine y_aload 1 c23_0 rfl rfl rfl ?_
        refine y_iload 2 c23_1 rfl rfl ?_
        refine y_if 9 5 c23_2 rfl rfl (yz_eq (by omega)) (fun hb13534 => ?_) (fun hb13534 => ?_)
        · refine y_iload 10 c23_9 rfl rfl ?_
          refine y_putI 13 c23_10 rfl kf376_57 (y_fit0 _) ?_
          have hT13535 := hT.up 376 57 1 0 4 rfl (by omega)
          have hF13536 := hF.up 376 57 1 rfl
          refine y_iload 14 c23_13 rfl rfl ?_
          refine y_ireturnK c23_14 (y_fit1 (by omega)) ?_
          refine y_if 90 61 c208_58 rfl rfl (yz_eq (by omega)) (fun hb13537 => ?_) (fun hb13537 => ?_)
          · have es13538 : (yup m 376 57 1) 376 51 = m 376 51 := rfl
            exact y_retU c208_90 ⟨rfl, hT13535, hF13536, (VX.sc hV (by decide))⟩
          · exfalso; omega
        · exfalso; omega
      · refine y_iconst 50 c208_49 rfl ?_
        refine y_goto 54 c208_50 rfl ?_
        refine y_iconst 55 c208_54 rfl ?_
        refine y_inlB 58 [.ref 376, yI 1, yI 1] [] [some (.ref 376), some (yI 1), some (yI 1)] c208_55 rfl rfl rfl rfl rfl (ycanO km23 ko376) kn23 rfl rfl ?_
        refine y_aload 1 c23_0 rfl rfl rfl ?_
        refine y_iload 2 c23_1 rfl rfl ?_
        refine y_if 9 5 c23_2 rfl rfl (yz_eq (by omega)) (fun hb13539 => ?_) (fun hb13539 => ?_)
        · exfalso; omega
        · refine y_iconst 6 c23_5 rfl ?_
          refine y_goto 10 c23_6 rfl ?_
          refine y_putI 13 c23_10 rfl kf376_57 (y_fit0 _) ?_
          have hT13540 := hT.up 376 57 0 0 4 rfl (by omega)
          have hF13541 := hF.up 376 57 0 rfl
          refine y_iload 14 c23_13 rfl rfl ?_
          refine y_ireturnK c23_14 (y_fit1 (by omega)) ?_
          refine y_if 90 61 c208_58 rfl rfl (yz_eq (by omega)) (fun hb13542 => ?_) (fun hb13542 => ?_)
          · exfalso; omega
          · refine y_aload 62 c208_61 rfl rfl rfl ?_
            refine y_aload 63 c208_62 rfl rfl rfl ?_
            refine y_aload 64 c208_63 rfl rfl rfl ?_
            refine y_getX 67 (m 376 18) c208_64 rfl kf376_18 rfl ?_
            refine y_top 0 (by omega) ?_
            refine y_aload 68 c208_67 rfl rfl rfl ?_
            refine y_iload 69 c208_68 rfl rfl ?_
            have es13543 : (yup m 376 57 0) 376 51 = m 376 51 := rfl
            have es13544 : (yup m 376 57 0) 376 54 = m 376 54 := rfl
            have es13545 : (yup m 376 57 0) 376 18 = m 376 18 := rfl
            have es13546 : (yup m 376 57 0) 383 0 = m 383 0 := rfl
            have hVg : VX 0 (yup m 376 57 0) := (VX.sc hV (by decide))
            refine y_callP 72 [.ref 376, yI r13532] [yI 0, .ref 376, .ref 376] c208_69 rfl rfl rfl rfl rfl (ycanO km206 ko376) (t206_0 hT13540 (by omega) (hG.fr hT (by decide) (fun a q ha => hF13541 a q (wPl_G2 a q ha))) hVg (by omega)) (fun r13547 hr13547 => ?_)
            refine y_aload 73 c208_72 rfl rfl rfl ?_
            refine y_getR 76 c208_73 rfl kf376_40 ?_
            refine y_iload 77 c208_76 rfl rfl ?_
            refine y_iconst 78 c208_77 rfl ?_
            refine y_iadd 79 c208_78 rfl ?_
            refine y_iaT 80 ((-2147483648)) 2147483647 c208_79 rfl ka403 (by omega) hT13540 rfl (fun v13548 hv13548 gv13548 => ?_)
            have gv13548_ : m 403 (1000 * 0 + 8 * k.toNat + 4) = v13548 := by rw [show 1000 * 0 + 8 * k.toNat + 4 = ((0 + 8 * k) + 4).toNat by omega]; exact ((yup_na (by decide))).symm.trans hv13548
            have es13549 : (yup m 376 57 0) 383 0 = m 383 0 := rfl
            refine y_callP 83 [.ref 376, yI 0, yI r13547, yI v13548] [.ref 376] c208_80 rfl rfl rfl rfl rfl (ycanO km121 ko376) (t121x_0 hT13540 (by rw [show (yup m 376 57 0) 383 0 = m 383 0 from rfl]; exact hG.2.2.2.2.1.fr (fun q => (yup_na (by decide)))) (by omega) (by omega)) (fun r13550 hr13550 => ?_)
            refine y_iconst 84 c208_83 rfl ?_
            refine y_inlB 87 [.ref 376, yI r13550, yI 3] [] [some (.ref 376), some (yI r13550), some (yI 3)] c208_84 rfl rfl rfl rfl rfl (ycanO km23 ko376) kn23 rfl rfl ?_
            refine y_aload 1 c23_0 rfl rfl rfl ?_
            refine y_iload 2 c23_1 rfl rfl ?_
            refine y_if 9 5 c23_2 rfl rfl (yz_eq (by omega)) (fun hb13551 => ?_) (fun hb13551 => ?_)
            · refine y_iload 10 c23_9 rfl rfl ?_
              refine y_putI 13 c23_10 rfl kf376_57 (y_fit0 _) ?_
              have hT13552 := hT13540.up 376 57 3 0 4 rfl (by omega)
              have hF13553 := hF13541.up 376 57 3 rfl
              refine y_iload 14 c23_13 rfl rfl ?_
              refine y_ireturnK c23_14 (y_fit1 (by omega)) ?_
              refine y_if 91 90 c208_87 rfl rfl (yz_ne (by omega)) (fun hb13554 => ?_) (fun hb13554 => ?_)
              · exfalso; omega
              · have es13555 : (yup (yup m 376 57 0) 376 57 3) 376 51 = m 376 51 := rfl
                exact y_retU c208_90 ⟨rfl, hT13552, hF13553, (VX.sc (VX.sc hV (by decide)) (by decide))⟩
            · refine y_iconst 6 c23_5 rfl ?_
              refine y_goto 10 c23_6 rfl ?_
              refine y_putI 13 c23_10 rfl kf376_57 (y_fit0 _) ?_
              have hT13556 := hT13540.up 376 57 0 0 4 rfl (by omega)
              have hF13557 := hF13541.up 376 57 0 rfl
              refine y_iload 14 c23_13 rfl rfl ?_
              refine y_ireturnK c23_14 (y_fit1 (by omega)) ?_
              refine y_if 91 90 c208_87 rfl rfl (yz_ne (by omega)) (fun hb13558 => ?_) (fun hb13558 => ?_)
              · refine y_iconst 93 c208_91 rfl ?_
                refine y_iload 94 c208_93 rfl rfl ?_
                refine y_iconst 95 c208_94 rfl ?_
                refine y_isub 96 c208_95 rfl ?_
                refine y_imul 97 c208_96 rfl ?_
                refine y_aload 98 c208_97 rfl rfl rfl ?_
                refine y_getR 101 c208_98 rfl kf376_40 ?_
                refine y_iload 102 c208_101 rfl rfl ?_
                refine y_iconst 103 c208_102 rfl ?_
                refine y_iadd 104 c208_103 rfl ?_
                refine y_iaT 105 ((-2147483648)) 2147483647 c208_104 rfl ka403 (by omega) hT13556 rfl (fun v13559 hv13559 gv13559 => ?_)
                have gv13559_ : m 403 (1000 * 0 + 8 * k.toNat + 4) = v13559 := by rw [show 1000 * 0 + 8 * k.toNat + 4 = ((0 + 8 * k) + 4).toNat by omega]; exact (((yup_na (by decide)).trans (yup_na (by decide)))).symm.trans hv13559
                refine y_iadd 106 c208_105 rfl ?_
                refine y_istore 108 c208_106 rfl rfl ?_
                refine y_iload 109 c208_108 rfl rfl ?_
                refine y_if 134 112 c208_109 rfl rfl (yz_eq (by omega)) (fun hb13560 => ?_) (fun hb13560 => ?_)
                · exfalso; omega
                · refine y_aload 113 c208_112 rfl rfl rfl ?_
                  refine y_aload 114 c208_113 rfl rfl rfl ?_
                  refine y_getR 117 c208_114 rfl kf376_40 ?_
                  refine y_iload 118 c208_117 rfl rfl ?_
                  refine y_iconst 119 c208_118 rfl ?_
                  refine y_iadd 120 c208_119 rfl ?_
                  refine y_iaT 121 ((-2147483648)) 2147483647 c208_120 rfl ka403 (by omega) hT13556 rfl (fun v13561 hv13561 gv13561 => ?_)
                  have gv13561_ : m 403 (1000 * 0 + 8 * k.toNat + 2) = v13561 := by rw [show 1000 * 0 + 8 * k.toNat + 2 = ((0 + 8 * k) + 2).toNat by omega]; exact (((yup_na (by decide)).trans (yup_na (by decide)))).symm.trans hv13561
                  refine y_aload 122 c208_121 rfl rfl rfl ?_
                  refine y_getR 125 c208_122 rfl kf376_50 ?_
                  refine y_iload 127 c208_125 rfl rfl ?_
                  refine y_iaT 128 0 30 c208_127 rfl ka410 (by omega) hT13556 rfl (fun v13562 hv13562 gv13562 => ?_)
                  have gv13562_ : v13562 ≤ m 376 51 := by have h0 := hV.2.1 ((8 * (r13532 - 1)) + v13559).toNat (by omega); rw [← show (yup (yup m 376 57 0) 376 57 0) 410 ((8 * (r13532 - 1)) + v13559).toNat = m 410 ((8 * (r13532 - 1)) + v13559).toNat from ((yup_na (by decide)).trans (yup_na (by decide))), hv13562] at h0; exact h0
                  have es13564 : (yup (yup m 376 57 0) 376 57 0) 376 51 = m 376 51 := rfl
                  have es13565 : (yup (yup m 376 57 0) 376 57 0) 376 54 = m 376 54 := rfl
                  have es13566 : (yup (yup m 376 57 0) 376 57 0) 376 18 = m 376 18 := rfl
                  have hVc : VX 0 (yup (yup m 376 57 0) 376 57 0) := (VX.sc (VX.sc hV (by decide)) (by decide))
                  refine y_callUB 131 [.ref 376, yI v13561, yI v13562] [] c208_128 rfl rfl rfl rfl rfl (ycanO km202 ko376) (t202_0 hT13556 hVc (by omega) (by omega) (by omega)) (fun mq13563 nq13563 hq13563 => ?_)
                  obtain ⟨rfl, hTq13563, hFq13563, hVq13563⟩ := hq13563
                  have hF13567 := hF13557.tr hFq13563 wGv_wPl
                  refine y_goto 153 c208_131 rfl ?_
                  have es13568 : mq13563 376 51 = m 376 51 := ((hFq13563 376 51 rfl).trans ((yup_nk (by decide)).trans (yup_nk (by decide))))
                  exact y_retU c208_153 ⟨rfl, hTq13563, hF13567, hVq13563⟩
              · exfalso; omega
set_option maxRecDepth 100000 in
theorem t208_1 {L : Nat} {xs : Nat → Int32} {d nn : Nat} {m : yM} {k : Int} (hT : Ty gT m) (hn : m 376 18 = 1) (hG : GQ 1 m) (hV : VX 1 m) (hf : 1 ≤ m 376 54) (hko : 0 ≤ k ∧ k < m 390 1) (h45 : m 403 (1000 * 1 + 8 * k.toNat) = 4 ∨ m 403 (1000 * 1 + 8 * k.toNat) = 5) : YC (gZ L xs) (d + 2) 208 [.ref 376, yI (1000 + 8 * k)] m nn (qU (fun m' n' => n' = nn ∧ Ty gT m' ∧ Fr wPl m m' ∧ VX 1 m')) := by
  have tb383 := hT.atp 383 1 0 6 rfl
  have tb384 := hT.atp 384 1 0 10 rfl
  have tb388 := hT.atp 388 1 0 12 rfl
  have tb390 := hT.atp 390 1 0 125 rfl
  have tm51 := hT.atp 376 51 0 30 rfl
  have tm54 := hT.atp 376 54 0 4 rfl
  have tm55 := hT.atp 376 55 0 124 rfl
  have tm56 := hT.atp 376 56 0 201 rfl
  have tm57 := hT.atp 376 57 0 4 rfl
  have g90 : m 390 1 ≤ 100 := hG.2.2.2.2.2.2.2.2.2.2.1
  have hw := hG.1.1 k.toNat (by omega)
  unfold OW at hw
  have hfx := hG.2.2.2.2.2.2.1 k.toNat (by omega)
  have hns := hG.2.2.2.2.2.2.2.2.2.2.2 k.toNat (by omega)
  obtain ⟨f2, f3, f4⟩ : (0 ≤ m 403 (1000 * 1 + 8 * k.toNat + 2) ∧ m 403 (1000 * 1 + 8 * k.toNat + 2) ≤ 47) ∧ (0 ≤ m 403 (1000 * 1 + 8 * k.toNat + 3) ∧ m 403 (1000 * 1 + 8 * k.toNat + 3) ≤ 47) ∧ (-1 ≤ m 403 (1000 * 1 + 8 * k.toNat + 4) ∧ m 403 (1000 * 1 + 8 * k.toNat + 4) ≤ 7) := by omega
  clear hw hns hfx
  refine YC.mkB [some (.ref 376), some (yI (1000 + 8 * k)), none, none, none] kn208 rfl rfl ?_
  have hF : Fr wPl m m := Fr.rf
  refine y_aload 1 c208_0 rfl rfl rfl ?_
  refine y_getR 4 c208_1 rfl kf376_40 ?_
  refine y_iload 5 c208_4 rfl rfl ?_
  refine y_iaT 6 ((-2147483648)) 2147483647 c208_5 rfl ka403 (by omega) hT rfl (fun v13954 hv13954 gv13954 => ?_)
  have gv13954_ : m 403 (1000 * 1 + 8 * k.toNat) = v13954 := by rw [show 1000 * 1 + 8 * k.toNat = (1000 + 8 * k).toNat by omega]; exact (rfl).symm.trans hv13954
  refine y_iconst 7 c208_6 rfl ?_
  refine y_icmp 14 10 c208_7 rfl rfl (yc_ne (by omega) (by omega)) (fun hb13955 => ?_) (fun hb13955 => ?_)
  · refine y_iconst 15 c208_14 rfl ?_
    refine y_istore 16 c208_15 rfl rfl ?_
    refine y_aload 17 c208_16 rfl rfl rfl ?_
    refine y_iload 18 c208_17 rfl rfl ?_
    refine y_if 32 21 c208_18 rfl rfl (yz_eq (by omega)) (fun hb13956 => ?_) (fun hb13956 => ?_)
    · refine y_aload 33 c208_32 rfl rfl rfl ?_
      refine y_getR 36 c208_33 rfl kf376_40 ?_
      refine y_iload 37 c208_36 rfl rfl ?_
      refine y_iconst 38 c208_37 rfl ?_
      refine y_iadd 39 c208_38 rfl ?_
      refine y_iaT 40 ((-2147483648)) 2147483647 c208_39 rfl ka403 (by omega) hT rfl (fun v13957 hv13957 gv13957 => ?_)
      have gv13957_ : m 403 (1000 * 1 + 8 * k.toNat + 2) = v13957 := by rw [show 1000 * 1 + 8 * k.toNat + 2 = ((1000 + 8 * k) + 2).toNat by omega]; exact (rfl).symm.trans hv13957
      have tb13958 := hT.atp 376 18 0 1 rfl
      have hVg : VX 1 m := hV
      refine y_callP 43 [.ref 376, yI v13957] [] c208_40 rfl rfl rfl rfl rfl (ycanO km205 ko376) (t205_1 hT hVg (by omega) (by omega)) (fun r13959 hr13959 => ?_)
      refine y_istore 44 c208_43 rfl rfl ?_
      refine y_aload 45 c208_44 rfl rfl rfl ?_
      refine y_iload 46 c208_45 rfl rfl ?_
      refine y_if 53 49 c208_46 rfl rfl (yz_le (by omega)) (fun hb13960 => ?_) (fun hb13960 => ?_)
      · refine y_iconst 54 c208_53 rfl ?_
        refine y_iconst 55 c208_54 rfl ?_
        refine y_inlB 58 [.ref 376, yI 0, yI 1] [] [some (.ref 376), some (yI 0), some (yI 1)] c208_55 rfl rfl rfl rfl rfl (ycanO km23 ko376) kn23 rfl rfl ?_
        refine y_aload 1 c23_0 rfl rfl rfl ?_
        refine y_iload 2 c23_1 rfl rfl ?_
        refine y_if 9 5 c23_2 rfl rfl (yz_eq (by omega)) (fun hb13961 => ?_) (fun hb13961 => ?_)
        · refine y_iload 10 c23_9 rfl rfl ?_
          refine y_putI 13 c23_10 rfl kf376_57 (y_fit0 _) ?_
          have hT13962 := hT.up 376 57 1 0 4 rfl (by omega)
          have hF13963 := hF.up 376 57 1 rfl
          refine y_iload 14 c23_13 rfl rfl ?_
          refine y_ireturnK c23_14 (y_fit1 (by omega)) ?_
          refine y_if 90 61 c208_58 rfl rfl (yz_eq (by omega)) (fun hb13964 => ?_) (fun hb13964 => ?_)
          · have es13965 : (yup m 376 57 1) 376 51 = m 376 51 := rfl
            exact y_retU c208_90 ⟨rfl, hT13962, hF13963, (VX.sc hV (by decide))⟩
          · exfalso; omega
        · exfalso; omega
      · refine y_iconst 50 c208_49 rfl ?_
        refine y_goto 54 c208_50 rfl ?_
        refine y_iconst 55 c208_54 rfl ?_
        refine y_inlB 58 [.ref 376, yI 1, yI 1] [] [some (.ref 376), some (yI 1), some (yI 1)] c208_55 rfl rfl rfl rfl rfl (ycanO km23 ko376) kn23 rfl rfl ?_
        refine y_aload 1 c23_0 rfl rfl rfl ?_
        refine y_iload 2 c23_1 rfl rfl ?_
        refine y_if 9 5 c23_2 rfl rfl (yz_eq (by omega)) (fun hb13966 => ?_) (fun hb13966 => ?_)
        · exfalso; omega
        · refine y_iconst 6 c23_5 rfl ?_
          refine y_goto 10 c23_6 rfl ?_
          refine y_putI 13 c23_10 rfl kf376_57 (y_fit0 _) ?_
          have hT13967 := hT.up 376 57 0 0 4 rfl (by omega)
          have hF13968 := hF.up 376 57 0 rfl
          refine y_iload 14 c23_13 rfl rfl ?_
          refine y_ireturnK c23_14 (y_fit1 (by omega)) ?_
          refine y_if 90 61 c208_58 rfl rfl (yz_eq (by omega)) (fun hb13969 => ?_) (fun hb13969 => ?_)
          · exfalso; omega
          · refine y_aload 62 c208_61 rfl rfl rfl ?_
            refine y_aload 63 c208_62 rfl rfl rfl ?_
            refine y_aload 64 c208_63 rfl rfl rfl ?_
            refine y_getX 67 (m 376 18) c208_64 rfl kf376_18 rfl ?_
            refine y_top 1 (by omega) ?_
            refine y_aload 68 c208_67 rfl rfl rfl ?_
            refine y_iload 69 c208_68 rfl rfl ?_
            have es13970 : (yup m 376 57 0) 376 51 = m 376 51 := rfl
            have es13971 : (yup m 376 57 0) 376 54 = m 376 54 := rfl
            have es13972 : (yup m 376 57 0) 376 18 = m 376 18 := rfl
            have es13973 : (yup m 376 57 0) 383 1 = m 383 1 := rfl
            have hVg : VX 1 (yup m 376 57 0) := (VX.sc hV (by decide))
            refine y_callP 72 [.ref 376, yI r13959] [yI 1, .ref 376, .ref 376] c208_69 rfl rfl rfl rfl rfl (ycanO km206 ko376) (t206_1 hT13967 (by omega) (hG.fr hT (by decide) (fun a q ha => hF13968 a q (wPl_G2 a q ha))) hVg (by omega)) (fun r13974 hr13974 => ?_)
            refine y_aload 73 c208_72 rfl rfl rfl ?_
            refine y_getR 76 c208_73 rfl kf376_40 ?_
            refine y_iload 77 c208_76 rfl rfl ?_
            refine y_iconst 78 c208_77 rfl ?_
            refine y_iadd 79 c208_78 rfl ?_
            refine y_iaT 80 ((-2147483648)) 2147483647 c208_79 rfl ka403 (by omega) hT13967 rfl (fun v13975 hv13975 gv13975 => ?_)
            have gv13975_ : m 403 (1000 * 1 + 8 * k.toNat + 4) = v13975 := by rw [show 1000 * 1 + 8 * k.toNat + 4 = ((1000 + 8 * k) + 4).toNat by omega]; exact ((yup_na (by decide))).symm.trans hv13975
            have es13976 : (yup m 376 57 0) 383 1 = m 383 1 := rfl
            refine y_callP 83 [.ref 376, yI 1, yI r13974, yI v13975] [.ref 376] c208_80 rfl rfl rfl rfl rfl (ycanO km121 ko376) (t121x_1 hT13967 (by rw [show (yup m 376 57 0) 383 1 = m 383 1 from rfl]; exact hG.2.2.2.2.1.fr (fun q => (yup_na (by decide)))) (by omega) (by omega)) (fun r13977 hr13977 => ?_)
            refine y_iconst 84 c208_83 rfl ?_
            refine y_inlB 87 [.ref 376, yI r13977, yI 3] [] [some (.ref 376), some (yI r13977), some (yI 3)] c208_84 rfl rfl rfl rfl rfl (ycanO km23 ko376) kn23 rfl rfl ?_
            refine y_aload 1 c23_0 rfl rfl rfl ?_
            refine y_iload 2 c23_1 rfl rfl ?_
            refine y_if 9 5 c23_2 rfl rfl (yz_eq (by omega)) (fun hb13978 => ?_) (fun hb13978 => ?_)
            · refine y_iload 10 c23_9 rfl rfl ?_
              refine y_putI 13 c23_10 rfl kf376_57 (y_fit0 _) ?_
              have hT13979 := hT13967.up 376 57 3 0 4 rfl (by omega)
              have hF13980 := hF13968.up 376 57 3 rfl
              refine y_iload 14 c23_13 rfl rfl ?_
              refine y_ireturnK c23_14 (y_fit1 (by omega)) ?_
              refine y_if 91 90 c208_87 rfl rfl (yz_ne (by omega)) (fun hb13981 => ?_) (fun hb13981 => ?_)
              · exfalso; omega
              · have es13982 : (yup (yup m 376 57 0) 376 57 3) 376 51 = m 376 51 := rfl
                exact y_retU c208_90 ⟨rfl, hT13979, hF13980, (VX.sc (VX.sc hV (by decide)) (by decide))⟩
            · refine y_iconst 6 c23_5 rfl ?_
              refine y_goto 10 c23_6 rfl ?_
              refine y_putI 13 c23_10 rfl kf376_57 (y_fit0 _) ?_
              have hT13983 := hT13967.up 376 57 0 0 4 rfl (by omega)
              have hF13984 := hF13968.up 376 57 0 rfl
              refine y_iload 14 c23_13 rfl rfl ?_
              refine y_ireturnK c23_14 (y_fit1 (by omega)) ?_
              refine y_if 91 90 c208_87 rfl rfl (yz_ne (by omega)) (fun hb13985 => ?_) (fun hb13985 => ?_)
              · refine y_iconst 93 c208_91 rfl ?_
                refine y_iload 94 c208_93 rfl rfl ?_
                refine y_iconst 95 c208_94 rfl ?_
                refine y_isub 96 c208_95 rfl ?_
                refine y_imul 97 c208_96 rfl ?_
                refine y_aload 98 c208_97 rfl rfl rfl ?_
                refine y_getR 101 c208_98 rfl kf376_40 ?_
                refine y_iload 102 c208_101 rfl rfl ?_
                refine y_iconst 103 c208_102 rfl ?_
                refine y_iadd 104 c208_103 rfl ?_
                refine y_iaT 105 ((-2147483648)) 2147483647 c208_104 rfl ka403 (by omega) hT13983 rfl (fun v13986 hv13986 gv13986 => ?_)
                have gv13986_ : m 403 (1000 * 1 + 8 * k.toNat + 4) = v13986 := by rw [show 1000 * 1 + 8 * k.toNat + 4 = ((1000 + 8 * k) + 4).toNat by omega]; exact (((yup_na (by decide)).trans (yup_na (by decide)))).symm.trans hv13986
                refine y_iadd 106 c208_105 rfl ?_
                refine y_istore 108 c208_106 rfl rfl ?_
                refine y_iload 109 c208_108 rfl rfl ?_
                refine y_if 134 112 c208_109 rfl rfl (yz_eq (by omega)) (fun hb13987 => ?_) (fun hb13987 => ?_)
                · refine y_aload 135 c208_134 rfl rfl rfl ?_
                  refine y_getR 138 c208_135 rfl kf376_50 ?_
                  refine y_iload 140 c208_138 rfl rfl ?_
                  refine y_aload 141 c208_140 rfl rfl rfl ?_
                  refine y_aload 142 c208_141 rfl rfl rfl ?_
                  refine y_getR 145 c208_142 rfl kf376_40 ?_
                  refine y_iload 146 c208_145 rfl rfl ?_
                  refine y_iconst 147 c208_146 rfl ?_
                  refine y_iadd 148 c208_147 rfl ?_
                  refine y_iaT 149 ((-2147483648)) 2147483647 c208_148 rfl ka403 (by omega) hT13983 rfl (fun v13988 hv13988 gv13988 => ?_)
                  have gv13988_ : m 403 (1000 * 1 + 8 * k.toNat + 3) = v13988 := by rw [show 1000 * 1 + 8 * k.toNat + 3 = ((1000 + 8 * k) + 3).toNat by omega]; exact (((yup_na (by decide)).trans (yup_na (by decide)))).symm.trans hv13988
                  have es13989 : (yup (yup m 376 57 0) 376 57 0) 376 51 = m 376 51 := rfl
                  have es13990 : (yup (yup m 376 57 0) 376 57 0) 376 54 = m 376 54 := rfl
                  have es13991 : (yup (yup m 376 57 0) 376 57 0) 376 18 = m 376 18 := rfl
                  have hVg : VX 1 (yup (yup m 376 57 0) 376 57 0) := (VX.sc (VX.sc hV (by decide)) (by decide))
                  refine y_callP 152 [.ref 376, yI v13988] [yI ((8 * (r13959 - 1)) + v13986), .ref 410] c208_149 rfl rfl rfl rfl rfl (ycanO km205 ko376) (t205_1 hT13983 hVg (by omega) (by omega)) (fun r13992 hr13992 => ?_)
                  refine y_iastore 153 c208_152 rfl ka410 (by omega) (y_nar0 _) ?_
                  have hT13993 := hT13983.up 410 (((8 * (r13959 - 1)) + v13986).toNat) r13992 0 30 rfl (by omega)
                  have hF13994 := hF13984.up 410 (((8 * (r13959 - 1)) + v13986).toNat) r13992 rfl
                  have es13995 : (yup (yup (yup m 376 57 0) 376 57 0) 410 (((8 * (r13959 - 1)) + v13986).toNat) r13992) 376 51 = m 376 51 := rfl
                  exact y_retU c208_153 ⟨rfl, hT13993, hF13994, (VX.up0e (w := m 376 51) (VX.sc (VX.sc hV (by decide)) (by decide)) (rfl) (by omega))⟩
                · exfalso; omega
              · exfalso; omega
    · exfalso; omega
  · refine y_iconst 11 c208_10 rfl ?_
    refine y_goto 15 c208_11 rfl ?_
    refine y_istore 16 c208_15 rfl rfl ?_
    refine y_aload 17 c208_16 rfl rfl rfl ?_
    refine y_iload 18 c208_17 rfl rfl ?_
    refine y_if 32 21 c208_18 rfl rfl (yz_eq (by omega)) (fun hb13996 => ?_) (fun hb13996 => ?_)
    · exfalso; omega
    · refine y_aload 22 c208_21 rfl rfl rfl ?_
      refine y_getR 25 c208_22 rfl kf376_40 ?_
      refine y_iload 26 c208_25 rfl rfl ?_
      refine y_iconst 27 c208_26 rfl ?_
      refine y_iadd 28 c208_27 rfl ?_
      refine y_iaT 29 ((-2147483648)) 2147483647 c208_28 rfl ka403 (by omega) hT rfl (fun v13997 hv13997 gv13997 => ?_)
      have gv13997_ : m 403 (1000 * 1 + 8 * k.toNat + 3) = v13997 := by rw [show 1000 * 1 + 8 * k.toNat + 3 = ((1000 + 8 * k) + 3).toNat by omega]; exact (rfl).symm.trans hv13997
      refine y_goto 40 c208_29 rfl ?_
      have tb13998 := hT.atp 376 18 0 1 rfl
      have hVg : VX 1 m := hV
      refine y_callP 43 [.ref 376, yI v13997] [] c208_40 rfl rfl rfl rfl rfl (ycanO km205 ko376) (t205_1 hT hVg (by omega) (by omega)) (fun r13999 hr13999 => ?_)
      refine y_istore 44 c208_43 rfl rfl ?_
      refine y_aload 45 c208_44 rfl rfl rfl ?_
      refine y_iload 46 c208_45 rfl rfl ?_
      refine y_if 53 49 c208_46 rfl rfl (yz_le (by omega)) (fun hb14000 => ?_) (fun hb14000 => ?_)
      · refine y_iconst 54 c208_53 rfl ?_
        refine y_iconst 55 c208_54 rfl ?_
        refine y_inlB 58 [.ref 376, yI 0, yI 1] [] [some (.ref 376), some (yI 0), some (yI 1)] c208_55 rfl rfl rfl rfl rfl (ycanO km23 ko376) kn23 rfl rfl ?_
        refine y_aload 1 c23_0 rfl rfl rfl ?_
        refine y_iload 2 c23_1 rfl rfl ?_
        refine y_if 9 5 c23_2 rfl rfl (yz_eq (by omega)) (fun hb14001 => ?_) (fun hb14001 => ?_)
        · refine y_iload 10 c23_9 rfl rfl ?_
          refine y_putI 13 c23_10 rfl kf376_57 (y_fit0 _) ?_
          have hT14002 := hT.up 376 57 1 0 4 rfl (by omega)
          have hF14003 := hF.up 376 57 1 rfl
          refine y_iload 14 c23_13 rfl rfl ?_
          refine y_ireturnK c23_14 (y_fit1 (by omega)) ?_
          refine y_if 90 61 c208_58 rfl rfl (yz_eq (by omega)) (fun hb14004 => ?_) (fun hb14004 => ?_)
          · have es14005 : (yup m 376 57 1) 376 51 = m 376 51 := rfl
            exact y_retU c208_90 ⟨rfl, hT14002, hF14003, (VX.sc hV (by decide))⟩
          · exfalso; omega
        · exfalso; omega
      · refine y_iconst 50 c208_49 rfl ?_
        refine y_goto 54 c208_50 rfl ?_
        refine y_iconst 55 c208_54 rfl ?_
        refine y_inlB 58 [.ref 376, yI 1, yI 1] [] [some (.ref 376), some (yI 1), some (yI 1)] c208_55 rfl rfl rfl rfl rfl (ycanO km23 ko376) kn23 rfl rfl ?_
        refine y_aload 1 c23_0 rfl rfl rfl ?_
        refine y_iload 2 c23_1 rfl rfl ?_
        refine y_if 9 5 c23_2 rfl rfl (yz_eq (by omega)) (fun hb14006 => ?_) (fun hb14006 => ?_)
        · exfalso; omega
        · refine y_iconst 6 c23_5 rfl ?_
          refine y_goto 10 c23_6 rfl ?_
          refine y_putI 13 c23_10 rfl kf376_57 (y_fit0 _) ?_
          have hT14007 := hT.up 376 57 0 0 4 rfl (by omega)
          have hF14008 := hF.up 376 57 0 rfl
          refine y_iload 14 c23_13 rfl rfl ?_
          refine y_ireturnK c23_14 (y_fit1 (by omega)) ?_
          refine y_if 90 61 c208_58 rfl rfl (yz_eq (by omega)) (fun hb14009 => ?_) (fun hb14009 => ?_)
          · exfalso; omega
          · refine y_aload 62 c208_61 rfl rfl rfl ?_
            refine y_aload 63 c208_62 rfl rfl rfl ?_
            refine y_aload 64 c208_63 rfl rfl rfl ?_
            refine y_getX 67 (m 376 18) c208_64 rfl kf376_18 rfl ?_
            refine y_top 1 (by omega) ?_
            refine y_aload 68 c208_67 rfl rfl rfl ?_
            refine y_iload 69 c208_68 rfl rfl ?_
            have es14010 : (yup m 376 57 0) 376 51 = m 376 51 := rfl
            have es14011 : (yup m 376 57 0) 376 54 = m 376 54 := rfl
            have es14012 : (yup m 376 57 0) 376 18 = m 376 18 := rfl
            have es14013 : (yup m 376 57 0) 383 1 = m 383 1 := rfl
            have hVg : VX 1 (yup m 376 57 0) := (VX.sc hV (by decide))
            refine y_callP 72 [.ref 376, yI r13999] [yI 1, .ref 376, .ref 376] c208_69 rfl rfl rfl rfl rfl (ycanO km206 ko376) (t206_1 hT14007 (by omega) (hG.fr hT (by decide) (fun a q ha => hF14008 a q (wPl_G2 a q ha))) hVg (by omega)) (fun r14014 hr14014 => ?_)
            refine y_aload 73 c208_72 rfl rfl rfl ?_
            refine y_getR 76 c208_73 rfl kf376_40 ?_
            refine y_iload 77 c208_76 rfl rfl ?_
            refine y_iconst 78 c208_77 rfl ?_
            refine y_iadd 79 c208_78 rfl ?_
            refine y_iaT 80 ((-2147483648)) 2147483647 c208_79 rfl ka403 (by omega) hT14007 rfl (fun v14015 hv14015 gv14015 => ?_)
            have gv14015_ : m 403 (1000 * 1 + 8 * k.toNat + 4) = v14015 := by rw [show 1000 * 1 + 8 * k.toNat + 4 = ((1000 + 8 * k) + 4).toNat by omega]; exact ((yup_na (by decide))).symm.trans hv14015
            have es14016 : (yup m 376 57 0) 383 1 = m 383 1 := rfl
            refine y_callP 83 [.ref 376, yI 1, yI r14014, yI v14015] [.ref 376] c208_80 rfl rfl rfl rfl rfl (ycanO km121 ko376) (t121x_1 hT14007 (by rw [show (yup m 376 57 0) 383 1 = m 383 1 from rfl]; exact hG.2.2.2.2.1.fr (fun q => (yup_na (by decide)))) (by omega) (by omega)) (fun r14017 hr14017 => ?_)
            refine y_iconst 84 c208_83 rfl ?_
            refine y_inlB 87 [.ref 376, yI r14017, yI 3] [] [some (.ref 376), some (yI r14017), some (yI 3)] c208_84 rfl rfl rfl rfl rfl (ycanO km23 ko376) kn23 rfl rfl ?_
            refine y_aload 1 c23_0 rfl rfl rfl ?_
            refine y_iload 2 c23_1 rfl rfl ?_
            refine y_if 9 5 c23_2 rfl rfl (yz_eq (by omega)) (fun hb14018 => ?_) (fun hb14018 => ?_)
            · refine y_iload 10 c23_9 rfl rfl ?_
              refine y_putI 13 c23_10 rfl kf376_57 (y_fit0 _) ?_
              have hT14019 := hT14007.up 376 57 3 0 4 rfl (by omega)
              have hF14020 := hF14008.up 376 57 3 rfl
              refine y_iload 14 c23_13 rfl rfl ?_
              refine y_ireturnK c23_14 (y_fit1 (by omega)) ?_
              refine y_if 91 90 c208_87 rfl rfl (yz_ne (by omega)) (fun hb14021 => ?_) (fun hb14021 => ?_)
              · exfalso; omega
              · have es14022 : (yup (yup m 376 57 0) 376 57 3) 376 51 = m 376 51 := rfl
                exact y_retU c208_90 ⟨rfl, hT14019, hF14020, (VX.sc (VX.sc hV (by decide)) (by decide))⟩
            · refine y_iconst 6 c23_5 rfl ?_
              refine y_goto 10 c23_6 rfl ?_
              refine y_putI 13 c23_10 rfl kf376_57 (y_fit0 _) ?_
              have hT14023 := hT14007.up 376 57 0 0 4 rfl (by omega)
              have hF14024 := hF14008.up 376 57 0 rfl
              refine y_iload 14 c23_13 rfl rfl ?_
              refine y_ireturnK c23_14 (y_fit1 (by omega)) ?_
              refine y_if 91 90 c208_87 rfl rfl (yz_ne (by omega)) (fun hb14025 => ?_) (fun hb14025 => ?_)
              · refine y_iconst 93 c208_91 rfl ?_
                refine y_iload 94 c208_93 rfl rfl ?_
                refine y_iconst 95 c208_94 rfl ?_
                refine y_isub 96 c208_95 rfl ?_
                refine y_imul 97 c208_96 rfl ?_
                refine y_aload 98 c208_97 rfl rfl rfl ?_
                refine y_getR 101 c208_98 rfl kf376_40 ?_
                refine y_iload 102 c208_101 rfl rfl ?_
                refine y_iconst 103 c208_102 rfl ?_
                refine y_iadd 104 c208_103 rfl ?_
                refine y_iaT 105 ((-2147483648)) 2147483647 c208_104 rfl ka403 (by omega) hT14023 rfl (fun v14026 hv14026 gv14026 => ?_)
                have gv14026_ : m 403 (1000 * 1 + 8 * k.toNat + 4) = v14026 := by rw [show 1000 * 1 + 8 * k.toNat + 4 = ((1000 + 8 * k) + 4).toNat by omega]; exact (((yup_na (by decide)).trans (yup_na (by decide)))).symm.trans hv14026
                refine y_iadd 106 c208_105 rfl ?_
                refine y_istore 108 c208_106 rfl rfl ?_
                refine y_iload 109 c208_108 rfl rfl ?_
                refine y_if 134 112 c208_109 rfl rfl (yz_eq (by omega)) (fun hb14027 => ?_) (fun hb14027 => ?_)
                · exfalso; omega
                · refine y_aload 113 c208_112 rfl rfl rfl ?_
                  refine y_aload 114 c208_113 rfl rfl rfl ?_
                  refine y_getR 117 c208_114 rfl kf376_40 ?_
                  refine y_iload 118 c208_117 rfl rfl ?_
                  refine y_iconst 119 c208_118 rfl ?_
                  refine y_iadd 120 c208_119 rfl ?_
                  refine y_iaT 121 ((-2147483648)) 2147483647 c208_120 rfl ka403 (by omega) hT14023 rfl (fun v14028 hv14028 gv14028 => ?_)
                  have gv14028_ : m 403 (1000 * 1 + 8 * k.toNat + 2) = v14028 := by rw [show 1000 * 1 + 8 * k.toNat + 2 = ((1000 + 8 * k) + 2).toNat by omega]; exact (((yup_na (by decide)).trans (yup_na (by decide)))).symm.trans hv14028
                  refine y_aload 122 c208_121 rfl rfl rfl ?_
                  refine y_getR 125 c208_122 rfl kf376_50 ?_
                  refine y_iload 127 c208_125 rfl rfl ?_
                  refine y_iaT 128 0 30 c208_127 rfl ka410 (by omega) hT14023 rfl (fun v14029 hv14029 gv14029 => ?_)
                  have gv14029_ : v14029 ≤ m 376 51 := by have h0 := hV.2.1 ((8 * (r13999 - 1)) + v14026).toNat (by omega); rw [← show (yup (yup m 376 57 0) 376 57 0) 410 ((8 * (r13999 - 1)) + v14026).toNat = m 410 ((8 * (r13999 - 1)) + v14026).toNat from ((yup_na (by decide)).trans (yup_na (by decide))), hv14029] at h0; exact h0
                  have es14031 : (yup (yup m 376 57 0) 376 57 0) 376 51 = m 376 51 := rfl
                  have es14032 : (yup (yup m 376 57 0) 376 57 0) 376 54 = m 376 54 := rfl
                  have es14033 : (yup (yup m 376 57 0) 376 57 0) 376 18 = m 376 18 := rfl
                  have hVc : VX 1 (yup (yup m 376 57 0) 376 57 0) := (VX.sc (VX.sc hV (by decide)) (by decide))
                  refine y_callUB 131 [.ref 376, yI v14028, yI v14029] [] c208_128 rfl rfl rfl rfl rfl (ycanO km202 ko376) (t202_1 hT14023 hVc (by omega) (by omega) (by omega)) (fun mq14030 nq14030 hq14030 => ?_)
                  obtain ⟨rfl, hTq14030, hFq14030, hVq14030⟩ := hq14030
                  have hF14034 := hF14024.tr hFq14030 wGv_wPl
                  refine y_goto 153 c208_131 rfl ?_
                  have es14035 : mq14030 376 51 = m 376 51 := ((hFq14030 376 51 rfl).trans ((yup_nk (by decide)).trans (yup_nk (by decide))))
                  exact y_retU c208_153 ⟨rfl, hTq14030, hF14034, hVq14030⟩
              · exfalso; omega

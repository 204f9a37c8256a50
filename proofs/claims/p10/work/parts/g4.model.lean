/-! CONTRACTS: the model, operations. Printed by wip/whole/gen96.py -/
set_option maxRecDepth 100000 in
theorem t127_0 {L : Nat} {xs : Nat → Int32} {d nn : Nat} {m : yM} {v a b c : Int} (hT : Ty gT m) (hn : m 376 18 = 1) (hv : -2147483648 ≤ v ∧ v < 2147483648) (ha : -2147483648 ≤ a ∧ a < 2147483648) (hb : -2147483648 ≤ b ∧ b < 2147483648) (hc : -2147483648 ≤ c ∧ c < 2147483648) (h90 : m 390 0 ≤ 123) : YC (gZ L xs) (d + 1) 127 [.ref 376, yI v, yI a, yI b, yI c] m nn (qI (fun r m' n' => n' = nn ∧ Ty gT m' ∧ Fr wEm0 m m' ∧ r = m 390 0 ∧ EM 0 m m' v a b c)) := by
  have tb0 := hT.atp 390 0 0 125 rfl
  have tb4 := hT.atp 384 0 0 10 rfl
  refine YC.mkB [some (.ref 376), some (yI v), some (yI a), some (yI b), some (yI c), none, none] kn127 rfl rfl ?_
  have hF : Fr wEm0 m m := Fr.rf
  refine y_aload 1 c127_0 rfl rfl rfl ?_
  refine y_callP 4 [.ref 376] [] c127_1 rfl rfl rfl rfl rfl (ycanO km96 ko376) (t96_0 (by omega)) (fun r6297 hr6297 => ?_)
  subst hr6297
  refine y_istore 6 c127_4 rfl rfl ?_
  refine y_iconst 9 c127_6 rfl ?_
  refine y_iload 11 c127_9 rfl rfl ?_
  refine y_imul 12 c127_11 rfl ?_
  refine y_top 0 (by decide) ?_
  refine y_iconst 14 c127_12 rfl ?_
  refine y_aload 15 c127_14 rfl rfl rfl ?_
  refine y_getR 18 c127_15 rfl kf376_27 ?_
  refine y_iload 20 c127_18 rfl rfl ?_
  refine y_iaX 21 (m 390 0) c127_20 rfl ka390 (by decide) rfl ?_
  refine y_imul 22 c127_21 rfl ?_
  refine y_iadd 23 c127_22 rfl ?_
  refine y_istore 25 c127_23 rfl rfl ?_
  refine y_aload 26 c127_25 rfl rfl rfl ?_
  refine y_getR 29 c127_26 rfl kf376_40 ?_
  refine y_iload 31 c127_29 rfl rfl ?_
  refine y_iload 32 c127_31 rfl rfl ?_
  refine y_iastore 33 c127_32 rfl ka403 (by omega) (y_nar0 _) ?_
  have hT6298 := hT.up 403 ((0 + (8 * (m 390 0))).toNat) v ((-2147483648)) 2147483647 rfl (by omega)
  have hF6299 := hF.up 403 ((0 + (8 * (m 390 0))).toNat) v (wEm0_op (by omega))
  refine y_aload 34 c127_33 rfl rfl rfl ?_
  refine y_getR 37 c127_34 rfl kf376_40 ?_
  refine y_iload 39 c127_37 rfl rfl ?_
  refine y_iconst 40 c127_39 rfl ?_
  refine y_iadd 41 c127_40 rfl ?_
  refine y_aload 42 c127_41 rfl rfl rfl ?_
  refine y_getR 45 c127_42 rfl kf376_21 ?_
  refine y_iload 47 c127_45 rfl rfl ?_
  refine y_iaX 48 (m 384 0) c127_47 rfl ka384 (by decide) rfl ?_
  refine y_iconst 49 c127_48 rfl ?_
  refine y_isub 50 c127_49 rfl ?_
  refine y_iastore 51 c127_50 rfl ka403 (by omega) (y_nar0 _) ?_
  have hT6300 := hT6298.up 403 (((0 + (8 * (m 390 0))) + 1).toNat) ((m 384 0) - 1) ((-2147483648)) 2147483647 rfl (by omega)
  have hF6301 := hF6299.up 403 (((0 + (8 * (m 390 0))) + 1).toNat) ((m 384 0) - 1) (wEm0_op (by omega))
  refine y_aload 52 c127_51 rfl rfl rfl ?_
  refine y_getR 55 c127_52 rfl kf376_40 ?_
  refine y_iload 57 c127_55 rfl rfl ?_
  refine y_iconst 58 c127_57 rfl ?_
  refine y_iadd 59 c127_58 rfl ?_
  refine y_iload 60 c127_59 rfl rfl ?_
  refine y_iastore 61 c127_60 rfl ka403 (by omega) (y_nar0 _) ?_
  have hT6302 := hT6300.up 403 (((0 + (8 * (m 390 0))) + 2).toNat) a ((-2147483648)) 2147483647 rfl (by omega)
  have hF6303 := hF6301.up 403 (((0 + (8 * (m 390 0))) + 2).toNat) a (wEm0_op (by omega))
  refine y_aload 62 c127_61 rfl rfl rfl ?_
  refine y_getR 65 c127_62 rfl kf376_40 ?_
  refine y_iload 67 c127_65 rfl rfl ?_
  refine y_iconst 68 c127_67 rfl ?_
  refine y_iadd 69 c127_68 rfl ?_
  refine y_iload 70 c127_69 rfl rfl ?_
  refine y_iastore 71 c127_70 rfl ka403 (by omega) (y_nar0 _) ?_
  have hT6304 := hT6302.up 403 (((0 + (8 * (m 390 0))) + 3).toNat) b ((-2147483648)) 2147483647 rfl (by omega)
  have hF6305 := hF6303.up 403 (((0 + (8 * (m 390 0))) + 3).toNat) b (wEm0_op (by omega))
  refine y_aload 72 c127_71 rfl rfl rfl ?_
  refine y_getR 75 c127_72 rfl kf376_40 ?_
  refine y_iload 77 c127_75 rfl rfl ?_
  refine y_iconst 78 c127_77 rfl ?_
  refine y_iadd 79 c127_78 rfl ?_
  refine y_iload 81 c127_79 rfl rfl ?_
  refine y_iastore 82 c127_81 rfl ka403 (by omega) (y_nar0 _) ?_
  have hT6306 := hT6304.up 403 (((0 + (8 * (m 390 0))) + 4).toNat) c ((-2147483648)) 2147483647 rfl (by omega)
  have hF6307 := hF6305.up 403 (((0 + (8 * (m 390 0))) + 4).toNat) c (wEm0_op (by omega))
  refine y_aload 83 c127_82 rfl rfl rfl ?_
  refine y_getR 86 c127_83 rfl kf376_27 ?_
  refine y_iload 88 c127_86 rfl rfl ?_
  refine y_dup2 89 c127_88 rfl ⟨rfl, rfl⟩ ?_
  refine y_iaX 90 (m 390 0) c127_89 rfl ka390 (by decide) rfl ?_
  refine y_iconst 91 c127_90 rfl ?_
  refine y_iadd 92 c127_91 rfl ?_
  refine y_iastore 93 c127_92 rfl ka390 (by omega) (y_nar0 _) ?_
  have hT6308 := hT6306.up 390 ((0 : Int).toNat) ((m 390 0) + 1) 0 125 rfl (by omega)
  have hF6309 := hF6307.up 390 ((0 : Int).toNat) ((m 390 0) + 1) rfl
  refine y_aload 94 c127_93 rfl rfl rfl ?_
  refine y_getR 97 c127_94 rfl kf376_27 ?_
  refine y_iload 99 c127_97 rfl rfl ?_
  refine y_iaX 100 ((m 390 0) + 1) c127_99 rfl ka390 (by decide) rfl ?_
  refine y_iconst 101 c127_100 rfl ?_
  refine y_isub 102 c127_101 rfl ?_
  have es6310 : (yup (yup (yup (yup (yup (yup m 403 ((0 + (8 * (m 390 0))).toNat) v) 403 (((0 + (8 * (m 390 0))) + 1).toNat) ((m 384 0) - 1)) 403 (((0 + (8 * (m 390 0))) + 2).toNat) a) 403 (((0 + (8 * (m 390 0))) + 3).toNat) b) 403 (((0 + (8 * (m 390 0))) + 4).toNat) c) 390 ((0 : Int).toNat) ((m 390 0) + 1)) 390 0 = (m 390 0) + 1 := rfl
  refine y_retI c127_102 (y_fit0 _) ⟨rfl, hT6308, hF6309, by omega, by omega, ?_, ?_, ?_, ?_, ?_, ?_⟩
  · rw [show 1000 * 0 + 8 * (m 390 0).toNat = (0 + 8 * m 390 0).toNat by omega]; repeat (first | rw [yup_eq] | rw [yup_na (by omega)] | rw [yup_nk (by omega)])
  · rw [show 1000 * 0 + 8 * (m 390 0).toNat + 1 = (0 + 8 * m 390 0 + 1).toNat by omega]; repeat (first | rw [yup_eq] | rw [yup_na (by omega)] | rw [yup_nk (by omega)])
  · rw [show 1000 * 0 + 8 * (m 390 0).toNat + 2 = (0 + 8 * m 390 0 + 2).toNat by omega]; repeat (first | rw [yup_eq] | rw [yup_na (by omega)] | rw [yup_nk (by omega)])
  · rw [show 1000 * 0 + 8 * (m 390 0).toNat + 3 = (0 + 8 * m 390 0 + 3).toNat by omega]; repeat (first | rw [yup_eq] | rw [yup_na (by omega)] | rw [yup_nk (by omega)])
  · rw [show 1000 * 0 + 8 * (m 390 0).toNat + 4 = (0 + 8 * m 390 0 + 4).toNat by omega]; repeat (first | rw [yup_eq] | rw [yup_na (by omega)] | rw [yup_nk (by omega)])
  · intro q hq; repeat (first | rw [yup_eq] | rw [yup_na (by omega)] | rw [yup_nk (by omega)])
set_option maxRecDepth 100000 in
theorem t128_0 {L : Nat} {xs : Nat → Int32} {d nn : Nat} {m : yM} {k : Int} (hT : Ty gT m) (hn : m 376 18 = 1) (hk : 0 ≤ k ∧ k < m 390 0) (h90 : m 390 0 ≤ 124) : YC (gZ L xs) (d + 1) 128 [.ref 376, yI k] m nn (qU (fun m' n' => n' = nn ∧ Ty gT m' ∧ Fr wAi0 m m' ∧ m' 403 (1000 * 0 + 8 * k.toNat + 3) = m 390 0 ∧ ∀ q, q ≠ 1000 * 0 + 8 * k.toNat + 3 → m' 403 q = m 403 q)) := by
  have tb0 := hT.atp 390 0 0 125 rfl
  refine YC.mkB [some (.ref 376), some (yI k)] kn128 rfl rfl ?_
  have hF : Fr wAi0 m m := Fr.rf
  refine y_aload 1 c128_0 rfl rfl rfl ?_
  refine y_getR 4 c128_1 rfl kf376_40 ?_
  refine y_iconst 7 c128_4 rfl ?_
  refine y_aload 8 c128_7 rfl rfl rfl ?_
  refine y_callP 11 [.ref 376] [yI 1000, .ref 403] c128_8 rfl rfl rfl rfl rfl (ycanO km96 ko376) (t96_0 (by omega)) (fun r6311 hr6311 => ?_)
  subst hr6311
  refine y_imul 12 c128_11 rfl ?_
  refine y_top 0 (by decide) ?_
  refine y_iconst 14 c128_12 rfl ?_
  refine y_iload 15 c128_14 rfl rfl ?_
  refine y_imul 16 c128_15 rfl ?_
  refine y_iadd 17 c128_16 rfl ?_
  refine y_iconst 18 c128_17 rfl ?_
  refine y_iadd 19 c128_18 rfl ?_
  refine y_aload 20 c128_19 rfl rfl rfl ?_
  refine y_getR 23 c128_20 rfl kf376_27 ?_
  refine y_aload 24 c128_23 rfl rfl rfl ?_
  refine y_callP 27 [.ref 376] [.ref 390, yI ((0 + (8 * k)) + 3), .ref 403] c128_24 rfl rfl rfl rfl rfl (ycanO km96 ko376) (t96_0 (by omega)) (fun r6312 hr6312 => ?_)
  subst hr6312
  refine y_iaX 28 (m 390 0) c128_27 rfl ka390 (by decide) rfl ?_
  refine y_iastore 29 c128_28 rfl ka403 (by omega) (y_nar0 _) ?_
  have hT6313 := hT.up 403 (((0 + (8 * k)) + 3).toNat) (m 390 0) ((-2147483648)) 2147483647 rfl (by omega)
  have hF6314 := hF.up 403 (((0 + (8 * k)) + 3).toNat) (m 390 0) (wAi0_op (by omega))
  refine y_retU c128_29 ⟨rfl, hT6313, hF6314, ?_, ?_⟩
  · rw [show 1000 * 0 + 8 * k.toNat + 3 = (0 + 8 * k + 3).toNat by omega]; repeat (first | rw [yup_eq] | rw [yup_na (by omega)] | rw [yup_nk (by omega)])
  · intro q hq; repeat (first | rw [yup_eq] | rw [yup_na (by omega)] | rw [yup_nk (by omega)])
set_option maxRecDepth 100000 in
theorem t127_1 {L : Nat} {xs : Nat → Int32} {d nn : Nat} {m : yM} {v a b c : Int} (hT : Ty gT m) (hn : m 376 18 = 0) (hv : -2147483648 ≤ v ∧ v < 2147483648) (ha : -2147483648 ≤ a ∧ a < 2147483648) (hb : -2147483648 ≤ b ∧ b < 2147483648) (hc : -2147483648 ≤ c ∧ c < 2147483648) (h90 : m 390 1 ≤ 123) : YC (gZ L xs) (d + 1) 127 [.ref 376, yI v, yI a, yI b, yI c] m nn (qI (fun r m' n' => n' = nn ∧ Ty gT m' ∧ Fr wEm1 m m' ∧ r = m 390 1 ∧ EM 1 m m' v a b c)) := by
  have tb0 := hT.atp 390 1 0 125 rfl
  have tb4 := hT.atp 384 1 0 10 rfl
  refine YC.mkB [some (.ref 376), some (yI v), some (yI a), some (yI b), some (yI c), none, none] kn127 rfl rfl ?_
  have hF : Fr wEm1 m m := Fr.rf
  refine y_aload 1 c127_0 rfl rfl rfl ?_
  refine y_callP 4 [.ref 376] [] c127_1 rfl rfl rfl rfl rfl (ycanO km96 ko376) (t96_1 (by omega)) (fun r6522 hr6522 => ?_)
  subst hr6522
  refine y_istore 6 c127_4 rfl rfl ?_
  refine y_iconst 9 c127_6 rfl ?_
  refine y_iload 11 c127_9 rfl rfl ?_
  refine y_imul 12 c127_11 rfl ?_
  refine y_top 1000 (by decide) ?_
  refine y_iconst 14 c127_12 rfl ?_
  refine y_aload 15 c127_14 rfl rfl rfl ?_
  refine y_getR 18 c127_15 rfl kf376_27 ?_
  refine y_iload 20 c127_18 rfl rfl ?_
  refine y_iaX 21 (m 390 1) c127_20 rfl ka390 (by decide) rfl ?_
  refine y_imul 22 c127_21 rfl ?_
  refine y_iadd 23 c127_22 rfl ?_
  refine y_istore 25 c127_23 rfl rfl ?_
  refine y_aload 26 c127_25 rfl rfl rfl ?_
  refine y_getR 29 c127_26 rfl kf376_40 ?_
  refine y_iload 31 c127_29 rfl rfl ?_
  refine y_iload 32 c127_31 rfl rfl ?_
  refine y_iastore 33 c127_32 rfl ka403 (by omega) (y_nar0 _) ?_
  have hT6523 := hT.up 403 ((1000 + (8 * (m 390 1))).toNat) v ((-2147483648)) 2147483647 rfl (by omega)
  have hF6524 := hF.up 403 ((1000 + (8 * (m 390 1))).toNat) v (wEm1_op (by omega))
  refine y_aload 34 c127_33 rfl rfl rfl ?_
  refine y_getR 37 c127_34 rfl kf376_40 ?_
  refine y_iload 39 c127_37 rfl rfl ?_
  refine y_iconst 40 c127_39 rfl ?_
  refine y_iadd 41 c127_40 rfl ?_
  refine y_aload 42 c127_41 rfl rfl rfl ?_
  refine y_getR 45 c127_42 rfl kf376_21 ?_
  refine y_iload 47 c127_45 rfl rfl ?_
  refine y_iaX 48 (m 384 1) c127_47 rfl ka384 (by decide) rfl ?_
  refine y_iconst 49 c127_48 rfl ?_
  refine y_isub 50 c127_49 rfl ?_
  refine y_iastore 51 c127_50 rfl ka403 (by omega) (y_nar0 _) ?_
  have hT6525 := hT6523.up 403 (((1000 + (8 * (m 390 1))) + 1).toNat) ((m 384 1) - 1) ((-2147483648)) 2147483647 rfl (by omega)
  have hF6526 := hF6524.up 403 (((1000 + (8 * (m 390 1))) + 1).toNat) ((m 384 1) - 1) (wEm1_op (by omega))
  refine y_aload 52 c127_51 rfl rfl rfl ?_
  refine y_getR 55 c127_52 rfl kf376_40 ?_
  refine y_iload 57 c127_55 rfl rfl ?_
  refine y_iconst 58 c127_57 rfl ?_
  refine y_iadd 59 c127_58 rfl ?_
  refine y_iload 60 c127_59 rfl rfl ?_
  refine y_iastore 61 c127_60 rfl ka403 (by omega) (y_nar0 _) ?_
  have hT6527 := hT6525.up 403 (((1000 + (8 * (m 390 1))) + 2).toNat) a ((-2147483648)) 2147483647 rfl (by omega)
  have hF6528 := hF6526.up 403 (((1000 + (8 * (m 390 1))) + 2).toNat) a (wEm1_op (by omega))
  refine y_aload 62 c127_61 rfl rfl rfl ?_
  refine y_getR 65 c127_62 rfl kf376_40 ?_
  refine y_iload 67 c127_65 rfl rfl ?_
  refine y_iconst 68 c127_67 rfl ?_
  refine y_iadd 69 c127_68 rfl ?_
  refine y_iload 70 c127_69 rfl rfl ?_
  refine y_iastore 71 c127_70 rfl ka403 (by omega) (y_nar0 _) ?_
  have hT6529 := hT6527.up 403 (((1000 + (8 * (m 390 1))) + 3).toNat) b ((-2147483648)) 2147483647 rfl (by omega)
  have hF6530 := hF6528.up 403 (((1000 + (8 * (m 390 1))) + 3).toNat) b (wEm1_op (by omega))
  refine y_aload 72 c127_71 rfl rfl rfl ?_
  refine y_getR 75 c127_72 rfl kf376_40 ?_
  refine y_iload 77 c127_75 rfl rfl ?_
  refine y_iconst 78 c127_77 rfl ?_
  refine y_iadd 79 c127_78 rfl ?_
  refine y_iload 81 c127_79 rfl rfl ?_
  refine y_iastore 82 c127_81 rfl ka403 (by omega) (y_nar0 _) ?_
  have hT6531 := hT6529.up 403 (((1000 + (8 * (m 390 1))) + 4).toNat) c ((-2147483648)) 2147483647 rfl (by omega)
  have hF6532 := hF6530.up 403 (((1000 + (8 * (m 390 1))) + 4).toNat) c (wEm1_op (by omega))
  refine y_aload 83 c127_82 rfl rfl rfl ?_
  refine y_getR 86 c127_83 rfl kf376_27 ?_
  refine y_iload 88 c127_86 rfl rfl ?_
  refine y_dup2 89 c127_88 rfl ⟨rfl, rfl⟩ ?_
  refine y_iaX 90 (m 390 1) c127_89 rfl ka390 (by decide) rfl ?_
  refine y_iconst 91 c127_90 rfl ?_
  refine y_iadd 92 c127_91 rfl ?_
  refine y_iastore 93 c127_92 rfl ka390 (by omega) (y_nar0 _) ?_
  have hT6533 := hT6531.up 390 ((1 : Int).toNat) ((m 390 1) + 1) 0 125 rfl (by omega)
  have hF6534 := hF6532.up 390 ((1 : Int).toNat) ((m 390 1) + 1) rfl
  refine y_aload 94 c127_93 rfl rfl rfl ?_
  refine y_getR 97 c127_94 rfl kf376_27 ?_
  refine y_iload 99 c127_97 rfl rfl ?_
  refine y_iaX 100 ((m 390 1) + 1) c127_99 rfl ka390 (by decide) rfl ?_
  refine y_iconst 101 c127_100 rfl ?_
  refine y_isub 102 c127_101 rfl ?_
  have es6535 : (yup (yup (yup (yup (yup (yup m 403 ((1000 + (8 * (m 390 1))).toNat) v) 403 (((1000 + (8 * (m 390 1))) + 1).toNat) ((m 384 1) - 1)) 403 (((1000 + (8 * (m 390 1))) + 2).toNat) a) 403 (((1000 + (8 * (m 390 1))) + 3).toNat) b) 403 (((1000 + (8 * (m 390 1))) + 4).toNat) c) 390 ((1 : Int).toNat) ((m 390 1) + 1)) 390 1 = (m 390 1) + 1 := rfl
  refine y_retI c127_102 (y_fit0 _) ⟨rfl, hT6533, hF6534, by omega, by omega, ?_, ?_, ?_, ?_, ?_, ?_⟩
  · rw [show 1000 * 1 + 8 * (m 390 1).toNat = (1000 + 8 * m 390 1).toNat by omega]; repeat (first | rw [yup_eq] | rw [yup_na (by omega)] | rw [yup_nk (by omega)])
  · rw [show 1000 * 1 + 8 * (m 390 1).toNat + 1 = (1000 + 8 * m 390 1 + 1).toNat by omega]; repeat (first | rw [yup_eq] | rw [yup_na (by omega)] | rw [yup_nk (by omega)])
  · rw [show 1000 * 1 + 8 * (m 390 1).toNat + 2 = (1000 + 8 * m 390 1 + 2).toNat by omega]; repeat (first | rw [yup_eq] | rw [yup_na (by omega)] | rw [yup_nk (by omega)])
  · rw [show 1000 * 1 + 8 * (m 390 1).toNat + 3 = (1000 + 8 * m 390 1 + 3).toNat by omega]; repeat (first | rw [yup_eq] | rw [yup_na (by omega)] | rw [yup_nk (by omega)])
  · rw [show 1000 * 1 + 8 * (m 390 1).toNat + 4 = (1000 + 8 * m 390 1 + 4).toNat by omega]; repeat (first | rw [yup_eq] | rw [yup_na (by omega)] | rw [yup_nk (by omega)])
  · intro q hq; repeat (first | rw [yup_eq] | rw [yup_na (by omega)] | rw [yup_nk (by omega)])
set_option maxRecDepth 100000 in
theorem t128_1 {L : Nat} {xs : Nat → Int32} {d nn : Nat} {m : yM} {k : Int} (hT : Ty gT m) (hn : m 376 18 = 0) (hk : 0 ≤ k ∧ k < m 390 1) (h90 : m 390 1 ≤ 124) : YC (gZ L xs) (d + 1) 128 [.ref 376, yI k] m nn (qU (fun m' n' => n' = nn ∧ Ty gT m' ∧ Fr wAi1 m m' ∧ m' 403 (1000 * 1 + 8 * k.toNat + 3) = m 390 1 ∧ ∀ q, q ≠ 1000 * 1 + 8 * k.toNat + 3 → m' 403 q = m 403 q)) := by
  have tb0 := hT.atp 390 1 0 125 rfl
  refine YC.mkB [some (.ref 376), some (yI k)] kn128 rfl rfl ?_
  have hF : Fr wAi1 m m := Fr.rf
  refine y_aload 1 c128_0 rfl rfl rfl ?_
  refine y_getR 4 c128_1 rfl kf376_40 ?_
  refine y_iconst 7 c128_4 rfl ?_
  refine y_aload 8 c128_7 rfl rfl rfl ?_
  refine y_callP 11 [.ref 376] [yI 1000, .ref 403] c128_8 rfl rfl rfl rfl rfl (ycanO km96 ko376) (t96_1 (by omega)) (fun r6536 hr6536 => ?_)
  subst hr6536
  refine y_imul 12 c128_11 rfl ?_
  refine y_top 1000 (by decide) ?_
  refine y_iconst 14 c128_12 rfl ?_
  refine y_iload 15 c128_14 rfl rfl ?_
  refine y_imul 16 c128_15 rfl ?_
  refine y_iadd 17 c128_16 rfl ?_
  refine y_iconst 18 c128_17 rfl ?_
  refine y_iadd 19 c128_18 rfl ?_
  refine y_aload 20 c128_19 rfl rfl rfl ?_
  refine y_getR 23 c128_20 rfl kf376_27 ?_
  refine y_aload 24 c128_23 rfl rfl rfl ?_
  refine y_callP 27 [.ref 376] [.ref 390, yI ((1000 + (8 * k)) + 3), .ref 403] c128_24 rfl rfl rfl rfl rfl (ycanO km96 ko376) (t96_1 (by omega)) (fun r6537 hr6537 => ?_)
  subst hr6537
  refine y_iaX 28 (m 390 1) c128_27 rfl ka390 (by decide) rfl ?_
  refine y_iastore 29 c128_28 rfl ka403 (by omega) (y_nar0 _) ?_
  have hT6538 := hT.up 403 (((1000 + (8 * k)) + 3).toNat) (m 390 1) ((-2147483648)) 2147483647 rfl (by omega)
  have hF6539 := hF.up 403 (((1000 + (8 * k)) + 3).toNat) (m 390 1) (wAi1_op (by omega))
  refine y_retU c128_29 ⟨rfl, hT6538, hF6539, ?_, ?_⟩
  · rw [show 1000 * 1 + 8 * k.toNat + 3 = (1000 + 8 * k + 3).toNat by omega]; repeat (first | rw [yup_eq] | rw [yup_na (by omega)] | rw [yup_nk (by omega)])
  · intro q hq; repeat (first | rw [yup_eq] | rw [yup_na (by omega)] | rw [yup_nk (by omega)])

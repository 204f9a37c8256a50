section
/-! CONTRACTS: append of the model. Printed by wip/whole/gen75.py -/
theorem t23 {L : Nat} {xs : Nat → Int32} {d nn : Nat} {m : yM} {y c : Int} (hy : y = 0 ∨ y = 1) : YC (gZ L xs) d 23 [.ref 376, yI y, yI c] m nn (qI (fun r m' n' => r = y ∧ n' = nn ∧ ((y = 1 ∧ m' = yup m 376 57 0) ∨ (y = 0 ∧ m' = yup m 376 57 c)))) := by
  refine YC.mkB [some (.ref 376), some (yI y), some (yI c)] kn23 rfl rfl ?_
  refine y_aload 1 c23_0 rfl rfl rfl ?_
  refine y_iload 2 c23_1 rfl rfl ?_
  refine y_if 9 5 c23_2 rfl rfl (yz_eq (by omega)) (fun hb => ?_) (fun hb => ?_)
  · refine y_iload 10 c23_9 rfl rfl ?_
    refine y_putI 13 c23_10 rfl kf376_57 (y_fit0 _) ?_
    refine y_iload 14 c23_13 rfl rfl ?_
    exact y_retI c23_14 (y_fit1 (by omega)) ⟨rfl, rfl, by first | exact Or.inl ⟨by omega, rfl⟩ | exact Or.inr ⟨by omega, rfl⟩⟩
  · refine y_iconst 6 c23_5 rfl ?_
    refine y_goto 10 c23_6 rfl ?_
    refine y_putI 13 c23_10 rfl kf376_57 (y_fit0 _) ?_
    refine y_iload 14 c23_13 rfl rfl ?_
    exact y_retI c23_14 (y_fit1 (by omega)) ⟨rfl, rfl, by first | exact Or.inl ⟨by omega, rfl⟩ | exact Or.inr ⟨by omega, rfl⟩⟩
theorem t24 {L : Nat} {xs : Nat → Int32} {d nn : Nat} {m : yM} {c : Int} : YC (gZ L xs) d 24 [.ref 376, yI c] m nn (qI (fun r m' n' => r = 0 ∧ n' = nn ∧ m' = yup m 376 57 c)) := by
  refine YC.mkB [some (.ref 376), some (yI c)] kn24 rfl rfl ?_
  refine y_aload 1 c24_0 rfl rfl rfl ?_
  refine y_iload 2 c24_1 rfl rfl ?_
  refine y_putI 5 c24_2 rfl kf376_57 (y_fit0 _) ?_
  refine y_iconst 6 c24_5 rfl ?_
  exact y_retI c24_6 (y_fit0 _) ⟨rfl, rfl, rfl⟩
theorem t25b {L : Nat} {xs : Nat → Int32} {d nn : Nat} {m : yM} {v : Int64} {n : Int} (ha : gApp v n) (h0 : 0 ≤ m 376 1) (h1 : m 376 1 + n ≤ 320) : ∀ (j : Nat) (i : Int) (mi : yM), i + 1 = j → i < n → mi 376 57 = 0 → mi 376 1 = m 376 1 + n - 1 - i → (∀ a q, a ≠ 377 → ¬ (a = 376 ∧ (q = 1 ∨ q = 57)) → mi a q = m a q) → (∀ q, q < (m 376 1).toNat → mi 377 q = m 377 q) → (∀ t, 1 ≤ t → t < n - i → mi 377 (m 376 1 + t - 1).toNat = bC v (n - t)) → YW (gZ L xs) 25 (d + 1) 92 [some (.ref 376), some (.long v), none, some (yI n), some (yI i)] [] mi nn (qI (fun r m' n' => n' = nn ∧ ((¬ gApp v n ∧ m' = yup m 376 57 1) ∨ (gApp v n ∧ ¬ m 376 1 + n ≤ 320 ∧ m' = yup m 376 57 2) ∨ (gApp v n ∧ m 376 1 + n ≤ 320 ∧ m' 376 57 = 0 ∧ r = m 376 1 + n ∧ m' 376 1 = r ∧ (∀ a q, a ≠ 377 → ¬ (a = 376 ∧ (q = 1 ∨ q = 57)) → m' a q = m a q) ∧ (∀ q, q < (m 376 1).toNat → m' 377 q = m 377 q) ∧ (∀ t, 1 ≤ t → t ≤ n → m' 377 (m 376 1 + t - 1).toNat = bC v (n - t)))))) := by
  intro j
  have hn8 := ha.2.1
  have hn1 := ha.1
  induction j with
  | zero =>
    intro i mi hj hi k0 k1 k2 k3 k4
    refine y_iload 94 c25_92 rfl rfl ?_
    refine y_if 134 97 c25_94 rfl rfl (yz_lt (by omega)) (fun hb => ?_) (fun hb => ?_)
    · refine y_aload 135 c25_134 rfl rfl rfl ?_
      refine y_getI 138 c25_135 rfl kf376_1 ?_
      exact y_retI c25_138 (y_fit0 _) ⟨rfl, Or.inr (Or.inr ⟨ha, h1, k0, by omega, rfl, k2, k3, fun t t1 t2 => k4 t t1 (by omega)⟩)⟩
    · exfalso; omega
  | succ j ih =>
    intro i mi hj hi k0 k1 k2 k3 k4
    have hb0 := bC_rng v i
    have hbe := rB_eq (v := v) (k := i) (by omega)
    refine y_iload 94 c25_92 rfl rfl ?_
    refine y_if 134 97 c25_94 rfl rfl (yz_lt (by omega)) (fun hb => ?_) (fun hb => ?_)
    · refine y_aload 135 c25_134 rfl rfl rfl ?_
      refine y_getX 138 (mi 376 1) c25_135 rfl kf376_1 rfl ?_
      exfalso; omega
    · refine y_aload 98 c25_97 rfl rfl rfl ?_
      refine y_getR 101 c25_98 rfl kf376_0 ?_
      refine y_aload 102 c25_101 rfl rfl rfl ?_
      refine y_getX 105 (mi 376 1) c25_102 rfl kf376_1 rfl ?_
      refine y_lload 106 c25_105 rfl rfl ?_
      refine y_iconst 108 c25_106 rfl ?_
      refine y_iload 110 c25_108 rfl rfl ?_
      refine y_imul 111 c25_110 rfl ?_
      refine y_lshr 112 c25_111 rfl ?_
      refine y_l2i 113 c25_112 rfl ?_
      refine y_iconst 116 c25_113 rfl ?_
      refine y_iand 117 c25_116 rfl ?_
      refine y_iastore 118 c25_117 rfl ka377 (by omega) (y_nar0 _) ?_
      refine y_aload 119 c25_118 rfl rfl rfl ?_
      refine y_dup 120 c25_119 rfl rfl ?_
      refine y_getX 123 (mi 376 1) c25_120 rfl kf376_1 rfl ?_
      refine y_iconst 124 c25_123 rfl ?_
      refine y_iadd 125 c25_124 rfl ?_
      refine y_putI 128 c25_125 rfl kf376_1 (y_fit0 _) ?_
      refine y_iinc 131 c25_128 rfl rfl rfl ?_
      refine y_goto 92 c25_131 rfl ?_
      refine ih (i + (-1)) _ (by omega) (by omega) ?_ ?_ ?_ ?_ ?_
      · rw [yup_nk (by decide), yup_na (by decide)]; exact k0
      · simp only [yup_eq]; omega
      · intro a q h2 h3
        rw [yup_ne (fun e => h3 ⟨e.1, Or.inl e.2⟩), yup_na h2]
        exact k2 a q h2 h3
      · intro q hq
        rw [yup_na (by decide), yup_nk (by omega)]
        exact k3 q hq
      · intro t h2 h3
        rw [yup_na (by decide)]
        by_cases e : t = n - i
        · subst e
          rw [show (m 376 1 + (n - i) - 1).toNat = (mi 376 1).toNat by omega, yup_eq]
          rw [show n - (n - i) = i by omega]
          exact hbe
        · rw [yup_nk (by omega)]
          exact k4 t h2 (by omega)
theorem yup_yup (m : yM) (a k : Nat) (v u : Int) : yup (yup m a k v) a k u = yup m a k u := by
  funext b j
  unfold yup
  split <;> simp_all
theorem t25a {L : Nat} {xs : Nat → Int32} {d nn : Nat} {m : yM} {v : Int64} {n : Int} (h0 : 0 ≤ m 376 1) (h1 : m 376 1 ≤ 320) (hn : 1 ≤ n ∧ n ≤ 8) : ∀ (j : Nat) (i : Int), i + j = n → 0 ≤ i → (∀ k, 0 ≤ k → k < i → 32 ≤ bC v k ∧ bC v k ≤ 126) → YW (gZ L xs) 25 (d + 1) 20 [some (.ref 376), some (.long v), none, some (yI n), some (yI i)] [] (yup m 376 57 0) nn (qI (fun r m' n' => n' = nn ∧ ((¬ gApp v n ∧ m' = yup m 376 57 1) ∨ (gApp v n ∧ ¬ m 376 1 + n ≤ 320 ∧ m' = yup m 376 57 2) ∨ (gApp v n ∧ m 376 1 + n ≤ 320 ∧ m' 376 57 = 0 ∧ r = m 376 1 + n ∧ m' 376 1 = r ∧ (∀ a q, a ≠ 377 → ¬ (a = 376 ∧ (q = 1 ∨ q = 57)) → m' a q = m a q) ∧ (∀ q, q < (m 376 1).toNat → m' 377 q = m 377 q) ∧ (∀ t, 1 ≤ t → t ≤ n → m' 377 (m 376 1 + t - 1).toNat = bC v (n - t)))))) := by
  intro j
  have e1 : yup m 376 57 0 376 1 = m 376 1 := yup_nk (by decide)
  induction j with
  | zero =>
    intro i hj hi hg
    have hb0 := bC_rng v i
    refine y_iload 22 c25_20 rfl rfl ?_
    refine y_iload 23 c25_22 rfl rfl ?_
    refine y_icmp 60 26 c25_23 rfl rfl (yc_ge (by omega) (by omega)) (fun hb => ?_) (fun hb => ?_)
    · have hgd : gGood v n := fun k h2 h3 => hg k h2 (by omega)
      refine y_aload 61 c25_60 rfl rfl rfl ?_
      refine y_aload 62 c25_61 rfl rfl rfl ?_
      refine y_getX 65 ((yup m 376 57 0) 376 1) c25_62 rfl kf376_1 rfl ?_
      refine y_iload 66 c25_65 rfl rfl ?_
      refine y_iadd 67 c25_66 rfl ?_
      refine y_iconst 70 c25_67 rfl ?_
      refine y_icmp 77 73 c25_70 rfl rfl (yc_gt (by omega) (by omega)) (fun hb => ?_) (fun hb => ?_)
      · refine y_iconst 78 c25_77 rfl ?_
        refine y_iconst 79 c25_78 rfl ?_
        refine y_callIB 82 [.ref 376, yI 0, yI 2] [] c25_79 rfl rfl rfl rfl rfl (ycanO km23 ko376) (t23 (by omega)) (fun r15 mr15 nr15 hr15 => ?_)
        obtain ⟨er15, rfl, hr15⟩ := hr15
        refine y_if 87 85 c25_82 rfl rfl (yz_ne (by omega)) (fun hb => ?_) (fun hb => ?_)
        · have hm : mr15 = yup m 376 57 0 := by
            rcases hr15 with ⟨-, q⟩ | ⟨q, -⟩
            · rw [q, yup_yup]
            · omega
          subst hm
          refine y_iload 88 c25_87 rfl rfl ?_
          refine y_iconst 89 c25_88 rfl ?_
          refine y_isub 90 c25_89 rfl ?_
          refine y_istore 92 c25_90 rfl rfl ?_
          exact t25b ⟨by omega, by omega, hgd⟩ h0 (by omega) n.toNat (n - 1) _ (by omega) (by omega) (yup_eq _ _ _ _) (by omega) (fun a q _ h3 => yup_ne (fun e => h3 ⟨e.1, Or.inr e.2⟩)) (fun q _ => yup_na (by decide)) (fun t h2 h3 => by omega)
        · have hm : mr15 = yup m 376 57 2 := by
            rcases hr15 with ⟨q, -⟩ | ⟨-, q⟩
            · omega
            · rw [q, yup_yup]
          refine y_iconst 86 c25_85 rfl ?_
          exact y_retI c25_86 (y_fit0 _) ⟨rfl, Or.inr (Or.inl ⟨⟨by omega, by omega, hgd⟩, by omega, hm⟩)⟩
      · refine y_iconst 74 c25_73 rfl ?_
        refine y_goto 78 c25_74 rfl ?_
        refine y_iconst 79 c25_78 rfl ?_
        refine y_callIB 82 [.ref 376, yI 1, yI 2] [] c25_79 rfl rfl rfl rfl rfl (ycanO km23 ko376) (t23 (by omega)) (fun r31 mr31 nr31 hr31 => ?_)
        obtain ⟨er31, rfl, hr31⟩ := hr31
        refine y_if 87 85 c25_82 rfl rfl (yz_ne (by omega)) (fun hb => ?_) (fun hb => ?_)
        · have hm : mr31 = yup m 376 57 0 := by
            rcases hr31 with ⟨-, q⟩ | ⟨q, -⟩
            · rw [q, yup_yup]
            · omega
          subst hm
          refine y_iload 88 c25_87 rfl rfl ?_
          refine y_iconst 89 c25_88 rfl ?_
          refine y_isub 90 c25_89 rfl ?_
          refine y_istore 92 c25_90 rfl rfl ?_
          exact t25b ⟨by omega, by omega, hgd⟩ h0 (by omega) n.toNat (n - 1) _ (by omega) (by omega) (yup_eq _ _ _ _) (by omega) (fun a q _ h3 => yup_ne (fun e => h3 ⟨e.1, Or.inr e.2⟩)) (fun q _ => yup_na (by decide)) (fun t h2 h3 => by omega)
        · have hm : mr31 = yup m 376 57 2 := by
            rcases hr31 with ⟨q, -⟩ | ⟨-, q⟩
            · omega
            · rw [q, yup_yup]
          refine y_iconst 86 c25_85 rfl ?_
          exact y_retI c25_86 (y_fit0 _) ⟨rfl, Or.inr (Or.inl ⟨⟨by omega, by omega, hgd⟩, by omega, hm⟩)⟩
    · exfalso; omega
  | succ j ih =>
    intro i hj hi hg
    have hb0 := bC_rng v i
    have hbe := rB_eq (v := v) (k := i) (by omega)
    unfold rB at hbe
    refine y_iload 22 c25_20 rfl rfl ?_
    refine y_iload 23 c25_22 rfl rfl ?_
    refine y_icmp 60 26 c25_23 rfl rfl (yc_ge (by omega) (by omega)) (fun hb => ?_) (fun hb => ?_)
    · exfalso; omega
    · refine y_lload 27 c25_26 rfl rfl ?_
      refine y_iconst 29 c25_27 rfl ?_
      refine y_iload 31 c25_29 rfl rfl ?_
      refine y_imul 32 c25_31 rfl ?_
      refine y_lshr 33 c25_32 rfl ?_
      refine y_l2i 34 c25_33 rfl ?_
      refine y_iconst 37 c25_34 rfl ?_
      refine y_iand 38 c25_37 rfl ?_
      refine y_iconst 40 c25_38 rfl ?_
      refine y_iconst 42 c25_40 rfl ?_
      refine y_callP 45 [yI ((Int32.ofInt ((v >>> ((Int32.ofInt (8 * i)).toInt64 &&& 63)).toInt32.toInt) &&& Int32.ofInt 255).toInt), yI 32, yI 126] [] c25_42 rfl rfl rfl rfl rfl (ycanS km22) (t22 (by omega) (by omega) (by omega)) (fun r15 hr15 => ?_)
      refine y_if 54 48 c25_45 rfl rfl (yz_ne (by omega)) (fun hb => ?_) (fun hb => ?_)
      · refine y_iinc 57 c25_54 rfl rfl rfl ?_
        refine y_goto 20 c25_57 rfl ?_
        exact ih (i + 1) (by omega) (by omega) (fun k h1 h2 => by
          by_cases e : k < i
          · exact hg k h1 e
          · have : k = i := by omega
            subst this
            omega)
      · refine y_aload 49 c25_48 rfl rfl rfl ?_
        refine y_iconst 50 c25_49 rfl ?_
        refine y_callIB 53 [.ref 376, yI 1] [] c25_50 rfl rfl rfl rfl rfl (ycanO km24 ko376) t24 (fun r23 mr23 nr23 hr23 => ?_)
        obtain ⟨er23, rfl, hr23⟩ := hr23
        exact y_retI c25_53 (y_fit0 _) ⟨rfl, Or.inl ⟨fun hq => by
          have := hq.2.2 i hi (by omega)
          omega, by rw [hr23, yup_yup]⟩⟩
theorem t25 {L : Nat} {xs : Nat → Int32} {d nn : Nat} {m : yM} {v : Int64} {n : Int} (h0 : 0 ≤ m 376 1) (h1 : m 376 1 ≤ 320) (hn : -2147483648 ≤ n ∧ n < 2147483648) : YC (gZ L xs) (d + 1) 25 [.ref 376, .long v, yI n] m nn (qI (fun r m' n' => n' = nn ∧ ((¬ gApp v n ∧ m' = yup m 376 57 1) ∨ (gApp v n ∧ ¬ m 376 1 + n ≤ 320 ∧ m' = yup m 376 57 2) ∨ (gApp v n ∧ m 376 1 + n ≤ 320 ∧ m' 376 57 = 0 ∧ r = m 376 1 + n ∧ m' 376 1 = r ∧ (∀ a q, a ≠ 377 → ¬ (a = 376 ∧ (q = 1 ∨ q = 57)) → m' a q = m a q) ∧ (∀ q, q < (m 376 1).toNat → m' 377 q = m 377 q) ∧ (∀ t, 1 ≤ t → t ≤ n → m' 377 (m 376 1 + t - 1).toNat = bC v (n - t)))))) := by
  refine YC.mkB [some (.ref 376), some (.long v), none, some (yI n), none] kn25 rfl rfl ?_
  refine y_aload 1 c25_0 rfl rfl rfl ?_
  refine y_iload 2 c25_1 rfl rfl ?_
  refine y_iconst 3 c25_2 rfl ?_
  refine y_iconst 5 c25_3 rfl ?_
  refine y_callP 8 [yI n, yI 1, yI 8] [.ref 376] c25_5 rfl rfl rfl rfl rfl (ycanS km22) (t22 (by omega) (by omega) (by omega)) (fun r4 hr4 => ?_)
  refine y_iconst 9 c25_8 rfl ?_
  refine y_callIB 12 [.ref 376, yI r4, yI 1] [] c25_9 rfl rfl rfl rfl rfl (ycanO km23 ko376) (t23 (by omega)) (fun r6 mr6 nr6 hr6 => ?_)
  obtain ⟨er6, rfl, hr6⟩ := hr6
  refine y_if 17 15 c25_12 rfl rfl (yz_ne (by omega)) (fun hb => ?_) (fun hb => ?_)
  · have hm : mr6 = yup m 376 57 0 := by
      rcases hr6 with ⟨-, q⟩ | ⟨q, -⟩
      · exact q
      · omega
    subst hm
    refine y_iconst 18 c25_17 rfl ?_
    refine y_istore 20 c25_18 rfl rfl ?_
    exact t25a h0 h1 (by omega) n.toNat 0 (by omega) (by omega) (fun k h2 h3 => by omega)
  · have hm : mr6 = yup m 376 57 1 := by
      rcases hr6 with ⟨q, -⟩ | ⟨-, q⟩
      · omega
      · exact q
    refine y_iconst 16 c25_15 rfl ?_
    exact y_retI c25_16 (y_fit0 _) ⟨rfl, Or.inl ⟨fun hq => by
      obtain ⟨q1, q2, -⟩ := hq
      omega, hm⟩⟩
end
section
/-! CONTRACTS: the law's append. Printed by wip/whole/gen75.py -/
theorem t21 {L : Nat} {xs : Nat → Int32} {d nn : Nat} {m : yM} {v : Int64} {n : Int} (h0 : 0 ≤ m 0 6) (h1 : m 0 6 ≤ 320) (hn : -2147483648 ≤ n ∧ n < 2147483648) : YC (gZ L xs) (d + 3) 21 [.ref 0, .long v, yI n, .ref 413] m nn (qI (fun r m' n' => (r = 1 ∧ ¬ gApp v n ∧ m' = m ∧ n' = nn + 1) ∨ (r = 2 ∧ gApp v n ∧ ¬ m 0 6 + n ≤ 320 ∧ m' = m ∧ n' = nn + 1) ∨ (r = 0 ∧ gApp v n ∧ m 0 6 + n ≤ 320 ∧ n' = nn ∧ ∃ m1, m' = yup m1 413 0 (m 0 6 + n) ∧ m1 0 6 = m 0 6 + n ∧ (∀ a q, a ≠ 1 → ¬ (a = 0 ∧ q = 6) → m1 a q = m a q) ∧ (∀ q, q < (m 0 6).toNat → m1 1 q = m 1 q) ∧ (∀ t, 1 ≤ t → t ≤ n → m1 1 (m 0 6 + t - 1).toNat = bC v (n - t))))) := by
  refine YC.mkB [some (.ref 0), some (.long v), none, some (yI n), some (.ref 413), none] kn21 rfl rfl ?_
  refine y_aload 2 c21_0 rfl rfl rfl ?_
  refine y_iconst 3 c21_2 rfl ?_
  refine y_aload 4 c21_3 rfl rfl rfl ?_
  refine y_lload 5 c21_4 rfl rfl ?_
  refine y_iload 6 c21_5 rfl rfl ?_
  refine y_callTB 9 [.ref 0, .long v, yI n] [yI 0, .ref 413] c21_6 rfl rfl rfl rfl rfl (ycanO km20 ko0) (t20 h0 h1 hn) (fun r m1 n1 hr => ?_) (fun e a m1 n1 he => ?_)
  · obtain ⟨rfl, ha, hf, hr, hl, k2, k3, k4⟩ := hr
    subst hr
    refine y_i2l 10 c21_9 rfl ?_
    refine y_lastoreN 11 (m 0 6 + n) c21_10 rfl kl413 (by decide) (by rw [Int32.toInt_toInt64]; have := ha.1; have := ha.2.1; exact y_rng (by omega)) ?_
    refine y_goto 22 c21_11 rfl ?_
    refine y_iconst 23 c21_22 rfl ?_
    exact y_retI c21_23 (y_fit0 _) (Or.inr (Or.inr ⟨rfl, ha, hf, rfl, m1, rfl, hl, k2, k3, k4⟩))
  · obtain ⟨rfl, rfl, he⟩ := he
    rcases he with ⟨rfl, ha⟩ | ⟨rfl, ha, hf⟩
    · refine Or.inl ⟨14, kh21_6_9, ?_⟩
      refine y_astore 16 c21_14 rfl rfl rfl ?_
      refine y_iconst 17 c21_16 rfl ?_
      exact y_retI c21_17 (y_fit0 _) (Or.inl ⟨rfl, ha, rfl, rfl⟩)
    · refine Or.inl ⟨18, kh21_6_10, ?_⟩
      refine y_astore 20 c21_18 rfl rfl rfl ?_
      refine y_iconst 21 c21_20 rfl ?_
      exact y_retI c21_21 (y_fit0 _) (Or.inr (Or.inl ⟨rfl, ha, hf, rfl, rfl⟩))
end
section
/-! TYPES OF PLACES: bounds that every write keeps; and what a method may write -/
section YT1
variable {t : Nat → Nat → Int × Int} {m m' m1 m2 : yM} {a q : Nat} {v lo hi : Int} {w w1 : Nat → Nat → Bool}
def Ty (t : Nat → Nat → Int × Int) (m : yM) : Prop := ∀ a q, (t a q).1 ≤ m a q ∧ m a q ≤ (t a q).2
theorem Ty.up (h : Ty t m) (a q : Nat) (v : Int) (lo hi : Int) (ht : t a q = (lo, hi)) (hv : lo ≤ v ∧ v ≤ hi) : Ty t (yup m a q v) := by
  intro b j
  by_cases e : b = a ∧ j = q
  · obtain ⟨rfl, rfl⟩ := e
    rw [yup_eq, ht]
    exact hv
  · rw [yup_ne e]
    exact h b j
theorem Ty.atp (h : Ty t m) (a q : Nat) (lo hi : Int) (ht : t a q = (lo, hi)) : lo ≤ m a q ∧ m a q ≤ hi := by
  have := h a q
  rw [ht] at this
  exact this
/-- nothing is changed but where w allows it -/
def Fr (w : Nat → Nat → Bool) (m m' : yM) : Prop := ∀ a q, w a q = false → m' a q = m a q
theorem Fr.rf : Fr w m m := fun _ _ _ => rfl
theorem Fr.up (h : Fr w m m1) (a q : Nat) (v : Int) (hw : w a q = true) : Fr w m (yup m1 a q v) := by
  intro b j hb
  by_cases e : b = a ∧ j = q
  · obtain ⟨rfl, rfl⟩ := e
    rw [hw] at hb
    cases hb
  · rw [yup_ne e]
    exact h b j hb
theorem Fr.tr (h : Fr w m m1) (h2 : Fr w1 m1 m2) (hs : ∀ a q, w1 a q = true → w a q = true) : Fr w m m2 := by
  intro b j hb
  have : w1 b j = false := by
    cases hw : w1 b j with
    | false => rfl
    | true => rw [hs b j hw] at hb; cases hb
  rw [h2 b j this]
  exact h b j hb
theorem Fr.tr' (h : Fr w m m1) (h2 : Fr w m1 m2) : Fr w m m2 := h.tr h2 (fun _ _ e => e)
theorem Fr.weak (h : Fr w1 m m1) (hs : ∀ a q, w1 a q = true → w a q = true) : Fr w m m1 := Fr.rf.tr h hs
end YT1
section YT2
variable {Z : yZ} {t : Nat → Nat → Int × Int} {i j d pc pc' w a b : Nat} {ls ls' : xL} {st st' : List Value} {m m' : yM} {n n' : Nat} {Q Qs : xO → yM → Nat → Prop} {o : xI}
/-- a place of an array: a new name, with its bounds -/
theorem y_iaT (pc' : Nat) {tt A e : Nat} {x : Int} (lo hi : Int) (ho : zP Z i pc = some (.iaload, w, tt, b)) (hp : pc + w = pc') (hf : yarr (zSh Z) (zN Z) A = some (tt, e)) (hx : 0 ≤ x ∧ x < e) (hT : Ty t m) (ht : t A x.toNat = (lo, hi)) (k : ∀ v, m A x.toNat = v → lo ≤ v ∧ v ≤ hi → YW Z i d pc' ls (yI v :: st) m n Q) : YW Z i d pc ls (yI x :: .ref A :: st) m n Q := y_iaload pc' ho hp hf hx (k _ rfl (hT.atp _ _ _ _ ht))
/-- a place of an object, likewise -/
theorem y_getT (pc' : Nat) {q ci tt A : Nat} (lo hi : Int) (ho : zP Z i pc = some (.getfield q, w, ci, b)) (hp : pc + w = pc') (hf : yfld (zSh Z) (zN Z) A q ci = some (.inl tt)) (hT : Ty t m) (ht : t A q = (lo, hi)) (k : ∀ v, m A q = v → lo ≤ v ∧ v ≤ hi → YW Z i d pc' ls (yI v :: st) m n Q) : YW Z i d pc ls (.ref A :: st) m n Q := y_getI pc' ho hp hf (k _ rfl (hT.atp _ _ _ _ ht))
/-- an int, wrapped -/
theorem y_wrap {x : Int} (k : ∀ v, v = (Int32.ofInt x).toInt → -2147483648 ≤ v ∧ v < 2147483648 → YW Z i d pc ls (yI v :: st) m n Q) : YW Z i d pc ls (yI x :: st) m n Q := by
  have h := k _ rfl ⟨(Int32.ofInt x).le_toInt, (Int32.ofInt x).toInt_lt⟩
  rw [y_back] at h
  exact h
/-- a name for the top -/
theorem y_nam {x : Int} (k : ∀ v, v = x → YW Z i d pc ls (yI v :: st) m n Q) : YW Z i d pc ls (yI x :: st) m n Q := k _ rfl
end YT2
end
section
/-! more rules -/
section YT3
variable {Z : yZ} {i j d pc pc' w a b : Nat} {ls ls' : xL} {st st' : List Value} {m m' : yM} {n n' : Nat} {Q Qs : xO → yM → Nat → Prop} {o : xI}
theorem y_callAB (pc' : Nat) (as : List Value) (st0 : List Value) {ix kk kd : Nat} {R : Nat → yM → Nat → Prop} (ho : zP Z i pc = some (.invokeinterface j ix, w, kk, kd)) (hp : pc + w = pc') (ha : (st.take kk).reverse = as) (hr : st.drop kk = st0) (hk : Nat.ble kk st.length = true) (hw : Nat.ble (xw st0) 8 = true) (hm : ycan Z j as) (hc : YC Z d j as m n (qA R)) (k1 : ∀ A m' n', R A m' n' → YW Z i (d + 1) pc' ls (.ref A :: st0) m' n' Q) : YW Z i (d + 1) pc ls st m n Q := y_callA pc' ho hp ha hr (Nat.le_of_ble_eq_true hk) (Nat.le_of_ble_eq_true hw) hm hc k1
theorem y_retA {A : Nat} {R : Nat → yM → Nat → Prop} (ho : zP Z i pc = some (.areturn, w, a, b)) (hq : R A m n) : YW Z i d pc ls [.ref A] m n (qA R) := y_areturn ho rfl ⟨A, rfl, hq⟩
end YT3
/-- the variables of each method lie below 48 -/
def MP (B : Nat) (m : yM) : Prop := ∀ k : Nat, k < 10 → m (B + k) 2 + 2 + m (B + k) 3 ≤ 48
end
section
/-! BOUNDS OF THE PLACES; cells that stand in rows. Printed by wip/whole/gen68.py -/
def gT (a q : Nat) : Int × Int := if a < 336 then (if a < 252 then (if a < 8 then (if a < 3 then (if a < 1 then ([((-2147483648), 2147483647), ((-2147483648), 2147483647), ((-2147483648), 2147483647), ((-2147483648), 2147483647), (0, 1), (0, 1), (0, 320), ((-2147483648), 2147483647)].getD q (-2147483648, 2147483647)) else (if a < 2 then ((0, 65535)) else ([((-2147483648), 2147483647), ((-1), 1), (0, 320), (0, 1), (0, 320)].getD q (-2147483648, 2147483647)))) else (if a < 6 then (if a < 4 then ([((-2147483648), 2147483647), ((-2147483648), 2147483647), ((-2147483648), 2147483647), ((-2147483648), 2147483647), (0, 321)].getD q (-2147483648, 2147483647)) else (((-2147483648), 2147483647))) else (if a < 7 then ((0, 320)) else (((-2147483648), 2147483647))))) else (if a < 219 then (if a < 169 then (if a < 9 then ([((-2147483648), 2147483647), ((-2147483648), 2147483647), ((-2147483648), 2147483647), ((-2147483648), 2147483647), ((-1), 1), (0, 2000), (0, 2001)].getD q (-2147483648, 2147483647)) else (((-2147483648), 2147483647))) else (if a < 170 then ([((-2147483648), 2147483647), ((-2147483648), 2147483647), ((-2147483648), 2147483647), ((-2147483648), 2147483647), ((-1), 1), (0, 30), (0, 200)].getD q (-2147483648, 2147483647)) else (((-2147483648), 2147483647)))) else (if a < 221 then (if a < 220 then ((0, 11)) else (((-2147483648), 2147483647))) else (if a < 251 then (((-1), 29)) else (((-2147483648), 2147483647)))))) else (if a < 276 then (if a < 259 then (if a < 257 then (if a < 256 then (((-1), 29)) else ([((-2147483648), 2147483647), ((-2147483648), 2147483647), ((-2147483648), 2147483647), ((-2147483648), 2147483647), ((-2147483648), 2147483647), ((-2147483648), 2147483647), ((-2147483648), 2147483647), ((-2147483648), 2147483647), ((-2147483648), 2147483647), (0, 6), (0, 10), (0, 8), (0, 12), (0, 8), (0, 12), (0, 48), (0, 40), ((-1), 9)].getD q (-2147483648, 2147483647))) else (if a < 258 then (((-2147483648), 2147483647)) else (((-1), 5)))) else (if a < 265 then (if a < 264 then (((-2147483648), 2147483647)) else ((0, 5))) else (if a < 266 then ((0, 39)) else ([((-2147483648), 2147483647), (0, 5), (0, 46), (0, 2), (0, 40), (0, 40)].getD q (-2147483648, 2147483647))))) else (if a < 319 then (if a < 317 then (if a < 316 then ([(0, 9), (0, 9), ((-1), 47), ((-1), 47), ((-2147483648), 2147483647), (0, 320), ((-1), 11), ((-1), 5), (0, 2), ((-1), 47), ((-1), 47), (0, 40), (0, 40)].getD q (-2147483648, 2147483647)) else ([((-2147483648), 2147483647), ((-2147483648), 2147483647), ((-2147483648), 2147483647), ((-2147483648), 2147483647), ((-2147483648), 2147483647), ((-2147483648), 2147483647), ((-2147483648), 2147483647), ((-2147483648), 2147483647), ((-2147483648), 2147483647), (0, 6), (0, 10), (0, 8), (0, 12), (0, 8), (0, 12), (0, 48), (0, 40), ((-1), 9)].getD q (-2147483648, 2147483647))) else (if a < 318 then (((-2147483648), 2147483647)) else (((-1), 5)))) else (if a < 325 then (if a < 324 then (((-2147483648), 2147483647)) else ((0, 5))) else (if a < 326 then ((0, 39)) else ([((-2147483648), 2147483647), (0, 5), (0, 46), (0, 2), (0, 40), (0, 40)].getD q (-2147483648, 2147483647))))))) else (if a < 391 then (if a < 383 then (if a < 378 then (if a < 376 then ([(0, 9), (0, 9), ((-1), 47), ((-1), 47), ((-2147483648), 2147483647), (0, 320), ((-1), 11), ((-1), 5), (0, 2), ((-1), 47), ((-1), 47), (0, 40), (0, 40)].getD q (-2147483648, 2147483647)) else (if a < 377 then ([((-2147483648), 2147483647), (0, 320), ((-2147483648), 2147483647), (0, 3), ((-2147483648), 2147483647), (0, 320), (0, 320), (0, 320), ((-1), 320), (0, 40), (0, 3), ((-2147483648), 2147483647), ((-2147483648), 2147483647), ((-2147483648), 2147483647), (0, 46), ((-2147483648), 2147483647), ((-2147483648), 2147483647), (0, 20), (0, 1), (0, 1), ((-2147483648), 2147483647), ((-2147483648), 2147483647), ((-2147483648), 2147483647), ((-2147483648), 2147483647), ((-2147483648), 2147483647), ((-2147483648), 2147483647), ((-2147483648), 2147483647), ((-2147483648), 2147483647), ((-2147483648), 2147483647), ((-2147483648), 2147483647), ((-2147483648), 2147483647), ((-2147483648), 2147483647), ((-2147483648), 2147483647), ((-2147483648), 2147483647), ((-2147483648), 2147483647), ((-2147483648), 2147483647), ((-2147483648), 2147483647), ((-2147483648), 2147483647), ((-2147483648), 2147483647), ((-2147483648), 2147483647), ((-2147483648), 2147483647), ((-2147483648), 2147483647), ((-2147483648), 2147483647), ((-2147483648), 2147483647), ((-2147483648), 2147483647), ((-2147483648), 2147483647), (0, 1), ((-2147483648), 2147483647), ((-2147483648), 2147483647), ((-2147483648), 2147483647), ((-2147483648), 2147483647), (0, 30), ((-2147483648), 2147483647), ((-2147483648), 2147483647), (0, 4), (0, 124), (0, 201), (0, 4)].getD q (-2147483648, 2147483647)) else ((0, 255)))) else (if a < 380 then (if a < 379 then ((0, 3)) else ((0, 124))) else (if a < 382 then (((-2147483648), 2147483647)) else ((0, 320))))) else (if a < 387 then (if a < 385 then (if a < 384 then ((0, 6)) else ((0, 10))) else (if a < 386 then ((0, 8)) else ((0, 12)))) else (if a < 389 then (if a < 388 then ((0, 8)) else ((0, 12))) else (if a < 390 then ((0, 48)) else ((0, 125)))))) else (if a < 400 then (if a < 396 then (if a < 393 then (if a < 392 then (((-2147483648), 2147483647)) else (((-1), 5))) else (if a < 394 then ((0, 1)) else (((-2147483648), 2147483647)))) else (if a < 398 then (if a < 397 then ((0, 5)) else ((0, 2))) else (if a < 399 then ((0, 46)) else ((0, 125))))) else (if a < 409 then (if a < 402 then (if a < 401 then (((-2147483648), 2147483647)) else (((-1), 47))) else (if a < 408 then (((-2147483648), 2147483647)) else ((0, 1)))) else (if a < 412 then (if a < 410 then ((0, 11)) else ((0, 30))) else (if a < 413 then ((0, 124)) else (((-2147483648), 2147483647)))))))
def gTyB (m : yM) : Bool := (List.range 414).all (fun a => (List.range 60).all (fun q => decide ((gT a q).1 ≤ m a q ∧ m a q ≤ (gT a q).2)))
theorem fa10 : ∀ {k : Nat}, k < 48 → yarr gSh 414 (10 + k) = some (0, 12) := by decide +kernel
theorem fz10 {q : Nat} : ∀ {k : Nat}, k < 48 → gT (10 + k) q = ((-2147483648), 2147483647) := by
  intro k hk
  have e : ∀ k, k < 48 → ∀ q, gT (10 + k) q = ((-2147483648), 2147483647) := by
    intro k hk q
    unfold gT
    repeat (first | rw [if_pos (by omega)] | rw [if_neg (by omega)])
  exact e k hk q
theorem fa59 : ∀ {k : Nat}, k < 12 → yarr gSh 414 (59 + k) = some (0, 10) := by decide +kernel
theorem fz59 {q : Nat} : ∀ {k : Nat}, k < 12 → gT (59 + k) q = ((-2147483648), 2147483647) := by
  intro k hk
  have e : ∀ k, k < 12 → ∀ q, gT (59 + k) q = ((-2147483648), 2147483647) := by
    intro k hk q
    unfold gT
    repeat (first | rw [if_pos (by omega)] | rw [if_neg (by omega)])
  exact e k hk q
theorem fa73 : ∀ {k : Nat}, k < 96 → yarr gSh 414 (73 + k) = some (0, 12) := by decide +kernel
theorem fz73 {q : Nat} : ∀ {k : Nat}, k < 96 → gT (73 + k) q = ((-2147483648), 2147483647) := by
  intro k hk
  have e : ∀ k, k < 96 → ∀ q, gT (73 + k) q = ((-2147483648), 2147483647) := by
    intro k hk q
    unfold gT
    repeat (first | rw [if_pos (by omega)] | rw [if_neg (by omega)])
  exact e k hk q
theorem fa171 : ∀ {k : Nat}, k < 48 → yarr gSh 414 (171 + k) = some (0, 12) := by decide +kernel
theorem fz171 {q : Nat} : ∀ {k : Nat}, k < 48 → gT (171 + k) q = ((-2147483648), 2147483647) := by
  intro k hk
  have e : ∀ k, k < 48 → ∀ q, gT (171 + k) q = ((-2147483648), 2147483647) := by
    intro k hk q
    unfold gT
    repeat (first | rw [if_pos (by omega)] | rw [if_neg (by omega)])
  exact e k hk q
theorem fa221 : ∀ {k : Nat}, k < 30 → yarr gSh 414 (221 + k) = some (0, 8) := by decide +kernel
theorem fz221 {q : Nat} : ∀ {k : Nat}, k < 30 → gT (221 + k) q = ((-1), 29) := by
  intro k hk
  have e : ∀ k, k < 30 → ∀ q, gT (221 + k) q = ((-1), 29) := by
    intro k hk q
    unfold gT
    repeat (first | rw [if_pos (by omega)] | rw [if_neg (by omega)])
  exact e k hk q
theorem fa252 : ∀ {k : Nat}, k < 4 → yarr gSh 414 (252 + k) = some (0, 48) := by decide +kernel
theorem fz252 {q : Nat} : ∀ {k : Nat}, k < 4 → gT (252 + k) q = ((-1), 29) := by
  intro k hk
  have e : ∀ k, k < 4 → ∀ q, gT (252 + k) q = ((-1), 29) := by
    intro k hk q
    unfold gT
    repeat (first | rw [if_pos (by omega)] | rw [if_neg (by omega)])
  exact e k hk q
theorem fo266 : ∀ {k : Nat}, k < 10 → yobj gSh 414 (266 + k) = some 4 := by decide +kernel
theorem ff266_0 : ∀ {k : Nat}, k < 10 → yfld gSh 414 (266 + k) 0 4 = some (.inl 0) := by decide +kernel
theorem ft266_0 : ∀ {k : Nat}, k < 10 → gT (266 + k) 0 = ((-2147483648), 2147483647) := by decide +kernel
theorem ff266_1 : ∀ {k : Nat}, k < 10 → yfld gSh 414 (266 + k) 1 4 = some (.inl 0) := by decide +kernel
theorem ft266_1 : ∀ {k : Nat}, k < 10 → gT (266 + k) 1 = (0, 5) := by decide +kernel
theorem ff266_2 : ∀ {k : Nat}, k < 10 → yfld gSh 414 (266 + k) 2 4 = some (.inl 0) := by decide +kernel
theorem ft266_2 : ∀ {k : Nat}, k < 10 → gT (266 + k) 2 = (0, 46) := by decide +kernel
theorem ff266_3 : ∀ {k : Nat}, k < 10 → yfld gSh 414 (266 + k) 3 4 = some (.inl 0) := by decide +kernel
theorem ft266_3 : ∀ {k : Nat}, k < 10 → gT (266 + k) 3 = (0, 2) := by decide +kernel
theorem ff266_4 : ∀ {k : Nat}, k < 10 → yfld gSh 414 (266 + k) 4 4 = some (.inl 0) := by decide +kernel
theorem ft266_4 : ∀ {k : Nat}, k < 10 → gT (266 + k) 4 = (0, 40) := by decide +kernel
theorem ff266_5 : ∀ {k : Nat}, k < 10 → yfld gSh 414 (266 + k) 5 4 = some (.inl 0) := by decide +kernel
theorem ft266_5 : ∀ {k : Nat}, k < 10 → gT (266 + k) 5 = (0, 40) := by decide +kernel
theorem fo276 : ∀ {k : Nat}, k < 40 → yobj gSh 414 (276 + k) = some 5 := by decide +kernel
theorem ff276_0 : ∀ {k : Nat}, k < 40 → yfld gSh 414 (276 + k) 0 5 = some (.inl 0) := by decide +kernel
theorem ft276_0 : ∀ {k : Nat}, k < 40 → gT (276 + k) 0 = (0, 9) := by decide +kernel
theorem ff276_1 : ∀ {k : Nat}, k < 40 → yfld gSh 414 (276 + k) 1 5 = some (.inl 0) := by decide +kernel
theorem ft276_1 : ∀ {k : Nat}, k < 40 → gT (276 + k) 1 = (0, 9) := by decide +kernel
theorem ff276_2 : ∀ {k : Nat}, k < 40 → yfld gSh 414 (276 + k) 2 5 = some (.inl 0) := by decide +kernel
theorem ft276_2 : ∀ {k : Nat}, k < 40 → gT (276 + k) 2 = ((-1), 47) := by decide +kernel
theorem ff276_3 : ∀ {k : Nat}, k < 40 → yfld gSh 414 (276 + k) 3 5 = some (.inl 0) := by decide +kernel
theorem ft276_3 : ∀ {k : Nat}, k < 40 → gT (276 + k) 3 = ((-1), 47) := by decide +kernel
theorem ff276_4 : ∀ {k : Nat}, k < 40 → yfld gSh 414 (276 + k) 4 5 = some (.inl 0) := by decide +kernel
theorem ft276_4 : ∀ {k : Nat}, k < 40 → gT (276 + k) 4 = ((-2147483648), 2147483647) := by decide +kernel
theorem ff276_5 : ∀ {k : Nat}, k < 40 → yfld gSh 414 (276 + k) 5 5 = some (.inl 0) := by decide +kernel
theorem ft276_5 : ∀ {k : Nat}, k < 40 → gT (276 + k) 5 = (0, 320) := by decide +kernel
theorem ff276_6 : ∀ {k : Nat}, k < 40 → yfld gSh 414 (276 + k) 6 5 = some (.inl 0) := by decide +kernel
theorem ft276_6 : ∀ {k : Nat}, k < 40 → gT (276 + k) 6 = ((-1), 11) := by decide +kernel
theorem ff276_7 : ∀ {k : Nat}, k < 40 → yfld gSh 414 (276 + k) 7 5 = some (.inl 0) := by decide +kernel
theorem ft276_7 : ∀ {k : Nat}, k < 40 → gT (276 + k) 7 = ((-1), 5) := by decide +kernel
theorem ff276_8 : ∀ {k : Nat}, k < 40 → yfld gSh 414 (276 + k) 8 5 = some (.inl 0) := by decide +kernel
theorem ft276_8 : ∀ {k : Nat}, k < 40 → gT (276 + k) 8 = (0, 2) := by decide +kernel
theorem ff276_9 : ∀ {k : Nat}, k < 40 → yfld gSh 414 (276 + k) 9 5 = some (.inl 0) := by decide +kernel
theorem ft276_9 : ∀ {k : Nat}, k < 40 → gT (276 + k) 9 = ((-1), 47) := by decide +kernel
theorem ff276_10 : ∀ {k : Nat}, k < 40 → yfld gSh 414 (276 + k) 10 5 = some (.inl 0) := by decide +kernel
theorem ft276_10 : ∀ {k : Nat}, k < 40 → gT (276 + k) 10 = ((-1), 47) := by decide +kernel
theorem ff276_11 : ∀ {k : Nat}, k < 40 → yfld gSh 414 (276 + k) 11 5 = some (.inl 0) := by decide +kernel
theorem ft276_11 : ∀ {k : Nat}, k < 40 → gT (276 + k) 11 = (0, 40) := by decide +kernel
theorem ff276_12 : ∀ {k : Nat}, k < 40 → yfld gSh 414 (276 + k) 12 5 = some (.inl 0) := by decide +kernel
theorem ft276_12 : ∀ {k : Nat}, k < 40 → gT (276 + k) 12 = (0, 40) := by decide +kernel
theorem fo326 : ∀ {k : Nat}, k < 10 → yobj gSh 414 (326 + k) = some 4 := by decide +kernel
theorem ff326_0 : ∀ {k : Nat}, k < 10 → yfld gSh 414 (326 + k) 0 4 = some (.inl 0) := by decide +kernel
theorem ft326_0 : ∀ {k : Nat}, k < 10 → gT (326 + k) 0 = ((-2147483648), 2147483647) := by decide +kernel
theorem ff326_1 : ∀ {k : Nat}, k < 10 → yfld gSh 414 (326 + k) 1 4 = some (.inl 0) := by decide +kernel
theorem ft326_1 : ∀ {k : Nat}, k < 10 → gT (326 + k) 1 = (0, 5) := by decide +kernel
theorem ff326_2 : ∀ {k : Nat}, k < 10 → yfld gSh 414 (326 + k) 2 4 = some (.inl 0) := by decide +kernel
theorem ft326_2 : ∀ {k : Nat}, k < 10 → gT (326 + k) 2 = (0, 46) := by decide +kernel
theorem ff326_3 : ∀ {k : Nat}, k < 10 → yfld gSh 414 (326 + k) 3 4 = some (.inl 0) := by decide +kernel
theorem ft326_3 : ∀ {k : Nat}, k < 10 → gT (326 + k) 3 = (0, 2) := by decide +kernel
theorem ff326_4 : ∀ {k : Nat}, k < 10 → yfld gSh 414 (326 + k) 4 4 = some (.inl 0) := by decide +kernel
theorem ft326_4 : ∀ {k : Nat}, k < 10 → gT (326 + k) 4 = (0, 40) := by decide +kernel
theorem ff326_5 : ∀ {k : Nat}, k < 10 → yfld gSh 414 (326 + k) 5 4 = some (.inl 0) := by decide +kernel
theorem ft326_5 : ∀ {k : Nat}, k < 10 → gT (326 + k) 5 = (0, 40) := by decide +kernel
theorem fo336 : ∀ {k : Nat}, k < 40 → yobj gSh 414 (336 + k) = some 5 := by decide +kernel
theorem ff336_0 : ∀ {k : Nat}, k < 40 → yfld gSh 414 (336 + k) 0 5 = some (.inl 0) := by decide +kernel
theorem ft336_0 : ∀ {k : Nat}, k < 40 → gT (336 + k) 0 = (0, 9) := by decide +kernel
theorem ff336_1 : ∀ {k : Nat}, k < 40 → yfld gSh 414 (336 + k) 1 5 = some (.inl 0) := by decide +kernel
theorem ft336_1 : ∀ {k : Nat}, k < 40 → gT (336 + k) 1 = (0, 9) := by decide +kernel
theorem ff336_2 : ∀ {k : Nat}, k < 40 → yfld gSh 414 (336 + k) 2 5 = some (.inl 0) := by decide +kernel
theorem ft336_2 : ∀ {k : Nat}, k < 40 → gT (336 + k) 2 = ((-1), 47) := by decide +kernel
theorem ff336_3 : ∀ {k : Nat}, k < 40 → yfld gSh 414 (336 + k) 3 5 = some (.inl 0) := by decide +kernel
theorem ft336_3 : ∀ {k : Nat}, k < 40 → gT (336 + k) 3 = ((-1), 47) := by decide +kernel
theorem ff336_4 : ∀ {k : Nat}, k < 40 → yfld gSh 414 (336 + k) 4 5 = some (.inl 0) := by decide +kernel
theorem ft336_4 : ∀ {k : Nat}, k < 40 → gT (336 + k) 4 = ((-2147483648), 2147483647) := by decide +kernel
theorem ff336_5 : ∀ {k : Nat}, k < 40 → yfld gSh 414 (336 + k) 5 5 = some (.inl 0) := by decide +kernel
theorem ft336_5 : ∀ {k : Nat}, k < 40 → gT (336 + k) 5 = (0, 320) := by decide +kernel
theorem ff336_6 : ∀ {k : Nat}, k < 40 → yfld gSh 414 (336 + k) 6 5 = some (.inl 0) := by decide +kernel
theorem ft336_6 : ∀ {k : Nat}, k < 40 → gT (336 + k) 6 = ((-1), 11) := by decide +kernel
theorem ff336_7 : ∀ {k : Nat}, k < 40 → yfld gSh 414 (336 + k) 7 5 = some (.inl 0) := by decide +kernel
theorem ft336_7 : ∀ {k : Nat}, k < 40 → gT (336 + k) 7 = ((-1), 5) := by decide +kernel
theorem ff336_8 : ∀ {k : Nat}, k < 40 → yfld gSh 414 (336 + k) 8 5 = some (.inl 0) := by decide +kernel
theorem ft336_8 : ∀ {k : Nat}, k < 40 → gT (336 + k) 8 = (0, 2) := by decide +kernel
theorem ff336_9 : ∀ {k : Nat}, k < 40 → yfld gSh 414 (336 + k) 9 5 = some (.inl 0) := by decide +kernel
theorem ft336_9 : ∀ {k : Nat}, k < 40 → gT (336 + k) 9 = ((-1), 47) := by decide +kernel
theorem ff336_10 : ∀ {k : Nat}, k < 40 → yfld gSh 414 (336 + k) 10 5 = some (.inl 0) := by decide +kernel
theorem ft336_10 : ∀ {k : Nat}, k < 40 → gT (336 + k) 10 = ((-1), 47) := by decide +kernel
theorem ff336_11 : ∀ {k : Nat}, k < 40 → yfld gSh 414 (336 + k) 11 5 = some (.inl 0) := by decide +kernel
theorem ft336_11 : ∀ {k : Nat}, k < 40 → gT (336 + k) 11 = (0, 40) := by decide +kernel
theorem ff336_12 : ∀ {k : Nat}, k < 40 → yfld gSh 414 (336 + k) 12 5 = some (.inl 0) := by decide +kernel
theorem ft336_12 : ∀ {k : Nat}, k < 40 → gT (336 + k) 12 = (0, 40) := by decide +kernel
end

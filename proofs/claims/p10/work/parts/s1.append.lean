/-! APPEND, with the types of places. Printed by wip/whole/gen9k.py out of the parts 75 to 77 -/
theorem t20lT {L : Nat} {xs : Nat → Int32} {d nn : Nat} {m : yM} {v : Int64} {n : Int} (ha : gApp v n) (h0 : 0 ≤ m 0 6) (h1 : m 0 6 + n ≤ 320) : ∀ (j : Nat) (i : Int) (mi : yM), i + j = n + 1 → 1 ≤ i → mi 0 6 = m 0 6 + i - 1 → (∀ a q, a ≠ 1 → ¬ (a = 0 ∧ q = 6) → mi a q = m a q) → (∀ q, q < (m 0 6).toNat → mi 1 q = m 1 q) → (∀ t, 1 ≤ t → t < i → mi 1 (m 0 6 + t - 1).toNat = bC v (n - t)) → Ty gT mi → YW (gZ L xs) 20 (d + 2) 50 [some (.ref 0), some (.long v), none, some (yI n), some (yI i)] [] mi nn (qT (fun r m' n' => n' = nn ∧ gApp v n ∧ m 0 6 + n ≤ 320 ∧ r = m 0 6 + n ∧ m' 0 6 = r ∧ (∀ a q, a ≠ 1 → ¬ (a = 0 ∧ q = 6) → m' a q = m a q) ∧ (∀ q, q < (m 0 6).toNat → m' 1 q = m 1 q) ∧ (∀ t, 1 ≤ t → t ≤ n → m' 1 (m 0 6 + t - 1).toNat = bC v (n - t)) ∧ Ty gT m') (fun e m' n' => n' = nn + 1 ∧ m' = m ∧ ((e = 9 ∧ ¬ gApp v n) ∨ (e = 10 ∧ gApp v n ∧ ¬ m 0 6 + n ≤ 320)))) := by
  intro j
  have hn8 := ha.2.1
  have hn1 := ha.1
  induction j with
  | zero =>
    intro i mi hj hi k1 k2 k3 k4 k5
    refine y_iload 52 c20_50 rfl rfl ?_
    refine y_iload 53 c20_52 rfl rfl ?_
    refine y_icmp 90 56 c20_53 rfl rfl (yc_gt (by omega) (by omega)) (fun hb => ?_) (fun hb => ?_)
    · refine y_aload 91 c20_90 rfl rfl rfl ?_
      refine y_getI 94 c20_91 rfl kf0_6 ?_
      exact y_retT c20_94 (y_fit0 _) ⟨rfl, ha, h1, by omega, rfl, k2, k3, fun t t1 t2 => k4 t t1 (by omega), k5⟩
    · exfalso; omega
  | succ j ih =>
    intro i mi hj hi k1 k2 k3 k4 k5
    have hb0 := bC_rng v (n - i)
    refine y_iload 52 c20_50 rfl rfl ?_
    refine y_iload 53 c20_52 rfl rfl ?_
    refine y_icmp 90 56 c20_53 rfl rfl (yc_gt (by omega) (by omega)) (fun hb => ?_) (fun hb => ?_)
    · refine y_aload 91 c20_90 rfl rfl rfl ?_
      refine y_getX 94 (mi 0 6) c20_91 rfl kf0_6 rfl ?_
      exfalso; omega
    · refine y_aload 57 c20_56 rfl rfl rfl ?_
      refine y_getR 60 c20_57 rfl kf0_0 ?_
      refine y_aload 61 c20_60 rfl rfl rfl ?_
      refine y_getX 64 (mi 0 6) c20_61 rfl kf0_6 rfl ?_
      refine y_lload 65 c20_64 rfl rfl ?_
      refine y_iload 66 c20_65 rfl rfl ?_
      refine y_iload 68 c20_66 rfl rfl ?_
      refine y_isub 69 c20_68 rfl ?_
      refine y_callP 72 [.long v, yI (n - i)] [yI (mi 0 6), .ref 1] c20_69 rfl rfl rfl rfl rfl (ycanS km18) t18 (fun r15 hr15 => ?_)
      subst hr15
      refine y_i2cN 73 c20_72 rfl (by omega) ?_
      refine y_iastore 74 c20_73 rfl ka1 (by omega) (y_nar3 (by omega)) ?_
      refine y_aload 75 c20_74 rfl rfl rfl ?_
      refine y_dup 76 c20_75 rfl rfl ?_
      refine y_getX 79 (mi 0 6) c20_76 rfl kf0_6 rfl ?_
      refine y_iconst 80 c20_79 rfl ?_
      refine y_iadd 81 c20_80 rfl ?_
      refine y_putI 84 c20_81 rfl kf0_6 (y_fit0 _) ?_
      refine y_iinc 87 c20_84 rfl rfl rfl ?_
      refine y_goto 50 c20_87 rfl ?_
      refine ih (i + 1) _ (by omega) (by omega) ?_ ?_ ?_ ?_ ((k5.up 1 _ _ 0 65535 rfl (by omega)).up 0 6 _ 0 320 rfl (by omega))
      · simp only [yup_eq]; omega
      · intro a q h2 h3
        rw [yup_ne h3, yup_na h2]
        exact k2 a q h2 h3
      · intro q hq
        rw [yup_na (by decide), yup_nk (by omega)]
        exact k3 q hq
      · intro t h2 h3
        rw [yup_na (by decide)]
        by_cases e : t = i
        · subst e
          rw [show (m 0 6 + t - 1).toNat = (mi 0 6).toNat by omega, yup_eq]
        · rw [yup_nk (by omega)]
          exact k4 t h2 (by omega)

theorem t20T {L : Nat} {xs : Nat → Int32} {d nn : Nat} {m : yM} {v : Int64} {n : Int} (hT : Ty gT m) (h0 : 0 ≤ m 0 6) (h1 : m 0 6 ≤ 320) (hn : -2147483648 ≤ n ∧ n < 2147483648) : YC (gZ L xs) (d + 2) 20 [.ref 0, .long v, yI n] m nn (qT (fun r m' n' => n' = nn ∧ gApp v n ∧ m 0 6 + n ≤ 320 ∧ r = m 0 6 + n ∧ m' 0 6 = r ∧ (∀ a q, a ≠ 1 → ¬ (a = 0 ∧ q = 6) → m' a q = m a q) ∧ (∀ q, q < (m 0 6).toNat → m' 1 q = m 1 q) ∧ (∀ t, 1 ≤ t → t ≤ n → m' 1 (m 0 6 + t - 1).toNat = bC v (n - t)) ∧ Ty gT m') (fun e m' n' => n' = nn + 1 ∧ m' = m ∧ ((e = 9 ∧ ¬ gApp v n) ∨ (e = 10 ∧ gApp v n ∧ ¬ m 0 6 + n ≤ 320)))) := by
  refine YC.mkB [some (.ref 0), some (.long v), none, some (yI n), none] kn20 rfl rfl ?_
  refine y_iload 1 c20_0 rfl rfl ?_
  refine y_iconst 2 c20_1 rfl ?_
  refine y_icmp 19 5 c20_2 rfl rfl (yc_lt (by omega) (by omega)) (fun hb => ?_) (fun hb => ?_)
  · exact y_thrT c20_19 rfl ⟨rfl, rfl, Or.inl ⟨rfl, fun hq => by
      obtain ⟨q1, q2, q3⟩ := hq
      first | omega | (rcases hrr with ⟨e, -⟩ | ⟨e, e2⟩ <;> first | omega | exact e2 q3)⟩⟩
  · refine y_iload 6 c20_5 rfl rfl ?_
    refine y_iconst 8 c20_6 rfl ?_
    refine y_icmp 19 11 c20_8 rfl rfl (yc_gt (by omega) (by omega)) (fun hb => ?_) (fun hb => ?_)
    · exact y_thrT c20_19 rfl ⟨rfl, rfl, Or.inl ⟨rfl, fun hq => by
        obtain ⟨q1, q2, q3⟩ := hq
        first | omega | (rcases hrr with ⟨e, -⟩ | ⟨e, e2⟩ <;> first | omega | exact e2 q3)⟩⟩
    · refine y_lload 12 c20_11 rfl rfl ?_
      refine y_iload 13 c20_12 rfl rfl ?_
      refine y_callP 16 [.long v, yI n] [] c20_13 rfl rfl rfl rfl rfl (ycanS km19) (t19 (by omega)) (fun r12 hr12 => ?_)
      have hrr := hr12
      refine y_if 27 19 c20_16 rfl rfl (yz_ne (by omega)) (fun hb => ?_) (fun hb => ?_)
      · have hgd : gGood v n := by
          rcases hrr with ⟨-, e⟩ | ⟨e, -⟩
          · exact e
          · omega
        refine y_aload 28 c20_27 rfl rfl rfl ?_
        refine y_getX 31 (m 0 6) c20_28 rfl kf0_6 rfl ?_
        refine y_iload 32 c20_31 rfl rfl ?_
        refine y_iadd 33 c20_32 rfl ?_
        refine y_iconst 36 c20_33 rfl ?_
        refine y_icmp 47 39 c20_36 rfl rfl (yc_le (by omega) (by omega)) (fun hb => ?_) (fun hb => ?_)
        · refine y_iconst 48 c20_47 rfl ?_
          refine y_istore 50 c20_48 rfl rfl ?_
          exact t20lT ⟨by omega, by omega, hgd⟩ h0 (by omega) n.toNat 1 m (by omega) (by omega) (by omega) (fun a q _ _ => rfl) (fun q _ => rfl) (fun t h2 h3 => by omega) hT
        · exact y_thrT c20_39 rfl ⟨rfl, rfl, Or.inr ⟨rfl, ⟨by omega, by omega, hgd⟩, by omega⟩⟩
      · exact y_thrT c20_19 rfl ⟨rfl, rfl, Or.inl ⟨rfl, fun hq => by
          obtain ⟨q1, q2, q3⟩ := hq
          first | omega | (rcases hrr with ⟨e, -⟩ | ⟨e, e2⟩ <;> first | omega | exact e2 q3)⟩⟩

theorem t21T {L : Nat} {xs : Nat → Int32} {d nn : Nat} {m : yM} {v : Int64} {n : Int} (hT : Ty gT m) (h0 : 0 ≤ m 0 6) (h1 : m 0 6 ≤ 320) (hn : -2147483648 ≤ n ∧ n < 2147483648) : YC (gZ L xs) (d + 3) 21 [.ref 0, .long v, yI n, .ref 413] m nn (qI (fun r m' n' => (r = 1 ∧ ¬ gApp v n ∧ m' = m ∧ n' = nn + 1) ∨ (r = 2 ∧ gApp v n ∧ ¬ m 0 6 + n ≤ 320 ∧ m' = m ∧ n' = nn + 1) ∨ (r = 0 ∧ gApp v n ∧ m 0 6 + n ≤ 320 ∧ n' = nn ∧ ∃ m1, m' = yup m1 413 0 (m 0 6 + n) ∧ m1 0 6 = m 0 6 + n ∧ (∀ a q, a ≠ 1 → ¬ (a = 0 ∧ q = 6) → m1 a q = m a q) ∧ (∀ q, q < (m 0 6).toNat → m1 1 q = m 1 q) ∧ (∀ t, 1 ≤ t → t ≤ n → m1 1 (m 0 6 + t - 1).toNat = bC v (n - t)) ∧ Ty gT m1))) := by
  refine YC.mkB [some (.ref 0), some (.long v), none, some (yI n), some (.ref 413), none] kn21 rfl rfl ?_
  refine y_aload 2 c21_0 rfl rfl rfl ?_
  refine y_iconst 3 c21_2 rfl ?_
  refine y_aload 4 c21_3 rfl rfl rfl ?_
  refine y_lload 5 c21_4 rfl rfl ?_
  refine y_iload 6 c21_5 rfl rfl ?_
  refine y_callTB 9 [.ref 0, .long v, yI n] [yI 0, .ref 413] c21_6 rfl rfl rfl rfl rfl (ycanO km20 ko0) (t20T hT h0 h1 hn) (fun r m1 n1 hr => ?_) (fun e a m1 n1 he => ?_)
  · obtain ⟨rfl, ha, hf, hr, hl, k2, k3, k4, k5⟩ := hr
    subst hr
    refine y_i2l 10 c21_9 rfl ?_
    refine y_lastoreN 11 (m 0 6 + n) c21_10 rfl kl413 (by decide) (by rw [Int32.toInt_toInt64]; have := ha.1; have := ha.2.1; exact y_rng (by omega)) ?_
    refine y_goto 22 c21_11 rfl ?_
    refine y_iconst 23 c21_22 rfl ?_
    exact y_retI c21_23 (y_fit0 _) (Or.inr (Or.inr ⟨rfl, ha, hf, rfl, m1, rfl, hl, k2, k3, k4, k5⟩))
  · obtain ⟨rfl, rfl, he⟩ := he
    rcases he with ⟨rfl, ha⟩ | ⟨rfl, ha, hf⟩
    · refine Or.inl ⟨14, kh21_6_9, ?_⟩
      refine y_astore 16 c21_14 rfl rfl rfl ?_
      refine y_iconst 17 c21_16 rfl ?_
      exact y_retI c21_17 (y_fit0 _) (Or.inl ⟨rfl, ha, rfl, rfl⟩)
    · refine Or.inl ⟨18, kh21_6_10, ?_⟩
      refine y_astore 20 c21_18 rfl rfl rfl ?_
      refine y_iconst 21 c21_20 rfl ?_
      exact y_retI c21_21 (y_fit0 _) (Or.inr (Or.inl ⟨rfl, ha, hf, rfl, rfl⟩))

theorem t25bT {L : Nat} {xs : Nat → Int32} {d nn : Nat} {m : yM} {v : Int64} {n : Int} (ha : gApp v n) (h0 : 0 ≤ m 376 1) (h1 : m 376 1 + n ≤ 320) : ∀ (j : Nat) (i : Int) (mi : yM), i + 1 = j → i < n → mi 376 57 = 0 → mi 376 1 = m 376 1 + n - 1 - i → (∀ a q, a ≠ 377 → ¬ (a = 376 ∧ (q = 1 ∨ q = 57)) → mi a q = m a q) → (∀ q, q < (m 376 1).toNat → mi 377 q = m 377 q) → (∀ t, 1 ≤ t → t < n - i → mi 377 (m 376 1 + t - 1).toNat = bC v (n - t)) → Ty gT mi → YW (gZ L xs) 25 (d + 1) 92 [some (.ref 376), some (.long v), none, some (yI n), some (yI i)] [] mi nn (qI (fun r m' n' => n' = nn ∧ ((¬ gApp v n ∧ m' = yup m 376 57 1) ∨ (gApp v n ∧ ¬ m 376 1 + n ≤ 320 ∧ m' = yup m 376 57 2) ∨ (gApp v n ∧ m 376 1 + n ≤ 320 ∧ m' 376 57 = 0 ∧ r = m 376 1 + n ∧ m' 376 1 = r ∧ (∀ a q, a ≠ 377 → ¬ (a = 376 ∧ (q = 1 ∨ q = 57)) → m' a q = m a q) ∧ (∀ q, q < (m 376 1).toNat → m' 377 q = m 377 q) ∧ (∀ t, 1 ≤ t → t ≤ n → m' 377 (m 376 1 + t - 1).toNat = bC v (n - t)) ∧ Ty gT m')))) := by
  intro j
  have hn8 := ha.2.1
  have hn1 := ha.1
  induction j with
  | zero =>
    intro i mi hj hi k0 k1 k2 k3 k4 k5
    refine y_iload 94 c25_92 rfl rfl ?_
    refine y_if 134 97 c25_94 rfl rfl (yz_lt (by omega)) (fun hb => ?_) (fun hb => ?_)
    · refine y_aload 135 c25_134 rfl rfl rfl ?_
      refine y_getI 138 c25_135 rfl kf376_1 ?_
      exact y_retI c25_138 (y_fit0 _) ⟨rfl, Or.inr (Or.inr ⟨ha, h1, k0, by omega, rfl, k2, k3, fun t t1 t2 => k4 t t1 (by omega), k5⟩)⟩
    · exfalso; omega
  | succ j ih =>
    intro i mi hj hi k0 k1 k2 k3 k4 k5
    have hb0 := bC_rng v i
    have hbe := rB_eq (v := v) (k := i) (by omega)
    have hb1 : 0 ≤ rB v i ∧ rB v i ≤ 255 := by omega
    refine y_iload 94 c25_92 rfl rfl ?_
    refine y_if 134 97 c25_94 rfl rfl (yz_lt (by omega)) (fun hb => ?_) (fun hb => ?_)
    · refine y_aload 135 c25_134 rfl rfl rfl ?_
      refine y_getX 138 (mi 376 1) c25_135 rfl kf376_1 rfl ?_
      exfalso; omega
    · refine y_aload 98 c25_97 rfl rfl rfl ?_
      refine y_getR 101 c25_98 rfl kf376_0 ?_
      refine y_aload 102 c25_101 rfl rfl rfl ?_
      refine y_getX 105 (mi 376 1) c25_102 rfl kf376_1 rfl ?_
      refine y_lload 106 c25_105 rfl rfl ?_
      refine y_iconst 108 c25_106 rfl ?_
      refine y_iload 110 c25_108 rfl rfl ?_
      refine y_imul 111 c25_110 rfl ?_
      refine y_lshr 112 c25_111 rfl ?_
      refine y_l2i 113 c25_112 rfl ?_
      refine y_iconst 116 c25_113 rfl ?_
      refine y_iand 117 c25_116 rfl ?_
      refine y_iastore 118 c25_117 rfl ka377 (by omega) (y_nar0 _) ?_
      refine y_aload 119 c25_118 rfl rfl rfl ?_
      refine y_dup 120 c25_119 rfl rfl ?_
      refine y_getX 123 (mi 376 1) c25_120 rfl kf376_1 rfl ?_
      refine y_iconst 124 c25_123 rfl ?_
      refine y_iadd 125 c25_124 rfl ?_
      refine y_putI 128 c25_125 rfl kf376_1 (y_fit0 _) ?_
      refine y_iinc 131 c25_128 rfl rfl rfl ?_
      refine y_goto 92 c25_131 rfl ?_
      refine ih (i + (-1)) _ (by omega) (by omega) ?_ ?_ ?_ ?_ ?_ ((k5.up 377 _ _ 0 255 rfl hb1).up 376 1 _ 0 320 rfl (by omega))
      · rw [yup_nk (by decide), yup_na (by decide)]; exact k0
      · simp only [yup_eq]; omega
      · intro a q h2 h3
        rw [yup_ne (fun e => h3 ⟨e.1, Or.inl e.2⟩), yup_na h2]
        exact k2 a q h2 h3
      · intro q hq
        rw [yup_na (by decide), yup_nk (by omega)]
        exact k3 q hq
      · intro t h2 h3
        rw [yup_na (by decide)]
        by_cases e : t = n - i
        · subst e
          rw [show (m 376 1 + (n - i) - 1).toNat = (mi 376 1).toNat by omega, yup_eq]
          rw [show n - (n - i) = i by omega]
          exact hbe
        · rw [yup_nk (by omega)]
          exact k4 t h2 (by omega)

theorem t25aT {L : Nat} {xs : Nat → Int32} {d nn : Nat} {m : yM} {v : Int64} {n : Int} (hT : Ty gT m) (h0 : 0 ≤ m 376 1) (h1 : m 376 1 ≤ 320) (hn : 1 ≤ n ∧ n ≤ 8) : ∀ (j : Nat) (i : Int), i + j = n → 0 ≤ i → (∀ k, 0 ≤ k → k < i → 32 ≤ bC v k ∧ bC v k ≤ 126) → YW (gZ L xs) 25 (d + 1) 20 [some (.ref 376), some (.long v), none, some (yI n), some (yI i)] [] (yup m 376 57 0) nn (qI (fun r m' n' => n' = nn ∧ ((¬ gApp v n ∧ m' = yup m 376 57 1) ∨ (gApp v n ∧ ¬ m 376 1 + n ≤ 320 ∧ m' = yup m 376 57 2) ∨ (gApp v n ∧ m 376 1 + n ≤ 320 ∧ m' 376 57 = 0 ∧ r = m 376 1 + n ∧ m' 376 1 = r ∧ (∀ a q, a ≠ 377 → ¬ (a = 376 ∧ (q = 1 ∨ q = 57)) → m' a q = m a q) ∧ (∀ q, q < (m 376 1).toNat → m' 377 q = m 377 q) ∧ (∀ t, 1 ≤ t → t ≤ n → m' 377 (m 376 1 + t - 1).toNat = bC v (n - t)) ∧ Ty gT m')))) := by
  intro j
  have e1 : yup m 376 57 0 376 1 = m 376 1 := yup_nk (by decide)
  induction j with
  | zero =>
    intro i hj hi hg
    have hb0 := bC_rng v i
    refine y_iload 22 c25_20 rfl rfl ?_
    refine y_iload 23 c25_22 rfl rfl ?_
    refine y_icmp 60 26 c25_23 rfl rfl (yc_ge (by omega) (by omega)) (fun hb => ?_) (fun hb => ?_)
    · have hgd : gGood v n := fun k h2 h3 => hg k h2 (by omega)
      refine y_aload 61 c25_60 rfl rfl rfl ?_
      refine y_aload 62 c25_61 rfl rfl rfl ?_
      refine y_getX 65 ((yup m 376 57 0) 376 1) c25_62 rfl kf376_1 rfl ?_
      refine y_iload 66 c25_65 rfl rfl ?_
      refine y_iadd 67 c25_66 rfl ?_
      refine y_iconst 70 c25_67 rfl ?_
      refine y_icmp 77 73 c25_70 rfl rfl (yc_gt (by omega) (by omega)) (fun hb => ?_) (fun hb => ?_)
      · refine y_iconst 78 c25_77 rfl ?_
        refine y_iconst 79 c25_78 rfl ?_
        refine y_callIB 82 [.ref 376, yI 0, yI 2] [] c25_79 rfl rfl rfl rfl rfl (ycanO km23 ko376) (t23 (by omega)) (fun r15 mr15 nr15 hr15 => ?_)
        obtain ⟨er15, rfl, hr15⟩ := hr15
        refine y_if 87 85 c25_82 rfl rfl (yz_ne (by omega)) (fun hb => ?_) (fun hb => ?_)
        · have hm : mr15 = yup m 376 57 0 := by
            rcases hr15 with ⟨-, q⟩ | ⟨q, -⟩
            · rw [q, yup_yup]
            · omega
          subst hm
          refine y_iload 88 c25_87 rfl rfl ?_
          refine y_iconst 89 c25_88 rfl ?_
          refine y_isub 90 c25_89 rfl ?_
          refine y_istore 92 c25_90 rfl rfl ?_
          exact t25bT ⟨by omega, by omega, hgd⟩ h0 (by omega) n.toNat (n - 1) _ (by omega) (by omega) (yup_eq _ _ _ _) (by omega) (fun a q _ h3 => yup_ne (fun e => h3 ⟨e.1, Or.inr e.2⟩)) (fun q _ => yup_na (by decide)) (fun t h2 h3 => by omega) (hT.up 376 57 0 0 4 rfl (by decide))
        · have hm : mr15 = yup m 376 57 2 := by
            rcases hr15 with ⟨q, -⟩ | ⟨-, q⟩
            · omega
            · rw [q, yup_yup]
          refine y_iconst 86 c25_85 rfl ?_
          exact y_retI c25_86 (y_fit0 _) ⟨rfl, Or.inr (Or.inl ⟨⟨by omega, by omega, hgd⟩, by omega, hm⟩)⟩
      · refine y_iconst 74 c25_73 rfl ?_
        refine y_goto 78 c25_74 rfl ?_
        refine y_iconst 79 c25_78 rfl ?_
        refine y_callIB 82 [.ref 376, yI 1, yI 2] [] c25_79 rfl rfl rfl rfl rfl (ycanO km23 ko376) (t23 (by omega)) (fun r31 mr31 nr31 hr31 => ?_)
        obtain ⟨er31, rfl, hr31⟩ := hr31
        refine y_if 87 85 c25_82 rfl rfl (yz_ne (by omega)) (fun hb => ?_) (fun hb => ?_)
        · have hm : mr31 = yup m 376 57 0 := by
            rcases hr31 with ⟨-, q⟩ | ⟨q, -⟩
            · rw [q, yup_yup]
            · omega
          subst hm
          refine y_iload 88 c25_87 rfl rfl ?_
          refine y_iconst 89 c25_88 rfl ?_
          refine y_isub 90 c25_89 rfl ?_
          refine y_istore 92 c25_90 rfl rfl ?_
          exact t25bT ⟨by omega, by omega, hgd⟩ h0 (by omega) n.toNat (n - 1) _ (by omega) (by omega) (yup_eq _ _ _ _) (by omega) (fun a q _ h3 => yup_ne (fun e => h3 ⟨e.1, Or.inr e.2⟩)) (fun q _ => yup_na (by decide)) (fun t h2 h3 => by omega) (hT.up 376 57 0 0 4 rfl (by decide))
        · have hm : mr31 = yup m 376 57 2 := by
            rcases hr31 with ⟨q, -⟩ | ⟨-, q⟩
            · omega
            · rw [q, yup_yup]
          refine y_iconst 86 c25_85 rfl ?_
          exact y_retI c25_86 (y_fit0 _) ⟨rfl, Or.inr (Or.inl ⟨⟨by omega, by omega, hgd⟩, by omega, hm⟩)⟩
    · exfalso; omega
  | succ j ih =>
    intro i hj hi hg
    have hb0 := bC_rng v i
    have hbe := rB_eq (v := v) (k := i) (by omega)
    unfold rB at hbe
    refine y_iload 22 c25_20 rfl rfl ?_
    refine y_iload 23 c25_22 rfl rfl ?_
    refine y_icmp 60 26 c25_23 rfl rfl (yc_ge (by omega) (by omega)) (fun hb => ?_) (fun hb => ?_)
    · exfalso; omega
    · refine y_lload 27 c25_26 rfl rfl ?_
      refine y_iconst 29 c25_27 rfl ?_
      refine y_iload 31 c25_29 rfl rfl ?_
      refine y_imul 32 c25_31 rfl ?_
      refine y_lshr 33 c25_32 rfl ?_
      refine y_l2i 34 c25_33 rfl ?_
      refine y_iconst 37 c25_34 rfl ?_
      refine y_iand 38 c25_37 rfl ?_
      refine y_iconst 40 c25_38 rfl ?_
      refine y_iconst 42 c25_40 rfl ?_
      refine y_callP 45 [yI ((Int32.ofInt ((v >>> ((Int32.ofInt (8 * i)).toInt64 &&& 63)).toInt32.toInt) &&& Int32.ofInt 255).toInt), yI 32, yI 126] [] c25_42 rfl rfl rfl rfl rfl (ycanS km22) (t22 (by omega) (by omega) (by omega)) (fun r15 hr15 => ?_)
      refine y_if 54 48 c25_45 rfl rfl (yz_ne (by omega)) (fun hb => ?_) (fun hb => ?_)
      · refine y_iinc 57 c25_54 rfl rfl rfl ?_
        refine y_goto 20 c25_57 rfl ?_
        exact ih (i + 1) (by omega) (by omega) (fun k h1 h2 => by
          by_cases e : k < i
          · exact hg k h1 e
          · have : k = i := by omega
            subst this
            omega)
      · refine y_aload 49 c25_48 rfl rfl rfl ?_
        refine y_iconst 50 c25_49 rfl ?_
        refine y_callIB 53 [.ref 376, yI 1] [] c25_50 rfl rfl rfl rfl rfl (ycanO km24 ko376) t24 (fun r23 mr23 nr23 hr23 => ?_)
        obtain ⟨er23, rfl, hr23⟩ := hr23
        exact y_retI c25_53 (y_fit0 _) ⟨rfl, Or.inl ⟨fun hq => by
          have := hq.2.2 i hi (by omega)
          omega, by rw [hr23, yup_yup]⟩⟩

theorem t25T {L : Nat} {xs : Nat → Int32} {d nn : Nat} {m : yM} {v : Int64} {n : Int} (hT : Ty gT m) (h0 : 0 ≤ m 376 1) (h1 : m 376 1 ≤ 320) (hn : -2147483648 ≤ n ∧ n < 2147483648) : YC (gZ L xs) (d + 1) 25 [.ref 376, .long v, yI n] m nn (qI (fun r m' n' => n' = nn ∧ ((¬ gApp v n ∧ m' = yup m 376 57 1) ∨ (gApp v n ∧ ¬ m 376 1 + n ≤ 320 ∧ m' = yup m 376 57 2) ∨ (gApp v n ∧ m 376 1 + n ≤ 320 ∧ m' 376 57 = 0 ∧ r = m 376 1 + n ∧ m' 376 1 = r ∧ (∀ a q, a ≠ 377 → ¬ (a = 376 ∧ (q = 1 ∨ q = 57)) → m' a q = m a q) ∧ (∀ q, q < (m 376 1).toNat → m' 377 q = m 377 q) ∧ (∀ t, 1 ≤ t → t ≤ n → m' 377 (m 376 1 + t - 1).toNat = bC v (n - t)) ∧ Ty gT m')))) := by
  refine YC.mkB [some (.ref 376), some (.long v), none, some (yI n), none] kn25 rfl rfl ?_
  refine y_aload 1 c25_0 rfl rfl rfl ?_
  refine y_iload 2 c25_1 rfl rfl ?_
  refine y_iconst 3 c25_2 rfl ?_
  refine y_iconst 5 c25_3 rfl ?_
  refine y_callP 8 [yI n, yI 1, yI 8] [.ref 376] c25_5 rfl rfl rfl rfl rfl (ycanS km22) (t22 (by omega) (by omega) (by omega)) (fun r4 hr4 => ?_)
  refine y_iconst 9 c25_8 rfl ?_
  refine y_callIB 12 [.ref 376, yI r4, yI 1] [] c25_9 rfl rfl rfl rfl rfl (ycanO km23 ko376) (t23 (by omega)) (fun r6 mr6 nr6 hr6 => ?_)
  obtain ⟨er6, rfl, hr6⟩ := hr6
  refine y_if 17 15 c25_12 rfl rfl (yz_ne (by omega)) (fun hb => ?_) (fun hb => ?_)
  · have hm : mr6 = yup m 376 57 0 := by
      rcases hr6 with ⟨-, q⟩ | ⟨q, -⟩
      · exact q
      · omega
    subst hm
    refine y_iconst 18 c25_17 rfl ?_
    refine y_istore 20 c25_18 rfl rfl ?_
    exact t25aT hT h0 h1 (by omega) n.toNat 0 (by omega) (by omega) (fun k h2 h3 => by omega)
  · have hm : mr6 = yup m 376 57 1 := by
      rcases hr6 with ⟨q, -⟩ | ⟨-, q⟩
      · omega
      · exact q
    refine y_iconst 16 c25_15 rfl ?_
    exact y_retI c25_16 (y_fit0 _) ⟨rfl, Or.inl ⟨fun hq => by
      obtain ⟨q1, q2, -⟩ := hq
      omega, hm⟩⟩

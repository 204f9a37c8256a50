/-! CONTRACTS: append of the program. Printed by wip/whole/gen75.py -/
theorem t18 {L : Nat} {xs : Nat → Int32} {d nn : Nat} {m : yM} {v : Int64} {k : Int} : YC (gZ L xs) d 18 [.long v, yI k] m nn (qP m nn (fun r => r = bC v k)) := by
  refine YC.mkB [some (.long v), none, some (yI k)] kn18 rfl rfl ?_
  refine y_lload 1 c18_0 rfl rfl ?_
  refine y_iconst 3 c18_1 rfl ?_
  refine y_iload 4 c18_3 rfl rfl ?_
  refine y_imul 5 c18_4 rfl ?_
  refine y_lushr 6 c18_5 rfl ?_
  refine y_l2i 7 c18_6 rfl ?_
  refine y_iconst 10 c18_7 rfl ?_
  refine y_iand 11 c18_10 rfl ?_
  exact y_retP c18_11 (y_fit0 _) rfl
theorem t22 {L : Nat} {xs : Nat → Int32} {d nn : Nat} {m : yM} {v lo hi : Int} (hv : -2147483648 ≤ v ∧ v < 2147483648) (hlo : -2147483648 ≤ lo ∧ lo < 2147483648) (hhi : -2147483648 ≤ hi ∧ hi < 2147483648) : YC (gZ L xs) d 22 [yI v, yI lo, yI hi] m nn (qP m nn (fun r => (r = 1 ∧ lo ≤ v ∧ v ≤ hi) ∨ (r = 0 ∧ ¬ (lo ≤ v ∧ v ≤ hi)))) := by
  refine YC.mkB [some (yI v), some (yI lo), some (yI hi)] kn22 rfl rfl ?_
  refine y_iload 1 c22_0 rfl rfl ?_
  refine y_iload 2 c22_1 rfl rfl ?_
  refine y_icmp 14 5 c22_2 rfl rfl (yc_lt (by omega) (by omega)) (fun hb => ?_) (fun hb => ?_)
  · refine y_iconst 15 c22_14 rfl ?_
    exact y_retP c22_15 (y_fit1 (by omega)) (by omega)
  · refine y_iload 6 c22_5 rfl rfl ?_
    refine y_iload 7 c22_6 rfl rfl ?_
    refine y_icmp 14 10 c22_7 rfl rfl (yc_gt (by omega) (by omega)) (fun hb => ?_) (fun hb => ?_)
    · refine y_iconst 15 c22_14 rfl ?_
      exact y_retP c22_15 (y_fit1 (by omega)) (by omega)
    · refine y_iconst 11 c22_10 rfl ?_
      refine y_goto 15 c22_11 rfl ?_
      exact y_retP c22_15 (y_fit1 (by omega)) (by omega)
def gGood (v : Int64) (n : Int) : Prop := ∀ k, 0 ≤ k → k < n → 32 ≤ bC v k ∧ bC v k ≤ 126
theorem t19l {L : Nat} {xs : Nat → Int32} {d nn : Nat} {m : yM} {v : Int64} {n : Int} (hn : n ≤ 8) : ∀ (j : Nat) (i : Int) (x4 : Option Value), i + j = n → 0 ≤ i → (∀ k, 0 ≤ k → k < i → 32 ≤ bC v k ∧ bC v k ≤ 126) → YW (gZ L xs) 19 (d + 1) 2 [some (.long v), none, some (yI n), some (yI i), x4] [] m nn (qP m nn (fun r => (r = 1 ∧ gGood v n) ∨ (r = 0 ∧ ¬ gGood v n))) := by
  intro j
  induction j with
  | zero =>
    intro i x4 hj hi hg
    have hb0 := bC_rng v i
    refine y_iload 3 c19_2 rfl rfl ?_
    refine y_iload 4 c19_3 rfl rfl ?_
    refine y_icmp 36 7 c19_4 rfl rfl (yc_ge (by omega) (by omega)) (fun hb => ?_) (fun hb => ?_)
    · refine y_iconst 37 c19_36 rfl ?_
      exact y_retP c19_37 (y_fit1 (by omega)) (Or.inl ⟨rfl, fun k h1 h2 => hg k h1 (by omega)⟩)
    · exfalso; omega
  | succ j ih =>
    intro i x4 hj hi hg
    have hb0 := bC_rng v i
    refine y_iload 3 c19_2 rfl rfl ?_
    refine y_iload 4 c19_3 rfl rfl ?_
    refine y_icmp 36 7 c19_4 rfl rfl (yc_ge (by omega) (by omega)) (fun hb => ?_) (fun hb => ?_)
    · refine y_iconst 37 c19_36 rfl ?_
      exact y_retP c19_37 (y_fit1 (by omega)) (Or.inl ⟨rfl, fun k h1 h2 => hg k h1 (by omega)⟩)
    · refine y_lload 8 c19_7 rfl rfl ?_
      refine y_iload 9 c19_8 rfl rfl ?_
      refine y_callP 12 [.long v, yI i] [] c19_9 rfl rfl rfl rfl rfl (ycanS km18) t18 (fun r8 hr8 => ?_)
      subst hr8
      refine y_istore 14 c19_12 rfl rfl ?_
      refine y_iload 16 c19_14 rfl rfl ?_
      refine y_iconst 18 c19_16 rfl ?_
      refine y_icmp 28 21 c19_18 rfl rfl (yc_lt (by omega) (by omega)) (fun hb => ?_) (fun hb => ?_)
      · refine y_iconst 29 c19_28 rfl ?_
        exact y_retP c19_29 (y_fit1 (by omega)) (Or.inr ⟨rfl, fun hq => by have := hq i hi (by omega); omega⟩)
      · refine y_iload 23 c19_21 rfl rfl ?_
        refine y_iconst 25 c19_23 rfl ?_
        refine y_icmp 30 28 c19_25 rfl rfl (yc_le (by omega) (by omega)) (fun hb => ?_) (fun hb => ?_)
        · refine y_iinc 33 c19_30 rfl rfl rfl ?_
          refine y_goto 2 c19_33 rfl ?_
          exact ih (i + 1) _ (by omega) (by omega) (fun k h1 h2 => by
            by_cases e : k < i
            · exact hg k h1 e
            · have : k = i := by omega
              subst this
              omega)
        · refine y_iconst 29 c19_28 rfl ?_
          exact y_retP c19_29 (y_fit1 (by omega)) (Or.inr ⟨rfl, fun hq => by have := hq i hi (by omega); omega⟩)
theorem t19 {L : Nat} {xs : Nat → Int32} {d nn : Nat} {m : yM} {v : Int64} {n : Int} (hn : 0 ≤ n ∧ n ≤ 8) : YC (gZ L xs) (d + 1) 19 [.long v, yI n] m nn (qP m nn (fun r => (r = 1 ∧ gGood v n) ∨ (r = 0 ∧ ¬ gGood v n))) := by
  refine YC.mkB [some (.long v), none, some (yI n), none, none] kn19 rfl rfl ?_
  refine y_iconst 1 c19_0 rfl ?_
  refine y_istore 2 c19_1 rfl rfl ?_
  exact t19l hn.2 n.toNat 0 none (by omega) (by omega) (fun k h1 h2 => by omega)
def gApp (v : Int64) (n : Int) : Prop := 1 ≤ n ∧ n ≤ 8 ∧ gGood v n
theorem t20l {L : Nat} {xs : Nat → Int32} {d nn : Nat} {m : yM} {v : Int64} {n : Int} (ha : gApp v n) (h0 : 0 ≤ m 0 6) (h1 : m 0 6 + n ≤ 320) : ∀ (j : Nat) (i : Int) (mi : yM), i + j = n + 1 → 1 ≤ i → mi 0 6 = m 0 6 + i - 1 → (∀ a q, a ≠ 1 → ¬ (a = 0 ∧ q = 6) → mi a q = m a q) → (∀ q, q < (m 0 6).toNat → mi 1 q = m 1 q) → (∀ t, 1 ≤ t → t < i → mi 1 (m 0 6 + t - 1).toNat = bC v (n - t)) → YW (gZ L xs) 20 (d + 2) 50 [some (.ref 0), some (.long v), none, some (yI n), some (yI i)] [] mi nn (qT (fun r m' n' => n' = nn ∧ gApp v n ∧ m 0 6 + n ≤ 320 ∧ r = m 0 6 + n ∧ m' 0 6 = r ∧ (∀ a q, a ≠ 1 → ¬ (a = 0 ∧ q = 6) → m' a q = m a q) ∧ (∀ q, q < (m 0 6).toNat → m' 1 q = m 1 q) ∧ (∀ t, 1 ≤ t → t ≤ n → m' 1 (m 0 6 + t - 1).toNat = bC v (n - t))) (fun e m' n' => n' = nn + 1 ∧ m' = m ∧ ((e = 9 ∧ ¬ gApp v n) ∨ (e = 10 ∧ gApp v n ∧ ¬ m 0 6 + n ≤ 320)))) := by
  intro j
  have hn8 := ha.2.1
  have hn1 := ha.1
  induction j with
  | zero =>
    intro i mi hj hi k1 k2 k3 k4
    refine y_iload 52 c20_50 rfl rfl ?_
    refine y_iload 53 c20_52 rfl rfl ?_
    refine y_icmp 90 56 c20_53 rfl rfl (yc_gt (by omega) (by omega)) (fun hb => ?_) (fun hb => ?_)
    · refine y_aload 91 c20_90 rfl rfl rfl ?_
      refine y_getI 94 c20_91 rfl kf0_6 ?_
      exact y_retT c20_94 (y_fit0 _) ⟨rfl, ha, h1, by omega, rfl, k2, k3, fun t t1 t2 => k4 t t1 (by omega)⟩
    · exfalso; omega
  | succ j ih =>
    intro i mi hj hi k1 k2 k3 k4
    have hb0 := bC_rng v (n - i)
    refine y_iload 52 c20_50 rfl rfl ?_
    refine y_iload 53 c20_52 rfl rfl ?_
    refine y_icmp 90 56 c20_53 rfl rfl (yc_gt (by omega) (by omega)) (fun hb => ?_) (fun hb => ?_)
    · refine y_aload 91 c20_90 rfl rfl rfl ?_
      refine y_getX 94 (mi 0 6) c20_91 rfl kf0_6 rfl ?_
      exfalso; omega
    · refine y_aload 57 c20_56 rfl rfl rfl ?_
      refine y_getR 60 c20_57 rfl kf0_0 ?_
      refine y_aload 61 c20_60 rfl rfl rfl ?_
      refine y_getX 64 (mi 0 6) c20_61 rfl kf0_6 rfl ?_
      refine y_lload 65 c20_64 rfl rfl ?_
      refine y_iload 66 c20_65 rfl rfl ?_
      refine y_iload 68 c20_66 rfl rfl ?_
      refine y_isub 69 c20_68 rfl ?_
      refine y_callP 72 [.long v, yI (n - i)] [yI (mi 0 6), .ref 1] c20_69 rfl rfl rfl rfl rfl (ycanS km18) t18 (fun r15 hr15 => ?_)
      subst hr15
      refine y_i2cN 73 c20_72 rfl (by omega) ?_
      refine y_iastore 74 c20_73 rfl ka1 (by omega) (y_nar3 (by omega)) ?_
      refine y_aload 75 c20_74 rfl rfl rfl ?_
      refine y_dup 76 c20_75 rfl rfl ?_
      refine y_getX 79 (mi 0 6) c20_76 rfl kf0_6 rfl ?_
      refine y_iconst 80 c20_79 rfl ?_
      refine y_iadd 81 c20_80 rfl ?_
      refine y_putI 84 c20_81 rfl kf0_6 (y_fit0 _) ?_
      refine y_iinc 87 c20_84 rfl rfl rfl ?_
      refine y_goto 50 c20_87 rfl ?_
      refine ih (i + 1) _ (by omega) (by omega) ?_ ?_ ?_ ?_
      · simp only [yup_eq]; omega
      · intro a q h2 h3
        rw [yup_ne h3, yup_na h2]
        exact k2 a q h2 h3
      · intro q hq
        rw [yup_na (by decide), yup_nk (by omega)]
        exact k3 q hq
      · intro t h2 h3
        rw [yup_na (by decide)]
        by_cases e : t = i
        · subst e
          rw [show (m 0 6 + t - 1).toNat = (mi 0 6).toNat by omega, yup_eq]
        · rw [yup_nk (by omega)]
          exact k4 t h2 (by omega)
theorem t20 {L : Nat} {xs : Nat → Int32} {d nn : Nat} {m : yM} {v : Int64} {n : Int} (h0 : 0 ≤ m 0 6) (h1 : m 0 6 ≤ 320) (hn : -2147483648 ≤ n ∧ n < 2147483648) : YC (gZ L xs) (d + 2) 20 [.ref 0, .long v, yI n] m nn (qT (fun r m' n' => n' = nn ∧ gApp v n ∧ m 0 6 + n ≤ 320 ∧ r = m 0 6 + n ∧ m' 0 6 = r ∧ (∀ a q, a ≠ 1 → ¬ (a = 0 ∧ q = 6) → m' a q = m a q) ∧ (∀ q, q < (m 0 6).toNat → m' 1 q = m 1 q) ∧ (∀ t, 1 ≤ t → t ≤ n → m' 1 (m 0 6 + t - 1).toNat = bC v (n - t))) (fun e m' n' => n' = nn + 1 ∧ m' = m ∧ ((e = 9 ∧ ¬ gApp v n) ∨ (e = 10 ∧ gApp v n ∧ ¬ m 0 6 + n ≤ 320)))) := by
  refine YC.mkB [some (.ref 0), some (.long v), none, some (yI n), none] kn20 rfl rfl ?_
  refine y_iload 1 c20_0 rfl rfl ?_
  refine y_iconst 2 c20_1 rfl ?_
  refine y_icmp 19 5 c20_2 rfl rfl (yc_lt (by omega) (by omega)) (fun hb => ?_) (fun hb => ?_)
  · exact y_thrT c20_19 rfl ⟨rfl, rfl, Or.inl ⟨rfl, fun hq => by
      obtain ⟨q1, q2, q3⟩ := hq
      first | omega | (rcases hrr with ⟨e, -⟩ | ⟨e, e2⟩ <;> first | omega | exact e2 q3)⟩⟩
  · refine y_iload 6 c20_5 rfl rfl ?_
    refine y_iconst 8 c20_6 rfl ?_
    refine y_icmp 19 11 c20_8 rfl rfl (yc_gt (by omega) (by omega)) (fun hb => ?_) (fun hb => ?_)
    · exact y_thrT c20_19 rfl ⟨rfl, rfl, Or.inl ⟨rfl, fun hq => by
        obtain ⟨q1, q2, q3⟩ := hq
        first | omega | (rcases hrr with ⟨e, -⟩ | ⟨e, e2⟩ <;> first | omega | exact e2 q3)⟩⟩
    · refine y_lload 12 c20_11 rfl rfl ?_
      refine y_iload 13 c20_12 rfl rfl ?_
      refine y_callP 16 [.long v, yI n] [] c20_13 rfl rfl rfl rfl rfl (ycanS km19) (t19 (by omega)) (fun r12 hr12 => ?_)
      have hrr := hr12
      refine y_if 27 19 c20_16 rfl rfl (yz_ne (by omega)) (fun hb => ?_) (fun hb => ?_)
      · have hgd : gGood v n := by
          rcases hrr with ⟨-, e⟩ | ⟨e, -⟩
          · exact e
          · omega
        refine y_aload 28 c20_27 rfl rfl rfl ?_
        refine y_getX 31 (m 0 6) c20_28 rfl kf0_6 rfl ?_
        refine y_iload 32 c20_31 rfl rfl ?_
        refine y_iadd 33 c20_32 rfl ?_
        refine y_iconst 36 c20_33 rfl ?_
        refine y_icmp 47 39 c20_36 rfl rfl (yc_le (by omega) (by omega)) (fun hb => ?_) (fun hb => ?_)
        · refine y_iconst 48 c20_47 rfl ?_
          refine y_istore 50 c20_48 rfl rfl ?_
          exact t20l ⟨by omega, by omega, hgd⟩ h0 (by omega) n.toNat 1 m (by omega) (by omega) (by omega) (fun a q _ _ => rfl) (fun q _ => rfl) (fun t h2 h3 => by omega)
        · exact y_thrT c20_39 rfl ⟨rfl, rfl, Or.inr ⟨rfl, ⟨by omega, by omega, hgd⟩, by omega⟩⟩
      · exact y_thrT c20_19 rfl ⟨rfl, rfl, Or.inl ⟨rfl, fun hq => by
          obtain ⟨q1, q2, q3⟩ := hq
          first | omega | (rcases hrr with ⟨e, -⟩ | ⟨e, e2⟩ <;> first | omega | exact e2 q3)⟩⟩

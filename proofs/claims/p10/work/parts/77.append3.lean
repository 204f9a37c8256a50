/-! CONTRACTS: the law's append. Printed by wip/whole/gen75.py -/
theorem t21 {L : Nat} {xs : Nat → Int32} {d nn : Nat} {m : yM} {v : Int64} {n : Int} (h0 : 0 ≤ m 0 6) (h1 : m 0 6 ≤ 320) (hn : -2147483648 ≤ n ∧ n < 2147483648) : YC (gZ L xs) (d + 3) 21 [.ref 0, .long v, yI n, .ref 413] m nn (qI (fun r m' n' => (r = 1 ∧ ¬ gApp v n ∧ m' = m ∧ n' = nn + 1) ∨ (r = 2 ∧ gApp v n ∧ ¬ m 0 6 + n ≤ 320 ∧ m' = m ∧ n' = nn + 1) ∨ (r = 0 ∧ gApp v n ∧ m 0 6 + n ≤ 320 ∧ n' = nn ∧ ∃ m1, m' = yup m1 413 0 (m 0 6 + n) ∧ m1 0 6 = m 0 6 + n ∧ (∀ a q, a ≠ 1 → ¬ (a = 0 ∧ q = 6) → m1 a q = m a q) ∧ (∀ q, q < (m 0 6).toNat → m1 1 q = m 1 q) ∧ (∀ t, 1 ≤ t → t ≤ n → m1 1 (m 0 6 + t - 1).toNat = bC v (n - t))))) := by
  refine YC.mkB [some (.ref 0), some (.long v), none, some (yI n), some (.ref 413), none] kn21 rfl rfl ?_
  refine y_aload 2 c21_0 rfl rfl rfl ?_
  refine y_iconst 3 c21_2 rfl ?_
  refine y_aload 4 c21_3 rfl rfl rfl ?_
  refine y_lload 5 c21_4 rfl rfl ?_
  refine y_iload 6 c21_5 rfl rfl ?_
  refine y_callTB 9 [.ref 0, .long v, yI n] [yI 0, .ref 413] c21_6 rfl rfl rfl rfl rfl (ycanO km20 ko0) (t20 h0 h1 hn) (fun r m1 n1 hr => ?_) (fun e a m1 n1 he => ?_)
  · obtain ⟨rfl, ha, hf, hr, hl, k2, k3, k4⟩ := hr
    subst hr
    refine y_i2l 10 c21_9 rfl ?_
    refine y_lastoreN 11 (m 0 6 + n) c21_10 rfl kl413 (by decide) (by rw [Int32.toInt_toInt64]; have := ha.1; have := ha.2.1; exact y_rng (by omega)) ?_
    refine y_goto 22 c21_11 rfl ?_
    refine y_iconst 23 c21_22 rfl ?_
    exact y_retI c21_23 (y_fit0 _) (Or.inr (Or.inr ⟨rfl, ha, hf, rfl, m1, rfl, hl, k2, k3, k4⟩))
  · obtain ⟨rfl, rfl, he⟩ := he
    rcases he with ⟨rfl, ha⟩ | ⟨rfl, ha, hf⟩
    · refine Or.inl ⟨14, kh21_6_9, ?_⟩
      refine y_astore 16 c21_14 rfl rfl rfl ?_
      refine y_iconst 17 c21_16 rfl ?_
      exact y_retI c21_17 (y_fit0 _) (Or.inl ⟨rfl, ha, rfl, rfl⟩)
    · refine Or.inl ⟨18, kh21_6_10, ?_⟩
      refine y_astore 20 c21_18 rfl rfl rfl ?_
      refine y_iconst 21 c21_20 rfl ?_
      exact y_retI c21_21 (y_fit0 _) (Or.inr (Or.inl ⟨rfl, ha, hf, rfl, rfl⟩))

/-! THE MODEL: heads of classes and methods -/
section HDL
variable {p : Nat} {m m' : yM}
theorem XD.head (h : XD p m) (h0 : 0 ≤ m 383 p) (F : ∀ a q, vXc p a q = true → a ≠ 392 → a ≠ 383 → m' a q = m a q) (hn : m' 383 p = m 383 p + 1) (hu : ∀ k : Nat, (k : Int) < m 383 p → m' 392 (6 * p + k) = m 392 (6 * p + k)) (hv : m' 392 (6 * p + (m 383 p).toNat) < m 383 p) : XD p m' := by
  obtain ⟨x1, x2, x3, x4, x5, x6, x7⟩ := h
  have e3 : ∀ q, m' 403 q = m 403 q := fun q => F _ _ (by simp [vXc]) (by decide) (by decide)
  have s2 := F 384 p (by simp [vXc]) (by decide) (by decide)
  have s3 := F 386 p (by simp [vXc]) (by decide) (by decide)
  have s4 := F 387 p (by simp [vXc]) (by decide) (by decide)
  have s5 := F 388 p (by simp [vXc]) (by decide) (by decide)
  have s6 := F 390 p (by simp [vXc]) (by decide) (by decide)
  have s7 := F 376 17 (by simp [vXc]) (by decide) (by decide)
  unfold XD
  rw [s2, s3, s4, s5, s6, s7, hn]
  refine ⟨?_, ?_, x3.fr (fun q => F _ _ (by simp [vXc]) (by decide) (by decide)) (fun q => F _ _ (by simp [vXc]) (by decide) (by decide)) (fun q => F _ _ (by simp [vXc]) (by decide) (by decide)) (Int.le_refl _), ?_, ?_, x6, x7.1, x7.2.1.fr (fun q => F _ _ (by simp [vXc]) (by decide) (by decide)), x7.2.2.fr e3⟩
  · unfold OX OW at x1 ⊢
    simp only [e3]
    exact x1
  · unfold JA JK at x2 ⊢
    simp only [e3]
    exact x2
  · intro k hk
    by_cases q : (k : Int) < m 383 p
    · rw [hu k q]
      exact x4 k q
    · have : k = (m 383 p).toNat := by omega
      subst this
      omega
  · unfold LE at x5 ⊢
    simp only [e3]
    exact x5
theorem XD.meth (h : XD p m) (h0 : 0 ≤ m 384 p) (F : ∀ a q, vXc p a q = true → a ≠ 384 → a ≠ 397 → a ≠ 398 → a ≠ 399 → m' a q = m a q) (hn : m' 384 p = m 384 p + 1) (h7 : ∀ k : Nat, (k : Int) < m 384 p → m' 397 (10 * p + k) = m 397 (10 * p + k) ∧ m' 398 (10 * p + k) = m 398 (10 * p + k) ∧ m' 399 (10 * p + k) = m 399 (10 * p + k)) (hv : m' 398 (10 * p + (m 384 p).toNat) + 2 + m' 397 (10 * p + (m 384 p).toNat) ≤ 48 ∧ m' 399 (10 * p + (m 384 p).toNat) ≤ m 390 p) : XD p m' := by
  obtain ⟨x1, x2, x3, x4, x5, x6, x7⟩ := h
  have e3 : ∀ q, m' 403 q = m 403 q := fun q => F _ _ (by simp [vXc]) (by decide) (by decide) (by decide) (by decide)
  have s1 := F 383 p (by simp [vXc]) (by decide) (by decide) (by decide) (by decide)
  have s3 := F 386 p (by simp [vXc]) (by decide) (by decide) (by decide) (by decide)
  have s4 := F 387 p (by simp [vXc]) (by decide) (by decide) (by decide) (by decide)
  have s5 := F 388 p (by simp [vXc]) (by decide) (by decide) (by decide) (by decide)
  have s6 := F 390 p (by simp [vXc]) (by decide) (by decide) (by decide) (by decide)
  have s7 := F 376 17 (by simp [vXc]) (by decide) (by decide) (by decide) (by decide)
  unfold XD
  rw [s1, s3, s4, s5, s6, s7, hn]
  refine ⟨?_, ?_, ?_, x4.fr (fun q => F _ _ (by simp [vXc]) (by decide) (by decide) (by decide) (by decide)), ?_, x6, x7.1, x7.2.1.fr (fun q => F _ _ (by simp [vXc]) (by decide) (by decide) (by decide) (by decide)), x7.2.2.fr e3⟩
  · unfold OX OW at x1 ⊢
    simp only [e3]
    exact x1
  · unfold JA JK at x2 ⊢
    simp only [e3]
    exact x2
  · intro k hk
    by_cases q : (k : Int) < m 384 p
    · obtain ⟨a1, a2, a3⟩ := h7 k q
      rw [a1, a2, a3]
      exact x3 k q
    · have : k = (m 384 p).toNat := by omega
      subst this
      exact hv
  · unfold LE at x5 ⊢
    simp only [e3]
    exact x5
end HDL

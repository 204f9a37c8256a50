/-! THE MODEL: a block ends -/
section CLL
variable {p : Nat} {m m1 m2 m' : yM}
theorem XS.cls {o : Nat} (h : XS p m) (ho : (o : Int) < m 390 p) (hw : 9 ≤ m 403 (1000 * p + 8 * o) ∧ m 403 (1000 * p + 8 * o) ≤ 11) (hn : m 390 p ≤ 124) (hd : 1 ≤ m 376 10 ∧ m 376 10 ≤ 3) (hb : m 379 (m 376 10 - 1).toNat = o) (e1 : m' 403 (1000 * p + 8 * o + 3) = m 390 p) (e : ∀ q, q ≠ 1000 * p + 8 * o + 3 → m' 403 q = m 403 q) (hd' : m' 376 10 = m 376 10 - 1) (F : ∀ a q, vXs p a q = true → a ≠ 403 → ¬ (a = 376 ∧ q = 10) → m' a q = m a q) : XS p m' := by
  obtain ⟨x1, x2, x3, x4, x5, x6, x7⟩ := h
  have e8 : ∀ q, m' 378 q = m 378 q := fun q => F _ _ (by simp [vXs]) (by decide) (by omega)
  have e9 : ∀ q, m' 379 q = m 379 q := fun q => F _ _ (by simp [vXs]) (by decide) (by omega)
  have s1 := F 383 p (by simp [vXs]) (by decide) (by omega)
  have s2 := F 384 p (by simp [vXs]) (by decide) (by omega)
  have s3 := F 386 p (by simp [vXs]) (by decide) (by omega)
  have s4 := F 387 p (by simp [vXs]) (by decide) (by omega)
  have s5 := F 388 p (by simp [vXs]) (by decide) (by omega)
  have s6 := F 390 p (by simp [vXs]) (by decide) (by omega)
  have s7 := F 376 17 (by simp [vXs]) (by decide) (by omega)
  unfold XS
  rw [s1, s2, s3, s4, s5, s6, s7]
  refine ⟨x1.aim ho hw hn e1 e, x2.aim ho (Or.inl e1) e (fun f f1 f2 f3 f4 => ⟨?_, by rw [e8]; exact f3, e9 f⟩), x3.aim e (fun f f1 f2 => ⟨by omega, e8 f, e9 f⟩), x4.fr (fun q => F _ _ (by simp [vXs]) (by decide) (by omega)) (fun q => F _ _ (by simp [vXs]) (by decide) (by omega)) (fun q => F _ _ (by simp [vXs]) (by decide) (by omega)) (Int.le_refl _), x5.fr (fun q => F _ _ (by simp [vXs]) (by decide) (by omega)), x6, x7.1, x7.2.1.fr (fun q => F _ _ (by simp [vXs]) (by decide) (by omega)), x7.2.2.aim (by omega) e⟩
  by_cases q : (f : Int) < m 376 10 - 1
  · omega
  · exfalso
    have : f = (m 376 10 - 1).toNat := by omega
    subst this
    exact f4 hb
/-- the else: a jump, whose aim is wanting, behind the first block -/
theorem XS.els {o : Nat} (h : XS p m) (h0 : 0 ≤ m 390 p ∧ m 390 p ≤ 123) (ho : (o : Int) < m 390 p) (hw : m 403 (1000 * p + 8 * o) = 9) (hd : 1 ≤ m 376 10 ∧ m 376 10 ≤ 3) (hb8 : m 378 (m 376 10 - 1).toNat = 1)
    (e : ∀ q, q < 1000 * p + 8 * (m 390 p).toNat ∨ 1000 * p + 8 * (m 390 p).toNat + 8 ≤ q → m1 403 q = m 403 q) (hw1 : OW m1 (1000 * p + 8 * (m 390 p).toNat)) (h11 : m1 403 (1000 * p + 8 * (m 390 p).toNat) = 11) (ht : m1 403 (1000 * p + 8 * (m 390 p).toNat + 3) = 0)
    (e1 : m2 403 (1000 * p + 8 * o + 3) = m 390 p + 1) (e2 : ∀ q, q ≠ 1000 * p + 8 * o + 3 → m2 403 q = m1 403 q)
    (e3 : ∀ q, m' 403 q = m2 403 q) (hn : m' 390 p = m 390 p + 1) (hd' : m' 376 10 = m 376 10) (b8 : m' 378 (m 376 10 - 1).toNat = 2) (b9 : m' 379 (m 376 10 - 1).toNat = m 390 p) (e8 : ∀ q, q ≠ (m 376 10 - 1).toNat → m' 378 q = m 378 q) (e9 : ∀ q, q ≠ (m 376 10 - 1).toNat → m' 379 q = m 379 q)
    (F : ∀ a q, vXs p a q = true → a ≠ 403 → a ≠ 376 → a ≠ 378 → a ≠ 379 → a ≠ 390 → m' a q = m a q) (h17 : m' 376 17 = m 376 17) : XS p m' := by
  obtain ⟨x1, x2, x3, x4, x5, x6, x7⟩ := h
  have o1 : OX p m1 (m 390 p + 1) (m 386 p) := x1.add h0.1 e hw1 (fun _ => by omega) (fun q => by omega) (Int.le_refl _)
  have ew : m1 403 (1000 * p + 8 * o) = m 403 (1000 * p + 8 * o) := e _ (by omega)
  have o2 : OX p m2 (m 390 p + 1) (m 386 p) := o1.aim (by omega) (by omega) (by omega) e1 e2
  have o3 : OX p m' (m 390 p + 1) (m 386 p) := by
    unfold OX OW at o2 ⊢
    simp only [e3]
    exact o2
  -- the jumps that stood
  let m3 : yM := fun a q => if a = 403 then m1 403 q else m a q
  have j1 : JX p m3 (m 390 p) := x2.add' (m' := m3) x1 h0.1 (fun q hq => by simp [m3]; exact e q hq) (fun f f1 f2 => ⟨by simpa [m3] using f2, by simp [m3], by simp [m3]⟩)
  have j2 : JX p m' (m 390 p) := j1.aim (m' := m') ho (Or.inr (by rw [e3]; exact e1)) (fun q hq => by rw [e3, e2 q hq]; simp [m3]) (fun f f1 f2 f3 f4 => by
    simp [m3] at f2 f3 f4 ⊢
    have hf : f ≠ (m 376 10 - 1).toNat := fun q => by subst q; omega
    exact ⟨by rw [hd']; exact f2, by rw [e8 f hf]; exact f3, e9 f hf⟩)
  have s1 := F 383 p (by simp [vXs]) (by decide) (by decide) (by decide) (by decide) (by decide)
  have s2 := F 384 p (by simp [vXs]) (by decide) (by decide) (by decide) (by decide) (by decide)
  have s3 := F 386 p (by simp [vXs]) (by decide) (by decide) (by decide) (by decide) (by decide)
  have s4 := F 387 p (by simp [vXs]) (by decide) (by decide) (by decide) (by decide) (by decide)
  have s5 := F 388 p (by simp [vXs]) (by decide) (by decide) (by decide) (by decide) (by decide)
  have wn : m' 403 (1000 * p + 8 * (m 390 p).toNat) = 11 := by rw [e3, e2 _ (by omega)]; exact h11
  unfold XS
  rw [s1, s2, s3, s4, s5, hn, h17]
  refine ⟨o3, fun i hi k => ?_, fun f hf hfd => ?_, x4.fr (fun q => F _ _ (by simp [vXs]) (by decide) (by decide) (by decide) (by decide) (by decide)) (fun q => F _ _ (by simp [vXs]) (by decide) (by decide) (by decide) (by decide) (by decide)) (fun q => F _ _ (by simp [vXs]) (by decide) (by decide) (by decide) (by decide) (by decide)) (by omega), x5.fr (fun q => F _ _ (by simp [vXs]) (by decide) (by decide) (by decide) (by decide) (by decide)), x6, x7.1, x7.2.1.fr (fun q => F _ _ (by simp [vXs]) (by decide) (by decide) (by decide) (by decide) (by decide)), (NS.aim (m' := m2) (x7.2.2.add (m' := m1) h0.1 e (Int.le_refl _) (fun q => by omega)) (o := o) (by omega) e2).fr e3⟩
  · by_cases q : (i : Int) < m 390 p
    · exact j2 i q k
    · right
      exact ⟨(m 376 10 - 1).toNat, by omega, by omega, b8, by rw [b9]; omega⟩
  · by_cases q : f = (m 376 10 - 1).toNat
    · subst q
      rw [b8, b9]
      omega
    · rw [hd'] at hfd
      rw [e8 f q, e9 f q]
      obtain ⟨k1, k2, k3, k4, k5, k6⟩ := x3 f hf hfd
      have : m' 403 (1000 * p + 8 * (m 379 f).toNat) = m 403 (1000 * p + 8 * (m 379 f).toNat) := by rw [e3, e2 _ (by omega), e _ (by omega)]
      rw [this]
      exact ⟨k1, by omega, k3, k4, k5, k6⟩
end CLL

/-! THE MODEL: one operation more -/
section OPL
variable {p : Nat} {m m' : yM} {n c c2 : Int}
theorem OW.eq {b : Nat} (h : OW m b) (e : ∀ q, b ≤ q → q < b + 8 → m' 403 q = m 403 q) : OW m' b := by
  unfold OW at h ⊢
  rw [e b (by omega) (by omega), e (b + 1) (by omega) (by omega), e (b + 2) (by omega) (by omega), e (b + 3) (by omega) (by omega), e (b + 4) (by omega) (by omega), e (b + 5) (by omega) (by omega), e (b + 6) (by omega) (by omega), e (b + 7) (by omega) (by omega)]
  exact h
theorem OX.add (h : OX p m n c) (hn : 0 ≤ n) (e : ∀ q, q < 1000 * p + 8 * n.toNat ∨ 1000 * p + 8 * n.toNat + 8 ≤ q → m' 403 q = m 403 q) (hw : OW m' (1000 * p + 8 * n.toNat)) (ht : 9 ≤ m' 403 (1000 * p + 8 * n.toNat) ∧ m' 403 (1000 * p + 8 * n.toNat) ≤ 11 → m' 403 (1000 * p + 8 * n.toNat + 3) ≤ n + 1) (hc : m' 403 (1000 * p + 8 * n.toNat) = 7 → m' 403 (1000 * p + 8 * n.toNat + 5) / 16 = c ∧ c < c2) (hcc : c ≤ c2) : OX p m' (n + 1) c2 := by
  obtain ⟨h1, h2, h3, h4⟩ := h
  refine ⟨fun o ho => ?_, fun o ho => ?_, fun o ho => ?_, fun i j hij hj => ?_⟩
  · by_cases q : (o : Int) < n
    · exact (h1 o q).eq (fun z _ _ => e z (by omega))
    · have : o = n.toNat := by omega
      subst this
      exact hw
  · by_cases q : (o : Int) < n
    · rw [e _ (by omega), e _ (by omega)]
      intro k
      have := h2 o q k
      omega
    · have : o = n.toNat := by omega
      subst this
      exact ht
  · by_cases q : (o : Int) < n
    · rw [e _ (by omega), e _ (by omega)]
      intro k
      have := h3 o q k
      omega
    · have : o = n.toNat := by omega
      subst this
      intro k
      have := hc k
      omega
  · have hi : (i : Int) < n := by omega
    rw [e (1000 * p + 8 * i) (by omega), e (1000 * p + 8 * i + 5) (by omega)]
    by_cases q : (j : Int) < n
    · rw [e _ (by omega), e _ (by omega)]
      exact h4 i j hij q
    · have : j = n.toNat := by omega
      subst this
      intro k1 k2
      have := h3 i hi k1
      have := hc k2
      omega
theorem JX.add (h : JX p m n) (hO : OX p m n c) (hn : 0 ≤ n) (e : ∀ q, q < 1000 * p + 8 * n.toNat ∨ 1000 * p + 8 * n.toNat + 8 ≤ q → m' 403 q = m 403 q) (e10 : m' 376 10 = m 376 10) (e8 : ∀ q, m' 378 q = m 378 q) (e9 : ∀ q, m' 379 q = m 379 q) : JX p m' n := by
  intro o ho
  rw [e _ (by omega)]
  intro k
  have hb := hO.2.1 o ho (by omega)
  have hw := hO.1 o ho
  have e3 : m' 403 (1000 * p + 8 * o + 3) = m 403 (1000 * p + 8 * o + 3) := e _ (by omega)
  rcases h o ho k with q | ⟨f, f1, f2, f3, f4⟩
  · left
    unfold JK at q ⊢
    rw [e3]
    rcases q with q | q
    · exact Or.inl q
    · by_cases z : m 403 (1000 * p + 8 * o + 3) < n
      · right
        have h0 : 0 ≤ m 403 (1000 * p + 8 * o + 3) := hw.2.2.2.1.1
        rw [e _ (by omega)]
        exact q
      · left
        omega
  · right
    exact ⟨f, f1, by rw [e10]; exact f2, by rw [e8]; exact f3, by rw [e9]; exact f4⟩
theorem BX.add (h : BX p m n) (e : ∀ q, q < 1000 * p + 8 * n.toNat ∨ 1000 * p + 8 * n.toNat + 8 ≤ q → m' 403 q = m 403 q) (e10 : m' 376 10 = m 376 10) (e8 : ∀ q, m' 378 q = m 378 q) (e9 : ∀ q, m' 379 q = m 379 q) : BX p m' (n + 1) := by
  intro f hf
  rw [e10, e8, e9]
  intro k
  obtain ⟨k1, k2, k3, k4, k5, k6⟩ := h f hf k
  rw [e _ (by omega)]
  exact ⟨k1, by omega, k3, k4, k5, k6⟩
theorem MX.fr {k n2 : Int} (h : MX p m k n) (e7 : ∀ q, m' 397 q = m 397 q) (e8 : ∀ q, m' 398 q = m 398 q) (e9 : ∀ q, m' 399 q = m 399 q) (hn : n ≤ n2) : MX p m' k n2 := by
  intro i hi
  rw [e7, e8, e9]
  have := h i hi
  omega
theorem UX.fr (h : UX p m n) (e : ∀ q, m' 392 q = m 392 q) : UX p m' n := by
  intro k hk
  rw [e]
  exact h k hk
theorem CV.fr (h : CV p m n) (e : ∀ q, m' 401 q = m 401 q) : CV p m' n := by
  intro c hc
  rw [e]
  exact h c hc
theorem NS.add {s s2 : Int} (h : NS p m n s) (hn : 0 ≤ n) (e : ∀ q, q < 1000 * p + 8 * n.toNat ∨ 1000 * p + 8 * n.toNat + 8 ≤ q → m' 403 q = m 403 q) (hs : s ≤ s2) (h1 : m' 403 (1000 * p + 8 * n.toNat) = 1 → m' 403 (1000 * p + 8 * n.toNat + 3) < s2) : NS p m' (n + 1) s2 := by
  intro o ho
  by_cases q : (o : Int) < n
  · rw [e _ (by omega), e _ (by omega)]
    intro k
    have := h o q k
    omega
  · have : o = n.toNat := by omega
    subst this
    exact h1
theorem NS.aim {s : Int} {o : Nat} (h : NS p m n s) (hw : m 403 (1000 * p + 8 * o) ≠ 1) (e : ∀ q, q ≠ 1000 * p + 8 * o + 3 → m' 403 q = m 403 q) : NS p m' n s := by
  intro i hi
  rw [e _ (by omega)]
  intro k
  rw [e _ (by intro z; have : i = o := (by omega); subst this; exact hw k)]
  exact h i hi k
theorem NS.fr {s : Int} (h : NS p m n s) (e : ∀ q, m' 403 q = m 403 q) : NS p m' n s := by
  intro i hi
  rw [e, e]
  exact h i hi
/-- what an operation more leaves as it was -/
def vYs (p a q : Nat) : Bool := (a == 376 && q == 10) || a == 378 || a == 379 || ((a == 383 || a == 384) && q == p) || a == 392 || a == 397 || a == 398 || a == 399
theorem XS.add (h : XS p m) (h0 : 0 ≤ m 390 p) (F : ∀ a q, vYs p a q = true → m' a q = m a q) (e : ∀ q, q < 1000 * p + 8 * (m 390 p).toNat ∨ 1000 * p + 8 * (m 390 p).toNat + 8 ≤ q → m' 403 q = m 403 q) (hw : OW m' (1000 * p + 8 * (m 390 p).toNat)) (ht : 9 ≤ m' 403 (1000 * p + 8 * (m 390 p).toNat) ∧ m' 403 (1000 * p + 8 * (m 390 p).toNat) ≤ 11 → m' 403 (1000 * p + 8 * (m 390 p).toNat + 3) ≤ m 390 p + 1) (hj : m' 403 (1000 * p + 8 * (m 390 p).toNat) = 11 → JK p m' (m 390 p).toNat) (hc : m' 403 (1000 * p + 8 * (m 390 p).toNat) = 7 → m' 403 (1000 * p + 8 * (m 390 p).toNat + 5) / 16 = m 386 p ∧ m 386 p < m' 386 p) (hcc : m 386 p ≤ m' 386 p) (hn : m' 390 p = m 390 p + 1) (hs : m' 376 17 = m' 388 p - 1 + m' 387 p) (hs1 : 1 ≤ m' 388 p) (hcv : CV p m' (m' 387 p)) (hs2 : m 388 p ≤ m' 388 p) (hns : m' 403 (1000 * p + 8 * (m 390 p).toNat) = 1 → m' 403 (1000 * p + 8 * (m 390 p).toNat + 3) < m' 388 p) : XS p m' := by
  obtain ⟨x1, x2, x3, x4, x5, -, -, -, x9⟩ := h
  have e10 := F 376 10 (by simp [vYs])
  have e8 : ∀ q, m' 378 q = m 378 q := fun q => F _ _ (by simp [vYs])
  have e9 : ∀ q, m' 379 q = m 379 q := fun q => F _ _ (by simp [vYs])
  have ja := x2.add x1 h0 e e10 e8 e9
  unfold XS
  rw [hn, F 383 p (by simp [vYs]), F 384 p (by simp [vYs])]
  refine ⟨x1.add h0 e hw ht hc hcc, fun o ho k => ?_, x3.add e e10 e8 e9, x4.fr (fun q => F _ _ (by simp [vYs])) (fun q => F _ _ (by simp [vYs])) (fun q => F _ _ (by simp [vYs])) (by omega), x5.fr (fun q => F _ _ (by simp [vYs])), hs, hs1, hcv, x9.add h0 e hs2 hns⟩
  by_cases q : (o : Int) < m 390 p
  · exact ja o q k
  · have : o = (m 390 p).toNat := by omega
    subst this
    exact Or.inl (hj k)
end OPL

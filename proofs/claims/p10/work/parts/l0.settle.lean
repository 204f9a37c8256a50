/-! THE MODEL: names are settled; between its calls -/
section STL
variable {p : Nat} {m m' : yM} {n c : Int}
theorem OX.x4 (h : OX p m n c) (e : ∀ o j : Nat, j < 8 → j ≠ 4 → m' 403 (1000 * p + 8 * o + j) = m 403 (1000 * p + 8 * o + j)) (e4 : ∀ o : Nat, m 403 (1000 * p + 8 * o) = 3 → m' 403 (1000 * p + 8 * o + 4) = m 403 (1000 * p + 8 * o + 4)) : OX p m' n c := by
  have e0 : ∀ o : Nat, m' 403 (1000 * p + 8 * o) = m 403 (1000 * p + 8 * o) := fun o => e o 0 (by decide) (by decide)
  obtain ⟨h1, h2, h3, h4⟩ := h
  refine ⟨fun o ho => ?_, fun o ho => ?_, fun o ho => ?_, fun i j hij hj => ?_⟩
  · have hw := h1 o ho
    unfold OW at hw ⊢
    rw [e0 o, e o 1 (by decide) (by decide), e o 2 (by decide) (by decide), e o 3 (by decide) (by decide), e o 5 (by decide) (by decide), e o 6 (by decide) (by decide), e o 7 (by decide) (by decide)]
    obtain ⟨w1, w2, w3, w4, w5, w6, w7, w8, w9⟩ := hw
    refine ⟨w1, w2, w3, w4, w5, w6, w7, fun q => ?_, w9⟩
    rw [e4 o q]
    exact w8 q
  · rw [e0 o, e o 3 (by decide) (by decide)]
    exact h2 o ho
  · rw [e0 o, e o 5 (by decide) (by decide)]
    exact h3 o ho
  · rw [e0 i, e0 j, e i 5 (by decide) (by decide), e j 5 (by decide) (by decide)]
    exact h4 i j hij hj
theorem JA.x4 (h : JA p m n) (e : ∀ o j : Nat, j < 8 → j ≠ 4 → m' 403 (1000 * p + 8 * o + j) = m 403 (1000 * p + 8 * o + j)) : JA p m' n := by
  have e0 : ∀ o : Nat, m' 403 (1000 * p + 8 * o) = m 403 (1000 * p + 8 * o) := fun o => e o 0 (by decide) (by decide)
  intro o ho k
  rw [e0 o] at k
  have := h o ho k
  unfold JK at this ⊢
  rw [e o 3 (by decide) (by decide), e0]
  exact this
theorem LE.x4 (h : LE p m n) (e : ∀ o j : Nat, j < 8 → j ≠ 4 → m' 403 (1000 * p + 8 * o + j) = m 403 (1000 * p + 8 * o + j)) : LE p m' n := by
  have e0 : ∀ o : Nat, m' 403 (1000 * p + 8 * o) = m 403 (1000 * p + 8 * o) := fun o => e o 0 (by decide) (by decide)
  refine ⟨fun o ho => ?_, fun o ho => ?_⟩
  · rw [e0 o]
    exact h.1 o ho
  · rw [e0 o, e o 3 (by decide) (by decide)]
    exact h.2 o ho
theorem FX.snoc {k : Int} (h : FX p m k) (h0 : 0 ≤ k) (h1 : (m 403 (1000 * p + 8 * k.toNat) = 4 ∨ m 403 (1000 * p + 8 * k.toNat) = 5) → -1 ≤ m 403 (1000 * p + 8 * k.toNat + 4) ∧ m 403 (1000 * p + 8 * k.toNat + 4) ≤ 7) : FX p m (k + 1) := by
  intro o ho hk
  by_cases q : (o : Int) < k
  · exact h o q hk
  · have : o = k.toNat := by omega
    subst this
    exact h1 hk
theorem FX.fr {k : Int} (h : FX p m k) (e : ∀ o : Nat, (o : Int) < k → m' 403 (1000 * p + 8 * o) = m 403 (1000 * p + 8 * o) ∧ m' 403 (1000 * p + 8 * o + 4) = m 403 (1000 * p + 8 * o + 4)) : FX p m' k := by
  intro o ho hk
  rw [(e o ho).1] at hk
  rw [(e o ho).2]
  exact h o ho hk
theorem SX.snoc {k : Int} (h : SX p m k c) (h0 : 0 ≤ k) (h1 : -1 ≤ m 400 (12 * p + k.toNat) ∧ m 400 (12 * p + k.toNat) < c) : SX p m (k + 1) c := by
  intro i hi
  by_cases q : (i : Int) < k
  · exact h i q
  · have : i = k.toNat := by omega
    subst this
    exact h1
theorem SX.fr {k : Int} (h : SX p m k c) (e : ∀ i : Nat, (i : Int) < k → m' 400 (12 * p + i) = m 400 (12 * p + i)) : SX p m' k c := by
  intro i hi
  rw [e i hi]
  exact h i hi
end STL
/-- what a call of the model may write -/
def wML (a q : Nat) : Bool := (a == 376 && decide (q ≠ 1)) || decide (378 ≤ a ∧ a ≤ 412)
/-- what stands between the model's calls -/
def MI (m : yM) : Prop := Ty gT m ∧ (m 376 19 = 0 ∨ (m 376 18 = 0 ∧ GQ 0 m) ∨ (m 376 18 = 1 ∧ GQ 1 m))
theorem wML_of {w : Nat → Nat → Bool} (h : ∀ a q, w a q = true → (a = 376 ∧ q ≠ 1) ∨ (378 ≤ a ∧ a ≤ 412)) : ∀ a q, w a q = true → wML a q = true := by
  intro a q e
  have := h a q e
  simp [wML]
  omega

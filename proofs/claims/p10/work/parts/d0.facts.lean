/-! THE FACTS: what they may write; a call goes only where its arguments fit -/
def wFx (a q : Nat) : Bool := (a == 8 && q == 6) || decide (9 ≤ a ∧ a < 169)
def wFy (a q : Nat) : Bool := (a == 8 && q == 6) || decide (9 ≤ a ∧ a < 59) || decide (71 ≤ a ∧ a < 169)
theorem wFx_h {a q : Nat} (h : 169 ≤ a) : wFx a q = false := by
  cases e : wFx a q with
  | false => rfl
  | true => simp [wFx] at e <;> omega
theorem wFy_h {a q : Nat} (h : 169 ≤ a) : wFy a q = false := by
  cases e : wFy a q with
  | false => rfl
  | true => simp [wFy] at e <;> omega
theorem wFy_g {j q : Nat} (h : j < 12) : wFy (59 + j) q = false := by
  cases e : wFy (59 + j) q with
  | false => rfl
  | true => simp [wFy] at e <;> omega
theorem wTe_wFy {R : Nat} (h : (9 ≤ R ∧ R < 59) ∨ (71 ≤ R ∧ R < 169)) : ∀ a q, wTe R a q = true → wFy a q = true := by
  intro a q e
  simp [wTe] at e
  simp [wFy]
  omega
theorem wTe_wFx {R : Nat} (h : 9 ≤ R ∧ R < 169) : ∀ a q, wTe R a q = true → wFx a q = true := by
  intro a q e
  simp [wTe] at e
  simp [wFx]
  omega
theorem wRo_wFx {R : Nat} (h : 9 ≤ R ∧ R < 169) : ∀ a q, wRo R a q = true → wFx a q = true := by
  intro a q e
  simp [wRo] at e
  simp [wFx]
  omega
theorem wFy_wFx : ∀ a q, wFy a q = true → wFx a q = true := by
  intro a q e
  simp [wFy] at e
  simp [wFx]
  omega
theorem wRo_n {R a q : Nat} (h : a ≠ R) : wRo R a q = false := by
  cases e : wRo R a q with
  | false => rfl
  | true => simp [wRo] at e; omega
def GO (A B S : Nat) (m : yM) : Prop := ∀ k : Nat, (k : Int) < m A 16 → m (S + k) 0 = 4 → ∀ i : Nat, (i : Int) < m A 10 → m (59 + (m (S + k) 6).toNat) i ≠ -1 → m (B + i) 3 = m (S + k) 8
section GOL
variable {A B S : Nat} {m m' : yM}
theorem GO.fr (h : GO A B S m) (hA : 169 ≤ A ∧ 169 ≤ B ∧ 169 ≤ S) (hn : ∀ k : Nat, (k : Int) < m A 16 → m (S + k) 6 ≤ 11) (F : Fr wFy m m') : GO A B S m' := by
  intro k hk h4 i hi hne
  rw [F A 16 (wFy_h (by omega))] at hk
  rw [F A 10 (wFy_h (by omega))] at hi
  rw [F (S + k) 0 (wFy_h (by omega))] at h4
  have := hn k hk
  rw [F (S + k) 6 (wFy_h (by omega)), F _ i (wFy_g (by omega))] at hne
  rw [F (B + i) 3 (wFy_h (by omega)), F (S + k) 8 (wFy_h (by omega))]
  exact h k hk h4 i hi hne
theorem GO.tell {k R : Nat} {j : Int} (h : GO A B S m) (hA : 169 ≤ A ∧ 169 ≤ B ∧ 169 ≤ S) (hn : ∀ k : Nat, (k : Int) < m A 16 → m (S + k) 6 ≤ 11) (hi : ∀ k' : Nat, (k' : Int) < m A 16 → m (S + k') 0 = 4 → m (S + k') 6 = m (S + k) 6 → k' = k) (h0 : ∀ k' : Nat, (k' : Int) < m A 16 → m (S + k') 0 = 4 → 0 ≤ m (S + k') 6) (hk0 : 0 ≤ m (S + k) 6) (hk1 : m (S + k) 6 ≤ 11) (F : Fr (wTe R) m m') (hR : R = 59 + (m (S + k) 6).toNat) (hq : ∀ q, q ≠ j.toNat → m' R q = m R q) (hj : m (B + j.toNat) 3 = m (S + k) 8) : GO A B S m' := by
  have e : ∀ a q, 169 ≤ a → m' a q = m a q := fun a q ha => F a q (wTe_n (by omega) (by omega))
  intro k' hk' h4 i hii hne
  rw [e A 16 (by omega)] at hk'
  rw [e A 10 (by omega)] at hii
  rw [e (S + k') 0 (by omega)] at h4
  rw [e (S + k') 6 (by omega)] at hne
  rw [e (B + i) 3 (by omega), e (S + k') 8 (by omega)]
  have z0 := h0 k' hk' h4
  by_cases q : m (S + k') 6 = m (S + k) 6
  · have := hi k' hk' h4 q
    subst this
    by_cases q2 : i = j.toNat
    · subst q2
      exact hj
    · rw [← hR, hq i q2, hR] at hne
      exact h k' hk' h4 i hii hne
  · rw [F _ i (wTe_n (by omega) (by omega))] at hne
    exact h k' hk' h4 i hii hne
end GOL

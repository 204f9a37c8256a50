/-! THE MODEL: what is sound while a text is read -/
/-- how much of the text is left -/
def mu (m : yM) : Int := m 376 1 - m 376 6 + (if m 376 3 = 0 then 0 else 1)
theorem mu_fr {m m' : yM} (h1 : m' 376 1 = m 376 1) (h3 : m' 376 3 = m 376 3) (h6 : m' 376 6 = m 376 6) : mu m' = mu m := by
  unfold mu
  rw [h1, h3, h6]
theorem mu_lo {m : yM} (h : m 376 6 ≤ m 376 1) : 0 ≤ mu m := by
  unfold mu
  split <;> omega
theorem mu_le {m m' : yM} (h1 : m' 376 1 = m 376 1) (h : (m' 376 3 = 0 ∧ m' 376 6 = m 376 6) ∨ (1 ≤ m' 376 3 ∧ m 376 6 < m' 376 6)) : mu m' ≤ mu m ∧ (m 376 3 ≠ 0 → mu m' < mu m) := by
  unfold mu
  rcases h with ⟨h2, h3⟩ | ⟨h2, h3⟩
  · rw [if_pos h2]
    split <;> omega
  · rw [if_neg (by omega)]
    split <;> omega
/-- the operation at b -/
def OW (m : yM) (b : Nat) : Prop := (1 ≤ m 403 b ∧ m 403 b ≤ 12) ∧ (0 ≤ m 403 (b + 1) ∧ m 403 (b + 1) ≤ 9) ∧ (-1 ≤ m 403 (b + 2) ∧ m 403 (b + 2) ≤ 47) ∧ (0 ≤ m 403 (b + 3) ∧ m 403 (b + 3) ≤ 124) ∧ (m 403 b ≠ 7 → 0 ≤ m 403 (b + 2)) ∧ (m 403 b = 1 → m 403 (b + 3) ≤ 11) ∧ ((2 ≤ m 403 b ∧ m 403 b ≤ 5) ∨ m 403 b = 7 → m 403 (b + 3) ≤ 47) ∧ (m 403 b = 3 → 0 ≤ m 403 (b + 4) ∧ m 403 (b + 4) ≤ 7) ∧
  (m 403 b = 7 → 0 ≤ m 403 (b + 5) ∧ m 403 (b + 5) ≤ 191 ∧ m 403 (b + 5) % 16 ≤ 2 ∧ (1 ≤ m 403 (b + 5) % 16 → 0 ≤ m 403 (b + 6) ∧ m 403 (b + 6) ≤ 47) ∧ (2 ≤ m 403 (b + 5) % 16 → 0 ≤ m 403 (b + 7) ∧ m 403 (b + 7) ≤ 47))
/-- the operations below n are sound; jumps go to n at most; calls are numbered below c, rising -/
def OX (p : Nat) (m : yM) (n c : Int) : Prop := (∀ o : Nat, (o : Int) < n → OW m (1000 * p + 8 * o)) ∧
  (∀ o : Nat, (o : Int) < n → (9 ≤ m 403 (1000 * p + 8 * o) ∧ m 403 (1000 * p + 8 * o) ≤ 11) → m 403 (1000 * p + 8 * o + 3) ≤ n) ∧
  (∀ o : Nat, (o : Int) < n → m 403 (1000 * p + 8 * o) = 7 → m 403 (1000 * p + 8 * o + 5) / 16 < c) ∧
  (∀ i j : Nat, i < j → (j : Int) < n → m 403 (1000 * p + 8 * i) = 7 → m 403 (1000 * p + 8 * j) = 7 → m 403 (1000 * p + 8 * i + 5) / 16 < m 403 (1000 * p + 8 * j + 5) / 16)
/-- a jump goes on, or back to a loop's test -/
def JK (p : Nat) (m : yM) (o : Nat) : Prop := (o : Int) < m 403 (1000 * p + 8 * o + 3) ∨ m 403 (1000 * p + 8 * (m 403 (1000 * p + 8 * o + 3)).toNat) = 10
/-- every jump does, but those of blocks that stand -/
def JX (p : Nat) (m : yM) (n : Int) : Prop := ∀ o : Nat, (o : Int) < n → m 403 (1000 * p + 8 * o) = 11 → JK p m o ∨ ∃ e : Nat, e < 3 ∧ (e : Int) < m 376 10 ∧ m 378 e = 2 ∧ m 379 e = o
/-- the blocks that stand -/
def BX (p : Nat) (m : yM) (n : Int) : Prop := ∀ e : Nat, e < 3 → (e : Int) < m 376 10 → 0 ≤ m 379 e ∧ m 379 e < n ∧ 1 ≤ m 378 e ∧ (m 378 e = 3 → m 403 (1000 * p + 8 * (m 379 e).toNat) = 10) ∧ (m 378 e = 1 → m 403 (1000 * p + 8 * (m 379 e).toNat) = 9) ∧ (m 378 e = 2 → m 403 (1000 * p + 8 * (m 379 e).toNat) = 11)
/-- the methods -/
def MX (p : Nat) (m : yM) (k n : Int) : Prop := ∀ i : Nat, (i : Int) < k → m 398 (10 * p + i) + 2 + m 397 (10 * p + i) ≤ 48 ∧ m 399 (10 * p + i) ≤ n
/-- classes lie below earlier ones -/
def UX (p : Nat) (m : yM) (n : Int) : Prop := ∀ k : Nat, (k : Int) < n → m 392 (6 * p + k) < k
/-- the casts' variables -/
def CV (p : Nat) (m : yM) (n : Int) : Prop := ∀ c : Nat, (c : Int) < n → 0 ≤ m 401 (8 * p + c)
/-- what is new is of a site that was told -/
def NS (p : Nat) (m : yM) (n s : Int) : Prop := ∀ o : Nat, (o : Int) < n → m 403 (1000 * p + 8 * o) = 1 → m 403 (1000 * p + 8 * o + 3) < s
/-- all of it -/
def XS (p : Nat) (m : yM) : Prop := OX p m (m 390 p) (m 386 p) ∧ JX p m (m 390 p) ∧ BX p m (m 390 p) ∧ MX p m (m 384 p) (m 390 p) ∧ UX p m (m 383 p) ∧ m 376 17 = m 388 p - 1 + m 387 p ∧ 1 ≤ m 388 p ∧ CV p m (m 387 p) ∧ NS p m (m 390 p) (m 388 p)
/-- the places that it speaks of -/
def vXs (p a q : Nat) : Bool := (a == 376 && (q == 10 || q == 17)) || a == 378 || a == 379 || ((a == 383 || a == 384 || a == 386 || a == 387 || a == 388 || a == 390) && q == p) || a == 392 || a == 397 || a == 398 || a == 399 || a == 401 || a == 403
theorem XS.fr {p : Nat} {m m' : yM} (h : XS p m) (e : ∀ a q, vXs p a q = true → m' a q = m a q) : XS p m' := by
  have e3 : ∀ q, m' 403 q = m 403 q := fun q => e _ _ (by simp [vXs])
  have e8 : ∀ q, m' 378 q = m 378 q := fun q => e _ _ (by simp [vXs])
  have e9 : ∀ q, m' 379 q = m 379 q := fun q => e _ _ (by simp [vXs])
  have eu : ∀ q, m' 392 q = m 392 q := fun q => e _ _ (by simp [vXs])
  have f7 : ∀ q, m' 397 q = m 397 q := fun q => e _ _ (by simp [vXs])
  have f8 : ∀ q, m' 398 q = m 398 q := fun q => e _ _ (by simp [vXs])
  have f9 : ∀ q, m' 399 q = m 399 q := fun q => e _ _ (by simp [vXs])
  have f1 : ∀ q, m' 401 q = m 401 q := fun q => e _ _ (by simp [vXs])
  unfold XS OX JX JK BX MX UX OW CV NS at h ⊢
  simp only [e3, f1, e8, e9, eu, f7, f8, f9, e 376 10 (by simp [vXs]), e 376 17 (by simp [vXs]), e 383 p (by simp [vXs]), e 384 p (by simp [vXs]), e 386 p (by simp [vXs]), e 387 p (by simp [vXs]), e 388 p (by simp [vXs]), e 390 p (by simp [vXs])]
  exact h
theorem XS.fw {p : Nat} {m m' : yM} {w : Nat → Nat → Bool} (h : XS p m) (F : Fr w m m') (hd : ∀ a q, vXs p a q = true → w a q = false) : XS p m' := h.fr (fun a q ha => F a q (hd a q ha))
/-- what emit does -/
def EM (p : Nat) (m m' : yM) (w a b c : Int) : Prop := m' 390 p = m 390 p + 1 ∧ m' 403 (1000 * p + 8 * (m 390 p).toNat) = w ∧ m' 403 (1000 * p + 8 * (m 390 p).toNat + 1) = m 384 p - 1 ∧ m' 403 (1000 * p + 8 * (m 390 p).toNat + 2) = a ∧ m' 403 (1000 * p + 8 * (m 390 p).toNat + 3) = b ∧ m' 403 (1000 * p + 8 * (m 390 p).toNat + 4) = c ∧ (∀ q, q < 1000 * p + 8 * (m 390 p).toNat ∨ 1000 * p + 8 * (m 390 p).toNat + 8 ≤ q → m' 403 q = m 403 q)

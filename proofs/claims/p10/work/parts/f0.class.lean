/-! THE CLASS: what stands between its calls -/
def wCl (a q : Nat) : Bool := (a == 0 && (q == 4 || q == 5 || q == 7)) || decide (1 ≤ a ∧ a < 376) || a == 413
def CI (A B : Nat) (ix : Int) (m : yM) : Prop := Ty gT m ∧ m 0 4 = ix ∧ m 0 5 = 1 - ix ∧ PS A m ∧ MP B m ∧ (m 8 4 = ix ∨ (m A 13 = 0 ∧ m A 15 = 0))
def CJ (m : yM) : Prop := CI 256 326 0 m ∨ CI 316 266 1 m
theorem CI.fr {A B : Nat} {ix : Int} {m m' : yM} (h : CI A B ix m) (hA : 256 ≤ A ∧ A ≤ 316 ∧ 256 ≤ B ∧ B ≤ 366) (h16 : m A 16 ≤ 40) (h10 : m A 10 ≤ 10) (hT : Ty gT m') (e : ∀ a q, (a = 0 ∧ (q = 4 ∨ q = 5)) ∨ (a = 8 ∧ q = 4) ∨ (256 ≤ a ∧ a < 376) → m' a q = m a q) : CI A B ix m' := by
  obtain ⟨-, h1, h2, h3, h4, h5⟩ := h
  refine ⟨hT, by rw [e 0 4 (by omega)]; exact h1, by rw [e 0 5 (by omega)]; exact h2, h3.fr h16 h10 (fun k q hk => e _ _ (by omega)), h4.fr (fun k hk => e _ _ (by omega)) (fun k hk => e _ _ (by omega)), ?_⟩
  rw [e 8 4 (by omega), e A 13 (by omega), e A 15 (by omega)]
  exact h5
theorem wCl_of {w1 : Nat → Nat → Bool} (h : ∀ a q, w1 a q = true → (a = 0 ∧ (q = 4 ∨ q = 5 ∨ q = 7)) ∨ (1 ≤ a ∧ a < 376) ∨ a = 413) : ∀ a q, w1 a q = true → wCl a q = true := by
  intro a q e
  have := h a q e
  simp [wCl]
  omega
theorem wMx_wCl : ∀ a q, wMx a q = true → wCl a q = true := wCl_of (fun a q h => by simp [wMx] at h; omega)
theorem wFd8_wCl : ∀ a q, wFd8 a q = true → wCl a q = true := wCl_of (fun a q h => by simp [wFd8] at h; omega)
theorem wPs256_wCl : ∀ a q, wPs256 a q = true → wCl a q = true := wCl_of (fun a q h => by simp [wPs256] at h; omega)
theorem wPs316_wCl : ∀ a q, wPs316 a q = true → wCl a q = true := wCl_of (fun a q h => by simp [wPs316] at h; omega)
/-- what the law gets of a call -/
def qW (nn : Nat) (m : yM) : xO → yM → Nat → Prop := fun o m' n' => ∃ x : Int, o = .inl (some (yI x)) ∧ (0 ≤ x ∧ x ≤ 4) ∧ (n' = nn ∨ n' = nn + 1) ∧ Fr wCl m m' ∧ CJ m'

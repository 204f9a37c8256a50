/-! STATEMENTS THAT HAVE BEEN READ: sound by their kind; calls and casts numbered -/
/-- the statement k is sound -/
def SV (S : Nat) (m : yM) (k : Nat) : Prop :=
  ((m (S + k) 0 = 0 ∨ m (S + k) 0 = 1) → 0 ≤ m (S + k) 3 ∧ (k : Int) < m (S + k) 11) ∧
  ((m (S + k) 0 = 2 ∨ m (S + k) 0 = 3 ∨ m (S + k) 0 = 7 ∨ m (S + k) 0 = 8 ∨ m (S + k) 0 = 9) → 0 ≤ m (S + k) 2 ∧ 0 ≤ m (S + k) 3) ∧
  (m (S + k) 0 = 4 → 0 ≤ m (S + k) 3 ∧ 0 ≤ m (S + k) 6 ∧ (1 ≤ m (S + k) 8 → 0 ≤ m (S + k) 9) ∧ (2 ≤ m (S + k) 8 → 0 ≤ m (S + k) 10)) ∧
  (m (S + k) 0 = 5 → 0 ≤ m (S + k) 2 ∧ 0 ≤ m (S + k) 6) ∧ (m (S + k) 0 = 6 → 0 ≤ m (S + k) 2)
/-- the statements from a to b are sound; their calls are numbered from c1 to c2, rising; the casts from d1 to d2 are among them (K: where casts are told) -/
def RG (S K : Nat) (m : yM) (a b c1 c2 d1 d2 : Int) : Prop :=
  (∀ j : Nat, a ≤ j → (j : Int) < b → SV S m j ∧ (m (S + j) 0 = 4 → c1 ≤ m (S + j) 6 ∧ m (S + j) 6 < c2)) ∧
  (∀ i j : Nat, a ≤ i → i < j → (j : Int) < b → m (S + i) 0 = 4 → m (S + j) 0 = 4 → m (S + i) 6 < m (S + j) 6) ∧
  (∀ z : Nat, d1 ≤ z → (z : Int) < d2 → ∃ j : Nat, m K z = j ∧ a ≤ j ∧ (j : Int) < b ∧ m (S + j) 0 = 7)
section RGL
variable {S K : Nat} {m m' : yM} {a b c c1 c2 c3 d1 d2 d3 : Int}
theorem SV.fr {k : Nat} (h : SV S m k) (e : ∀ q, q ≠ 12 → m' (S + k) q = m (S + k) q) : SV S m' k := by
  unfold SV at h ⊢
  rw [e 0 (by decide), e 2 (by decide), e 3 (by decide), e 6 (by decide), e 8 (by decide), e 9 (by decide), e 10 (by decide), e 11 (by decide)]
  exact h
theorem RG.nil (h : b ≤ a) (h2 : d2 ≤ d1) : RG S K m a b c1 c2 d1 d2 := ⟨fun j h3 h4 => by omega, fun i j h3 h4 h5 => by omega, fun z h3 h4 => by omega⟩
theorem RG.fr (h : RG S K m a b c1 c2 d1 d2) (e : ∀ j : Nat, a ≤ j → (j : Int) < b → ∀ q, q ≠ 12 → m' (S + j) q = m (S + j) q) (e2 : ∀ z : Nat, d1 ≤ z → (z : Int) < d2 → m' K z = m K z) (hc : c2 ≤ c3) : RG S K m' a b c1 c3 d1 d2 := by
  obtain ⟨h1, h2, h3⟩ := h
  refine ⟨fun j ja jb => ?_, fun i j ia ij jb => ?_, fun z za zb => ?_⟩
  · obtain ⟨k1, k2⟩ := h1 j ja jb
    refine ⟨k1.fr (e j ja jb), ?_⟩
    rw [e j ja jb 0 (by decide), e j ja jb 6 (by decide)]
    intro h4
    have := k2 h4
    omega
  · have ib : (i : Int) < b := by omega
    have ja : a ≤ (j : Int) := by omega
    rw [e i ia ib 0 (by decide), e i ia ib 6 (by decide), e j ja jb 0 (by decide), e j ja jb 6 (by decide)]
    exact h2 i j ia ij jb
  · obtain ⟨j, k1, k2, k3, k4⟩ := h3 z za zb
    exact ⟨j, by rw [e2 z za zb]; exact k1, k2, k3, by rw [e j k2 k3 0 (by decide)]; exact k4⟩
theorem RG.app (h : RG S K m a b c1 c2 d1 d2) (h' : RG S K m b c c2 c3 d2 d3) (hab : a ≤ b) (hbc : b ≤ c) (hc : c1 ≤ c2 ∧ c2 ≤ c3) : RG S K m a c c1 c3 d1 d3 := by
  obtain ⟨h1, h2, h3⟩ := h
  obtain ⟨g1, g2, g3⟩ := h'
  refine ⟨fun j ja jb => ?_, fun i j ia ij jb => ?_, fun z za zb => ?_⟩
  · by_cases q : (j : Int) < b
    · obtain ⟨k1, k2⟩ := h1 j ja q
      exact ⟨k1, fun h4 => by have := k2 h4; omega⟩
    · obtain ⟨k1, k2⟩ := g1 j (by omega) jb
      exact ⟨k1, fun h4 => by have := k2 h4; omega⟩
  · intro h4 h5
    by_cases q : (j : Int) < b
    · exact h2 i j ia ij q h4 h5
    · by_cases q2 : (i : Int) < b
      · have := (h1 i ia q2).2 h4
        have := (g1 j (by omega) jb).2 h5
        omega
      · exact g2 i j (by omega) ij jb h4 h5
  · by_cases q : (z : Int) < d2
    · obtain ⟨j, k1, k2, k3, k4⟩ := h3 z za q
      exact ⟨j, k1, k2, by omega, k4⟩
    · obtain ⟨j, k1, k2, k3, k4⟩ := g3 z (by omega) zb
      exact ⟨j, k1, by omega, k3, k4⟩
/-- one statement -/
theorem RG.one {k : Nat} (h : SV S m k) (hc : m (S + k) 0 = 4 → c1 ≤ m (S + k) 6 ∧ m (S + k) 6 < c2) (hd : d2 = d1 ∨ (d2 = d1 + 1 ∧ 0 ≤ d1 ∧ m K d1.toNat = k ∧ m (S + k) 0 = 7)) : RG S K m k (k + 1) c1 c2 d1 d2 := by
  refine ⟨fun j ja jb => ?_, fun i j ia ij jb => by omega, fun z za zb => ?_⟩
  · have : j = k := by omega
    subst this
    exact ⟨h, hc⟩
  · rcases hd with hd | ⟨hd, h0, h1, h2⟩
    · omega
    · have : z = d1.toNat := by omega
      subst this
      exact ⟨k, h1, by omega, by omega, h2⟩
end RGL
/-- the statements from a to b end at c at most, and so do their first bodies -/
def EN (S : Nat) (m : yM) (a b c : Int) : Prop := ∀ j : Nat, a ≤ j → (j : Int) < b → m (S + j) 12 ≤ c ∧ ((m (S + j) 0 = 0 ∨ m (S + j) 0 = 1) → m (S + j) 11 ≤ c)
section ENL
variable {S : Nat} {m m' : yM} {a b c c2 : Int}
theorem EN.nil (h : b ≤ a) : EN S m a b c := fun j h1 h2 => by omega
theorem EN.fr (h : EN S m a b c) (e : ∀ j : Nat, a ≤ j → (j : Int) < b → ∀ q, m' (S + j) q = m (S + j) q) (hc : c ≤ c2) : EN S m' a b c2 := by
  intro j h1 h2
  have := h j h1 h2
  rw [e j h1 h2 12, e j h1 h2 0, e j h1 h2 11]
  omega
theorem EN.app {b2 : Int} (h : EN S m a b c) (h' : EN S m b b2 c) : EN S m a b2 c := by
  intro j h1 h2
  by_cases q : (j : Int) < b
  · exact h j h1 q
  · exact h' j (by omega) h2
theorem EN.one {k : Int} (hk : 0 ≤ k) (h12 : m (S + k.toNat) 12 ≤ c) (h11 : (m (S + k.toNat) 0 = 0 ∨ m (S + k.toNat) 0 = 1) → m (S + k.toNat) 11 ≤ c) : EN S m k (k + 1) c := by
  intro j h1 h2
  have : j = k.toNat := by omega
  subst this
  exact ⟨h12, h11⟩
end ENL

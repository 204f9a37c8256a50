/-! A PROGRAM THAT WAS READ IS SOUND -/
/-- the methods' bodies end at c at most -/
def ES (B : Nat) (m : yM) (n c : Int) : Prop := ∀ k : Nat, (k : Int) < n → m (B + k) 5 ≤ c
/-- loads and stores name a field, or none -/
def NL (S : Nat) (m : yM) (a b : Int) : Prop := ∀ j : Nat, a ≤ j → (j : Int) < b → (m (S + j) 0 = 3 ∨ m (S + j) 0 = 9) → m (S + j) 6 ≤ 7
def PS (A : Nat) (m : yM) : Prop := RG (A + 20) (A + 9) m 0 (m A 16) 0 (m A 12) 0 (m A 13) ∧ EN (A + 20) m 0 (m A 16) (m A 16) ∧ NL (A + 20) m 0 (m A 16) ∧ MP (A + 10) m ∧ ES (A + 10) m (m A 10) (m A 16) ∧ m A 17 < m A 10
section PSL
variable {S K A B : Nat} {m m' : yM} {a b c c1 c2 d1 d2 : Int}
theorem ES.nil (h : a ≤ 0) : ES B m a c := fun k hk => by omega
theorem ES.fr (h : ES B m a c) (e : ∀ k : Nat, (k : Int) < a → m' (B + k) 5 = m (B + k) 5) (hc : c ≤ c2) : ES B m' a c2 := by
  intro k hk
  have := h k hk
  rw [e k hk]
  omega
theorem ES.snoc (h : ES B m a c) (h0 : 0 ≤ a) (h1 : m (B + a.toNat) 5 ≤ c) : ES B m (a + 1) c := by
  intro k hk
  by_cases q : (k : Int) < a
  · exact h k q
  · have : k = a.toNat := by omega
    subst this
    exact h1
theorem NL.nil (h : b ≤ a) : NL S m a b := fun j h1 h2 => by omega
theorem NL.snoc (h : NL S m a b) {k : Int} (hk : k = b) (h0 : 0 ≤ k) (h1 : (m (S + k.toNat) 0 = 3 ∨ m (S + k.toNat) 0 = 9) → m (S + k.toNat) 6 ≤ 7) : NL S m a (b + 1) := by
  intro j ja jb hj
  by_cases q : (j : Int) < b
  · exact h j ja q hj
  · have : j = k.toNat := by omega
    subst this
    exact h1 hj
theorem NL.fr (h : NL S m a b) (e : ∀ j : Nat, a ≤ j → (j : Int) < b → m' (S + j) 0 = m (S + j) 0 ∧ m' (S + j) 6 = m (S + j) 6) : NL S m' a b := by
  intro j ja jb hj
  rw [(e j ja jb).1] at hj
  rw [(e j ja jb).2]
  exact h j ja jb hj
/-- sound, whatever the fields' numbers of loads and stores, and the types -/
theorem RG.ext (h : RG S K m a b c1 c2 d1 d2) (e : ∀ j : Nat, ∀ q, q ≠ 6 → q ≠ 7 → m' (S + j) q = m (S + j) q) (e6 : ∀ j : Nat, (m (S + j) 0 = 4 ∨ m (S + j) 0 = 5) → m' (S + j) 6 = m (S + j) 6) (e2 : ∀ z : Nat, m' K z = m K z) : RG S K m' a b c1 c2 d1 d2 := by
  obtain ⟨h1, h2, h3⟩ := h
  refine ⟨fun j ja jb => ?_, fun i j ia ij jb => ?_, fun z za zb => ?_⟩
  · obtain ⟨k1, k2⟩ := h1 j ja jb
    constructor
    · unfold SV at k1 ⊢
      rw [e j 0 (by decide) (by decide), e j 2 (by decide) (by decide), e j 3 (by decide) (by decide), e j 8 (by decide) (by decide), e j 9 (by decide) (by decide), e j 10 (by decide) (by decide), e j 11 (by decide) (by decide)]
      obtain ⟨s1, s2, s3, s4, s5⟩ := k1
      refine ⟨s1, s2, fun q => ?_, fun q => ?_, s5⟩
      · rw [e6 j (Or.inl q)]; exact s3 q
      · rw [e6 j (Or.inr q)]; exact s4 q
    · rw [e j 0 (by decide) (by decide)]
      intro q
      rw [e6 j (Or.inl q)]
      exact k2 q
  · rw [e i 0 (by decide) (by decide), e j 0 (by decide) (by decide)]
    intro p q
    rw [e6 i (Or.inl p), e6 j (Or.inl q)]
    exact h2 i j ia ij jb p q
  · obtain ⟨j, k1, k2, k3, k4⟩ := h3 z za zb
    exact ⟨j, by rw [e2 z]; exact k1, k2, k3, by rw [e j 0 (by decide) (by decide)]; exact k4⟩
theorem EN.fr' (h : EN S m a b c) (e : ∀ j q, (q ≠ 6 ∧ q ≠ 7) → m' (S + j) q = m (S + j) q) : EN S m' a b c := by
  intro j h1 h2
  have := h j h1 h2
  rw [e j 12 (by decide), e j 0 (by decide), e j 11 (by decide)]
  exact this
theorem PS.fr (h : PS A m) (h16 : m A 16 ≤ 40) (h10 : m A 10 ≤ 10) (e : ∀ k q, k < 60 → m' (A + k) q = m (A + k) q) : PS A m' := by
  obtain ⟨h1, h2, h3, h4, h5, h6⟩ := h
  have e0 : ∀ q, m' A q = m A q := fun q => e 0 q (by decide)
  have tt : ∀ (j : Nat), (j : Int) < m A 16 → ∀ q, m' (A + 20 + j) q = m (A + 20 + j) q := fun j hj q => by
    have := e (20 + j) q (by omega)
    rw [Nat.add_assoc]
    exact this
  have tm : ∀ (j : Nat), j < 10 → ∀ q, m' (A + 10 + j) q = m (A + 10 + j) q := fun j hj q => by
    have := e (10 + j) q (by omega)
    rw [Nat.add_assoc]
    exact this
  unfold PS
  rw [e0 16, e0 12, e0 13, e0 10, e0 17]
  refine ⟨h1.fr (fun j _ jb q _ => tt j jb q) (fun z _ _ => e 9 z (by decide)) (Int.le_refl _), h2.fr (fun j _ jb q => tt j jb q) (Int.le_refl _), h3.fr (fun j _ jb => ⟨tt j jb 0, tt j jb 6⟩), ?_, h5.fr (fun k hk => tm k (by omega) 5) (Int.le_refl _), h6⟩
  intro k hk
  rw [tm k hk 2, tm k hk 3]
  exact h4 k hk
end PSL

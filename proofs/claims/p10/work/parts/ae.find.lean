/-! LOOKING UP: the first of a row -/
def IX (N : Int) (P : Nat → Prop) (r : Int) : Prop := (r = -1 ∧ ∀ k : Nat, (k : Int) < N → ¬ P k) ∨ (∃ k : Nat, r = k ∧ (k : Int) < N ∧ P k ∧ ∀ j : Nat, j < k → ¬ P j)
theorem IX.eq {N : Int} {P Q : Nat → Prop} {r r' : Int} (h : IX N P r) (h' : IX N Q r') (e : ∀ k : Nat, (k : Int) < N → (P k ↔ Q k)) : r = r' := by
  rcases h with ⟨h1, h2⟩ | ⟨k, h1, h2, h3, h4⟩
  · rcases h' with ⟨g1, g2⟩ | ⟨k', g1, g2, g3, g4⟩
    · omega
    · exact absurd ((e k' g2).mpr g3) (h2 k' g2)
  · rcases h' with ⟨g1, g2⟩ | ⟨k', g1, g2, g3, g4⟩
    · exact absurd ((e k h2).mp h3) (g2 k h2)
    · have : k = k' := by
        rcases Nat.lt_trichotomy k k' with q | q | q
        · exact absurd ((e k h2).mp h3) (g4 k q)
        · exact q
        · exact absurd ((e k' g2).mpr g3) (h4 k' q)
      omega
theorem IX.lt {N : Int} {P : Nat → Prop} {r : Int} (h : IX N P r) : r = -1 ∨ (0 ≤ r ∧ r < N ∧ P r.toNat) := by
  rcases h with ⟨h1, -⟩ | ⟨k, h1, h2, h3, -⟩
  · exact Or.inl h1
  · exact Or.inr ⟨by omega, by omega, by rw [h1]; exact h3⟩
theorem IX.no {N : Int} {P : Nat → Prop} (h : IX N P (-1)) : ∀ k : Nat, (k : Int) < N → ¬ P k := by
  rcases h with ⟨-, h2⟩ | ⟨k, h1, -⟩
  · exact h2
  · omega
theorem IX.mp {N : Int} {P Q : Nat → Prop} {r : Int} (h : IX N P r) (e : ∀ k : Nat, (k : Int) < N → (P k ↔ Q k)) : IX N Q r := by
  rcases h with ⟨h1, h2⟩ | ⟨k, h1, h2, h3, h4⟩
  · exact Or.inl ⟨h1, fun k hk q => h2 k hk ((e k hk).mpr q)⟩
  · exact Or.inr ⟨k, h1, h2, (e k h2).mp h3, fun j hj q => h4 j hj ((e j (by omega)).mpr q)⟩
/-- a search loop, as both sides have it -/
theorem find_r {N : Int} {P : Nat → Prop} {B : Int → Option (Int ⊕ (Int ⊕ Int))} (hN : N ≤ 1000) (h0 : 0 ≤ N) (hB : ∀ l : Int, 0 ≤ l → l ≤ N → (l < N ∧ P l.toNat ∧ B l = some (.inr (.inr l))) ∨ (l < N ∧ ¬ P l.toNat ∧ B l = some (.inl (wr (l + 1)))) ∨ (¬ l < N ∧ B l = some (.inr (.inl l)))) {f : Nat} {r : Int ⊕ Int} (h : ploop B f 0 = some r) : (∃ k, r = .inr k ∧ 0 ≤ k ∧ IX N P k) ∨ (∃ l, r = .inl l ∧ IX N P (-1)) := by
  obtain ⟨l', hI, hE⟩ := ploop_inv (fun l : Int => 0 ≤ l ∧ l ≤ N ∧ ∀ j : Nat, (j : Int) < l → ¬ P j) (fun l l' hI hE => by
    obtain ⟨i1, i2, i3⟩ := hI
    rcases hB l i1 i2 with ⟨b1, b2, b3⟩ | ⟨b1, b2, b3⟩ | ⟨b1, b3⟩
    · rw [b3] at hE; cases hE
    · rw [b3] at hE
      cases hE
      rw [wr_i (by omega) (by omega)]
      refine ⟨by omega, by omega, fun j hj => ?_⟩
      by_cases q : (j : Int) = l
      · have : l.toNat = j := by omega
        rw [← this]; exact b2
      · exact i3 j (by omega)
    · rw [b3] at hE; cases hE) f 0 r ⟨by omega, h0, fun j hj => by omega⟩ h
  obtain ⟨i1, i2, i3⟩ := hI
  rcases hB l' i1 i2 with ⟨b1, b2, b3⟩ | ⟨b1, b2, b3⟩ | ⟨b1, b3⟩
  · rw [b3] at hE
    cases hE
    exact Or.inl ⟨l', rfl, i1, Or.inr ⟨l'.toNat, by omega, by omega, b2, fun j hj => i3 j (by omega)⟩⟩
  · rw [b3] at hE; cases hE
  · rw [b3] at hE
    cases hE
    exact Or.inr ⟨l', rfl, Or.inl ⟨rfl, fun k hk => i3 k (by omega)⟩⟩
theorem F40_6_r {f a : Nat} {x1 x2 r : Int} {m : yM} (h0 : 0 ≤ x1) (h1 : x1 ≤ 1000) (h : F40_6 f a x1 x2 m = some r) : IX x1 (fun k => m a k = x2) r := by
  unfold F40_6 at h
  have K := fun {r : Int ⊕ Int} (hh : ploop (fun (l : Int) => B40_6_2 f a x1 x2 l m) f 0 = some r) => find_r (P := fun k => m a k = x2) h1 h0 (fun l l1 l2 => by
    unfold B40_6_2
    by_cases q : l < x1
    · by_cases q2 : m a l.toNat = x2
      · exact Or.inl ⟨q, q2, by rw [if_pos q, if_pos q2]⟩
      · exact Or.inr (Or.inl ⟨q, q2, by rw [if_pos q, if_neg q2]⟩)
    · exact Or.inr (Or.inr ⟨q, by rw [if_neg q]⟩)) hh
  rcases bQ_e h with ⟨l, e1, h⟩ | ⟨l, e1, h⟩
  · rcases K e1 with ⟨k, z, -⟩ | ⟨k, z, z2⟩
    · cases z
    · cases h; exact z2
  · rcases K e1 with ⟨k, z, -, z2⟩ | ⟨k, z, z2⟩
    · cases z; cases h; exact z2
    · cases z
theorem F40_8_r {f a : Nat} {x1 x2 r : Int} {m : yM} (h0 : 0 ≤ x1) (h1 : x1 ≤ 1000) (h : F40_8 f a x1 x2 m = some r) : IX x1 (fun k => m a k = x2) r := F40_6_r h0 h1 h
theorem F41_r {f A : Nat} {x1 r : Int} {m : yM} (h0 : 0 ≤ m A 9) (h1 : m A 9 ≤ 6) (h : F41 f A x1 m = some r) : IX (m A 9) (fun k => m (A + 1) k = x1) r := by
  unfold F41 at h
  obtain ⟨r1, e1, h⟩ := bP_e h
  cases h
  exact F40_6_r h0 (by omega) e1
theorem F46_r {f A : Nat} {x1 r : Int} {m : yM} (h0 : 0 ≤ m A 11) (h1 : m A 11 ≤ 8) (h : F46 f A x1 m = some r) : IX (m A 11) (fun k => m (A + 4) k = x1) r := by
  unfold F46 at h
  obtain ⟨r1, e1, h⟩ := bP_e h
  cases h
  exact F40_8_r h0 (by omega) e1
theorem F116_r {f p : Nat} {x2 r : Int} {m : yM} (hp : p ≤ 1) (h0 : 0 ≤ m 383 p) (h1 : m 383 p ≤ 6) (h : F116 f p x2 m = some r) : IX (m 383 p) (fun k => m 391 (6 * p + k) = x2) r := by
  unfold F116 at h
  have K := fun {r : Int ⊕ Int} (hh : ploop (fun (l : Int) => B116_2 f p x2 l m) f 0 = some r) => find_r (P := fun k => m 391 (6 * p + k) = x2) (N := m 383 p) (by omega) h0 (fun l l1 l2 => by
    unfold B116_2
    have e : (wr (wr (6 * (p : Int)) + l)).toNat = 6 * p + l.toNat := by
      rw [wr_i (x := 6 * (p : Int)) (by omega) (by omega), wr_i (by omega) (by omega)]
      omega
    rw [e, show ((p : Int)).toNat = p from Int.toNat_natCast p]
    by_cases q : l < m 383 p
    · by_cases q2 : m 391 (6 * p + l.toNat) = x2
      · exact Or.inl ⟨q, q2, by rw [if_pos q, if_pos q2]⟩
      · exact Or.inr (Or.inl ⟨q, q2, by rw [if_pos q, if_neg q2]⟩)
    · exact Or.inr (Or.inr ⟨q, by rw [if_neg q]⟩)) hh
  rcases bQ_e h with ⟨l, e1, h⟩ | ⟨l, e1, h⟩
  · rcases K e1 with ⟨k, z, -⟩ | ⟨k, z, z2⟩
    · cases z
    · cases h; exact z2
  · rcases K e1 with ⟨k, z, -, z2⟩ | ⟨k, z, z2⟩
    · cases z; cases h; exact z2
    · cases z
theorem F120_r {f p : Nat} {x2 r : Int} {m : yM} (hp : p ≤ 1) (h0 : 0 ≤ m 385 p) (h1 : m 385 p ≤ 8) (h : F120 f p x2 m = some r) : IX (m 385 p) (fun k => m 394 (8 * p + k) = x2) r := by
  unfold F120 at h
  have K := fun {r : Int ⊕ Int} (hh : ploop (fun (l : Int) => B120_2 f p x2 l m) f 0 = some r) => find_r (P := fun k => m 394 (8 * p + k) = x2) (N := m 385 p) (by omega) h0 (fun l l1 l2 => by
    unfold B120_2
    have e : (wr (wr (8 * (p : Int)) + l)).toNat = 8 * p + l.toNat := by
      rw [wr_i (x := 8 * (p : Int)) (by omega) (by omega), wr_i (by omega) (by omega)]
      omega
    rw [e, show ((p : Int)).toNat = p from Int.toNat_natCast p]
    by_cases q : l < m 385 p
    · by_cases q2 : m 394 (8 * p + l.toNat) = x2
      · exact Or.inl ⟨q, q2, by rw [if_pos q, if_pos q2]⟩
      · exact Or.inr (Or.inl ⟨q, q2, by rw [if_pos q, if_neg q2]⟩)
    · exact Or.inr (Or.inr ⟨q, by rw [if_neg q]⟩)) hh
  rcases bQ_e h with ⟨l, e1, h⟩ | ⟨l, e1, h⟩
  · rcases K e1 with ⟨k, z, -⟩ | ⟨k, z, z2⟩
    · cases z
    · cases h; exact z2
  · rcases K e1 with ⟨k, z, -, z2⟩ | ⟨k, z, z2⟩
    · cases z; cases h; exact z2
    · cases z
theorem F50_r {f A : Nat} {x1 x2 r : Int} {m : yM} (h0 : 0 ≤ m A 10) (h1 : m A 10 ≤ 10) (h : F50 f A x1 x2 m = some r) : IX (m A 10) (fun k => m (A + 10 + k) 1 = x1 ∧ m (A + 10 + k) 0 = x2) r := by
  unfold F50 at h
  have K := fun {r : Int ⊕ Int} (hh : ploop (fun (l : Int) => B50_2 f A x1 x2 l m) f 0 = some r) => find_r (P := fun k => m (A + 10 + k) 1 = x1 ∧ m (A + 10 + k) 0 = x2) (N := m A 10) (by omega) h0 (fun l l1 l2 => by
    unfold B50_2 J50_38
    by_cases q : l < m A 10
    · by_cases q2 : m (A + 10 + l.toNat) 1 = x1
      · by_cases q3 : m (A + 10 + l.toNat) 0 = x2
        · exact Or.inl ⟨q, ⟨q2, q3⟩, by rw [if_pos q, if_pos q2, if_pos q3]⟩
        · exact Or.inr (Or.inl ⟨q, fun z => q3 z.2, by rw [if_pos q, if_pos q2, if_neg q3]⟩)
      · exact Or.inr (Or.inl ⟨q, fun z => q2 z.1, by rw [if_pos q, if_neg q2]⟩)
    · exact Or.inr (Or.inr ⟨q, by rw [if_neg q]⟩)) hh
  rcases bQ_e h with ⟨l, e1, h⟩ | ⟨l, e1, h⟩
  · rcases K e1 with ⟨k, z, -⟩ | ⟨k, z, z2⟩
    · cases z
    · cases h; exact z2
  · rcases K e1 with ⟨k, z, -, z2⟩ | ⟨k, z, z2⟩
    · cases z; cases h; exact z2
    · cases z
/-- the model's inner loop of declared -/
theorem B123_11_r {f g p : Nat} {x3 x4 x5 : Int} {m : yM} (hp : p ≤ 1) (h0 : 0 ≤ m 384 p) (h1 : m 384 p ≤ 10) {r : Int ⊕ Int} (h : ploop (fun (l : Int) => B123_11 f p x3 x4 x5 l m) g 0 = some r) : (∃ k, r = .inr k ∧ 0 ≤ k ∧ IX (m 384 p) (fun k => m 396 (10 * p + k) = x5 ∧ m 395 (10 * p + k) = x3) k) ∨ (∃ l, r = .inl l ∧ IX (m 384 p) (fun k => m 396 (10 * p + k) = x5 ∧ m 395 (10 * p + k) = x3) (-1)) := by
  refine find_r (N := m 384 p) (by omega) h0 (fun l l1 l2 => ?_) h
  unfold B123_11 J123_58
  have e : (wr (wr (10 * (p : Int)) + l)).toNat = 10 * p + l.toNat := by
    rw [wr_i (x := 10 * (p : Int)) (by omega) (by omega), wr_i (by omega) (by omega)]
    omega
  rw [e, show ((p : Int)).toNat = p from Int.toNat_natCast p]
  by_cases q : l < m 384 p
  · by_cases q2 : m 396 (10 * p + l.toNat) = x5
    · by_cases q3 : m 395 (10 * p + l.toNat) = x3
      · exact Or.inl ⟨q, ⟨q2, q3⟩, by rw [if_pos q, if_pos q2, if_pos q3]⟩
      · exact Or.inr (Or.inl ⟨q, fun z => q3 z.2, by rw [if_pos q, if_pos q2, if_neg q3]⟩)
    · exact Or.inr (Or.inl ⟨q, fun z => q2 z.1, by rw [if_pos q, if_neg q2]⟩)
  · exact Or.inr (Or.inr ⟨q, by rw [if_neg q]⟩)
theorem F123_own {f p : Nat} {x2 x3 r : Int} {m : yM} (hp : p ≤ 1) (hx : 0 ≤ x2) (h0 : 0 ≤ m 384 p) (h1 : m 384 p ≤ 10) (h : F123 f p x2 x3 1 m = some r) : IX (m 384 p) (fun k => m 396 (10 * p + k) = x2 ∧ m 395 (10 * p + k) = x3) r := by
  unfold F123 at h
  have K : ∀ {r : Int ⊕ Int}, ploop (fun (l : Int) => B123_3 f p x3 1 l m) f x2 = some r → (∃ k, r = .inr k ∧ IX (m 384 p) (fun k => m 396 (10 * p + k) = x2 ∧ m 395 (10 * p + k) = x3) k) ∨ (∃ l, r = .inl l ∧ IX (m 384 p) (fun k => m 396 (10 * p + k) = x2 ∧ m 395 (10 * p + k) = x3) (-1)) := by
    intro r hh
    cases f with
    | zero => cases hh
    | succ f =>
      simp only [ploop] at hh
      split at hh
      · cases hh
      · rename_i l' e
        simp only [B123_3] at e
        rw [if_neg (by omega)] at e
        rcases bQ_e e with ⟨l, e1, e⟩ | ⟨l, e1, e⟩
        · rw [if_neg (by decide)] at e
          unfold J123_85 at e
          cases e
          rcases B123_11_r hp h0 h1 e1 with ⟨k, z, -⟩ | ⟨k, z, z2⟩
          · cases z
          · cases f with
            | zero => cases hh
            | succ f =>
              simp only [ploop, B123_3] at hh
              rw [if_pos (by decide)] at hh
              cases hh
              exact Or.inr ⟨_, rfl, z2⟩
        · cases e
      · rename_i r' e
        cases hh
        simp only [B123_3] at e
        rw [if_neg (by omega)] at e
        rcases bQ_e e with ⟨l, e1, e⟩ | ⟨l, e1, e⟩
        · rw [if_neg (by decide)] at e
          unfold J123_85 at e
          cases e
        · cases e
          rcases B123_11_r hp h0 h1 e1 with ⟨k, z, -, z2⟩ | ⟨k, z, z2⟩
          · cases z
            exact Or.inl ⟨_, rfl, z2⟩
          · cases z
  rcases bQ_e h with ⟨l, e1, h⟩ | ⟨l, e1, h⟩
  · rcases K e1 with ⟨k, z, -⟩ | ⟨k, z, z2⟩
    · cases z
    · cases h; exact z2
  · rcases K e1 with ⟨k, z, z2⟩ | ⟨k, z, z2⟩
    · cases z; cases h; exact z2
    · cases z

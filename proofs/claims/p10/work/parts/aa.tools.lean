/-! TOOLS for the functions of the methods -/
section BE
variable {α β γ : Type}
theorem bI_e {o : Option (α × yM)} {g : α → yM → Option β} {b : β} (h : bI o g = some b) : ∃ r m, o = some (r, m) ∧ g r m = some b := by
  unfold bI at h
  split at h
  · cases h
  · exact ⟨_, _, rfl, h⟩
theorem bU_e {o : Option yM} {g : yM → Option β} {b : β} (h : bU o g = some b) : ∃ m, o = some m ∧ g m = some b := by
  unfold bU at h
  split at h
  · cases h
  · exact ⟨_, rfl, h⟩
theorem bP_e {o : Option α} {g : α → Option β} {b : β} (h : bP o g = some b) : ∃ r, o = some r ∧ g r = some b := by
  unfold bP at h
  split at h
  · cases h
  · exact ⟨_, rfl, h⟩
theorem bT_e {o : Option ((α ⊕ Nat) × yM)} {g : α → yM → Option β} {t : Nat → yM → Option β} {b : β} (h : bT o g t = some b) : (∃ r m, o = some (.inl r, m) ∧ g r m = some b) ∨ (∃ e m, o = some (.inr e, m) ∧ t e m = some b) := by
  unfold bT at h
  split at h
  · cases h
  · exact Or.inl ⟨_, _, rfl, h⟩
  · exact Or.inr ⟨_, _, rfl, h⟩
theorem bL_e {o : Option ((α × yM) ⊕ (γ × yM))} {g : α → yM → Option β} {t : γ → yM → Option β} {b : β} (h : bL o g t = some b) : (∃ l m, o = some (.inl (l, m)) ∧ g l m = some b) ∨ (∃ r m, o = some (.inr (r, m)) ∧ t r m = some b) := by
  unfold bL at h
  split at h
  · cases h
  · exact Or.inl ⟨_, _, rfl, h⟩
  · exact Or.inr ⟨_, _, rfl, h⟩
theorem bQ_e {o : Option (α ⊕ γ)} {g : α → Option β} {t : γ → Option β} {b : β} (h : bQ o g t = some b) : (∃ l, o = some (.inl l) ∧ g l = some b) ∨ (∃ r, o = some (.inr r) ∧ t r = some b) := by
  unfold bQ at h
  split at h
  · cases h
  · exact Or.inl ⟨_, rfl, h⟩
  · exact Or.inr ⟨_, rfl, h⟩
/-- what a loop keeps holds where it ends -/
theorem yloop_inv {B : α → yM → Option ((α × yM) ⊕ ((α × yM) ⊕ (γ × yM)))} (I : α → yM → Prop) (hs : ∀ l m l' m', I l m → B l m = some (.inl (l', m')) → I l' m') : ∀ (f : Nat) (l : α) (m : yM) (r : (α × yM) ⊕ (γ × yM)), I l m → yloop B f l m = some r → ∃ l' m', I l' m' ∧ B l' m' = some (.inr r) := by
  intro f
  induction f with
  | zero => intro l m r _ h; cases h
  | succ f ih =>
    intro l m r hI h
    simp only [yloop] at h
    split at h
    · cases h
    · rename_i l' m' e
      exact ih l' m' r (hs l m l' m' hI e) h
    · rename_i r' e
      cases h
      exact ⟨l, m, hI, e⟩
theorem ploop_inv {B : α → Option (α ⊕ (α ⊕ γ))} (I : α → Prop) (hs : ∀ l l', I l → B l = some (.inl l') → I l') : ∀ (f : Nat) (l : α) (r : α ⊕ γ), I l → ploop B f l = some r → ∃ l', I l' ∧ B l' = some (.inr r) := by
  intro f
  induction f with
  | zero => intro l r _ h; cases h
  | succ f ih =>
    intro l r hI h
    simp only [ploop] at h
    split at h
    · cases h
    · rename_i l' e
      exact ih l' r (hs l l' hI e) h
    · rename_i r' e
      cases h
      exact ⟨l, hI, e⟩
end BE
theorem wr_i {x : Int} (h1 : -2147483648 ≤ x) (h2 : x < 2147483648) : wr x = x := wr_id ⟨h1, h2⟩
theorem ite1 {c : Prop} [Decidable c] {α : Type} {a b x : α} (h : (if c then a else b) = x) : (c ∧ a = x) ∨ (¬ c ∧ b = x) := by
  split at h
  · exact Or.inl ⟨‹_›, h⟩
  · exact Or.inr ⟨‹_›, h⟩
/-! NAMES: letters as numbers 1 to 26; the class counts them by 32, the model by 27 -/
def nE (b : Int) (s : Nat → Int) : Nat → Int
  | 0 => 0
  | k + 1 => b * nE b s k + s k
def nL (s : Nat → Int) (k : Nat) : Prop := ∀ j, j < k → 1 ≤ s j ∧ s j ≤ 26
theorem nL.le {s : Nat → Int} {k j : Nat} (h : nL s k) (hj : j ≤ k) : nL s j := fun i hi => h i (by omega)
theorem nE_pos {b : Int} {s : Nat → Int} (hb : 27 ≤ b) : ∀ {k : Nat}, nL s k → 0 ≤ nE b s k ∧ (0 < k → 0 < nE b s k)
  | 0, _ => ⟨Int.le_refl _, fun h => absurd h (by omega)⟩
  | k + 1, h => by
    have h1 := nE_pos (b := b) hb (h.le (Nat.le_succ k))
    have h2 := h k (by omega)
    have h3 : 0 ≤ b * nE b s k := Int.mul_nonneg (by omega) h1.1
    simp only [nE]
    omega
theorem nE_inj {b : Int} {s t : Nat → Int} (hb : 27 ≤ b) : ∀ {k j : Nat}, nL s k → nL t j → nE b s k = nE b t j → k = j ∧ ∀ i, i < k → s i = t i
  | 0, 0, _, _, _ => ⟨rfl, fun i hi => absurd hi (by omega)⟩
  | 0, j + 1, _, ht, e => by
    have := (nE_pos hb ht).2 (by omega)
    simp only [nE] at e this
    omega
  | k + 1, 0, hs, _, e => by
    have := (nE_pos hb hs).2 (by omega)
    simp only [nE] at e this
    omega
  | k + 1, j + 1, hs, ht, e => by
    have h1 := hs k (by omega)
    have h2 := ht j (by omega)
    simp only [nE] at e
    have e1 : (b * nE b s k + s k) % b = s k := by
      rw [Int.add_comm, Int.add_mul_emod_self_left]
      exact Int.emod_eq_of_lt (by omega) (by omega)
    have e2 : (b * nE b t j + t j) % b = t j := by
      rw [Int.add_comm, Int.add_mul_emod_self_left]
      exact Int.emod_eq_of_lt (by omega) (by omega)
    have e3 : s k = t j := by rw [← e1, e, e2]
    have e4 : nE b s k = nE b t j := by
      have : b * nE b s k = b * nE b t j := by omega
      exact Int.eq_of_mul_eq_mul_left (by omega) this
    obtain ⟨r1, r2⟩ := nE_inj hb (hs.le (Nat.le_succ k)) (ht.le (Nat.le_succ j)) e4
    subst r1
    refine ⟨rfl, fun i hi => ?_⟩
    by_cases q : i = k
    · subst q; exact e3
    · exact r2 i (by omega)
theorem nE_eq {b : Int} {s t : Nat → Int} : ∀ {k : Nat}, (∀ i, i < k → s i = t i) → nE b s k = nE b t k
  | 0, _ => rfl
  | k + 1, h => by
    simp only [nE]
    rw [nE_eq (fun i hi => h i (by omega)), h k (by omega)]
/-- a name of the class, and the same name of the model -/
def Nm (c t : Int) : Prop := ∃ (s : Nat → Int) (k : Nat), 1 ≤ k ∧ k ≤ 6 ∧ nL s k ∧ c = nE 32 s k ∧ t = nE 27 s k
theorem Nm.eq {c t c' t' : Int} (h : Nm c t) (h' : Nm c' t') : c = c' ↔ t = t' := by
  obtain ⟨s, k, k1, k2, hs, rfl, rfl⟩ := h
  obtain ⟨s', k', k1', k2', hs', rfl, rfl⟩ := h'
  constructor
  · intro e
    obtain ⟨r1, r2⟩ := nE_inj (by decide) hs hs' e
    subst r1
    exact nE_eq r2
  · intro e
    obtain ⟨r1, r2⟩ := nE_inj (by decide) hs hs' e
    subst r1
    exact nE_eq r2
theorem nE_le {b : Int} {s : Nat → Int} (hb : 27 ≤ b) : ∀ {k : Nat}, nL s k → nE b s k < b ^ k
  | 0, _ => by simp [nE]
  | k + 1, h => by
    have h1 := nE_le (b := b) hb (h.le (Nat.le_succ k))
    have h2 := h k (by omega)
    simp only [nE]
    have h3 : b * (nE b s k + 1) ≤ b * b ^ k := Int.mul_le_mul_of_nonneg_left (by omega) (by omega)
    have h4 : b ^ (k + 1) = b * b ^ k := by rw [Int.pow_succ, Int.mul_comm]
    rw [h4]
    rw [Int.mul_add] at h3
    omega
theorem Nm.pos {c t : Int} (h : Nm c t) : 0 < c ∧ c < 1073741824 ∧ 0 < t ∧ t < 387420489 := by
  obtain ⟨s, k, k1, k2, hs, rfl, rfl⟩ := h
  have a1 := (nE_pos (b := 32) (by decide) hs).2 (by omega)
  have a2 := (nE_pos (b := 27) (by decide) hs).2 (by omega)
  have b1 := nE_le (b := 32) (by decide) hs
  have b2 := nE_le (b := 27) (by decide) hs
  have c1 : (32 : Int) ^ k ≤ 32 ^ 6 := by
    rcases (show k = 1 ∨ k = 2 ∨ k = 3 ∨ k = 4 ∨ k = 5 ∨ k = 6 by omega) with rfl | rfl | rfl | rfl | rfl | rfl <;> decide
  have c2 : (27 : Int) ^ k ≤ 27 ^ 6 := by
    rcases (show k = 1 ∨ k = 2 ∨ k = 3 ∨ k = 4 ∨ k = 5 ∨ k = 6 by omega) with rfl | rfl | rfl | rfl | rfl | rfl <;> decide
  have d1 : (32 : Int) ^ 6 = 1073741824 := by decide
  have d2 : (27 : Int) ^ 6 = 387420489 := by decide
  omega

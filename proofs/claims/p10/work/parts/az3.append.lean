/-! THE TEXT: append and cut change both texts alike -/
def TXT (m : yM) : Prop := m 0 6 = m 376 1 ∧ 0 ≤ m 0 6 ∧ m 0 6 ≤ 320 ∧ ∀ t : Int, 0 ≤ t → t < m 0 6 → m 1 t.toNat = m 377 t.toNat ∧ 32 ≤ m 1 t.toNat ∧ m 1 t.toNat ≤ 126
def AOK (v : Int64) (n : Int) : Prop := 1 ≤ n ∧ n ≤ 8 ∧ ∀ k : Int, 0 ≤ k → k < n → 32 ≤ bC v k ∧ bC v k ≤ 126
/-- what append and cut may change -/
def fTx (m m' : yM) : Prop := ∀ a q, a ≠ 1 → ¬ (a = 0 ∧ q = 6) → a ≠ 413 → a ≠ 377 → ¬ (a = 376 ∧ (q = 1 ∨ q = 57)) → m' a q = m a q
section AP
variable {m m1 m2 : yM} {v : Int64} {n : Int}
theorem F18_b {k : Int} (h : 0 ≤ k ∧ k ≤ 7) : F18 v k = bC v k := by
  unfold F18
  rw [wr_i (by omega) (by omega)]
  rfl
theorem lsh_b {k : Int} (h : 0 ≤ k ∧ k ≤ 7) : iAnd (l2i (lShr v (wr (8 * k)))) 255 = bC v k := by
  rw [wr_i (by omega) (by omega)]
  exact rB_eq h
theorem nar_b {x : Int} (h : 0 ≤ x ∧ x ≤ 255) : nar 3 (i2c x) = x := by
  have : ∀ a : Fin 256, nar 3 (i2c ((a : Nat) : Int)) = ((a : Nat) : Int) := by decide +kernel
  have h2 := this ⟨x.toNat, by omega⟩
  have e : ((x.toNat : Nat) : Int) = x := by omega
  simp only [e] at h2
  exact h2
theorem F19_r {f : Nat} {r : Int} (hn : 1 ≤ n ∧ n ≤ 8) (h : F19 f v n m = some r) : (r ≠ 0 ∧ AOK v n) ∨ (r = 0 ∧ ¬ AOK v n) := by
  unfold F19 at h
  have inv : ∀ l l' : Int, (0 ≤ l ∧ l ≤ n ∧ ∀ k : Int, 0 ≤ k → k < l → 32 ≤ bC v k ∧ bC v k ≤ 126) → B19_2 f v n l m = some (.inl l') → (0 ≤ l' ∧ l' ≤ n ∧ ∀ k : Int, 0 ≤ k → k < l' → 32 ≤ bC v k ∧ bC v k ≤ 126) := by
    intro l l' ⟨h1, h2, h3⟩ e
    unfold B19_2 at e
    rcases ite1 e with ⟨q, e⟩ | ⟨q, e⟩
    · rw [F18_b (by omega)] at e
      rcases ite1 e with ⟨q1, e⟩ | ⟨q1, e⟩
      · cases e
      rcases ite1 e with ⟨q2, e⟩ | ⟨q2, e⟩
      · cases e
      rw [wr_i (by omega) (by omega)] at e
      cases e
      refine ⟨by omega, by omega, fun k k1 k2 => ?_⟩
      by_cases z : k = l
      · subst z; omega
      · exact h3 k k1 (by omega)
    · cases e
  rcases bQ_e h with ⟨l, e1, e2⟩ | ⟨r', e1, e2⟩
  · cases e2
    obtain ⟨l', ⟨i1, i2, i3⟩, e⟩ := ploop_inv _ inv _ _ _ ⟨by omega, by omega, fun k k1 k2 => by omega⟩ e1
    unfold B19_2 at e
    rcases ite1 e with ⟨q, e⟩ | ⟨q, e⟩
    · rcases ite1 e with ⟨q1, e⟩ | ⟨q1, e⟩
      · cases e
      rcases ite1 e with ⟨q2, e⟩ | ⟨q2, e⟩ <;> cases e
    · exact Or.inl ⟨by decide, hn.1, hn.2, fun k k1 k2 => i3 k k1 (by omega)⟩
  · cases e2
    obtain ⟨l', ⟨i1, i2, i3⟩, e⟩ := ploop_inv _ inv _ _ _ ⟨by omega, by omega, fun k k1 k2 => by omega⟩ e1
    unfold B19_2 at e
    rcases ite1 e with ⟨q, e⟩ | ⟨q, e⟩
    · rw [F18_b (by omega)] at e
      rcases ite1 e with ⟨q1, e⟩ | ⟨q1, e⟩
      · cases e
        refine Or.inr ⟨rfl, fun ⟨z1, z2, z3⟩ => ?_⟩
        have := z3 l' i1 q
        omega
      rcases ite1 e with ⟨q2, e⟩ | ⟨q2, e⟩
      · cases e
        refine Or.inr ⟨rfl, fun ⟨z1, z2, z3⟩ => ?_⟩
        have := z3 l' i1 q
        omega
      · cases e
    · cases e
/-- the class -/
theorem app_c {f : Nat} {r : Int} (h0 : 0 ≤ m 0 6 ∧ m 0 6 ≤ 320) (h : F21 f v n m = some (r, m1)) : (¬ (AOK v n ∧ m 0 6 + n ≤ 320) ∧ m1 = m) ∨ ((AOK v n ∧ m 0 6 + n ≤ 320) ∧ m1 0 6 = m 0 6 + n ∧ (∀ t : Int, 1 ≤ t → t ≤ n → m1 1 (m 0 6 + t - 1).toNat = bC v (n - t)) ∧ (∀ a q : Nat, a ≠ 413 → ¬ (a = 0 ∧ q = 6) → ¬ (a = 1 ∧ m 0 6 ≤ (q : Int)) → m1 a q = m a q)) := by
  unfold F21 at h
  have J : ∀ {z}, J20_19 f m = some z → z = (.inr 9, m) := by
    intro z e
    unfold J20_19 at e
    cases e
    rfl
  have thr : ∀ {e' : Nat} {m' : yM}, (e' = 9 ∨ e' = 10) → (if e' = 9 then (some ((1 : Int), m')) else (if e' = 10 then (some (2, m')) else none)) = some (r, m1) → m1 = m' := by
    intro e' m' hh e
    rcases hh with rfl | rfl
    · rw [if_pos rfl] at e; cases e; rfl
    · rw [if_neg (by decide), if_pos rfl] at e; cases e; rfl
  have main : ∀ z, F20 f v n m = some z → (¬ (AOK v n ∧ m 0 6 + n ≤ 320) ∧ (z = (.inr 9, m) ∨ z = (.inr 10, m))) ∨ ((AOK v n ∧ m 0 6 + n ≤ 320) ∧ ∃ r m', z = (.inl r, m') ∧ m' 0 6 = m 0 6 + n ∧ (∀ t : Int, 1 ≤ t → t ≤ n → m' 1 (m 0 6 + t - 1).toNat = bC v (n - t)) ∧ (∀ a q : Nat, ¬ (a = 0 ∧ q = 6) → ¬ (a = 1 ∧ m 0 6 ≤ (q : Int)) → m' a q = m a q)) := by
    intro z e
    unfold F20 at e
    rcases ite1 e with ⟨q1, e⟩ | ⟨q1, e⟩
    · exact Or.inl ⟨fun ⟨⟨z1, _⟩, _⟩ => (by omega), Or.inl (J e)⟩
    rcases ite1 e with ⟨q2, e⟩ | ⟨q2, e⟩
    · exact Or.inl ⟨fun ⟨⟨_, z1, _⟩, _⟩ => (by omega), Or.inl (J e)⟩
    replace e := bP_e e
    obtain ⟨r19, e19, e⟩ := e
    rcases F19_r (by omega) e19 with ⟨z1, hA⟩ | ⟨z1, hA⟩
    case inr =>
      rw [if_pos z1] at e
      exact Or.inl ⟨fun w => hA w.1, Or.inl (J e)⟩
    rw [if_neg z1, wr_i (by omega) (by omega)] at e
    rcases ite1 e with ⟨q3, e⟩ | ⟨q3, e⟩
    · cases e
      exact Or.inl ⟨fun w => (by omega), Or.inr rfl⟩
    refine Or.inr ⟨⟨hA, by omega⟩, ?_⟩
    have inv : ∀ (l : Int) (mi : yM) (l' : Int) (mi' : yM), (1 ≤ l ∧ l ≤ n + 1 ∧ mi 0 6 = m 0 6 + (l - 1) ∧ (∀ t : Int, 1 ≤ t → t < l → mi 1 (m 0 6 + t - 1).toNat = bC v (n - t)) ∧ (∀ a q : Nat, ¬ (a = 0 ∧ q = 6) → ¬ (a = 1 ∧ m 0 6 ≤ (q : Int)) → mi a q = m a q)) → B20_50 f v n l mi = some (.inl (l', mi')) → (1 ≤ l' ∧ l' ≤ n + 1 ∧ mi' 0 6 = m 0 6 + (l' - 1) ∧ (∀ t : Int, 1 ≤ t → t < l' → mi' 1 (m 0 6 + t - 1).toNat = bC v (n - t)) ∧ (∀ a q : Nat, ¬ (a = 0 ∧ q = 6) → ¬ (a = 1 ∧ m 0 6 ≤ (q : Int)) → mi' a q = m a q)) := by
      intro l mi l' mi' ⟨i1, i2, i3, i4, i5⟩ e
      unfold B20_50 at e
      rcases ite1 e with ⟨q, e⟩ | ⟨q, e⟩
      · cases e
      have hb := bC_rng v (n - l)
      rw [wr_i (x := n - l) (by omega) (by omega), F18_b (by omega), nar_b hb, i3, wr_i (x := l + 1) (by omega) (by omega), wr_i (by omega) (by omega)] at e
      cases e
      refine ⟨by omega, by omega, by rw [yup_eq]; omega, fun t t1 t2 => ?_, fun a q z1 z2 => ?_⟩
      · rw [yup_na (by decide)]
        by_cases z : t = l
        · subst z
          rw [show m 0 6 + t - 1 = m 0 6 + (t - 1) by omega, yup_eq]
        · rw [yup_nk (by omega)]
          exact i4 t t1 (by omega)
      · rw [yup_ne z1, yup_ne (by omega)]
        exact i5 a q z1 z2
    have fin : ∀ (l : Int) (mi : yM) {y}, B20_50 f v n l mi = some (.inr y) → n < l ∧ y = .inl (l, mi) := by
      intro l mi y e
      unfold B20_50 at e
      rcases ite1 e with ⟨q, e⟩ | ⟨q, e⟩
      · cases e
        exact ⟨q, rfl⟩
      · cases e
    have I0 : (1 ≤ (1 : Int) ∧ (1 : Int) ≤ n + 1 ∧ m 0 6 = m 0 6 + ((1 : Int) - 1) ∧ (∀ t : Int, 1 ≤ t → t < 1 → m 1 (m 0 6 + t - 1).toNat = bC v (n - t)) ∧ (∀ a q : Nat, ¬ (a = 0 ∧ q = 6) → ¬ (a = 1 ∧ m 0 6 ≤ (q : Int)) → m a q = m a q)) := ⟨by omega, by omega, by omega, fun t t1 t2 => by omega, fun _ _ _ _ => rfl⟩
    rcases bL_e e with ⟨l, mi, e1, e2⟩ | ⟨l, mi, e1, e2⟩
    · obtain ⟨l', mi', ⟨i1, i2, i3, i4, i5⟩, e3⟩ := yloop_inv (fun (l : Int) (mi : yM) => 1 ≤ l ∧ l ≤ n + 1 ∧ mi 0 6 = m 0 6 + (l - 1) ∧ (∀ t : Int, 1 ≤ t → t < l → mi 1 (m 0 6 + t - 1).toNat = bC v (n - t)) ∧ (∀ a q : Nat, ¬ (a = 0 ∧ q = 6) → ¬ (a = 1 ∧ m 0 6 ≤ (q : Int)) → mi a q = m a q)) inv _ _ _ _ I0 e1
      obtain ⟨q, e4⟩ := fin _ _ e3
      cases e4
      cases e2
      exact ⟨_, _, rfl, by omega, fun t t1 t2 => i4 t t1 (by omega), i5⟩
    · obtain ⟨l', mi', -, e3⟩ := yloop_inv (fun (l : Int) (mi : yM) => 1 ≤ l ∧ l ≤ n + 1 ∧ mi 0 6 = m 0 6 + (l - 1) ∧ (∀ t : Int, 1 ≤ t → t < l → mi 1 (m 0 6 + t - 1).toNat = bC v (n - t)) ∧ (∀ a q : Nat, ¬ (a = 0 ∧ q = 6) → ¬ (a = 1 ∧ m 0 6 ≤ (q : Int)) → mi a q = m a q)) inv _ _ _ _ I0 e1
      obtain ⟨q, e4⟩ := fin _ _ e3
      cases e4
  rcases bT_e h with ⟨r2, m', e1, e2⟩ | ⟨e', m', e1, e2⟩
  · rcases main _ e1 with ⟨-, z | z⟩ | ⟨hA, r3, m3, z, z1, z2, z3⟩
    · cases z
    · cases z
    · cases z
      cases e2
      refine Or.inr ⟨hA, ?_, fun t t1 t2 => ?_, fun a q a1 a2 a3 => ?_⟩
      · rw [yup_na (by decide)]; exact z1
      · rw [yup_na (by decide)]; exact z2 t t1 t2
      · rw [yup_na a1]; exact z3 a q a2 a3
  · rcases main _ e1 with ⟨hA, z | z⟩ | ⟨-, r3, m3, z, -⟩
    · cases z
      exact Or.inl ⟨hA, thr (Or.inl rfl) e2⟩
    · cases z
      exact Or.inl ⟨hA, thr (Or.inr rfl) e2⟩
    · cases z
theorem F22_0 {x a b : Int} : F22 x a b = 0 ↔ ¬ (a ≤ x ∧ x ≤ b) := by
  unfold F22
  split
  · simp; omega
  · split
    · simp; omega
    · simp; omega
theorem F23_r {f : Nat} {x y r : Int} (h : F23 f x y m = some (r, m1)) : r = x ∧ ∃ c, m1 = yup m 376 57 c := by
  unfold F23 J23_10 at h
  rcases ite1 h with ⟨-, h⟩ | ⟨-, h⟩
  · cases h; exact ⟨rfl, _, rfl⟩
  · cases h; exact ⟨rfl, _, rfl⟩
/-- the model -/
theorem app_m {f : Nat} {r : Int} (h0 : 0 ≤ m 376 1 ∧ m 376 1 ≤ 320) (h : F25 f v n m = some (r, m1)) : (¬ (AOK v n ∧ m 376 1 + n ≤ 320) ∧ (∀ a q : Nat, ¬ (a = 376 ∧ q = 57) → m1 a q = m a q)) ∨ ((AOK v n ∧ m 376 1 + n ≤ 320) ∧ m1 376 1 = m 376 1 + n ∧ (∀ t : Int, 1 ≤ t → t ≤ n → m1 377 (m 376 1 + t - 1).toNat = bC v (n - t)) ∧ (∀ a q : Nat, ¬ (a = 376 ∧ (q = 1 ∨ q = 57)) → ¬ (a = 377 ∧ m 376 1 ≤ (q : Int)) → m1 a q = m a q)) := by
  unfold F25 at h
  replace h := bI_e h
  obtain ⟨r1, n1, e1, h⟩ := h
  obtain ⟨rfl, c1, rfl⟩ := F23_r e1
  have fr1 : ∀ a q : Nat, ¬ (a = 376 ∧ q = 57) → yup m 376 57 c1 a q = m a q := fun a q ha => yup_ne ha
  generalize yup m 376 57 c1 = n1 at *
  clear e1
  rcases ite1 h with ⟨q1, h⟩ | ⟨q1, h⟩
  · cases h
    rw [F22_0] at q1
    exact Or.inl ⟨fun ⟨⟨z1, z2, _⟩, _⟩ => q1 ⟨z1, z2⟩, fr1⟩
  rw [F22_0] at q1
  have hn : 1 ≤ n ∧ n ≤ 8 := by omega
  have B1 : ∀ (l : Int) (mi : yM) y, 0 ≤ l → B25_20 f v n l mi = some y → (l < n ∧ ¬ (32 ≤ bC v l ∧ bC v l ≤ 126) ∧ y = .inr (.inr (0, yup mi 376 57 1))) ∨ (l < n ∧ (32 ≤ bC v l ∧ bC v l ≤ 126) ∧ y = .inl (l + 1, mi)) ∨ (n ≤ l ∧ y = .inr (.inl (l, mi))) := by
    intro l mi y hl e
    unfold B25_20 at e
    rcases ite1 e with ⟨q, e⟩ | ⟨q, e⟩
    · rw [lsh_b (by omega)] at e
      rcases ite1 e with ⟨z, e⟩ | ⟨z, e⟩
      · rw [F22_0] at z
        unfold F24 at e
        replace e := bI_e e
        obtain ⟨r2, n2, e2, e⟩ := e
        cases e2
        cases e
        exact Or.inl ⟨q, z, rfl⟩
      · rw [F22_0] at z
        rw [wr_i (by omega) (by omega)] at e
        cases e
        exact Or.inr (Or.inl ⟨q, by omega, rfl⟩)
    · cases e
      exact Or.inr (Or.inr ⟨by omega, rfl⟩)
  have inv1 : ∀ (l : Int) (mi : yM) (l' : Int) (mi' : yM), (0 ≤ l ∧ l ≤ n ∧ mi = n1 ∧ ∀ k : Int, 0 ≤ k → k < l → 32 ≤ bC v k ∧ bC v k ≤ 126) → B25_20 f v n l mi = some (.inl (l', mi')) → (0 ≤ l' ∧ l' ≤ n ∧ mi' = n1 ∧ ∀ k : Int, 0 ≤ k → k < l' → 32 ≤ bC v k ∧ bC v k ≤ 126) := by
    intro l mi l' mi' ⟨i1, i2, i3, i4⟩ e
    rcases B1 _ _ _ i1 e with ⟨-, -, z⟩ | ⟨z1, z2, z⟩ | ⟨-, z⟩
    · cases z
    · cases z
      refine ⟨by omega, by omega, i3, fun k k1 k2 => ?_⟩
      by_cases w : k = l
      · subst w; exact z2
      · exact i4 k k1 (by omega)
    · cases z
  have I0 : (0 ≤ (0 : Int) ∧ (0 : Int) ≤ n ∧ n1 = n1 ∧ ∀ k : Int, 0 ≤ k → k < 0 → 32 ≤ bC v k ∧ bC v k ≤ 126) := ⟨by omega, by omega, rfl, fun k k1 k2 => by omega⟩
  rcases bL_e h with ⟨l, mi, e1, e2⟩ | ⟨l, mi, e1, e2⟩
  case inr =>
    obtain ⟨l', mi', ⟨i1, i2, i3, i4⟩, e3⟩ := yloop_inv (fun (l : Int) (mi : yM) => 0 ≤ l ∧ l ≤ n ∧ mi = n1 ∧ ∀ k : Int, 0 ≤ k → k < l → 32 ≤ bC v k ∧ bC v k ≤ 126) inv1 _ _ _ _ I0 e1
    rcases B1 _ _ _ i1 e3 with ⟨z1, z2, z⟩ | ⟨-, -, z⟩ | ⟨-, z⟩
    · cases z
      cases e2
      subst i3
      exact Or.inl ⟨fun ⟨⟨_, _, z3⟩, _⟩ => z2 (z3 l' i1 z1), fun a q ha => by rw [yup_ne ha]; exact fr1 a q ha⟩
    · cases z
    · cases z
  obtain ⟨l', mi', ⟨i1, i2, i3, i4⟩, e3⟩ := yloop_inv (fun (l : Int) (mi : yM) => 0 ≤ l ∧ l ≤ n ∧ mi = n1 ∧ ∀ k : Int, 0 ≤ k → k < l → 32 ≤ bC v k ∧ bC v k ≤ 126) inv1 _ _ _ _ I0 e1
  rcases B1 _ _ _ i1 e3 with ⟨-, -, z⟩ | ⟨-, -, z⟩ | ⟨z1, z⟩
  · cases z
  · cases z
  cases z
  subst i3
  have hA : AOK v n := ⟨hn.1, hn.2, fun k k1 k2 => i4 k k1 (by omega)⟩
  have k1 : mi 376 1 = m 376 1 := fr1 _ _ (by omega)
  rw [k1, wr_i (by omega) (by omega)] at e2
  have J : ∀ {x : Int}, (x = 0 ∨ x = 1) → J25_78 f v n x mi = some (r, m1) → (x = 0 ∧ (∀ a q : Nat, ¬ (a = 376 ∧ q = 57) → m1 a q = m a q)) ∨ (x = 1 ∧ m1 376 1 = m 376 1 + n ∧ (∀ t : Int, 1 ≤ t → t ≤ n → m1 377 (m 376 1 + t - 1).toNat = bC v (n - t)) ∧ (∀ a q : Nat, ¬ (a = 376 ∧ (q = 1 ∨ q = 57)) → ¬ (a = 377 ∧ m 376 1 ≤ (q : Int)) → m1 a q = m a q)) := by
    intro x hx e
    unfold J25_78 at e
    replace e := bI_e e
    obtain ⟨r2, n2, e4, e⟩ := e
    obtain ⟨rfl, c2, rfl⟩ := F23_r e4
    rcases hx with rfl | rfl
    · rw [if_pos rfl] at e
      cases e
      exact Or.inl ⟨rfl, fun a q ha => by rw [yup_ne ha]; exact fr1 a q ha⟩
    rw [if_neg (by decide), wr_i (by omega) (by omega)] at e
    refine Or.inr ⟨rfl, ?_⟩
    have B2 : ∀ (l : Int) (mi : yM) y, l ≤ 7 → -1 ≤ l → (0 ≤ mi 376 1 ∧ mi 376 1 ≤ 400) → B25_92 f v l mi = some y → (l < 0 ∧ y = .inr (.inl (l, mi))) ∨ (0 ≤ l ∧ y = .inl (l - 1, yup (yup mi 377 (mi 376 1).toNat (bC v l)) 376 1 (mi 376 1 + 1))) := by
      intro l mi y h7 hl1 h1 e
      unfold B25_92 at e
      rcases ite1 e with ⟨q, e⟩ | ⟨q, e⟩
      · cases e
        exact Or.inl ⟨q, rfl⟩
      · rw [lsh_b (by omega), wr_i (x := l + -1) (by omega) (by omega), wr_i (by omega) (by omega)] at e
        cases e
        exact Or.inr ⟨by omega, rfl⟩
    have inv2 : ∀ (l : Int) (mi2 : yM) (l' : Int) (mi' : yM), (-1 ≤ l ∧ l ≤ n - 1 ∧ mi2 376 1 = m 376 1 + (n - 1 - l) ∧ (∀ t : Int, 1 ≤ t → t ≤ n - 1 - l → mi2 377 (m 376 1 + t - 1).toNat = bC v (n - t)) ∧ (∀ a q : Nat, ¬ (a = 376 ∧ (q = 1 ∨ q = 57)) → ¬ (a = 377 ∧ m 376 1 ≤ (q : Int)) → mi2 a q = m a q)) → B25_92 f v l mi2 = some (.inl (l', mi')) → (-1 ≤ l' ∧ l' ≤ n - 1 ∧ mi' 376 1 = m 376 1 + (n - 1 - l') ∧ (∀ t : Int, 1 ≤ t → t ≤ n - 1 - l' → mi' 377 (m 376 1 + t - 1).toNat = bC v (n - t)) ∧ (∀ a q : Nat, ¬ (a = 376 ∧ (q = 1 ∨ q = 57)) → ¬ (a = 377 ∧ m 376 1 ≤ (q : Int)) → mi' a q = m a q)) := by
      intro l mi2 l' mi' ⟨i1, i2, i3, i4, i5⟩ e
      rcases B2 _ _ _ (by omega) i1 (by omega) e with ⟨-, z⟩ | ⟨z1, z⟩
      · cases z
      cases z
      refine ⟨by omega, by omega, by rw [yup_eq]; omega, fun t t1 t2 => ?_, fun a q w1 w2 => ?_⟩
      · rw [yup_na (by decide), i3]
        by_cases z : t = n - l
        · subst z
          rw [show m 376 1 + (n - l) - 1 = m 376 1 + (n - 1 - l) by omega, yup_eq]
          congr 1
          omega
        · rw [yup_nk (by omega)]
          exact i4 t t1 (by omega)
      · rw [yup_ne (by omega), yup_ne (by omega)]
        exact i5 a q w1 w2
    have I2 : (-1 ≤ n - 1 ∧ n - 1 ≤ n - 1 ∧ (yup mi 376 57 c2) 376 1 = m 376 1 + (n - 1 - (n - 1)) ∧ (∀ t : Int, 1 ≤ t → t ≤ n - 1 - (n - 1) → (yup mi 376 57 c2) 377 (m 376 1 + t - 1).toNat = bC v (n - t)) ∧ (∀ a q : Nat, ¬ (a = 376 ∧ (q = 1 ∨ q = 57)) → ¬ (a = 377 ∧ m 376 1 ≤ (q : Int)) → (yup mi 376 57 c2) a q = m a q)) := ⟨by omega, by omega, by rw [yup_nk (by decide)]; omega, fun t t1 t2 => by omega, fun a q w1 w2 => by rw [yup_ne (by omega)]; exact fr1 a q (by omega)⟩
    rcases bL_e e with ⟨l2, mi2, e5, e6⟩ | ⟨l2, mi2, e5, e6⟩
    · obtain ⟨l3, mi3, ⟨i1, i2, i3, i4, i5⟩, e7⟩ := yloop_inv (fun (l : Int) (mi2 : yM) => -1 ≤ l ∧ l ≤ n - 1 ∧ mi2 376 1 = m 376 1 + (n - 1 - l) ∧ (∀ t : Int, 1 ≤ t → t ≤ n - 1 - l → mi2 377 (m 376 1 + t - 1).toNat = bC v (n - t)) ∧ (∀ a q : Nat, ¬ (a = 376 ∧ (q = 1 ∨ q = 57)) → ¬ (a = 377 ∧ m 376 1 ≤ (q : Int)) → mi2 a q = m a q)) inv2 _ _ _ _ I2 e5
      rcases B2 _ _ _ (by omega) i1 (by omega) e7 with ⟨z1, z⟩ | ⟨-, z⟩
      · cases z
        cases e6
        exact ⟨by omega, fun t t1 t2 => i4 t t1 (by omega), i5⟩
      · cases z
    · obtain ⟨l3, mi3, ⟨i1, i2, i3, i4, i5⟩, e7⟩ := yloop_inv (fun (l : Int) (mi2 : yM) => -1 ≤ l ∧ l ≤ n - 1 ∧ mi2 376 1 = m 376 1 + (n - 1 - l) ∧ (∀ t : Int, 1 ≤ t → t ≤ n - 1 - l → mi2 377 (m 376 1 + t - 1).toNat = bC v (n - t)) ∧ (∀ a q : Nat, ¬ (a = 376 ∧ (q = 1 ∨ q = 57)) → ¬ (a = 377 ∧ m 376 1 ≤ (q : Int)) → mi2 a q = m a q)) inv2 _ _ _ _ I2 e5
      rcases B2 _ _ _ (by omega) i1 (by omega) e7 with ⟨z1, z⟩ | ⟨-, z⟩ <;> cases z
  rcases ite1 e2 with ⟨q, e2⟩ | ⟨q, e2⟩
  · rcases J (Or.inl rfl) e2 with ⟨-, z⟩ | ⟨z, -⟩
    · exact Or.inl ⟨fun w => (by omega), z⟩
    · omega
  · rcases J (Or.inr rfl) e2 with ⟨z, -⟩ | ⟨-, z⟩
    · omega
    · exact Or.inr ⟨⟨hA, by omega⟩, z⟩
theorem append_r {f g : Nat} {r b : Int} (h : TXT m) (h1 : F21 f v n m = some (r, m1)) (h2 : F25 g v n m1 = some (b, m2)) : TXT m2 ∧ fTx m m2 := by
  obtain ⟨t1, t2, t3, t4⟩ := h
  rcases app_c ⟨t2, t3⟩ h1 with ⟨a1, rfl⟩ | ⟨⟨a1, a1'⟩, a2, a3, a4⟩
  · rcases app_m (by omega) h2 with ⟨b1, b2⟩ | ⟨⟨b1, b1'⟩, -⟩
    · refine ⟨⟨?_, ?_, ?_, fun t z1 z2 => ?_⟩, fun a q y1 y2 y3 y4 y5 => b2 a q (by omega)⟩
      · rw [b2 0 6 (by omega), b2 376 1 (by omega)]; exact t1
      · rw [b2 0 6 (by omega)]; exact t2
      · rw [b2 0 6 (by omega)]; exact t3
      · rw [b2 0 6 (by omega)] at z2
        rw [b2 1 _ (by omega), b2 377 _ (by omega)]
        exact t4 t z1 z2
    · exact absurd ⟨b1, by omega⟩ a1
  · have e1 : m1 376 1 = m 376 1 := a4 376 1 (by omega) (by omega) (by omega)
    rcases app_m (by omega) h2 with ⟨b1, -⟩ | ⟨-, b2, b3, b4⟩
    · exact absurd ⟨a1, by omega⟩ b1
    · rw [e1] at b2 b3 b4
      have n8 := a1.2.1
      have n1 := a1.1
      refine ⟨⟨?_, ?_, ?_, fun t z1 z2 => ?_⟩, fun a q y1 y2 y3 y4 y5 => ?_⟩
      · rw [b4 0 6 (by omega) (by omega)]; omega
      · rw [b4 0 6 (by omega) (by omega)]; omega
      · rw [b4 0 6 (by omega) (by omega)]; omega
      · rw [b4 0 6 (by omega) (by omega), a2] at z2
        by_cases w : t < m 0 6
        · rw [b4 1 _ (by omega) (by omega), b4 377 _ (by omega) (by omega), a4 1 _ (by omega) (by omega) (by omega), a4 377 _ (by omega) (by omega) (by omega)]
          exact t4 t z1 w
        · have c1 := a3 (t - m 0 6 + 1) (by omega) (by omega)
          have c2 := b3 (t - m 0 6 + 1) (by omega) (by omega)
          rw [show m 0 6 + (t - m 0 6 + 1) - 1 = t by omega] at c1
          rw [← t1, show m 0 6 + (t - m 0 6 + 1) - 1 = t by omega] at c2
          have c3 := a1.2.2 (n - (t - m 0 6 + 1)) (by omega) (by omega)
          rw [b4 1 _ (by omega) (by omega), c1, c2]
          exact ⟨rfl, c3⟩
      · rw [b4 a q (by omega) (by omega), a4 a q (by omega) (by omega) (by omega)]
theorem cut_r {f g : Nat} {x r b : Int} (h : TXT m) (h1 : F28 f x m = some (r, m1)) (h2 : F29 g x m1 = some (b, m2)) : TXT m2 ∧ fTx m m2 := by
  obtain ⟨t1, t2, t3, t4⟩ := h
  have c : (¬ (0 ≤ x ∧ x ≤ m 0 6) ∧ m1 = m) ∨ ((0 ≤ x ∧ x ≤ m 0 6) ∧ ∃ w, m1 = yup (yup m 0 6 (m 0 6 - x)) 413 0 w) := by
    unfold F28 F27 J27_12 at h1
    rcases bT_e h1 with ⟨r2, m', e1, e2⟩ | ⟨e', m', e1, e2⟩
    · rcases ite1 e1 with ⟨q, e1⟩ | ⟨q, e1⟩
      · cases e1
      rcases ite1 e1 with ⟨q2, e1⟩ | ⟨q2, e1⟩
      · cases e1
      rw [wr_i (by omega) (by omega)] at e1
      cases e1
      cases e2
      exact Or.inr ⟨by omega, _, rfl⟩
    · rcases ite1 e1 with ⟨q, e1⟩ | ⟨q, e1⟩
      · cases e1
        rw [if_pos rfl] at e2
        cases e2
        exact Or.inl ⟨by omega, rfl⟩
      rcases ite1 e1 with ⟨q2, e1⟩ | ⟨q2, e1⟩
      · cases e1
        rw [if_pos rfl] at e2
        cases e2
        exact Or.inl ⟨by omega, rfl⟩
      · cases e1
  have d : (¬ (0 ≤ x ∧ x ≤ m1 376 1) ∧ ∃ c, m2 = yup m1 376 57 c) ∨ ((0 ≤ x ∧ x ≤ m1 376 1) ∧ ∃ c, m2 = yup (yup m1 376 57 c) 376 1 (wr (m1 376 1 - x))) := by
    unfold F29 at h2
    replace h2 := bI_e h2
    obtain ⟨r2, n1, e1, h2⟩ := h2
    obtain ⟨rfl, c, rfl⟩ := F23_r e1
    rcases ite1 h2 with ⟨q, h2⟩ | ⟨q, h2⟩
    · cases h2
      rw [F22_0] at q
      exact Or.inl ⟨q, _, rfl⟩
    · rw [F22_0] at q
      cases h2
      refine Or.inr ⟨by omega, c, ?_⟩
      rw [yup_nk (by decide)]
  rcases c with ⟨c1, rfl⟩ | ⟨c1, w, rfl⟩
  · rcases d with ⟨d1, c, rfl⟩ | ⟨d1, -⟩
    · refine ⟨⟨?_, ?_, ?_, fun t z1 z2 => ?_⟩, fun a q y1 y2 y3 y4 y5 => yup_ne (by omega)⟩
      · rw [yup_na (by decide), yup_nk (by decide)]; exact t1
      · rw [yup_na (by decide)]; exact t2
      · rw [yup_na (by decide)]; exact t3
      · rw [yup_na (by decide)] at z2
        rw [yup_na (by decide), yup_na (by decide)]
        exact t4 t z1 z2
    · omega
  · have e1 : yup (yup m 0 6 (m 0 6 - x)) 413 0 w 376 1 = m 376 1 := by rw [yup_na (by decide), yup_na (by decide)]
    rw [e1] at d
    rcases d with ⟨d1, -⟩ | ⟨d1, c, rfl⟩
    · omega
    · rw [wr_i (by omega) (by omega)]
      have k : ∀ a q, a ≠ 413 → ¬ (a = 0 ∧ q = 6) → ¬ (a = 376 ∧ (q = 1 ∨ q = 57)) → yup (yup (yup (yup m 0 6 (m 0 6 - x)) 413 0 w) 376 57 c) 376 1 (m 376 1 - x) a q = m a q := fun a q y1 y2 y3 => by
        rw [yup_ne (by omega), yup_ne (by omega), yup_na y1, yup_ne y2]
      have k6 : yup (yup (yup (yup m 0 6 (m 0 6 - x)) 413 0 w) 376 57 c) 376 1 (m 376 1 - x) 0 6 = m 0 6 - x := by rw [yup_na (by decide), yup_na (by decide), yup_na (by decide), yup_eq]
      refine ⟨⟨?_, ?_, ?_, fun t z1 z2 => ?_⟩, fun a q y1 y2 y3 y4 y5 => k a q y3 y2 y5⟩
      · rw [k6, yup_eq]; omega
      · rw [k6]; omega
      · rw [k6]; omega
      · rw [k6] at z2
        rw [k 1 _ (by omega) (by omega) (by omega), k 377 _ (by omega) (by omega) (by omega)]
        exact t4 t z1 (by omega)
end AP

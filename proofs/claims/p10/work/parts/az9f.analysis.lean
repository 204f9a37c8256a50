/-! THE ANALYSIS, whole: the same facts -/
section RY
variable {A p f g s o : Nat} {mc mm mc' mm' mc0 mm0 : yM}
/-- a row is filled -/
theorem F75_12_r {a : Nat} {v : Int} (h : F75_12 f a v mc = some mc') : (∀ j, j < 12 → mc' a j = v) ∧ (∀ b q, ¬ (b = a ∧ q < 12) → mc' b q = mc b q) := by
  unfold F75_12 at h
  obtain ⟨r, e1, e2⟩ := bL_u h
  have st : ∀ (l : Int) (m : yM) y, (∃ k : Nat, l = k ∧ k ≤ 12 ∧ (∀ j, j < k → m a j = v) ∧ (∀ b q, ¬ (b = a ∧ q < 12) → m b q = mc b q)) → B75_12_5 f a v 12 l m = some y → (∃ l' m', y = .inl (l', m') ∧ (∃ k : Nat, l' = k ∧ k ≤ 12 ∧ (∀ j, j < k → m' a j = v) ∧ (∀ b q, ¬ (b = a ∧ q < 12) → m' b q = mc b q))) ∨ (y = .inr (.inl (l, m)) ∧ l = 12) := by
    rintro l m y ⟨k, rfl, k1, k2, k3⟩ e
    unfold B75_12_5 at e
    rcases ite1 e with ⟨q, e⟩ | ⟨q, e⟩
    · rw [Int.toNat_natCast, wr_i (by omega) (by omega)] at e
      cases e
      refine Or.inl ⟨_, _, rfl, k + 1, by omega, by omega, fun j hj => ?_, fun b q hb => ?_⟩
      · by_cases z : j = k
        · subst z; rw [yup_eq]
        · rw [yup_nk z]; exact k2 j (by omega)
      · rw [yup_ne (by omega)]; exact k3 b q hb
    · cases e; exact Or.inr ⟨rfl, by omega⟩
  obtain ⟨l', m', hI, e3⟩ := yloop_inv _ (fun l m l' m' hI hB => by
    rcases st l m _ hI hB with ⟨l2, m2, z, z2⟩ | ⟨z, -⟩
    · cases z; exact z2
    · cases z) _ _ _ _ (show (∃ k : Nat, (0 : Int) = k ∧ k ≤ 12 ∧ (∀ j, j < k → mc a j = v) ∧ (∀ b q, ¬ (b = a ∧ q < 12) → mc b q = mc b q)) from ⟨0, rfl, by omega, fun j hj => by omega, fun _ _ _ => rfl⟩) e1
  rcases st l' m' _ hI e3 with ⟨l2, m2, z, -⟩ | ⟨z, zl⟩
  · cases z
  · cases z
    have := e2 _ _ rfl
    subst this
    obtain ⟨k, k0, k1, k2, k3⟩ := hI
    exact ⟨fun j hj => k2 j (by omega), k3⟩
theorem F75_10_r {a : Nat} {v : Int} (h : F75_10 f a v mc = some mc') : (∀ j, j < 10 → mc' a j = v) ∧ (∀ b q, ¬ (b = a ∧ q < 10) → mc' b q = mc b q) := by
  unfold F75_10 at h
  obtain ⟨r, e1, e2⟩ := bL_u h
  have st : ∀ (l : Int) (m : yM) y, (∃ k : Nat, l = k ∧ k ≤ 10 ∧ (∀ j, j < k → m a j = v) ∧ (∀ b q, ¬ (b = a ∧ q < 10) → m b q = mc b q)) → B75_10_5 f a v 10 l m = some y → (∃ l' m', y = .inl (l', m') ∧ (∃ k : Nat, l' = k ∧ k ≤ 10 ∧ (∀ j, j < k → m' a j = v) ∧ (∀ b q, ¬ (b = a ∧ q < 10) → m' b q = mc b q))) ∨ (y = .inr (.inl (l, m)) ∧ l = 10) := by
    rintro l m y ⟨k, rfl, k1, k2, k3⟩ e
    unfold B75_10_5 at e
    rcases ite1 e with ⟨q, e⟩ | ⟨q, e⟩
    · rw [Int.toNat_natCast, wr_i (by omega) (by omega)] at e
      cases e
      refine Or.inl ⟨_, _, rfl, k + 1, by omega, by omega, fun j hj => ?_, fun b q hb => ?_⟩
      · by_cases z : j = k
        · subst z; rw [yup_eq]
        · rw [yup_nk z]; exact k2 j (by omega)
      · rw [yup_ne (by omega)]; exact k3 b q hb
    · cases e; exact Or.inr ⟨rfl, by omega⟩
  obtain ⟨l', m', hI, e3⟩ := yloop_inv _ (fun l m l' m' hI hB => by
    rcases st l m _ hI hB with ⟨l2, m2, z, z2⟩ | ⟨z, -⟩
    · cases z; exact z2
    · cases z) _ _ _ _ (show (∃ k : Nat, (0 : Int) = k ∧ k ≤ 10 ∧ (∀ j, j < k → mc a j = v) ∧ (∀ b q, ¬ (b = a ∧ q < 10) → mc b q = mc b q)) from ⟨0, rfl, by omega, fun j hj => by omega, fun _ _ _ => rfl⟩) e1
  rcases st l' m' _ hI e3 with ⟨l2, m2, z, -⟩ | ⟨z, zl⟩
  · cases z
  · cases z
    have := e2 _ _ rfl
    subst this
    obtain ⟨k, k0, k1, k2, k3⟩ := hI
    exact ⟨fun j hj => k2 j (by omega), k3⟩
/-- rows are filled. B: the loop's body, a0: the first row, n: how many, w: how wide -/
theorem rows_r {B : Int → yM → Option ((Int × yM) ⊕ ((Int × yM) ⊕ (Unit × yM)))} {a0 n w H : Nat} {r : (Int × yM) ⊕ (Unit × yM)} (hn : n ≤ 100) (hB : ∀ (k : Nat) (m : yM) y, B (k : Int) m = some y → (k < n ∧ ∃ m1, y = .inl (((k + 1 : Nat) : Int), m1) ∧ (∀ j, j < w → m1 (a0 + k) j = -1) ∧ (∀ b q, ¬ (b = a0 + k ∧ q < w) → m1 b q = m b q)) ∨ (n ≤ k ∧ y = .inr (.inl ((k : Int), m)))) (h : yloop B H 0 mc = some r) : ∃ l m, r = .inl (l, m) ∧ (∀ i j, i < n → j < w → m (a0 + i) j = -1) ∧ (∀ b q, ¬ (a0 ≤ b ∧ b < a0 + n) → m b q = mc b q) := by
  have st : ∀ (l : Int) (m : yM) y, (∃ k : Nat, l = k ∧ k ≤ n ∧ (∀ i j, i < k → j < w → m (a0 + i) j = -1) ∧ (∀ b q, ¬ (a0 ≤ b ∧ b < a0 + n) → m b q = mc b q)) → B l m = some y → (∃ l' m', y = .inl (l', m') ∧ (∃ k : Nat, l' = k ∧ k ≤ n ∧ (∀ i j, i < k → j < w → m' (a0 + i) j = -1) ∧ (∀ b q, ¬ (a0 ≤ b ∧ b < a0 + n) → m' b q = mc b q))) ∨ (y = .inr (.inl (l, m)) ∧ n ≤ l) := by
    rintro l m y ⟨k, rfl, k1, k2, k3⟩ e
    rcases hB k m y e with ⟨z0, m1, z1, z2, z3⟩ | ⟨z0, z1⟩
    · refine Or.inl ⟨_, _, z1, k + 1, rfl, by omega, fun i j hi hj => ?_, fun b q hb => ?_⟩
      · by_cases z : i = k
        · subst z; exact z2 j hj
        · rw [z3 _ _ (by omega)]; exact k2 i j (by omega) hj
      · rw [z3 _ _ (by omega)]; exact k3 b q hb
    · exact Or.inr ⟨z1, by omega⟩
  obtain ⟨l', m', hI, e3⟩ := yloop_inv _ (fun l m l' m' hI hB => by
    rcases st l m _ hI hB with ⟨l2, m2, z, z2⟩ | ⟨z, -⟩
    · cases z; exact z2
    · cases z) _ _ _ _ (show (∃ k : Nat, (0 : Int) = k ∧ k ≤ n ∧ (∀ i j, i < k → j < w → mc (a0 + i) j = -1) ∧ (∀ b q, ¬ (a0 ≤ b ∧ b < a0 + n) → mc b q = mc b q)) from ⟨0, rfl, by omega, fun i j hi => by omega, fun _ _ _ => rfl⟩) h
  rcases st l' m' _ hI e3 with ⟨l2, m2, z, -⟩ | ⟨z, zl⟩
  · cases z
  · cases z
    obtain ⟨k, k0, k1, k2, k3⟩ := hI
    exact ⟨_, _, rfl, fun i j hi hj => k2 i j (by omega) hj, k3⟩
/-- the class begins with no facts -/
theorem F77_r (h : F77 f mc = some mc') : (∀ t i j, t < 4 → i < fN t → j < ww t → mc' (cc t i) j = -1) ∧ mc' 8 6 = 0 ∧ (∀ b q, b < 10 ∨ 169 ≤ b ∨ b = 58 ∨ b = 72 → ¬ (b = 8 ∧ q = 6) → mc' b q = mc b q) := by
  unfold F77 at h
  replace h := bU_e h
  obtain ⟨m1, e1, h⟩ := h
  replace h := bU_e h
  obtain ⟨m2, e2, h⟩ := h
  replace h := bU_e h
  obtain ⟨m3, e3, h⟩ := h
  replace h := bU_e h
  obtain ⟨m4, e4, h⟩ := h
  cases h
  unfold F76_c9 at e1
  unfold F76_c58 at e2
  unfold F76_c72 at e3
  obtain ⟨r1, a1, b1⟩ := bL_u e1
  obtain ⟨r2, a2, b2⟩ := bL_u e2
  obtain ⟨r3, a3, b3⟩ := bL_u e3
  have k1 : ∀ k : Nat, k ≤ 100 → wr ((k : Int) + 1) = ((k + 1 : Nat) : Int) := fun k hk => by rw [wr_i (by omega) (by omega)]; omega
  obtain ⟨l1, x1, c1, d1, f1⟩ := rows_r (a0 := 10) (n := 48) (w := 12) (by decide) (fun k m y e => by
    unfold B76_c9_2 at e
    rcases ite1 e with ⟨q, e⟩ | ⟨q, e⟩
    · rw [if_pos (by omega), Int.toNat_natCast, k1 k (by omega)] at e
      replace e := bU_e e
      obtain ⟨m5, e5, e⟩ := e
      cases e
      obtain ⟨g1, g2⟩ := F75_12_r e5
      exact Or.inl ⟨by omega, _, rfl, g1, g2⟩
    · cases e; exact Or.inr ⟨by omega, rfl⟩) a1
  have := b1 _ _ c1
  subst this
  obtain ⟨l2, x2, c2, d2, f2⟩ := rows_r (a0 := 59) (n := 12) (w := 10) (by decide) (fun k m y e => by
    unfold B76_c58_2 at e
    rcases ite1 e with ⟨q, e⟩ | ⟨q, e⟩
    · rw [if_pos (by omega), Int.toNat_natCast, k1 k (by omega)] at e
      replace e := bU_e e
      obtain ⟨m5, e5, e⟩ := e
      cases e
      obtain ⟨g1, g2⟩ := F75_10_r e5
      exact Or.inl ⟨by omega, _, rfl, g1, g2⟩
    · cases e; exact Or.inr ⟨by omega, rfl⟩) a2
  have := b2 _ _ c2
  subst this
  obtain ⟨l3, x3, c3, d3, f3⟩ := rows_r (a0 := 73) (n := 96) (w := 12) (by decide) (fun k m y e => by
    unfold B76_c72_2 at e
    rcases ite1 e with ⟨q, e⟩ | ⟨q, e⟩
    · rw [if_pos (by omega), Int.toNat_natCast, k1 k (by omega)] at e
      replace e := bU_e e
      obtain ⟨m5, e5, e⟩ := e
      cases e
      obtain ⟨g1, g2⟩ := F75_12_r e5
      exact Or.inl ⟨by omega, _, rfl, g1, g2⟩
    · cases e; exact Or.inr ⟨by omega, rfl⟩) a3
  have := b3 _ _ c3
  subst this
  obtain ⟨d4, f4⟩ := F75_10_r e4
  refine ⟨fun t i j ht hi hj => ?_, yup_eq _ _ _ _, fun b q hb hq => ?_⟩
  · have hr := cc_rng ht hi
    rw [yup_na (by omega)]
    rcases (show t = 0 ∨ t = 1 ∨ t = 2 ∨ t = 3 by omega) with rfl | rfl | rfl | rfl
    · have hi : i < 48 := hi
      have hj : j < 12 := hj
      show m4 (10 + i) j = -1
      rw [f4 _ _ (by omega), f3 _ _ (by omega), f2 _ _ (by omega)]
      exact d1 i j hi hj
    · have hi : i < 96 := hi
      have hj : j < 12 := hj
      show m4 (73 + i) j = -1
      rw [f4 _ _ (by omega)]
      exact d3 i j hi hj
    · have hi : i < 12 := hi
      have hj : j < 10 := hj
      show m4 (59 + i) j = -1
      rw [f4 _ _ (by omega), f3 _ _ (by omega)]
      exact d2 i j hi hj
    · have hj : j < 10 := hj
      show m4 71 j = -1
      exact d4 j hj
  · rw [yup_ne hq, f4 _ _ (by omega), f3 _ _ (by omega), f2 _ _ (by omega), f1 _ _ (by omega)]
/-- a flat row of the model is filled -/
theorem flat_r {B : Int → yM → Option ((Int × yM) ⊕ ((Int × yM) ⊕ (Unit × yM)))} {b0 n H : Nat} {r : (Int × yM) ⊕ (Unit × yM)} (hn : n ≤ 2000) (hB : ∀ (l : Int) (m : yM), B l m = (if l < (n : Int) then some (.inl (wr (l + 1), yup m b0 l.toNat (-1))) else some (.inr (.inl (l, m))))) (h : yloop B H 0 mm = some r) : ∃ l m, r = .inl (l, m) ∧ (∀ j, j < n → m b0 j = -1) ∧ (∀ b q, b ≠ b0 → m b q = mm b q) := by
  have st : ∀ (l : Int) (m : yM) y, (∃ k : Nat, l = k ∧ k ≤ n ∧ (∀ j, j < k → m b0 j = -1) ∧ (∀ b q, b ≠ b0 → m b q = mm b q)) → B l m = some y → (∃ l' m', y = .inl (l', m') ∧ (∃ k : Nat, l' = k ∧ k ≤ n ∧ (∀ j, j < k → m' b0 j = -1) ∧ (∀ b q, b ≠ b0 → m' b q = mm b q))) ∨ (y = .inr (.inl (l, m)) ∧ (n : Int) ≤ l) := by
    rintro l m y ⟨k, rfl, k1, k2, k3⟩ e
    rw [hB] at e
    rcases ite1 e with ⟨q, e⟩ | ⟨q, e⟩
    · rw [Int.toNat_natCast, wr_i (by omega) (by omega)] at e
      cases e
      refine Or.inl ⟨_, _, rfl, k + 1, by omega, by omega, fun j hj => ?_, fun b q hb => by rw [yup_na hb]; exact k3 b q hb⟩
      by_cases z : j = k
      · subst z; rw [yup_eq]
      · rw [yup_nk z]; exact k2 j (by omega)
    · cases e; exact Or.inr ⟨rfl, by omega⟩
  obtain ⟨l', m', hI, e3⟩ := yloop_inv _ (fun l m l' m' hI hB => by
    rcases st l m _ hI hB with ⟨l2, m2, z, z2⟩ | ⟨z, -⟩
    · cases z; exact z2
    · cases z) _ _ _ _ (show (∃ k : Nat, (0 : Int) = k ∧ k ≤ n ∧ (∀ j, j < k → mm b0 j = -1) ∧ (∀ b q, b ≠ b0 → mm b q = mm b q)) from ⟨0, rfl, by omega, fun j hj => by omega, fun _ _ _ => rfl⟩) h
  rcases st l' m' _ hI e3 with ⟨l2, m2, z, -⟩ | ⟨z, zl⟩
  · cases z
  · cases z
    obtain ⟨k, k0, k1, k2, k3⟩ := hI
    exact ⟨_, _, rfl, fun j hj => k2 j (by omega), k3⟩
theorem bL_m {γ β : Type} {o : Option ((Int × yM) ⊕ (γ × yM))} {k : Int → yM → Option β} {t : γ → yM → Option β} {y : β} (h : bL o k t = some y) (hr : ∀ r, o = some r → ∃ l m, r = .inl (l, m)) : ∃ l m, o = some (.inl (l, m)) ∧ k l m = some y := by
  rcases bL_e h with ⟨l, m, d1, d2⟩ | ⟨l, m, d1, d2⟩
  · exact ⟨_, _, d1, d2⟩
  · obtain ⟨l2, m2, z⟩ := hr _ d1
    cases z
/-- the model begins with no facts -/
theorem F151_r (h : F151 g mm = some mm') : ∃ m1, (∀ t i j, t < 4 → i < fN t → j < ww t → m1 (404 + t) (ww t * i + j) = -1) ∧ (∀ a q, a < 404 → m1 a q = mm a q) ∧ ∃ r, F143 g (yup (yup m1 376 47 0) 376 45 0) = some r ∧ ((r < 0 ∧ mm' = yup (yup m1 376 47 0) 376 45 0) ∨ (¬ r < 0 ∧ ∃ rm, yloop (fun (_ : Unit) ml => B151_143 g ml) g () (yup (yup (yup (yup (yup m1 376 47 0) 376 45 0) 407 r.toNat 0) 404 (wr (12 * (wr ((m1 398 (wr ((wr (10 * (m1 376 18))) + r)).toNat) + 1)))).toNat 0) 376 46 1) = some rm ∧ (∀ m2, rm = .inl ((), m2) → mm' = m2))) := by
  unfold F151 at h
  have q1 : ∀ {m : yM} {H : Nat} {r : (Int × yM) ⊕ (Unit × yM)}, yloop (fun (l : Int) ml => B151_2 g l ml) H 0 m = some r → ∃ l m', r = .inl (l, m') ∧ (∀ j, j < 576 → m' 404 j = -1) ∧ (∀ b q, b ≠ 404 → m' b q = m b q) := fun e => flat_r (n := 576) (by decide) (fun l m => by unfold B151_2; rfl) e
  have q2 : ∀ {m : yM} {H : Nat} {r : (Int × yM) ⊕ (Unit × yM)}, yloop (fun (l : Int) ml => B151_24 g l ml) H 0 m = some r → ∃ l m', r = .inl (l, m') ∧ (∀ j, j < 1152 → m' 405 j = -1) ∧ (∀ b q, b ≠ 405 → m' b q = m b q) := fun e => flat_r (n := 1152) (by decide) (fun l m => by unfold B151_24; rfl) e
  have q3 : ∀ {m : yM} {H : Nat} {r : (Int × yM) ⊕ (Unit × yM)}, yloop (fun (l : Int) ml => B151_46 g l ml) H 0 m = some r → ∃ l m', r = .inl (l, m') ∧ (∀ j, j < 120 → m' 406 j = -1) ∧ (∀ b q, b ≠ 406 → m' b q = m b q) := fun e => flat_r (n := 120) (by decide) (fun l m => by unfold B151_46; rfl) e
  have q4 : ∀ {m : yM} {H : Nat} {r : (Int × yM) ⊕ (Unit × yM)}, yloop (fun (l : Int) ml => B151_67 g l ml) H 0 m = some r → ∃ l m', r = .inl (l, m') ∧ (∀ j, j < 10 → m' 407 j = -1) ∧ (∀ b q, b ≠ 407 → m' b q = m b q) := fun e => flat_r (n := 10) (by decide) (fun l m => by unfold B151_67; rfl) e
  obtain ⟨l1, m1, a1, h⟩ := bL_m h (fun r e => by obtain ⟨l, m, z, -⟩ := q1 e; exact ⟨l, m, z⟩)
  obtain ⟨l2, m2, a2, h⟩ := bL_m h (fun r e => by obtain ⟨l, m, z, -⟩ := q2 e; exact ⟨l, m, z⟩)
  obtain ⟨l3, m3, a3, h⟩ := bL_m h (fun r e => by obtain ⟨l, m, z, -⟩ := q3 e; exact ⟨l, m, z⟩)
  obtain ⟨l4, m4, a4, h⟩ := bL_m h (fun r e => by obtain ⟨l, m, z, -⟩ := q4 e; exact ⟨l, m, z⟩)
  obtain ⟨_, _, z1, b1, c1⟩ := q1 a1
  cases z1
  obtain ⟨_, _, z2, b2, c2⟩ := q2 a2
  cases z2
  obtain ⟨_, _, z3, b3, c3⟩ := q3 a3
  cases z3
  obtain ⟨_, _, z4, b4, c4⟩ := q4 a4
  cases z4
  refine ⟨m4, fun t i j ht hi hj => ?_, fun a q ha => by rw [c4 a q (by omega), c3 a q (by omega), c2 a q (by omega), c1 a q (by omega)], ?_⟩
  · rcases (show t = 0 ∨ t = 1 ∨ t = 2 ∨ t = 3 by omega) with rfl | rfl | rfl | rfl
    · have hi : i < 48 := hi
      have hj : j < 12 := hj
      show m4 404 (12 * i + j) = -1
      rw [c4 _ _ (by decide), c3 _ _ (by decide), c2 _ _ (by decide)]
      exact b1 _ (by omega)
    · have hi : i < 96 := hi
      have hj : j < 12 := hj
      show m4 405 (12 * i + j) = -1
      rw [c4 _ _ (by decide), c3 _ _ (by decide)]
      exact b2 _ (by omega)
    · have hi : i < 12 := hi
      have hj : j < 10 := hj
      show m4 406 (10 * i + j) = -1
      rw [c4 _ _ (by decide)]
      exact b3 _ (by omega)
    · have hi : i < 1 := hi
      have hj : j < 10 := hj
      show m4 407 (10 * i + j) = -1
      exact b4 _ (by omega)
  · replace h := bP_e h
    obtain ⟨r, er, h⟩ := h
    refine ⟨r, er, ?_⟩
    rcases ite1 h with ⟨q, h⟩ | ⟨q, h⟩
    · cases h; exact Or.inl ⟨q, rfl⟩
    · refine Or.inr ⟨q, ?_⟩
      rcases bL_e h with ⟨l, m, d1, d2⟩ | ⟨l, m, d1, d2⟩
      · cases d2
        exact ⟨_, d1, fun m2 e => by cases e; rfl⟩
      · exact ⟨_, d1, fun m2 e => by cases e⟩
end RY

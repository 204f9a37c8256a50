/-! THE MODEL'S LOOKUPS -/
section RSM
variable {p f g : Nat} {mm mm' N : yM}
def RSm (p : Nat) (N mm' : yM) : Prop := (∀ x : Nat, 1 ≤ x → (x : Int) < N 388 p → IX (N 383 p) (fun q => N 391 (6 * p + q) = N 400 (12 * p + x)) (mm' 400 (12 * p + x))) ∧ (∀ q : Nat, ¬ (12 * p + 1 ≤ q ∧ (q : Int) < 12 * p + N 388 p) → mm' 400 q = N 400 q) ∧ (∀ c : Nat, (c : Int) < N 387 p → IX (N 383 p) (fun q => N 391 (6 * p + q) = N 402 (8 * p + c)) (mm' 402 (8 * p + c))) ∧ (∀ q : Nat, ¬ (8 * p ≤ q ∧ (q : Int) < 8 * p + N 387 p) → mm' 402 q = N 402 q) ∧ (∀ u : Nat, (u : Int) < N 390 p → (N 403 (1000 * p + 8 * u) = 4 ∨ N 403 (1000 * p + 8 * u) = 5) → IX (N 385 p) (fun q => N 394 (8 * p + q) = N 403 (1000 * p + 8 * u + 4)) (mm' 403 (1000 * p + 8 * u + 4))) ∧ (∀ q : Nat, ¬ (∃ u : Nat, (u : Int) < N 390 p ∧ q = 1000 * p + 8 * u + 4 ∧ (N 403 (1000 * p + 8 * u) = 4 ∨ N 403 (1000 * p + 8 * u) = 5)) → mm' 403 q = N 403 q) ∧ (∀ a q, a ≠ 400 → a ≠ 402 → a ≠ 403 → ¬ (a = 376 ∧ q = 8) → mm' a q = N a q)
theorem sites_m (hp : p ≤ 1) (h3 : 0 ≤ N 383 p ∧ N 383 p ≤ 6) (h8 : 1 ≤ N 388 p ∧ N 388 p ≤ 12) {r : (Int × yM) ⊕ (Unit × yM)} (h : yloop (fun (l : Int) ml => B141_57 g p l ml) f 1 N = some r) : ∃ l m, r = .inl (l, m) ∧ (∀ a q, a ≠ 400 → m a q = N a q) ∧ (∀ x : Nat, 1 ≤ x → (x : Int) < N 388 p → IX (N 383 p) (fun q => N 391 (6 * p + q) = N 400 (12 * p + x)) (m 400 (12 * p + x))) ∧ (∀ q : Nat, ¬ (12 * p + 1 ≤ q ∧ (q : Int) < 12 * p + N 388 p) → m 400 q = N 400 q) := by
  have step : ∀ (l : Int) (m : yM) (y : (Int × yM) ⊕ ((Int × yM) ⊕ (Unit × yM))), (1 ≤ l ∧ l ≤ N 388 p ∧ (∀ a q, a ≠ 400 → m a q = N a q) ∧ (∀ x : Nat, 1 ≤ x → (x : Int) < l → IX (N 383 p) (fun q => N 391 (6 * p + q) = N 400 (12 * p + x)) (m 400 (12 * p + x))) ∧ (∀ q : Nat, ¬ (12 * p + 1 ≤ q ∧ (q : Int) < 12 * p + l) → m 400 q = N 400 q)) → B141_57 g p l m = some y → (∃ m', y = .inl (l + 1, m') ∧ (1 ≤ l + 1 ∧ l + 1 ≤ N 388 p ∧ (∀ a q, a ≠ 400 → m' a q = N a q) ∧ (∀ x : Nat, 1 ≤ x → (x : Int) < l + 1 → IX (N 383 p) (fun q => N 391 (6 * p + q) = N 400 (12 * p + x)) (m' 400 (12 * p + x))) ∧ (∀ q : Nat, ¬ (12 * p + 1 ≤ q ∧ (q : Int) < 12 * p + (l + 1)) → m' 400 q = N 400 q))) ∨ (y = .inr (.inl (l, m)) ∧ l = N 388 p) := by
    intro l m y ⟨i1, i2, i3, i4, i5⟩ e
    unfold B141_57 at e
    rw [Int.toNat_natCast, i3 388 p (by decide)] at e
    rcases ite1 e with ⟨q, e⟩ | ⟨q, e⟩
    case inr => cases e; exact Or.inr ⟨rfl, by omega⟩
    obtain ⟨n, rfl⟩ : ∃ n : Nat, l = n := ⟨l.toNat, by omega⟩
    have ix : (wr ((wr (12 * (p : Int))) + (n : Int))).toNat = 12 * p + n := by
      rw [wr_i (x := 12 * (p : Int)) (by omega) (by omega), wr_i (by omega) (by omega)]; omega
    rw [ix] at e
    replace e := bP_e e
    obtain ⟨v, ev, e⟩ := e
    rw [wr_i (by omega) (by omega)] at e
    cases e
    have I := F116_r hp (by rw [i3 383 p (by decide)]; exact h3.1) (by rw [i3 383 p (by decide)]; exact h3.2) ev
    rw [i3 383 p (by decide), i5 (12 * p + n) (by omega)] at I
    have I' : IX (N 383 p) (fun q => N 391 (6 * p + q) = N 400 (12 * p + n)) v := I.mp (fun z hz => by rw [i3 391 _ (by decide)])
    refine Or.inl ⟨_, rfl, by omega, by omega, fun a q ha => by rw [yup_na ha]; exact i3 a q ha, fun x x1 x2 => ?_, fun q hq => ?_⟩
    · by_cases z : x = n
      · subst z; rw [yup_eq]; exact I'
      · rw [yup_nk (by omega)]; exact i4 x x1 (by omega)
    · rw [yup_nk (by omega)]; exact i5 q (by omega)
  obtain ⟨l', m', hI, e3⟩ := yloop_inv _ (fun l m l' m' hI hB => by
    rcases step l m _ hI hB with ⟨m2, z, z2⟩ | ⟨z, -⟩
    · cases z; exact z2
    · cases z) _ _ _ _ (show (1 ≤ (1 : Int) ∧ (1 : Int) ≤ N 388 p ∧ (∀ a q, a ≠ 400 → N a q = N a q) ∧ (∀ x : Nat, 1 ≤ x → (x : Int) < 1 → IX (N 383 p) (fun q => N 391 (6 * p + q) = N 400 (12 * p + x)) (N 400 (12 * p + x))) ∧ (∀ q : Nat, ¬ (12 * p + 1 ≤ q ∧ (q : Int) < 12 * p + 1) → N 400 q = N 400 q)) from ⟨by omega, by omega, fun _ _ _ => rfl, fun x x1 x2 => by omega, fun _ _ => rfl⟩) h
  rcases step l' m' _ hI e3 with ⟨m2, z, -⟩ | ⟨z, zl⟩
  · cases z
  · cases z
    obtain ⟨i1, i2, i3, i4, i5⟩ := hI
    rw [zl] at i4 i5
    exact ⟨_, _, rfl, i3, i4, i5⟩
theorem casts_m (hp : p ≤ 1) (h3 : 0 ≤ N 383 p ∧ N 383 p ≤ 6) (h8 : 0 ≤ N 387 p ∧ N 387 p ≤ 8) {r : (Int × yM) ⊕ (Unit × yM)} (h : yloop (fun (l : Int) ml => B141_102 g p l ml) f 0 N = some r) : ∃ l m, r = .inl (l, m) ∧ (∀ a q, a ≠ 402 → m a q = N a q) ∧ (∀ x : Nat, (x : Int) < N 387 p → IX (N 383 p) (fun q => N 391 (6 * p + q) = N 402 (8 * p + x)) (m 402 (8 * p + x))) ∧ (∀ q : Nat, ¬ (8 * p ≤ q ∧ (q : Int) < 8 * p + N 387 p) → m 402 q = N 402 q) := by
  have step : ∀ (l : Int) (m : yM) (y : (Int × yM) ⊕ ((Int × yM) ⊕ (Unit × yM))), (0 ≤ l ∧ l ≤ N 387 p ∧ (∀ a q, a ≠ 402 → m a q = N a q) ∧ (∀ x : Nat, (x : Int) < l → IX (N 383 p) (fun q => N 391 (6 * p + q) = N 402 (8 * p + x)) (m 402 (8 * p + x))) ∧ (∀ q : Nat, ¬ (8 * p ≤ q ∧ (q : Int) < 8 * p + l) → m 402 q = N 402 q)) → B141_102 g p l m = some y → (∃ m', y = .inl (l + 1, m') ∧ (0 ≤ l + 1 ∧ l + 1 ≤ N 387 p ∧ (∀ a q, a ≠ 402 → m' a q = N a q) ∧ (∀ x : Nat, (x : Int) < l + 1 → IX (N 383 p) (fun q => N 391 (6 * p + q) = N 402 (8 * p + x)) (m' 402 (8 * p + x))) ∧ (∀ q : Nat, ¬ (8 * p ≤ q ∧ (q : Int) < 8 * p + (l + 1)) → m' 402 q = N 402 q))) ∨ (y = .inr (.inl (l, m)) ∧ l = N 387 p) := by
    intro l m y ⟨i1, i2, i3, i4, i5⟩ e
    unfold B141_102 at e
    rw [Int.toNat_natCast, i3 387 p (by decide)] at e
    rcases ite1 e with ⟨q, e⟩ | ⟨q, e⟩
    case inr => cases e; exact Or.inr ⟨rfl, by omega⟩
    obtain ⟨n, rfl⟩ : ∃ n : Nat, l = n := ⟨l.toNat, by omega⟩
    have ix : (wr ((wr (8 * (p : Int))) + (n : Int))).toNat = 8 * p + n := by
      rw [wr_i (x := 8 * (p : Int)) (by omega) (by omega), wr_i (by omega) (by omega)]; omega
    rw [ix] at e
    replace e := bP_e e
    obtain ⟨v, ev, e⟩ := e
    rw [wr_i (by omega) (by omega)] at e
    cases e
    have I := F116_r hp (by rw [i3 383 p (by decide)]; exact h3.1) (by rw [i3 383 p (by decide)]; exact h3.2) ev
    rw [i3 383 p (by decide), i5 (8 * p + n) (by omega)] at I
    have I' : IX (N 383 p) (fun q => N 391 (6 * p + q) = N 402 (8 * p + n)) v := I.mp (fun z hz => by rw [i3 391 _ (by decide)])
    refine Or.inl ⟨_, rfl, by omega, by omega, fun a q ha => by rw [yup_na ha]; exact i3 a q ha, fun x x2 => ?_, fun q hq => ?_⟩
    · by_cases z : x = n
      · subst z; rw [yup_eq]; exact I'
      · rw [yup_nk (by omega)]; exact i4 x (by omega)
    · rw [yup_nk (by omega)]; exact i5 q (by omega)
  obtain ⟨l', m', hI, e3⟩ := yloop_inv _ (fun l m l' m' hI hB => by
    rcases step l m _ hI hB with ⟨m2, z, z2⟩ | ⟨z, -⟩
    · cases z; exact z2
    · cases z) _ _ _ _ (show (0 ≤ (0 : Int) ∧ (0 : Int) ≤ N 387 p ∧ (∀ a q, a ≠ 402 → N a q = N a q) ∧ (∀ x : Nat, (x : Int) < 0 → IX (N 383 p) (fun q => N 391 (6 * p + q) = N 402 (8 * p + x)) (N 402 (8 * p + x))) ∧ (∀ q : Nat, ¬ (8 * p ≤ q ∧ (q : Int) < 8 * p + 0) → N 402 q = N 402 q)) from ⟨by omega, by omega, fun _ _ _ => rfl, fun x x2 => by omega, fun _ _ => rfl⟩) h
  rcases step l' m' _ hI e3 with ⟨m2, z, -⟩ | ⟨z, zl⟩
  · cases z
  · cases z
    obtain ⟨i1, i2, i3, i4, i5⟩ := hI
    rw [zl] at i4 i5
    exact ⟨_, _, rfl, i3, i4, i5⟩
def opf (p : Nat) (N : yM) (l : Int) (q : Nat) : Prop := ∃ u : Nat, (u : Int) < l ∧ q = 1000 * p + 8 * u + 4 ∧ (N 403 (1000 * p + 8 * u) = 4 ∨ N 403 (1000 * p + 8 * u) = 5)
theorem ops_m (hp : p ≤ 1) (h3 : 0 ≤ N 385 p ∧ N 385 p ≤ 8) (h8 : 0 ≤ N 390 p ∧ N 390 p ≤ 120) {r : (Int × yM) ⊕ (Unit × yM)} (h : yloop (fun (l : Int) ml => B141_147 g p l ml) f 0 N = some r) : ∃ l m, r = .inl (l, m) ∧ (∀ a q, a ≠ 403 → m a q = N a q) ∧ (∀ u : Nat, (u : Int) < N 390 p → (N 403 (1000 * p + 8 * u) = 4 ∨ N 403 (1000 * p + 8 * u) = 5) → IX (N 385 p) (fun q => N 394 (8 * p + q) = N 403 (1000 * p + 8 * u + 4)) (m 403 (1000 * p + 8 * u + 4))) ∧ (∀ q : Nat, ¬ opf p N (N 390 p) q → m 403 q = N 403 q) := by
  have step : ∀ (l : Int) (m : yM) (y : (Int × yM) ⊕ ((Int × yM) ⊕ (Unit × yM))), (0 ≤ l ∧ l ≤ N 390 p ∧ (∀ a q, a ≠ 403 → m a q = N a q) ∧ (∀ u : Nat, (u : Int) < l → (N 403 (1000 * p + 8 * u) = 4 ∨ N 403 (1000 * p + 8 * u) = 5) → IX (N 385 p) (fun q => N 394 (8 * p + q) = N 403 (1000 * p + 8 * u + 4)) (m 403 (1000 * p + 8 * u + 4))) ∧ (∀ q : Nat, ¬ opf p N l q → m 403 q = N 403 q)) → B141_147 g p l m = some y → (∃ m', y = .inl (l + 1, m') ∧ (0 ≤ l + 1 ∧ l + 1 ≤ N 390 p ∧ (∀ a q, a ≠ 403 → m' a q = N a q) ∧ (∀ u : Nat, (u : Int) < l + 1 → (N 403 (1000 * p + 8 * u) = 4 ∨ N 403 (1000 * p + 8 * u) = 5) → IX (N 385 p) (fun q => N 394 (8 * p + q) = N 403 (1000 * p + 8 * u + 4)) (m' 403 (1000 * p + 8 * u + 4))) ∧ (∀ q : Nat, ¬ opf p N (l + 1) q → m' 403 q = N 403 q))) ∨ (y = .inr (.inl (l, m)) ∧ l = N 390 p) := by
    intro l m y ⟨i1, i2, i3, i4, i5⟩ e
    unfold B141_147 at e
    rw [Int.toNat_natCast, i3 390 p (by decide)] at e
    rcases ite1 e with ⟨q, e⟩ | ⟨q, e⟩
    case inr => cases e; exact Or.inr ⟨rfl, by omega⟩
    obtain ⟨n, rfl⟩ : ∃ n : Nat, l = n := ⟨l.toNat, by omega⟩
    have ix0 : wr ((wr (1000 * (p : Int))) + (wr (8 * (n : Int)))) = ((1000 * p + 8 * n : Nat) : Int) := by
      rw [wr_i (x := 1000 * (p : Int)) (by omega) (by omega), wr_i (x := 8 * (n : Int)) (by omega) (by omega), wr_i (by omega) (by omega)]; omega
    rw [ix0, Int.toNat_natCast] at e
    have w1 : wr ((n : Int) + 1) = (n : Int) + 1 := wr_i (by omega) (by omega)
    have k0 : m 403 (1000 * p + 8 * n) = N 403 (1000 * p + 8 * n) := i5 _ (fun ⟨u, _, u2, _⟩ => by omega)
    have mono : ∀ q, ¬ opf p N ((n : Int) + 1) q → ¬ opf p N (n : Int) q := fun q hq ⟨u, u1, u2, u3⟩ => hq ⟨u, by omega, u2, u3⟩
    have K : (N 403 (1000 * p + 8 * n) = 4 ∨ N 403 (1000 * p + 8 * n) = 5) → J141_188 g p (n : Int) ((1000 * p + 8 * n : Nat) : Int) m = some y → (∃ m', y = .inl ((n : Int) + 1, m') ∧ (0 ≤ (n : Int) + 1 ∧ (n : Int) + 1 ≤ N 390 p ∧ (∀ a q, a ≠ 403 → m' a q = N a q) ∧ (∀ u : Nat, (u : Int) < (n : Int) + 1 → (N 403 (1000 * p + 8 * u) = 4 ∨ N 403 (1000 * p + 8 * u) = 5) → IX (N 385 p) (fun q => N 394 (8 * p + q) = N 403 (1000 * p + 8 * u + 4)) (m' 403 (1000 * p + 8 * u + 4))) ∧ (∀ q : Nat, ¬ opf p N ((n : Int) + 1) q → m' 403 q = N 403 q))) := by
      intro hk e
      unfold J141_188 J141_209 at e
      have ix : (wr (((1000 * p + 8 * n : Nat) : Int) + 4)).toNat = 1000 * p + 8 * n + 4 := by
        rw [wr_i (by omega) (by omega)]; omega
      rw [ix] at e
      replace e := bP_e e
      obtain ⟨v, ev, e⟩ := e
      rw [w1] at e
      cases e
      have I := F120_r hp (by rw [i3 385 p (by decide)]; exact h3.1) (by rw [i3 385 p (by decide)]; exact h3.2) ev
      rw [i3 385 p (by decide), i5 (1000 * p + 8 * n + 4) (fun ⟨u, u1, u2, _⟩ => by omega)] at I
      have I' : IX (N 385 p) (fun q => N 394 (8 * p + q) = N 403 (1000 * p + 8 * n + 4)) v := I.mp (fun z hz => by rw [i3 394 _ (by decide)])
      refine ⟨_, rfl, by omega, by omega, fun a q ha => by rw [yup_na ha]; exact i3 a q ha, fun u u1 u2 => ?_, fun q hq => ?_⟩
      · by_cases z : u = n
        · subst z; rw [yup_eq]; exact I'
        · rw [yup_nk (by omega)]; exact i4 u (by omega) u2
      · rw [yup_nk (fun z => hq ⟨n, by omega, z, hk⟩)]; exact i5 q (mono q hq)
    rw [k0] at e
    rcases ite1 e with ⟨k4, e⟩ | ⟨k4, e⟩
    · exact Or.inl (K (Or.inl k4) e)
    rcases ite1 e with ⟨k5, e⟩ | ⟨k5, e⟩
    · exact Or.inl (K (Or.inr k5) e)
    unfold J141_209 at e
    rw [w1] at e
    cases e
    refine Or.inl ⟨_, rfl, by omega, by omega, i3, fun u u1 u2 => ?_, fun q hq => i5 q (mono q hq)⟩
    by_cases z : u = n
    · subst z
      rcases u2 with u2 | u2
      · exact absurd u2 k4
      · exact absurd u2 k5
    · exact i4 u (by omega) u2
  obtain ⟨l', m', hI, e3⟩ := yloop_inv _ (fun l m l' m' hI hB => by
    rcases step l m _ hI hB with ⟨m2, z, z2⟩ | ⟨z, -⟩
    · cases z; exact z2
    · cases z) _ _ _ _ (show (0 ≤ (0 : Int) ∧ (0 : Int) ≤ N 390 p ∧ (∀ a q, a ≠ 403 → N a q = N a q) ∧ (∀ u : Nat, (u : Int) < 0 → (N 403 (1000 * p + 8 * u) = 4 ∨ N 403 (1000 * p + 8 * u) = 5) → IX (N 385 p) (fun q => N 394 (8 * p + q) = N 403 (1000 * p + 8 * u + 4)) (N 403 (1000 * p + 8 * u + 4))) ∧ (∀ q : Nat, ¬ opf p N 0 q → N 403 q = N 403 q)) from ⟨by omega, by omega, fun _ _ _ => rfl, fun x x2 => by omega, fun _ _ => rfl⟩) h
  rcases step l' m' _ hI e3 with ⟨m2, z, -⟩ | ⟨z, zl⟩
  · cases z
  · cases z
    obtain ⟨i1, i2, i3, i4, i5⟩ := hI
    rw [zl] at i4 i5
    exact ⟨_, _, rfl, i3, i4, i5⟩
theorem asked_m {l : Int} (h : yloop (fun (l : Int) ml => B141_2 g p l ml) f 0 N = some (.inl (l, mm))) : ∀ a q, ¬ (a = 376 ∧ q = 8) → mm a q = N a q := by
  have step : ∀ (l : Int) (m : yM) (y : (Int × yM) ⊕ ((Int × yM) ⊕ (Unit × yM))), (∀ a q, ¬ (a = 376 ∧ q = 8) → m a q = N a q) → B141_2 g p l m = some y → (∃ l' m', y = .inl (l', m') ∧ ∀ a q, ¬ (a = 376 ∧ q = 8) → m' a q = N a q) ∨ y = .inr (.inl (l, m)) := by
    intro l m y hI e
    unfold B141_2 J141_41 at e
    rcases ite1 e with ⟨-, e⟩ | ⟨-, e⟩
    · rcases ite1 e with ⟨-, e⟩ | ⟨-, e⟩
      · replace e := bP_e e
        obtain ⟨v, -, e⟩ := e
        rcases ite1 e with ⟨-, e⟩ | ⟨-, e⟩
        · cases e
          exact Or.inl ⟨_, _, rfl, fun a q z => by rw [yup_ne z]; exact hI a q z⟩
        · cases e
          exact Or.inl ⟨_, _, rfl, hI⟩
      · cases e; exact Or.inr rfl
    · cases e; exact Or.inr rfl
  obtain ⟨l', m', hI, e3⟩ := yloop_inv (fun _ (m : yM) => ∀ a q, ¬ (a = 376 ∧ q = 8) → m a q = N a q) (fun l m l' m' hI hB => by
    rcases step l m _ hI hB with ⟨l2, m2, z, z2⟩ | z
    · cases z; exact z2
    · cases z) _ _ _ _ (fun _ _ _ => rfl) h
  rcases step l' m' _ hI e3 with ⟨l2, m2, z, -⟩ | z
  · cases z
  · cases z; exact hI
theorem res_m (hp : p ≤ 1) (h3 : 0 ≤ N 383 p ∧ N 383 p ≤ 6) (h5 : 0 ≤ N 385 p ∧ N 385 p ≤ 8) (h7 : 0 ≤ N 387 p ∧ N 387 p ≤ 8) (h8 : 1 ≤ N 388 p ∧ N 388 p ≤ 12) (h0 : 0 ≤ N 390 p ∧ N 390 p ≤ 120) (h : F141 g p N = some mm') (hw : mm' 376 8 = -1) : RSm p N mm' := by
  unfold F141 at h
  rcases bL_e h with ⟨l, m1, e1, e2⟩ | ⟨l, m1, e1, e2⟩
  · have f1 := asked_m e1
    unfold J141_47 at e2
    rcases ite1 e2 with ⟨q, e2⟩ | ⟨q, e2⟩
    case inr => cases e2; omega
    rcases bL_e e2 with ⟨l2, m2, e3, e4⟩ | ⟨l2, m2, e3, e4⟩
    · obtain ⟨l', m', z, s1, s2, s3⟩ := sites_m hp (by rw [f1 383 p (by omega)]; exact h3) (by rw [f1 388 p (by omega)]; exact h8) e3
      cases z
      rcases bL_e e4 with ⟨l3, m3, e5, e6⟩ | ⟨l3, m3, e5, e6⟩
      · obtain ⟨l', m', z, c1, c2, c3⟩ := casts_m hp (by rw [s1 383 p (by decide), f1 383 p (by omega)]; exact h3) (by rw [s1 387 p (by decide), f1 387 p (by omega)]; exact h7) e5
        cases z
        rcases bL_e e6 with ⟨l4, m4, e7, e8⟩ | ⟨l4, m4, e7, e8⟩
        · obtain ⟨l', m', z, o1, o2, o3⟩ := ops_m hp (by rw [c1 385 p (by decide), s1 385 p (by decide), f1 385 p (by omega)]; exact h5) (by rw [c1 390 p (by decide), s1 390 p (by decide), f1 390 p (by omega)]; exact h0) e7
          cases z
          cases e8
          have x383 : m2 383 p = N 383 p := by rw [s1 383 p (by decide), f1 383 p (by omega)]
          have x387 : m2 387 p = N 387 p := by rw [s1 387 p (by decide), f1 387 p (by omega)]
          have x385 : m3 385 p = N 385 p := by rw [c1 385 p (by decide), s1 385 p (by decide), f1 385 p (by omega)]
          have x390 : m3 390 p = N 390 p := by rw [c1 390 p (by decide), s1 390 p (by decide), f1 390 p (by omega)]
          have x403 : ∀ q, m3 403 q = N 403 q := fun q => by rw [c1 403 q (by decide), s1 403 q (by decide), f1 403 q (by omega)]
          have x402 : ∀ q, m2 402 q = N 402 q := fun q => by rw [s1 402 q (by decide), f1 402 q (by omega)]
          have x400 : ∀ q, m1 400 q = N 400 q := fun q => f1 400 q (by omega)
          refine ⟨fun x x1 x2 => ?_, fun q hq => ?_, fun c hc => ?_, fun q hq => ?_, fun u hu hk => ?_, fun q hq => ?_, fun a q z1 z2 z3 z4 => ?_⟩
          · rw [o1 400 _ (by decide), c1 400 _ (by decide)]
            have := s2 x x1 (by rw [f1 388 p (by omega)]; exact x2)
            rw [f1 383 p (by omega), x400] at this
            exact this.mp (fun z hz => by rw [f1 391 _ (by omega)])
          · rw [o1 400 _ (by decide), c1 400 _ (by decide), s3 q (by rw [f1 388 p (by omega)]; exact hq), x400]
          · rw [o1 402 _ (by decide)]
            have := c2 c (by rw [x387]; exact hc)
            rw [x383, x402] at this
            exact this.mp (fun z hz => by rw [s1 391 _ (by decide), f1 391 _ (by omega)])
          · rw [o1 402 _ (by decide), c3 q (by rw [x387]; exact hq), x402]
          · have := o2 u (by rw [x390]; exact hu) (by rw [x403]; exact hk)
            rw [x385, x403] at this
            exact this.mp (fun z hz => by rw [c1 394 _ (by decide), s1 394 _ (by decide), f1 394 _ (by omega)])
          · rw [o3 q (fun ⟨u, u1, u2, u3⟩ => hq ⟨u, by rw [← x390]; exact u1, u2, by rw [← x403]; exact u3⟩), x403]
          · rw [o1 a q z3, c1 a q z2, s1 a q z1, f1 a q z4]
        · obtain ⟨l', m', z, -⟩ := ops_m hp (by rw [c1 385 p (by decide), s1 385 p (by decide), f1 385 p (by omega)]; exact h5) (by rw [c1 390 p (by decide), s1 390 p (by decide), f1 390 p (by omega)]; exact h0) e7
          cases z
      · obtain ⟨l', m', z, -⟩ := casts_m hp (by rw [s1 383 p (by decide), f1 383 p (by omega)]; exact h3) (by rw [s1 387 p (by decide), f1 387 p (by omega)]; exact h7) e5
        cases z
    · obtain ⟨l', m', z, -⟩ := sites_m hp (by rw [f1 383 p (by omega)]; exact h3) (by rw [f1 388 p (by omega)]; exact h8) e3
      cases z
  · exfalso
    obtain ⟨l', m', -, i3⟩ := yloop_inv (fun _ _ => True) (fun _ _ _ _ _ _ => trivial) _ _ _ _ trivial e1
    unfold B141_2 J141_41 at i3
    rcases ite1 i3 with ⟨-, i3⟩ | ⟨-, i3⟩
    · rcases ite1 i3 with ⟨-, i3⟩ | ⟨-, i3⟩
      · replace i3 := bP_e i3
        obtain ⟨v, -, i3⟩ := i3
        rcases ite1 i3 with ⟨-, i3⟩ | ⟨-, i3⟩ <;> cases i3
      · cases i3
    · cases i3
end RSM

/-! BELOW AND FOUND: a class below another, the method that is found for a class: alike -/
theorem ploop_s {α γ : Type} {B : α → Option (α ⊕ (α ⊕ γ))} {f : Nat} {l : α} {r : α ⊕ γ} (h : ploop B f l = some r) : ∃ f', f = f' + 1 ∧ ((∃ l', B l = some (.inl l') ∧ ploop B f' l' = some r) ∨ B l = some (.inr r)) := by
  cases f with
  | zero => cases h
  | succ f =>
    refine ⟨f, rfl, ?_⟩
    unfold ploop at h
    split at h
    · cases h
    · exact Or.inl ⟨_, by assumption, h⟩
    · cases h
      exact Or.inr (by assumption)
section FI
variable {A p f g : Nat} {mc mm : yM}
theorem rCl.up (hr : rCl A p mc mm) (hp : p ≤ 1) {k : Int} (h0 : 0 ≤ k) (h1 : k < mc A 9) : mc (A + 2) k.toNat = mm 392 (wr ((wr (6 * (p : Int))) + k)).toNat ∧ -1 ≤ mc (A + 2) k.toNat ∧ mc (A + 2) k.toNat < k := by
  have h6 := hr.2.2.1
  have e : (wr ((wr (6 * (p : Int))) + k)).toNat = 6 * p + k.toNat := by
    rw [wr_i (x := 6 * (p : Int)) (by omega) (by omega), wr_i (by omega) (by omega)]
    omega
  rw [e]
  obtain ⟨-, g2, g3, g4, -⟩ := hr.2.2.2 k.toNat (by omega)
  exact ⟨g2, g3, by omega⟩
theorem below_l (hr : rCl A p mc mm) (hp : p ≤ 1) {x2 : Int} (h2 : 0 ≤ x2) : ∀ (n : Nat) (k j : Int) (F G : Nat) (r : (Int × Int) ⊕ Int) (r' : Int ⊕ Int), -1 ≤ k → k < n → 0 ≤ j → n + j ≤ 6 → k < mc A 9 → ploop (fun (l : Int × Int) => B81_5 f A x2 l.1 l.2 mc) F (k, j) = some r → ploop (fun (l : Int) => B149_3 g p x2 l mm) G k = some r' → (∃ l l', r = .inl l ∧ r' = .inl l' ∧ l' ≠ x2) ∨ (r = .inr 1 ∧ r' = .inl x2) := by
  intro n
  induction n with
  | zero =>
    intro k j F G r r' k1 k2 j1 j2 k3 h h'
    have hB : ∃ l, B81_5 f A x2 k j mc = some (.inr (.inl l)) := by
      unfold B81_5
      by_cases q : j < 6
      · rw [if_pos q, if_pos (by omega)]; exact ⟨_, rfl⟩
      · rw [if_neg q]; exact ⟨_, rfl⟩
    have hB' : B149_3 g p x2 k mm = some (.inr (.inl k)) := by unfold B149_3; rw [if_pos (by omega)]
    obtain ⟨l, hB⟩ := hB
    obtain ⟨f', -, ⟨l', e, -⟩ | e⟩ := ploop_s h
    · rw [hB] at e; cases e
    · rw [hB] at e; cases e
      obtain ⟨f', -, ⟨l', e, -⟩ | e⟩ := ploop_s h'
      · rw [hB'] at e; cases e
      · rw [hB'] at e; cases e
        exact Or.inl ⟨_, _, rfl, rfl, by omega⟩
  | succ n ih =>
    intro k j F G r r' k1 k2 j1 j2 k3 h h'
    by_cases kz : k = -1
    · have hB : B81_5 f A x2 k j mc = some (.inr (.inl (k, j))) := by
        unfold B81_5
        rw [if_pos (by omega), if_pos kz]
      have hB' : B149_3 g p x2 k mm = some (.inr (.inl k)) := by unfold B149_3; rw [if_pos (by omega)]
      obtain ⟨f', -, ⟨l', e, -⟩ | e⟩ := ploop_s h
      · rw [hB] at e; cases e
      · rw [hB] at e; cases e
        obtain ⟨f', -, ⟨l', e, -⟩ | e⟩ := ploop_s h'
        · rw [hB'] at e; cases e
        · rw [hB'] at e; cases e
          exact Or.inl ⟨_, _, rfl, rfl, by omega⟩
    · obtain ⟨u1, u2, u3⟩ := hr.up hp (by omega : 0 ≤ k) k3
      by_cases ke : k = x2
      · have hB : B81_5 f A x2 k j mc = some (.inr (.inr 1)) := by
          unfold B81_5
          rw [if_pos (by omega), if_neg kz, if_pos ke]
        have hB' : B149_3 g p x2 k mm = some (.inr (.inl k)) := by unfold B149_3; rw [if_neg (by omega), if_pos ke]
        obtain ⟨f', -, ⟨l', e, -⟩ | e⟩ := ploop_s h
        · rw [hB] at e; cases e
        · rw [hB] at e; cases e
          obtain ⟨f', -, ⟨l', e, -⟩ | e⟩ := ploop_s h'
          · rw [hB'] at e; cases e
          · rw [hB'] at e; cases e
            exact Or.inr ⟨rfl, by rw [ke]⟩
      · have hB : B81_5 f A x2 k j mc = some (.inl (mc (A + 2) k.toNat, j + 1)) := by
          unfold B81_5
          rw [if_pos (by omega), if_neg kz, if_neg ke, wr_i (by omega) (by omega)]
        have hB' : B149_3 g p x2 k mm = some (.inl (mc (A + 2) k.toNat)) := by unfold B149_3; rw [if_neg (by omega), if_neg ke, u1]
        obtain ⟨f', -, ⟨l', e, e2⟩ | e⟩ := ploop_s h
        · rw [hB] at e; cases e
          obtain ⟨f', -, ⟨l', e, e3⟩ | e⟩ := ploop_s h'
          · rw [hB'] at e; cases e
            exact ih _ _ _ _ r r' u2 (by omega) (by omega) (by omega) (by omega) e2 e3
          · rw [hB'] at e; cases e
        · rw [hB] at e; cases e
theorem below_r (hr : rCl A p mc mm) (hp : p ≤ 1) {k x2 a b : Int} (h2 : 0 ≤ x2) (h0 : 0 ≤ k) (h1 : k < mc A 9) (e1 : F81 f A k x2 mc = some a) (e2 : F149 g p k x2 mm = some b) : a = b ∧ (a = 0 ∨ a = 1) := by
  have h6 := hr.2.2.1
  unfold F81 at e1
  unfold F149 at e2
  have m : ∀ {r : (Int × Int) ⊕ Int} {r' : Int ⊕ Int}, ploop (fun (l : Int × Int) => B81_5 f A x2 l.1 l.2 mc) f (k, 0) = some r → ploop (fun (l : Int) => B149_3 g p x2 l mm) g k = some r' → (∃ l l', r = .inl l ∧ r' = .inl l' ∧ l' ≠ x2) ∨ (r = .inr 1 ∧ r' = .inl x2) := fun a b => below_l hr hp h2 6 k 0 _ _ _ _ (by omega) (by omega) (by omega) (by omega) h1 a b
  have J : ∀ {l : Int}, J149_31 g x2 l = some b → (l = x2 ∧ b = 1) ∨ (l ≠ x2 ∧ b = 0) := by
    intro l e
    unfold J149_31 at e
    rcases ite1 e with ⟨q, e⟩ | ⟨q, e⟩
    · cases e; exact Or.inl ⟨q, rfl⟩
    · cases e; exact Or.inr ⟨q, rfl⟩
  rcases bQ_e e2 with ⟨l', c1, c2⟩ | ⟨l', c1, c2⟩
  · rcases bQ_e e1 with ⟨l, d1, d2⟩ | ⟨l, d1, d2⟩
    · rcases m d1 c1 with ⟨l2, l3, z1, z2, z3⟩ | ⟨z1, z2⟩
      · cases z2
        cases d2
        rcases J c2 with ⟨y, -⟩ | ⟨-, y⟩
        · exact absurd y z3
        · exact ⟨by omega, Or.inl rfl⟩
      · cases z1
    · rcases m d1 c1 with ⟨l2, l3, z1, z2, z3⟩ | ⟨z1, z2⟩
      · cases z1
      · cases z1
        cases z2
        cases d2
        rcases J c2 with ⟨-, y⟩ | ⟨y, -⟩
        · exact ⟨by omega, Or.inr rfl⟩
        · exact absurd rfl y
  · rcases bQ_e e1 with ⟨l, d1, d2⟩ | ⟨l, d1, d2⟩
    · rcases m d1 c1 with ⟨l2, l3, z1, z2, z3⟩ | ⟨z1, z2⟩ <;> cases z2
    · rcases m d1 c1 with ⟨l2, l3, z1, z2, z3⟩ | ⟨z1, z2⟩ <;> cases z2
/-- the method of a name that a class declares -/
theorem decl_r (hm : rMe A p mc mm) {k x2 y2 r r' : Int} (hN : Nm x2 y2) (h1 : IX (mc A 10) (fun q => mc (A + 10 + q) 1 = k ∧ mc (A + 10 + q) 0 = x2) r) (h2 : IX (mm 384 p) (fun q => mm 396 (10 * p + q) = k ∧ mm 395 (10 * p + q) = y2) r') : r = r' := by
  rw [← hm.1] at h2
  refine h1.eq h2 (fun q hq => ?_)
  obtain ⟨g1, g2, -⟩ := hm.2.2.2 q hq
  rw [g2]
  have := g1.eq hN
  constructor
  · rintro ⟨z1, z2⟩; exact ⟨z1, this.mp z2⟩
  · rintro ⟨z1, z2⟩; exact ⟨z1, this.mpr z2⟩
theorem found_l (hr : rCl A p mc mm) (hm : rMe A p mc mm) (hp : p ≤ 1) {x2 y2 x3 : Int} (hN : Nm x2 y2) : ∀ (n : Nat) (k j : Int) (F G : Nat) (r : (Int × Int) ⊕ Int) (r' : Int ⊕ Int), -1 ≤ k → k < n → 0 ≤ j → n + j ≤ 6 → k < mc A 9 → ploop (fun (l : Int × Int) => B72_6 f A x2 x3 l.1 l.2 mc) F (k, j) = some r → ploop (fun (l : Int) => B123_3 g p y2 0 l mm) G k = some r' → (∃ l l', r = .inl l ∧ r' = .inl l') ∨ (∃ q : Int, 0 ≤ q ∧ q < mc A 10 ∧ r' = .inr q ∧ r = .inr (if mc (A + 10 + q.toNat) 3 = x3 then q else -1)) := by
  intro n
  induction n with
  | zero =>
    intro k j F G r r' k1 k2 j1 j2 k3 h h'
    have hB : ∃ l, B72_6 f A x2 x3 k j mc = some (.inr (.inl l)) := by
      unfold B72_6
      by_cases q : j < 6
      · rw [if_pos q, if_pos (by omega)]; exact ⟨_, rfl⟩
      · rw [if_neg q]; exact ⟨_, rfl⟩
    have hB' : B123_3 g p y2 0 k mm = some (.inr (.inl k)) := by unfold B123_3; rw [if_pos (by omega)]
    obtain ⟨l, hB⟩ := hB
    obtain ⟨f', -, ⟨l', e, -⟩ | e⟩ := ploop_s h
    · rw [hB] at e; cases e
    · rw [hB] at e; cases e
      obtain ⟨f', -, ⟨l', e, -⟩ | e⟩ := ploop_s h'
      · rw [hB'] at e; cases e
      · rw [hB'] at e; cases e
        exact Or.inl ⟨_, _, rfl, rfl⟩
  | succ n ih =>
    intro k j F G r r' k1 k2 j1 j2 k3 h h'
    by_cases kz : k = -1
    · have hB : B72_6 f A x2 x3 k j mc = some (.inr (.inl (k, j))) := by
        unfold B72_6
        rw [if_pos (by omega), if_pos kz]
      have hB' : B123_3 g p y2 0 k mm = some (.inr (.inl k)) := by unfold B123_3; rw [if_pos (by omega)]
      obtain ⟨f', -, ⟨l', e, -⟩ | e⟩ := ploop_s h
      · rw [hB] at e; cases e
      · rw [hB] at e; cases e
        obtain ⟨f', -, ⟨l', e, -⟩ | e⟩ := ploop_s h'
        · rw [hB'] at e; cases e
        · rw [hB'] at e; cases e
          exact Or.inl ⟨_, _, rfl, rfl⟩
    · obtain ⟨u1, u2, u3⟩ := hr.up hp (by omega : 0 ≤ k) k3
      have hm0 := hm.2.1
      have hm1 := hm.2.2.1
      have hmE := hm.1
      -- the class
      have hB : ∀ {y}, B72_6 f A x2 x3 k j mc = some y → ∃ d, IX (mc A 10) (fun q => mc (A + 10 + q) 1 = k ∧ mc (A + 10 + q) 0 = x2) d ∧ ((d = -1 ∧ y = .inl (mc (A + 2) k.toNat, j + 1)) ∨ (d ≠ -1 ∧ y = .inr (.inr (if mc (A + 10 + d.toNat) 3 = x3 then d else -1)))) := by
        intro y e
        unfold B72_6 at e
        rw [if_pos (by omega), if_neg kz] at e
        replace e := bP_e e
        obtain ⟨d, e1, e⟩ := e
        refine ⟨d, F50_r hm0 hm1 e1, ?_⟩
        rcases ite1 e with ⟨q, e⟩ | ⟨q, e⟩
        · rw [wr_i (by omega) (by omega)] at e
          cases e
          exact Or.inl ⟨q, rfl⟩
        · refine Or.inr ⟨q, ?_⟩
          rcases ite1 e with ⟨q2, e⟩ | ⟨q2, e⟩
          · cases e; rw [if_pos q2]
          · cases e; rw [if_neg q2]
      have hB' : ∀ {y}, B123_3 g p y2 0 k mm = some y → ∃ d, IX (mm 384 p) (fun q => mm 396 (10 * p + q) = k ∧ mm 395 (10 * p + q) = y2) d ∧ ((d = -1 ∧ y = .inl (mc (A + 2) k.toNat)) ∨ (d ≠ -1 ∧ y = .inr (.inr d))) := by
        intro y e
        unfold B123_3 at e
        rw [if_neg (by omega)] at e
        rcases bQ_e e with ⟨l, e1, e⟩ | ⟨l, e1, e⟩
        · rcases B123_11_r hp (by omega) (by omega) e1 with ⟨z, z1, -⟩ | ⟨z, z1, z2⟩
          · cases z1
          · rw [if_pos rfl] at e
            unfold J123_85 at e
            cases e
            exact ⟨-1, z2, Or.inl ⟨rfl, by rw [u1]⟩⟩
        · rcases B123_11_r hp (by omega) (by omega) e1 with ⟨z, z1, z0, z2⟩ | ⟨z, z1, -⟩
          · cases z1
            cases e
            exact ⟨_, z2, Or.inr ⟨by omega, rfl⟩⟩
          · cases z1
      obtain ⟨f', -, ⟨l', e, e2⟩ | e⟩ := ploop_s h
      · obtain ⟨d, I1, ⟨d1, ey⟩ | ⟨d1, ey⟩⟩ := hB e
        · cases ey
          obtain ⟨f', -, ⟨l', e, e3⟩ | e⟩ := ploop_s h'
          · obtain ⟨d', I2, ⟨d2, ey⟩ | ⟨d2, ey⟩⟩ := hB' e
            · cases ey
              exact ih _ _ _ _ r r' u2 (by omega) (by omega) (by omega) (by omega) e2 e3
            · cases ey
          · obtain ⟨d', I2, ⟨d2, ey⟩ | ⟨d2, ey⟩⟩ := hB' e
            · cases ey
            · have := decl_r hm hN I1 I2
              omega
        · cases ey
      · obtain ⟨d, I1, ⟨d1, ey⟩ | ⟨d1, ey⟩⟩ := hB e
        · cases ey
        · cases ey
          have hlt := I1.lt
          obtain ⟨f', -, ⟨l', e, e3⟩ | e⟩ := ploop_s h'
          · obtain ⟨d', I2, ⟨d2, ey⟩ | ⟨d2, ey⟩⟩ := hB' e
            · have := decl_r hm hN I1 I2
              omega
            · cases ey
          · obtain ⟨d', I2, ⟨d2, ey⟩ | ⟨d2, ey⟩⟩ := hB' e
            · cases ey
            · cases ey
              have := decl_r hm hN I1 I2
              subst this
              exact Or.inr ⟨d, by omega, by omega, rfl, rfl⟩
theorem found_r (hr : rCl A p mc mm) (hm : rMe A p mc mm) (hp : p ≤ 1) {k x2 y2 x3 a b : Int} (hN : Nm x2 y2) (h0 : 0 ≤ k) (h1 : k < mc A 9) (e1 : F72 f A k x2 x3 mc = some a) (e2 : F142 g p k y2 x3 mm = some b) : a = b ∧ (a = -1 ∨ (0 ≤ a ∧ a < mc A 10)) := by
  have h6 := hr.2.2.1
  unfold F72 at e1
  unfold F142 at e2
  replace e2 := bP_e e2
  obtain ⟨c, c0, e2⟩ := e2
  unfold F123 at c0
  have m : ∀ {r : (Int × Int) ⊕ Int} {r' : Int ⊕ Int}, ploop (fun (l : Int × Int) => B72_6 f A x2 x3 l.1 l.2 mc) f (k, 0) = some r → ploop (fun (l : Int) => B123_3 g p y2 0 l mm) g k = some r' → (∃ l l', r = .inl l ∧ r' = .inl l') ∨ (∃ q : Int, 0 ≤ q ∧ q < mc A 10 ∧ r' = .inr q ∧ r = .inr (if mc (A + 10 + q.toNat) 3 = x3 then q else -1)) := fun a b => found_l hr hm hp hN 6 k 0 _ _ _ _ (by omega) (by omega) (by omega) (by omega) h1 a b
  have hm1 := hm.2.2.1
  rcases bQ_e c0 with ⟨l', c1, c2⟩ | ⟨l', c1, c2⟩
  · cases c2
    rw [if_pos (by decide)] at e2
    cases e2
    rcases bQ_e e1 with ⟨l, d1, d2⟩ | ⟨l, d1, d2⟩
    · cases d2
      exact ⟨rfl, Or.inl rfl⟩
    · rcases m d1 c1 with ⟨l2, l3, z1, z2⟩ | ⟨q, -, -, z1, z2⟩
      · cases z1
      · cases z1
  · cases c2
    rcases bQ_e e1 with ⟨l, d1, d2⟩ | ⟨l, d1, d2⟩
    · rcases m d1 c1 with ⟨l2, l3, z1, z2⟩ | ⟨q, -, -, z1, z2⟩
      · cases z2
      · cases z2
    · rcases m d1 c1 with ⟨l2, l3, z1, z2⟩ | ⟨q, q0, q1, z1, z2⟩
      · cases z2
      · cases z1
        cases z2
        cases d2
        have e : (wr ((wr (10 * (p : Int))) + c)).toNat = 10 * p + c.toNat := by
          rw [wr_i (x := 10 * (p : Int)) (by omega) (by omega), wr_i (by omega) (by omega)]
          omega
        obtain ⟨-, -, g3, -⟩ := hm.2.2.2 c.toNat (by omega)
        rw [if_neg (by omega), e, ← g3] at e2
        rcases ite1 e2 with ⟨z, e2⟩ | ⟨z, e2⟩
        · cases e2
          rw [if_pos z]
          exact ⟨rfl, Or.inr ⟨q0, q1⟩⟩
        · cases e2
          rw [if_neg z]
          exact ⟨rfl, Or.inl rfl⟩
theorem go_Nm : Nm 239 (F101 103 111 0 0 0 0) := ⟨fun q => ([7, 15] : List Int).getD q 0, 2, by decide, by decide, fun q hq => by
  rcases (show q = 0 ∨ q = 1 by omega) with rfl | rfl <;> decide, by decide +kernel, by decide +kernel⟩
end FI

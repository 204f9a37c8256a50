/-! THE RUN: rows that are filled, new objects, an object's class -/
section UO
variable {G : Nat → Prop} {A p f g s o d n : Nat} {mc mm mc' mm' mc0 mm0 mc1 mm1 : yM}
theorem F75_8_r {a : Nat} {v : Int} (h : F75_8 f a v mc = some mc') : (∀ j, j < 8 → mc' a j = v) ∧ (∀ b q, ¬ (b = a ∧ q < 8) → mc' b q = mc b q) := by
  unfold F75_8 at h
  have K : ∀ {r : (Int × yM) ⊕ (Unit × yM)}, yloop (fun (l : Int) ml => B75_8_5 f a v 8 l ml) f 0 mc = some r → ∃ l m', r = .inl (l, m') ∧ (∀ j, j < 8 → m' a (0 + j) = v) ∧ (∀ b q, ¬ (b = a ∧ 0 ≤ q ∧ q < 0 + 8) → m' b q = mc b q) := fun e => fill_r (fun j m y hj hk e => by
    unfold B75_8_5 at e
    rw [k1w (by omega), Int.toNat_natCast] at e
    rcases ite1 e with ⟨q, e⟩ | ⟨q, e⟩
    · cases e
      exact Or.inr ⟨by omega, by rw [Nat.zero_add]⟩
    · cases e
      exact Or.inl ⟨by omega, rfl⟩) e
  rcases bL_e h with ⟨l, m1, e1, e2⟩ | ⟨l, m1, e1, e2⟩
  · obtain ⟨l', m', z, h1, h2⟩ := K e1
    cases z
    cases e2
    exact ⟨fun j hj => by have := h1 j hj; rw [Nat.zero_add] at this; exact this, fun b q hq => h2 b q (by omega)⟩
  · obtain ⟨l', m', z, h1, h2⟩ := K e1
    cases z
theorem F75_48_r {a : Nat} {v : Int} (h : F75_48 f a v mc = some mc') : (∀ j, j < 48 → mc' a j = v) ∧ (∀ b q, ¬ (b = a ∧ q < 48) → mc' b q = mc b q) := by
  unfold F75_48 at h
  have K : ∀ {r : (Int × yM) ⊕ (Unit × yM)}, yloop (fun (l : Int) ml => B75_48_5 f a v 48 l ml) f 0 mc = some r → ∃ l m', r = .inl (l, m') ∧ (∀ j, j < 48 → m' a (0 + j) = v) ∧ (∀ b q, ¬ (b = a ∧ 0 ≤ q ∧ q < 0 + 48) → m' b q = mc b q) := fun e => fill_r (fun j m y hj hk e => by
    unfold B75_48_5 at e
    rw [k1w (by omega), Int.toNat_natCast] at e
    rcases ite1 e with ⟨q, e⟩ | ⟨q, e⟩
    · cases e
      exact Or.inr ⟨by omega, by rw [Nat.zero_add]⟩
    · cases e
      exact Or.inl ⟨by omega, rfl⟩) e
  rcases bL_e h with ⟨l, m1, e1, e2⟩ | ⟨l, m1, e1, e2⟩
  · obtain ⟨l', m', z, h1, h2⟩ := K e1
    cases z
    cases e2
    exact ⟨fun j hj => by have := h1 j hj; rw [Nat.zero_add] at this; exact this, fun b q hq => h2 b q (by omega)⟩
  · obtain ⟨l', m', z, h1, h2⟩ := K e1
    cases z
/-- a new object, or no room for it -/
theorem objR {x : Nat} {r : Int} {z : (Int ⊕ Nat) × yM} (hB : uB G mc mm) (hF : uF n mc mm) (hn : n ≤ 4) (hx : x < 12) (hG : G x) (e1 : F186 f (x : Int) mc = some z) (e2 : F201 g (x : Int) mm = some (r, mm1)) : (mc 169 5 = 30 ∧ z = (.inr 10, mc) ∧ mm1 = yup mm 376 57 4) ∨ (mc 169 5 < 30 ∧ ∃ mc1, z = (.inl (mc 169 5), mc1) ∧ r = mc 169 5 + 1 ∧ uB G mc1 mm1 ∧ uF n mc1 mm1 ∧ uC mc mc1 ∧ uM mm mm1 ∧ mc1 169 5 = mc 169 5 + 1 ∧ mc1 169 6 = mc 169 6 ∧ (∀ b q, 252 ≤ b → mc1 b q = mc b q) ∧ (∀ q, 54 ≤ q → mm1 376 q = mm 376 q) ∧ (∀ b q, 411 ≤ b → mm1 b q = mm b q)) := by
  obtain ⟨⟨a1, a2, a3⟩, b1, c1, d1, s1⟩ := hB
  unfold F186 at e1
  unfold F201 at e2
  rw [← a1] at e2
  by_cases q : mc 169 5 = 30
  · rw [if_pos q] at e1 e2
    cases e1
    injection e2 with e2
    injection e2 with e2 e2'
    exact Or.inl ⟨q, rfl, e2'.symm⟩
  right
  obtain ⟨i, hi⟩ : ∃ i : Nat, mc 169 5 = i := ⟨(mc 169 5).toNat, by omega⟩
  refine ⟨by omega, ?_⟩
  rw [if_neg q, if_pos (by omega), hi, Int.toNat_natCast, k1w (by omega)] at e1
  rw [if_neg q, hi, Int.toNat_natCast] at e2
  replace e1 := bU_e e1
  obtain ⟨m8, e3, e1⟩ := e1
  injection e1 with e1
  subst e1
  obtain ⟨f1, f2⟩ := F75_8_r e3
  have fc : ∀ b q, ¬ (b = 169 ∧ q = 5) → ¬ (b = 219 ∧ q = i) → ¬ (b = 221 + i ∧ q < 8) → m8 b q = mc b q := fun b q z1 z2 z3 => by rw [f2 b q z3, yup_ne z2, yup_ne z1]
  have c5 : m8 169 5 = (i : Int) + 1 := by rw [f2 169 5 (by omega), yup_na (by decide), yup_eq]; omega
  have c219 : m8 219 i = x := by rw [f2 219 i (by omega), yup_eq]
  have K : ∀ {r : (Int × yM) ⊕ (Int × yM)}, yloop (fun (l : Int) ml => B201_28 g l ml) g 0 (yup mm 409 i (x : Int)) = some r → ∃ l m', r = .inl (l, m') ∧ (∀ j, j < 8 → m' 410 (8 * i + j) = 0) ∧ (∀ b q, ¬ (b = 410 ∧ 8 * i ≤ q ∧ q < 8 * i + 8) → m' b q = yup mm 409 i (x : Int) b q) := fun e => fill_r (fun j m y hj hk e => by
    unfold B201_28 at e
    have k51 : m 376 51 = i := by rw [hk 376 51 (by decide), yup_na (by decide), ← a1]; exact hi
    have ix : (wr ((wr (8 * (i : Int))) + (j : Int))).toNat = 8 * i + j := by
      rw [wr_i (x := 8 * (i : Int)) (by omega) (by omega), wr_i (by omega) (by omega)]; omega
    rw [k1w (by omega), k51, ix] at e
    rcases ite1 e with ⟨q, e⟩ | ⟨q, e⟩
    · cases e
      exact Or.inr ⟨by omega, rfl⟩
    · cases e
      exact Or.inl ⟨by omega, rfl⟩) e
  rcases bL_e e2 with ⟨l, m1, e4, e5⟩ | ⟨l, m1, e4, e5⟩
  case inr =>
    obtain ⟨l', m', w, -⟩ := K e4
    cases w
  obtain ⟨l', m', w, g1, g2⟩ := K e4
  injection w with w
  injection w with w w'
  subst w'
  have k51 : m1 376 51 = i := by rw [g2 376 51 (by omega), yup_na (by decide), ← a1]; exact hi
  rw [k51, k1w (by omega)] at e5
  injection e5 with e5
  injection e5 with e5 e5'
  have gm : ∀ b q, ¬ (b = 376 ∧ q = 51) → ¬ (b = 409 ∧ q = i) → ¬ (b = 410 ∧ 8 * i ≤ q ∧ q < 8 * i + 8) → mm1 b q = mm b q := fun b q z1 z2 z3 => by rw [← e5', yup_ne z1, g2 b q z3, yup_ne z2]
  have m51 : mm1 376 51 = (i : Int) + 1 := by rw [← e5', yup_eq]; omega
  have m409 : mm1 409 i = x := by rw [← e5', yup_na (by decide), g2 409 i (by omega), yup_eq]
  have m410 : ∀ j, j < 8 → mm1 410 (8 * i + j) = 0 := fun j hj => by rw [← e5', yup_na (by decide)]; exact g1 j hj
  refine ⟨m8, by rw [hi], by rw [← e5]; omega, ⟨?_, ?_, fun j hj => ?_, fun j q hj hq => ?_, fun v j hv hj => ?_⟩, fun y v hy hv => ?_, fun a q ha => fc a q (by omega) (by omega) (by omega), fun a q ha hq => gm a q (by omega) (by omega) (by omega), by rw [c5, hi], fc 169 6 (by omega) (by omega) (by omega), fun b q hb => fc b q (by omega) (by omega) (by omega), fun q hq => gm 376 q (by omega) (by omega) (by omega), fun b q hb => gm b q (by omega) (by omega) (by omega)⟩
  · rw [c5, m51]; omega
  · rw [fc 169 6 (by omega) (by omega) (by omega), gm 376 56 (by omega) (by omega) (by omega)]; exact b1
  · rw [c5] at hj
    by_cases y : j = i
    · subst y
      rw [c219, m409]
      exact ⟨rfl, x, rfl, hx, hG⟩
    · rw [fc 219 j (by omega) (by omega) (by omega), gm 409 j (by omega) (by omega) (by omega)]
      exact c1 j (by omega)
  · rw [c5] at hj ⊢
    by_cases y : j = i
    · subst y
      rw [f1 q hq, m410 q hq]
      omega
    · rw [fc (221 + j) q (by omega) (by omega) (by omega), gm 410 _ (by omega) (by omega) (by omega)]
      have := d1 j q (by omega) hq
      omega
  · rw [fc (171 + v) j (by omega) (by omega) (by omega), gm 408 _ (by omega) (by omega) (by omega)]
    exact s1 v j hv hj
  · rw [c5, fc (252 + y) v (by omega) (by omega) (by omega), gm 411 _ (by omega) (by omega) (by omega)]
    have := hF y v hy hv
    omega
theorem F191_r {val : Int} {z : (Int ⊕ Nat) × yM} (e : F191 f A val mc = some z) : (val = -1 ∧ z = (.inr 11, mc)) ∨ (val ≠ -1 ∧ z = (.inl (mc (A + 8) (mc 219 val.toNat).toNat), mc)) := by
  unfold F191 at e
  rcases ite1 e with ⟨q, e⟩ | ⟨q, e⟩
  · cases e; exact Or.inl ⟨q, rfl⟩
  · cases e; exact Or.inr ⟨q, rfl⟩
/-- the class of an object -/
theorem uB.cls {val : Int} (hA : A = 256 ∨ A = 316) (hp : p ≤ 1) (hG : ∀ k, G k → mc0 (A + 8) k = mm0 400 (12 * p + k) ∧ 0 ≤ mc0 (A + 8) k ∧ mc0 (A + 8) k < mc0 A 9) (h18 : mm0 376 18 = p) (h : uB G mc mm) (hc : uC mc0 mc) (hm : uM mm0 mm) (h0 : 0 ≤ val) (h1 : val < mc 169 5) : F206 (val + 1) mm = mc (A + 8) (mc 219 val.toNat).toNat ∧ 0 ≤ mc (A + 8) (mc 219 val.toNat).toNat ∧ mc (A + 8) (mc 219 val.toNat).toNat < mc A 9 := by
  obtain ⟨s1, x, s2, s3, s4⟩ := h.2.2.1 val.toNat (by omega)
  have h30 := h.1.2.2
  obtain ⟨g1, g2, g3⟩ := hG x s4
  have ws : (wr (val + 1 - 1)).toNat = val.toNat := by rw [wr_i (by omega) (by omega)]; omega
  unfold F206
  rw [hm 376 18 (by decide) (by omega), h18, ws, ← s1, s2, ixp12 hp (by omega), hm 400 _ (by decide) (by omega), Int.toNat_natCast, hc (A + 8) x (by omega), hc A 9 (by omega), ← g1]
  exact ⟨rfl, g2, g3⟩
end UO

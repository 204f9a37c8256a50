/-! METHOD: the methods of the program that stands -/
def A12 (m : yM) : Nat := pA (m 0 4)
def C12 (A p : Nat) (m : yM) : Prop := (m 376 19 = 0 ∧ m A 10 = 0) ∨ (m 376 19 = 1 ∧ m A 10 = m 384 p ∧ 0 ≤ m A 10 ∧ m A 10 ≤ 10 ∧ ∀ k : Nat, (k : Int) < m A 10 → m (A + 10 + k) 1 = m 396 (10 * p + k) ∧ m (A + 10 + k) 3 = m 397 (10 * p + k) ∧ m (A + 10 + k) 2 = m 398 (10 * p + k) ∧ 0 ≤ m (A + 10 + k) 1 ∧ m (A + 10 + k) 1 < 10 ∧ 0 ≤ m (A + 10 + k) 3 ∧ m (A + 10 + k) 3 ≤ 2 ∧ 0 ≤ m (A + 10 + k) 2 ∧ m (A + 10 + k) 2 ≤ 48)
def G12 (m : yM) : Prop := ((m 0 4 = 0 ∧ m 0 5 = 1) ∨ (m 0 4 = 1 ∧ m 0 5 = 0)) ∧ (m 376 18 = 0 ∨ m 376 18 = 1)
def I12 (m : yM) : Prop := TXT m ∧ KW m ∧ G12 m ∧ C12 (pA (m 0 4)) (m 376 18).toNat m
/-- what a call that reads no text keeps -/
def P12 (a q : Nat) : Prop := (a = 0 ∧ (q = 4 ∨ q = 5 ∨ q = 6)) ∨ a = 1 ∨ a = 4 ∨ (256 ≤ a ∧ a < 376) ∨ (a = 376 ∧ (q = 1 ∨ q = 18 ∨ q = 19)) ∨ a = 377 ∨ a = 384 ∨ (396 ≤ a ∧ a ≤ 398)
section L12
variable {m m1 m2 : yM} {f g : Nat}
theorem C12.fr {A p : Nat} (h : C12 A p m) (e19 : m1 376 19 = m 376 19) (e10 : m1 A 10 = m A 10) (ek : ∀ k q : Nat, k < 10 → q < 4 → m1 (A + 10 + k) q = m (A + 10 + k) q) (em : m1 384 p = m 384 p) (eb : ∀ b k : Nat, 396 ≤ b → b ≤ 398 → k < 10 → m1 b (10 * p + k) = m b (10 * p + k)) : C12 A p m1 := by
  rcases h with ⟨h1, h2⟩ | ⟨h1, h2, h3, h4, h5⟩
  · exact Or.inl ⟨by omega, by omega⟩
  · refine Or.inr ⟨by omega, by omega, by omega, by omega, fun k hk => ?_⟩
    have hk10 : k < 10 := by omega
    rw [ek k 1 hk10 (by decide), ek k 2 hk10 (by decide), ek k 3 hk10 (by decide), eb 396 k (by decide) (by decide) hk10, eb 397 k (by decide) (by decide) hk10, eb 398 k (by decide) (by decide) hk10]
    exact h5 k (by omega)
theorem I12.fr (h : I12 m) (e : KP P12 m m1) : I12 m1 := by
  obtain ⟨⟨t1, t2, t3, t4⟩, hK, ⟨h4, h18⟩, hc⟩ := h
  have e04 := e 0 4 (by unfold P12; omega)
  have e05 := e 0 5 (by unfold P12; omega)
  have e06 := e 0 6 (by unfold P12; omega)
  have e1 := e 376 1 (by unfold P12; omega)
  have e18 := e 376 18 (by unfold P12; omega)
  have e19 := e 376 19 (by unfold P12; omega)
  refine ⟨⟨by omega, by omega, by omega, fun t z1 z2 => ?_⟩, fun j j1 j2 => ?_, ⟨by omega, by omega⟩, ?_⟩
  · rw [e 1 _ (by unfold P12; omega), e 377 _ (by unfold P12; omega)]
    exact t4 t z1 (by omega)
  · rw [e 4 _ (by unfold P12; omega)]
    exact hK j j1 j2
  · rw [e04, e18]
    have hA := pA_is (m 0 4)
    exact hc.fr e19 (e _ _ (by unfold P12; omega)) (fun k q k1 k2 => e _ _ (by unfold P12; omega)) (e _ _ (by unfold P12; omega)) (fun b k b1 b2 b3 => e _ _ (by unfold P12; omega))
theorem read12 {r b : Int} (hI : I12 m) (h1 : F95 f m = some (r, m1)) (h2 : F152 g m1 = some (b, m2)) : I12 m2 := by
  obtain ⟨⟨t1, t2, t3, t4⟩, hK, ⟨h4, h18⟩, hc⟩ := hI
  obtain ⟨r7, m7, e7, c7⟩ := F95_r h1
  have hB := pA_is (m 0 5)
  have hd := pA_d h4
  have f7 := F74_fr hB e7
  obtain ⟨p, hp, hp18⟩ : ∃ p : Nat, p ≤ 1 ∧ m 376 18 = 1 - (p : Int) := ⟨(1 - m 376 18).toNat, by omega, by omega⟩
  have fr : ∀ a q, (a = 0 ∧ q = 6) ∨ a = 1 ∨ a = 4 ∨ (376 ≤ a ∧ a ≠ 413) ∨ (256 ≤ a ∧ a < 376 ∧ ¬ (pA (m 0 5) ≤ a ∧ a < pA (m 0 5) + 60)) → m1 a q = m a q := by
    intro a q ha
    have f7' := f7 a q (by omega) (by omega) (by omega) (by omega) (by omega) (by omega)
    rcases c7 with ⟨-, rfl⟩ | ⟨-, c⟩
    · rw [yup_ne (by omega)]; exact f7'
    · rw [c a q (by omega) (by omega), yup_ne (by omega), yup_ne (by omega), yup_ne (by omega)]; exact f7'
  have g4 : m7 0 4 = m 0 4 := f7 0 4 (by omega) (by omega) (by omega) (by omega) (by omega) (by omega)
  have g5 : m7 0 5 = m 0 5 := f7 0 5 (by omega) (by omega) (by omega) (by omega) (by omega) (by omega)
  have x6 := fr 0 6 (by omega)
  have x1 := fr 376 1 (by omega)
  have x18 := fr 376 18 (by omega)
  have x19 := fr 376 19 (by omega)
  obtain ⟨-, mm', k1, k2, hR⟩ := parse_r ⟨t2, t3⟩ hB hp (by omega) hK (fun t z1 z2 => by
    rw [fr 377 _ (by omega)]
    have := t4 t z1 z2
    exact ⟨this.1.symm, this.2⟩) (by omega) e7 h2
  have y : ∀ a q, (a < 376) ∨ (a = 376 ∧ (q = 1 ∨ q = 18 ∨ q = 19)) ∨ a = 377 → mm' a q = m1 a q := fun a q ha => k2 a q (by unfold arM; omega) (by omega) (by omega) (by omega)
  have fin : m2 0 6 = m1 0 6 → m2 376 1 = m1 376 1 → (∀ q, m2 1 q = m1 1 q) → (∀ q, m2 377 q = m1 377 q) → (∀ q, m2 4 q = m1 4 q) → G12 m2 → C12 (pA (m2 0 4)) (m2 376 18).toNat m2 → I12 m2 := by
    intro a1 a3 a6 a7 a8 a9 a10
    refine ⟨⟨by omega, by omega, by omega, fun t z1 z2 => ?_⟩, fun j j1 j2 => ?_, a9, a10⟩
    · rw [a6, a7, fr 1 _ (by omega), fr 377 _ (by omega)]
      exact t4 t z1 (by omega)
    · rw [a8, fr 4 _ (by omega)]
      exact hK j j1 j2
  rcases J132_r k1 with ⟨q, c, rfl⟩ | ⟨q, N, kN, c, rfl⟩
  · rcases hR with ⟨q1, q2, -⟩ | ⟨-, q2, -⟩
    · rcases c7 with ⟨c8, rfl⟩ | ⟨c8, -⟩
      · have u : ∀ a q, a ≠ 376 → yup (yup mm' 376 2 (mm' 376 8)) 376 57 c a q = mm' a q := fun a q ha => by rw [yup_na ha, yup_na ha]
        have u6 : ∀ q, q ≠ 2 → q ≠ 57 → yup (yup mm' 376 2 (mm' 376 8)) 376 57 c 376 q = mm' 376 q := fun q z1 z2 => by rw [yup_nk z2, yup_nk z1]
        have v4 : yup (yup mm' 376 2 (mm' 376 8)) 376 57 c 0 4 = m 0 4 := by rw [u _ _ (by decide), y 0 4 (by omega), yup_nk (by decide), g4]
        have v5 : yup (yup mm' 376 2 (mm' 376 8)) 376 57 c 0 5 = m 0 5 := by rw [u _ _ (by decide), y 0 5 (by omega), yup_nk (by decide), g5]
        have v18 : yup (yup mm' 376 2 (mm' 376 8)) 376 57 c 376 18 = m 376 18 := by rw [u6 _ (by decide) (by decide), y 376 18 (by omega)]; exact x18
        refine fin ?_ ?_ (fun q => ?_) (fun q => ?_) (fun q => ?_) ⟨by rw [v4, v5]; exact h4, by rw [v18]; exact h18⟩ ?_
        · rw [u _ _ (by decide)]; exact y 0 6 (by omega)
        · rw [u6 _ (by decide) (by decide)]; exact y 376 1 (by omega)
        · rw [u _ _ (by decide)]; exact y 1 q (by omega)
        · rw [u _ _ (by decide)]; exact y 377 q (by omega)
        · rw [u _ _ (by decide)]; exact y 4 q (by omega)
        · rw [v4, v18]
          refine hc.fr ?_ ?_ (fun k q z1 z2 => ?_) ?_ (fun b k z1 z2 z3 => ?_)
          · rw [u6 _ (by decide) (by decide), y 376 19 (by omega)]; exact x19
          · rw [u _ _ (by omega), y _ _ (by omega)]; exact fr _ _ (by omega)
          · rw [u _ _ (by omega), y _ _ (by omega)]; exact fr _ _ (by omega)
          · rw [u _ _ (by omega), k2 _ _ (by unfold arM; omega) (by omega) (by omega) (by omega)]; exact fr _ _ (by omega)
          · rw [u _ _ (by omega), k2 _ _ (by unfold arM; omega) (by omega) (by omega) (by omega)]; exact fr _ _ (by omega)
      · omega
    · omega
  · rcases hR with ⟨q1, q2, -⟩ | ⟨q1, q2, k, s, o, a, M, N, hPR, hM9, hN8, e73, e141, -⟩
    · omega
    · rcases c7 with ⟨c8, -⟩ | ⟨-, c⟩
      · omega
      · have z : ∀ a q, ¬ (a = 376 ∧ 45 ≤ q ∧ q ≤ 47) → ¬ (404 ≤ a ∧ a ≤ 408) → m2 a q = yup (yup (yup (yup (yup mm' 376 2 (mm' 376 8)) 376 57 _) 376 18 (p : Int)) 376 19 1) 376 51 0 a q := fun a q z1 z2 => kN a q ⟨z1, z2⟩
        have u : ∀ a q, a ≠ 376 → ¬ (404 ≤ a ∧ a ≤ 408) → m2 a q = mm' a q := fun a q z1 z2 => by rw [z a q (by omega) z2, yup_na z1, yup_na z1, yup_na z1, yup_na z1, yup_na z1]
        have u1 : m2 376 1 = mm' 376 1 := by rw [z 376 1 (by omega) (by omega), yup_nk (by decide), yup_nk (by decide), yup_nk (by decide), yup_nk (by decide), yup_nk (by decide)]
        have u18 : m2 376 18 = p := by rw [z 376 18 (by omega) (by omega), yup_nk (by decide), yup_nk (by decide), yup_eq]
        have u19 : m2 376 19 = 1 := by rw [z 376 19 (by omega) (by omega), yup_nk (by decide), yup_eq]
        have w4 : m1 0 4 = pX (pA (m 0 5)) := by rw [c 0 4 (by omega) (by omega), yup_nk (by decide), yup_eq, g5]
        have w5 : m1 0 5 = pX (pA (m 0 4)) := by rw [c 0 5 (by omega) (by omega), yup_eq, g4]
        have v4 : m2 0 4 = pX (pA (m 0 5)) := by rw [u _ _ (by decide) (by decide), y 0 4 (by omega)]; exact w4
        have v5 : m2 0 5 = pX (pA (m 0 4)) := by rw [u _ _ (by decide) (by decide), y 0 5 (by omega)]; exact w5
        refine fin ?_ ?_ (fun q => ?_) (fun q => ?_) (fun q => ?_) ⟨?_, ?_⟩ ?_
        · rw [u _ _ (by decide) (by decide)]; exact y 0 6 (by omega)
        · rw [u1]; exact y 376 1 (by omega)
        · rw [u _ _ (by decide) (by decide)]; exact y 1 q (by omega)
        · rw [u _ _ (by decide) (by decide)]; exact y 377 q (by omega)
        · rw [u _ _ (by decide) (by decide)]; exact y 4 q (by omega)
        · rw [v4, v5]
          rcases hd with ⟨z1, z2⟩ | ⟨z1, z2⟩
          · rw [z1, z2]; exact Or.inr ⟨rfl, rfl⟩
          · rw [z1, z2]; exact Or.inl ⟨rfl, rfl⟩
        · rw [u18]; omega
        · rw [v4, pA_pX hB, u18, Int.toNat_natCast]
          obtain ⟨n1, n2, -⟩ := F73_r hp hPR hN8 e73 e141
          obtain ⟨p1, p2, p3, p4, -⟩ := hPR
          obtain ⟨r1, r2, r3, r4⟩ := p4
          have c9 := p1.2.2.1
          have mA : ∀ b q, pA (m 0 5) ≤ b → b < pA (m 0 5) + 20 → b ≠ pA (m 0 5) + 8 → ¬ (b = pA (m 0 5) ∧ q = 17) → m2 b q = M b q := fun b q z1 z2 z3 z4 => by
            rw [u b q (by omega) (by omega), y b q (by omega), c b q (by omega) (by omega), yup_na (by omega), yup_na (by omega), yup_na (by omega), n1 b q (by omega) z3 z4]
          have mM : ∀ b q, b = 384 ∨ (395 ≤ b ∧ b ≤ 398) → m2 b q = N b q := fun b q hb => by
            rw [u b q (by omega) (by omega), n2 b q (by omega) (by omega) (by omega) (by omega)]
          have mA10 : m2 (pA (m 0 5)) 10 = M (pA (m 0 5)) 10 := mA _ _ (by omega) (by omega) (by omega) (by omega)
          refine Or.inr ⟨u19, ?_, ?_, ?_, fun k hk => ?_⟩
          · rw [mA10, mM 384 p (by omega)]; exact r1
          · rw [mA10]; exact r2
          · rw [mA10]; exact r3
          · rw [mA10] at hk
            obtain ⟨s1, s2, s3, s4, s5, s6, s7, s8, s9, s10⟩ := r4 k hk
            rw [mA _ 1 (by omega) (by omega) (by omega) (by omega), mA _ 2 (by omega) (by omega) (by omega) (by omega), mA _ 3 (by omega) (by omega) (by omega) (by omega), mM 396 _ (by omega), mM 397 _ (by omega), mM 398 _ (by omega)]
            exact ⟨s2, s3, s4, s5, by omega, s7, s8, s9, by omega⟩
theorem meth12 {x w k b : Int} (hI : I12 m) (hx : rg x) (hw : rg w) (h1 : F184 f x w m = some (k, m1)) (h2 : F185 g x w m1 = some (b, m2)) : I12 m2 ∧ m2 376 57 = k ∧ (k = 0 → m2 413 0 = b ∧ rg b) := by
  have hI2 : I12 m2 := hI.fr ((show KP P12 m m1 from kcq_F184 (fun a q h => by unfold P12 at h; omega) KP.rf _ h1).tr (show KP P12 m1 m2 from kmq_F185 (fun a q h => by unfold P12 at h; omega) KP.rf _ h2))
  refine ⟨hI2, ?_⟩
  obtain ⟨-, -, ⟨h4, h18⟩, hc⟩ := hI
  have hA := pA_is (m 0 4)
  obtain ⟨p, hp, hp18⟩ : ∃ p : Nat, p ≤ 1 ∧ m 376 18 = (p : Int) := ⟨(m 376 18).toNat, by omega, by omega⟩
  rw [hp18, Int.toNat_natCast] at hc
  -- the class
  have cl : (¬ (0 ≤ x ∧ x < m (pA (m 0 4)) 10) ∧ k = 1 ∧ m1 = m) ∨ ((0 ≤ x ∧ x < m (pA (m 0 4)) 10) ∧ ¬ (0 ≤ w ∧ w ≤ 4) ∧ k = 2 ∧ m1 = m) ∨ ((0 ≤ x ∧ x < m (pA (m 0 4)) 10) ∧ (0 ≤ w ∧ w ≤ 4) ∧ k = 0 ∧ ∃ v : Int, m1 = yup m 413 0 (i2l v).toInt ∧ v = (if w = 4 then m (pA (m 0 4) + 10 + x.toNat) 1 else if w - 2 < m (pA (m 0 4) + 10 + x.toNat) 3 then m (pA (m 0 4) + 10 + x.toNat) 2 + w else -1)) := by
    have bnd : (0 ≤ x ∧ x < m (pA (m 0 4)) 10) → 0 ≤ m (pA (m 0 4) + 10 + x.toNat) 3 ∧ m (pA (m 0 4) + 10 + x.toNat) 3 ≤ 2 ∧ 0 ≤ m (pA (m 0 4) + 10 + x.toNat) 2 ∧ m (pA (m 0 4) + 10 + x.toNat) 2 ≤ 48 := by
      intro hx
      rcases hc with ⟨-, q⟩ | ⟨-, -, q1, q2, q3⟩
      · omega
      · obtain ⟨s1, s2, s3, s4, s5, s6, s7, s8, s9⟩ := q3 x.toNat (by omega)
        exact ⟨s6, s7, s8, s9⟩
    have main : ∀ z, F183 f x w m = some z → (¬ (0 ≤ x ∧ x < m (pA (m 0 4)) 10) ∧ z = (.inr 11, m)) ∨ ((0 ≤ x ∧ x < m (pA (m 0 4)) 10) ∧ ¬ (0 ≤ w ∧ w ≤ 4) ∧ z = (.inr 9, m)) ∨ ((0 ≤ x ∧ x < m (pA (m 0 4)) 10) ∧ (0 ≤ w ∧ w ≤ 4) ∧ z = (.inl (if w = 4 then m (pA (m 0 4) + 10 + x.toNat) 1 else if w - 2 < m (pA (m 0 4) + 10 + x.toNat) 3 then m (pA (m 0 4) + 10 + x.toNat) 2 + w else -1), m)) := by
      intro z e
      unfold F183 F167 at e
      rcases ite1 e with ⟨q, e⟩ | ⟨q, e⟩
      · cases e
        refine Or.inl ⟨fun w => ?_, rfl⟩
        exact absurd q (F155_1.mpr w)
      have q' := F155_1.mp q
      have hb := bnd q'
      rcases ite1 e with ⟨-, e⟩ | ⟨-, e⟩
      · rcases ite1 e with ⟨q0, e⟩ | ⟨q0, e⟩
        · cases e
          refine Or.inr (Or.inr ⟨q', by omega, ?_⟩)
          rw [if_neg (by omega), if_pos (by omega), q0, Int.add_zero]
        rcases ite1 e with ⟨q1, e⟩ | ⟨q1, e⟩
        · unfold F57 at e
          rw [wr_i (by omega) (by omega)] at e
          cases e
          refine Or.inr (Or.inr ⟨q', by omega, ?_⟩)
          rw [if_neg (by omega), if_pos (by omega), q1]
        rcases ite1 e with ⟨q2, e⟩ | ⟨q2, e⟩
        · unfold F87 at e
          rw [wr_i (x := m (pA (m 0 4) + 10 + x.toNat) 2 + 2) (by omega) (by omega), wr_i (by omega) (by omega)] at e
          cases e
          refine Or.inr (Or.inr ⟨q', by omega, ?_⟩)
          by_cases z : (0 : Int) < m (pA (m 0 4) + 10 + x.toNat) 3
          · rw [if_pos z, if_neg (show ¬ w = 4 by omega), if_pos (show w - 2 < m (pA (m 0 4) + 10 + x.toNat) 3 by omega), q2, Int.add_zero]
          · rw [if_neg z, if_neg (show ¬ w = 4 by omega), if_neg (show ¬ (w - 2 < m (pA (m 0 4) + 10 + x.toNat) 3) by omega)]
        rcases ite1 e with ⟨q3, e⟩ | ⟨q3, e⟩
        · unfold F87 at e
          rw [wr_i (x := m (pA (m 0 4) + 10 + x.toNat) 2 + 2) (by omega) (by omega), wr_i (by omega) (by omega)] at e
          cases e
          refine Or.inr (Or.inr ⟨q', by omega, ?_⟩)
          by_cases z : (1 : Int) < m (pA (m 0 4) + 10 + x.toNat) 3
          · rw [if_pos z, if_neg (show ¬ w = 4 by omega), if_pos (show w - 2 < m (pA (m 0 4) + 10 + x.toNat) 3 by omega), q3, show m (pA (m 0 4) + 10 + x.toNat) 2 + 2 + 1 = m (pA (m 0 4) + 10 + x.toNat) 2 + 3 by omega]
          · rw [if_neg z, if_neg (show ¬ w = 4 by omega), if_neg (show ¬ (w - 2 < m (pA (m 0 4) + 10 + x.toNat) 3) by omega)]
        rcases ite1 e with ⟨q4, e⟩ | ⟨q4, e⟩
        · cases e
          refine Or.inr (Or.inr ⟨q', by omega, ?_⟩)
          rw [if_pos q4]
        · cases e
          exact Or.inr (Or.inl ⟨q', by omega, rfl⟩)
      · cases e
    unfold F184 at h1
    rcases bT_e h1 with ⟨r2, m', e1, e2⟩ | ⟨r2, m', e1, e2⟩
    · rcases main _ e1 with ⟨-, z⟩ | ⟨-, -, z⟩ | ⟨z1, z2, z⟩
      · cases z
      · cases z
      · cases z
        cases e2
        exact Or.inr (Or.inr ⟨z1, z2, rfl, _, rfl, rfl⟩)
    · rcases main _ e1 with ⟨z1, z⟩ | ⟨z1, z2, z⟩ | ⟨-, -, z⟩
      · cases z
        rw [if_neg (by decide), if_pos rfl] at e2
        cases e2
        exact Or.inl ⟨z1, rfl, rfl⟩
      · cases z
        rw [if_pos rfl] at e2
        cases e2
        exact Or.inr (Or.inl ⟨z1, z2, rfl, rfl⟩)
      · cases z
  -- the model
  have fr : ∀ a q, a ≠ 413 → m1 a q = m a q := fun a q ha => kcq_F184 (P := fun a _ => a ≠ 413) (fun a q h => h) KP.rf _ h1 a q ha
  have c4 := hc
  unfold F185 at h2
  replace h2 := bI_e h2
  obtain ⟨b1, n1, e1, h2⟩ := h2
  have e170 : F170 x m1 ≠ 0 ↔ (m 376 19 ≠ 0 ∧ 0 ≤ x ∧ x < m (pA (m 0 4)) 10) := by
    unfold F170
    rw [fr 376 19 (by decide), fr 376 18 (by decide), hp18, Int.toNat_natCast, fr 384 p (by decide)]
    rcases hc with ⟨q1, q2⟩ | ⟨q1, q2, q3, q4, -⟩
    · rw [if_pos q1]
      simp [q1]
    · rw [if_neg (by omega), wr_i (by omega) (by omega)]
      by_cases z : F22 x 0 (m 384 p - 1) = 0
      · rw [if_pos z]
        rw [F22_0] at z
        simp
        omega
      · rw [if_neg z]
        rw [F22_0] at z
        simp
        omega
  rcases F162_r e1 with ⟨z1, z2, rfl, rfl⟩ | ⟨z1, rfl, rfl⟩
  case inr =>
    rw [if_pos rfl] at h2
    cases h2
    have nx : ¬ (0 ≤ x ∧ x < m (pA (m 0 4)) 10) := fun w => by
      rw [fr 376 19 (by decide)] at z1
      have h19 : m 376 19 ≠ 0 := by
        rcases hc with ⟨-, q2⟩ | ⟨q1, -⟩ <;> omega
      exact z1 ⟨h19, e170.mpr ⟨h19, w⟩⟩
    rcases cl with ⟨-, rfl, -⟩ | ⟨w, -⟩ | ⟨w, -⟩
    · exact ⟨yup_eq _ _ _ _, fun e => absurd e (by decide)⟩
    · exact absurd w nx
    · exact absurd w nx
  obtain ⟨z3, z4⟩ := e170.mp z2
  rw [if_neg (by decide)] at h2
  replace h2 := bI_e h2
  obtain ⟨b2, n2, e2, h2⟩ := h2
  unfold F23 J23_10 at e2
  have k18 : ∀ c, yup (yup m1 376 57 0) 376 57 c 376 18 = p := fun c => by rw [yup_nk (by decide), yup_nk (by decide), fr 376 18 (by decide)]; exact hp18
  rcases ite1 e2 with ⟨q, e2⟩ | ⟨q, e2⟩
  · cases e2
    rw [if_pos q] at h2
    cases h2
    rw [F22_0] at q
    rcases cl with ⟨w, -⟩ | ⟨-, -, rfl, -⟩ | ⟨-, w, -⟩
    · exact absurd z4 w
    · exact ⟨yup_eq _ _ _ _, fun e => absurd e (by decide)⟩
    · exact absurd w q
  · cases e2
    rw [if_neg q] at h2
    have q' := F22_1.mp q
    rcases cl with ⟨w, -⟩ | ⟨-, w, -⟩ | ⟨-, -, rfl, v, rfl, hv⟩
    · exact absurd z4 w
    · exact absurd q' w
    · rcases hc with ⟨-, q2⟩ | ⟨-, q2, q3, q4, q5⟩
      · omega
      obtain ⟨s1, s2, s3, s4, s5, s6, s7, s8, s9⟩ := q5 x.toNat (by omega)
      have ix : (wr ((wr (10 * (p : Int))) + x)).toNat = 10 * p + x.toNat := by
        rw [wr_i (x := 10 * (p : Int)) (by omega) (by omega), wr_i (by omega) (by omega)]
        omega
      have fr2 : ∀ c a q, a ≠ 376 → a ≠ 413 → yup (yup (yup m 413 0 (i2l v).toInt) 376 57 0) 376 57 c a q = m a q := fun c a q y1 y2 => by rw [yup_na y1, yup_na y1, yup_na y2]
      have fr3 : ∀ c, yup (yup (yup m 413 0 (i2l v).toInt) 376 57 0) 376 57 c 413 0 = (i2l v).toInt := fun c => by rw [yup_na (by decide), yup_na (by decide), yup_eq]
      rw [k18, ix, fr2 _ 396 _ (by decide) (by decide), fr2 _ 397 _ (by decide) (by decide), fr2 _ 398 _ (by decide) (by decide), ← s1, ← s2, ← s3, wr_i (x := w - 2) (by omega) (by omega), wr_i (by omega) (by omega)] at h2
      have hrv : rg v := by
        subst hv
        unfold rg
        split
        · omega
        · split <;> omega
      rcases ite1 h2 with ⟨q6, h2⟩ | ⟨q6, h2⟩
      · cases h2
        rw [if_pos q6] at hv
        refine ⟨yup_eq _ _ _ _, fun _ => ?_⟩
        rw [fr3, i2l_i hrv]
        exact ⟨hv, hv ▸ hrv⟩
      · rw [if_neg q6] at hv
        rcases ite1 h2 with ⟨q7, h2⟩ | ⟨q7, h2⟩
        · cases h2
          rw [if_pos q7] at hv
          refine ⟨yup_eq _ _ _ _, fun _ => ?_⟩
          rw [fr3, i2l_i hrv]
          exact ⟨hv, hv ▸ hrv⟩
        · cases h2
          rw [if_neg q7] at hv
          refine ⟨yup_eq _ _ _ _, fun _ => ?_⟩
          rw [fr3, i2l_i hrv]
          exact ⟨hv, hv ▸ hrv⟩
theorem lcm_0 {x b : Int} (h : x = b) (hb : rg b) : lcm (Int64.ofInt x) (i2l b) = 0 := by
  subst h
  unfold lcm i2l
  rw [y_long hb, lg_self]
  rfl
theorem fTx.I12 (h : I12 m) (ht : TXT m2) (e : fTx m m2) : I12 m2 := by
  obtain ⟨-, hK, ⟨h4, h18⟩, hc⟩ := h
  have k : ∀ a q, a ≠ 1 → ¬ (a = 0 ∧ q = 6) → a ≠ 413 → a ≠ 377 → ¬ (a = 376 ∧ (q = 1 ∨ q = 57)) → m2 a q = m a q := e
  have hA := pA_is (m 0 4)
  refine ⟨ht, fun j j1 j2 => ?_, ⟨?_, ?_⟩, ?_⟩
  · rw [k 4 _ (by omega) (by omega) (by omega) (by omega) (by omega)]; exact hK j j1 j2
  · rw [k 0 4 (by omega) (by omega) (by omega) (by omega) (by omega), k 0 5 (by omega) (by omega) (by omega) (by omega) (by omega)]; exact h4
  · rw [k 376 18 (by omega) (by omega) (by omega) (by omega) (by omega)]; exact h18
  · rw [k 0 4 (by omega) (by omega) (by omega) (by omega) (by omega), k 376 18 (by omega) (by omega) (by omega) (by omega) (by omega)]
    exact hc.fr (k _ _ (by omega) (by omega) (by omega) (by omega) (by omega)) (k _ _ (by omega) (by omega) (by omega) (by omega) (by omega)) (fun _ _ _ _ => k _ _ (by omega) (by omega) (by omega) (by omega) (by omega)) (k _ _ (by omega) (by omega) (by omega) (by omega) (by omega)) (fun _ _ _ _ _ => k _ _ (by omega) (by omega) (by omega) (by omega) (by omega))
theorem P12_cq : ∀ a q, P12 a q → a ≠ 413 := fun a q h => by unfold P12 at h; omega
theorem P12_mq : ∀ a q, P12 a q → ¬ (a = 376 ∧ q = 57) := fun a q h => by unfold P12 at h; omega
theorem P12_ru : ∀ a q, P12 a q → a < 169 ∨ (256 ≤ a ∧ a ≠ 413) := fun a q h => by unfold P12 at h; omega
theorem P12_mr : ∀ a q, P12 a q → ¬ (a = 376 ∧ (q = 51 ∨ (54 ≤ q ∧ q ≤ 57))) ∧ ¬ (408 ≤ a ∧ a ≤ 412) := fun a q h => by unfold P12 at h; omega
theorem two12 {L : Nat} {xs : Nat → Int32} {x4 : Int} {o : Option (Int × yM)} {G : yM → Option (Int × yM)} {y : (Int × yM) ⊕ ((Int × yM) ⊕ (Int × yM))} (h : bI o (fun _ m1 => bI (G m1) (fun _ m2 => J218_t0_617 f L xs x4 m2)) = some y) (hI : ∀ r m1 r2 m2, o = some (r, m1) → G m1 = some (r2, m2) → I12 m2) : ∃ l' m', y = .inl (l', m') ∧ I12 m' := by
  replace h := bI_e h
  obtain ⟨r, m1, e1, h⟩ := h
  replace h := bI_e h
  obtain ⟨r2, m2, e2, h⟩ := h
  unfold J218_t0_617 at h
  cases h
  exact ⟨_, _, rfl, hI _ _ _ _ e1 e2⟩
theorem step12 {L : Nat} {xs : Nat → Int32} {x4 : Int} {y : (Int × yM) ⊕ ((Int × yM) ⊕ (Int × yM))} (hI : I12 m) (h : B218_t0_23 f L xs x4 m = some y) : (∃ l' m', y = .inl (l', m') ∧ I12 m') ∨ (∃ l', y = .inr (.inl (l', m))) := by
  unfold B218_t0_23 at h
  rcases ite1 h with ⟨-, h⟩ | ⟨-, h⟩
  · cases h
    exact Or.inr ⟨_, rfl⟩
  left
  rcases ite1 h with ⟨-, h⟩ | ⟨-, h⟩
  · exact two12 h (fun r m1 r2 m2 e1 e2 => by obtain ⟨a, b⟩ := append_r hI.1 e1 e2; exact fTx.I12 hI a b)
  rcases ite1 h with ⟨-, h⟩ | ⟨-, h⟩
  · exact two12 h (fun r m1 r2 m2 e1 e2 => by obtain ⟨a, b⟩ := cut_r hI.1 e1 e2; exact fTx.I12 hI a b)
  rcases ite1 h with ⟨-, h⟩ | ⟨-, h⟩
  · exact two12 h (fun r m1 r2 m2 e1 e2 => read12 hI e1 e2)
  rcases ite1 h with ⟨-, h⟩ | ⟨-, h⟩
  · replace h := bI_e h
    obtain ⟨r, m1, e1, h⟩ := h
    unfold F154 at e1
    cases e1
    unfold J218_t0_617 at h
    cases h
    exact ⟨_, _, rfl, hI.fr (KP.up KP.rf (fun h => P12_mq _ _ h ⟨rfl, rfl⟩))⟩
  rcases ite1 h with ⟨-, h⟩ | ⟨-, h⟩
  · exact two12 h (fun r m1 r2 m2 e1 e2 => hI.fr ((show KP P12 m m1 from kcq_F159 P12_cq KP.rf _ e1).tr (show KP P12 m1 m2 from kmq_F163 P12_mq KP.rf _ e2)))
  rcases ite1 h with ⟨-, h⟩ | ⟨-, h⟩
  · exact two12 h (fun r m1 r2 m2 e1 e2 => hI.fr ((show KP P12 m m1 from kcq_F165 P12_cq KP.rf _ e1).tr (show KP P12 m1 m2 from kmq_F166 P12_mq KP.rf _ e2)))
  rcases ite1 h with ⟨-, h⟩ | ⟨-, h⟩
  · exact two12 h (fun r m1 r2 m2 e1 e2 => hI.fr ((show KP P12 m m1 from kcq_F169 P12_cq KP.rf _ e1).tr (show KP P12 m1 m2 from kmq_F171 P12_mq KP.rf _ e2)))
  rcases ite1 h with ⟨-, h⟩ | ⟨-, h⟩
  · exact two12 h (fun r m1 r2 m2 e1 e2 => hI.fr ((show KP P12 m m1 from kcq_F173 P12_cq KP.rf _ e1).tr (show KP P12 m1 m2 from kmq_F174 P12_mq KP.rf _ e2)))
  rcases ite1 h with ⟨-, h⟩ | ⟨-, h⟩
  · exact two12 h (fun r m1 r2 m2 e1 e2 => hI.fr ((show KP P12 m m1 from kcq_F177 P12_cq KP.rf _ e1).tr (show KP P12 m1 m2 from kmq_F178 P12_mq KP.rf _ e2)))
  rcases ite1 h with ⟨-, h⟩ | ⟨-, h⟩
  · exact two12 h (fun r m1 r2 m2 e1 e2 => hI.fr ((show KP P12 m m1 from kcq_F181 P12_cq KP.rf _ e1).tr (show KP P12 m1 m2 from kmq_F182 P12_mq KP.rf _ e2)))
  rcases ite1 h with ⟨-, h⟩ | ⟨-, h⟩
  · replace h := bI_e h
    obtain ⟨r, m1, e1, h⟩ := h
    replace h := bI_e h
    obtain ⟨r2, m2, e2, h⟩ := h
    obtain ⟨k1, k2, k3⟩ := meth12 hI (rg_to _) (rg_to _) e1 e2
    unfold F26 J218_t0_530 J218_t0_617 at h
    rw [if_pos k2] at h
    rcases ite1 h with ⟨q, h⟩ | ⟨q, h⟩
    · obtain ⟨k4, k5⟩ := k3 q
      rw [if_pos (lcm_0 k4 k5)] at h
      cases h
      exact ⟨_, _, rfl, k1⟩
    · cases h
      exact ⟨_, _, rfl, k1⟩
  rcases ite1 h with ⟨-, h⟩ | ⟨-, h⟩
  · exact two12 h (fun r m1 r2 m2 e1 e2 => hI.fr ((show KP P12 m m1 from kru_F200 P12_ru KP.rf _ e1).tr (show KP P12 m1 m2 from kmr_F211 P12_mr KP.rf _ e2)))
  rcases ite1 h with ⟨-, h⟩ | ⟨-, h⟩
  · exact two12 h (fun r m1 r2 m2 e1 e2 => hI.fr ((show KP P12 m m1 from kcq_F213 P12_cq KP.rf _ e1).tr (show KP P12 m1 m2 from kmq_F214 P12_mq KP.rf _ e2)))
  rcases ite1 h with ⟨-, h⟩ | ⟨-, h⟩
  · exact two12 h (fun r m1 r2 m2 e1 e2 => hI.fr ((show KP P12 m m1 from kcq_F216 P12_cq KP.rf _ e1).tr (show KP P12 m1 m2 from kmq_F217 P12_mq KP.rf _ e2)))
  unfold J218_t0_617 at h
  cases h
  exact ⟨_, _, rfl, hI⟩
theorem law12 {L : Nat} {xs : Nat → Int32} {x4 r : Int} (hI : I12 m) (h : FL f L xs x4 m = some (r, m1)) : r = 1 := by
  unfold FL at h
  rcases bL_e h with ⟨l, mi, e1, e2⟩ | ⟨l, mi, e1, e2⟩
  · cases e2
    rfl
  · exfalso
    obtain ⟨l', m', hI', e3⟩ := yloop_inv (fun _ m => I12 m) (fun l m l' m' hI hB => by
      rcases step12 hI hB with ⟨l2, m2, e, e'⟩ | ⟨l2, e⟩
      · cases e; exact e'
      · cases e) _ _ _ _ hI e1
    rcases step12 hI' e3 with ⟨l2, m2, e, e'⟩ | ⟨l2, e⟩
    · cases e
    · cases e
end L12
theorem I120 : I12 gMem := by
  have h6 : gMem 0 6 = 0 := rfl
  refine ⟨⟨rfl, by omega, by omega, fun t z1 z2 => by omega⟩, fun j j1 j2 => ?_, ⟨Or.inl ⟨rfl, rfl⟩, Or.inl rfl⟩, Or.inl ⟨rfl, rfl⟩⟩
  have : ∀ a : Fin 10, gMem 4 (((a : Nat) : Int) + 1).toNat = kw (((a : Nat) : Int) + 1) := by decide +kernel
  have h := this ⟨(j - 1).toNat, by omega⟩
  have e : (((j - 1).toNat : Nat) : Int) + 1 = j := by omega
  simp only [e] at h
  exact h
theorem gLawOk {f L : Nat} {xs : Nat → Int32} {r : Int} {m' : yM} (h : FL f L xs 0 gMem = some (r, m')) : r = 1 := law12 I120 h

/-! THE QUESTIONS about facts -/
section QU
variable {A p s o f g : Nat} {m m1 m2 : yM}
theorem askT {o : Option ((Int ⊕ Nat) × yM)} {C : Prop} {v0 k : Int} (h : bT o (fun r m' => some ((0 : Int), yup m' 413 0 ((i2l r).toInt))) (fun e' m' => (if e' = 11 then (some (1, m')) else none)) = some (k, m1)) (hm : ∀ z, o = some z → (¬ C ∧ z = (.inr 11, m)) ∨ (C ∧ z = (.inl v0, m))) : (¬ C ∧ k = 1 ∧ m1 = m) ∨ (C ∧ k = 0 ∧ m1 = yup m 413 0 (i2l v0).toInt) := by
  rcases bT_e h with ⟨r2, m', e1, e2⟩ | ⟨r2, m', e1, e2⟩
  · rcases hm _ e1 with ⟨-, z⟩ | ⟨z1, z⟩
    · cases z
    · cases z
      cases e2
      exact Or.inr ⟨z1, rfl, rfl⟩
  · rcases hm _ e1 with ⟨z1, z⟩ | ⟨-, z⟩
    · cases z
      rw [if_pos rfl] at e2
      cases e2
      exact Or.inl ⟨z1, rfl, rfl⟩
    · cases z
theorem askE {C : Prop} {v0 k b : Int} (hc : (¬ C ∧ k = 1 ∧ m1 = m) ∨ (C ∧ k = 0 ∧ m1 = yup m 413 0 (i2l v0).toInt)) (hm : (¬ C ∧ m2 = yup m1 376 57 1) ∨ (C ∧ b = v0 ∧ m2 = yup m1 376 57 0)) (hv : C → rg v0) : m2 376 57 = k ∧ (k = 0 → m2 413 0 = b ∧ rg b) := by
  rcases hc with ⟨c1, rfl, rfl⟩ | ⟨c1, rfl, rfl⟩
  · rcases hm with ⟨-, rfl⟩ | ⟨c2, -⟩
    · exact ⟨yup_eq _ _ _ _, fun e => absurd e (by decide)⟩
    · exact absurd c2 c1
  · rcases hm with ⟨c2, -⟩ | ⟨-, rfl, rfl⟩
    · exact absurd c1 c2
    · refine ⟨yup_eq _ _ _ _, fun _ => ?_⟩
      rw [yup_na (by decide), yup_eq, i2l_i (hv c1)]
      exact ⟨rfl, hv c1⟩
/-- the class's memory and what the model reads of it -/
theorem askF (hc : m1 = m ∨ ∃ v, m1 = yup m 413 0 v) : ∀ a q, a ≠ 413 → m1 a q = m a q := fun a q ha => by
  rcases hc with rfl | ⟨v, rfl⟩
  · rfl
  · exact yup_na ha
theorem cntM {x c : Int} (h0 : 0 ≤ c ∧ c ≤ 100) : F22 x 0 (wr (c - 1)) = 0 ↔ ¬ (0 ≤ x ∧ x < c) := by
  rw [wr_i (by omega) (by omega), F22_0]
  omega
theorem cntC {x c : Int} : F155 x c = 0 ↔ ¬ (0 ≤ x ∧ x < c) := by
  have := F155_1 (x := x) (n := c)
  constructor
  · intro z w; exact this.mpr w z
  · intro z
    by_cases w : F155 x c = 0
    · exact w
    · exact absurd (this.mp w) z
/-- what the state says of counts -/
theorem CQ.cnt (h : CQ A p m) : (m 376 19 = 0 ∧ m A 10 = 0 ∧ m A 11 = 0 ∧ m A 12 = 0 ∧ m A 13 = 0 ∧ m A 14 = 0 ∧ m A 15 = 0) ∨ (m 376 19 = 1 ∧ m 8 4 = pX A ∧ m A 10 = m 384 p ∧ m A 11 = m 385 p ∧ m A 12 = m 386 p ∧ m A 13 = m 387 p ∧ m A 14 = m 388 p ∧ m A 15 = m 389 p ∧ (0 ≤ m A 10 ∧ m A 10 ≤ 10) ∧ (0 ≤ m A 11 ∧ m A 11 ≤ 8) ∧ (0 ≤ m A 12 ∧ m A 12 ≤ 12) ∧ (0 ≤ m A 13 ∧ m A 13 ≤ 8) ∧ (1 ≤ m A 14 ∧ m A 14 ≤ 12) ∧ (0 ≤ m A 15 ∧ m A 15 ≤ 48) ∧ ∃ G V, FQ G V m m) := by
  rcases h with ⟨h1, -, h2⟩ | ⟨h1, h2, s, o, h3, h4, h5⟩
  · exact Or.inl ⟨h1, h2⟩
  · obtain ⟨r1, r2, r3, r4, r5, r6, r7, r8⟩ := h3
    unfold rCo at r3
    exact Or.inr ⟨h1, h2, r2.1, r4.1, by omega, by omega, by omega, r5.1, ⟨r2.2.1, r2.2.2.1⟩, ⟨r4.2.1, r4.2.2⟩, by omega, by omega, by omega, ⟨r5.2.1, r5.2.2.1⟩, _, _, h4⟩
theorem mayQ {x w k b : Int} (hI : IQ m) (hx : rg x) (hw : rg w) (h1 : F159 f x w m = some (k, m1)) (h2 : F163 g x w m1 = some (b, m2)) : IQ m2 ∧ m2 376 57 = k ∧ (k = 0 → m2 413 0 = b ∧ rg b) := by
  have hI2 : IQ m2 := hI.fr ((show KP PQ m m1 from kcq_F159 (fun a q h => by unfold PQ at h; omega) KP.rf _ h1).tr (show KP PQ m1 m2 from kmq_F163 (fun a q h => by unfold PQ at h; omega) KP.rf _ h2))
  refine ⟨hI2, ?_⟩
  obtain ⟨-, -, ⟨h4, h18⟩, -, hc⟩ := hI
  obtain ⟨p, hp, hp18⟩ : ∃ p : Nat, p ≤ 1 ∧ m 376 18 = (p : Int) := ⟨(m 376 18).toNat, by omega, by omega⟩
  rw [hp18, Int.toNat_natCast] at hc
  have ct := hc.cnt
  unfold F159 at h1
  have cl := askT (m := m) (C := (0 ≤ x ∧ x < m (pA (m 0 4)) 15) ∧ (0 ≤ w ∧ w < m (pA (m 0 4)) 14)) (v0 := m (10 + x.toNat) w.toNat) h1 (fun z e => by
    unfold F158 F156 F157 J158_16 at e
    rcases ite1 e with ⟨q, e⟩ | ⟨q, e⟩
    · cases e; exact Or.inl ⟨fun z => cntC.mp q z.1, rfl⟩
    rcases ite1 e with ⟨q2, e⟩ | ⟨q2, e⟩
    · cases e; exact Or.inl ⟨fun z => cntC.mp q2 z.2, rfl⟩
    rcases ite1 e with ⟨-, e⟩ | ⟨-, e⟩
    · cases e; exact Or.inr ⟨⟨F155_1.mp q, F155_1.mp q2⟩, rfl⟩
    · cases e)
  have fr := askF (m := m) (m1 := m1) (by rcases cl with ⟨-, -, z⟩ | ⟨-, -, z⟩; exact Or.inl z; exact Or.inr ⟨_, z⟩)
  have md : (¬ ((0 ≤ x ∧ x < m (pA (m 0 4)) 15) ∧ (0 ≤ w ∧ w < m (pA (m 0 4)) 14)) ∧ m2 = yup m1 376 57 1) ∨ (((0 ≤ x ∧ x < m (pA (m 0 4)) 15) ∧ (0 ≤ w ∧ w < m (pA (m 0 4)) 14)) ∧ b = m (10 + x.toNat) w.toNat ∧ m2 = yup m1 376 57 0) := by
    have J : ∀ {z : Int}, J163_22 g x w z m1 = some (b, m2) → (¬ (m 376 19 ≠ 0 ∧ z ≠ 0) ∧ m2 = yup m1 376 57 1) ∨ ((m 376 19 ≠ 0 ∧ z ≠ 0) ∧ b = yup m1 376 57 0 404 (wr ((wr (12 * x)) + w)).toNat ∧ m2 = yup m1 376 57 0) := by
      intro z e
      unfold J163_22 at e
      replace e := bI_e e
      obtain ⟨r, n, e1, e⟩ := e
      rcases F162_r e1 with ⟨z1, z2, rfl, rfl⟩ | ⟨z1, rfl, rfl⟩
      · rw [if_neg (by decide)] at e
        cases e
        rw [fr 376 19 (by decide)] at z1
        exact Or.inr ⟨⟨z1, z2⟩, rfl, rfl⟩
      · rw [if_pos rfl] at e
        cases e
        rw [fr 376 19 (by decide)] at z1
        exact Or.inl ⟨z1, rfl⟩
    unfold F163 F160 F161 at h2
    rw [fr 376 19 (by decide), fr 376 18 (by decide), hp18, Int.toNat_natCast, fr 389 p (by decide), fr 388 p (by decide)] at h2
    rcases ct with ⟨c19, c10, c11, c12, c13, c14, c15⟩ | ⟨c19, c84, c10, c11, c12, c13, c14, c15, d10, d11, d12, d13, d14, d15, G, V, hQ⟩
    · rw [if_pos c19, if_pos rfl] at h2
      unfold J163_21 at h2
      rcases J h2 with ⟨-, z⟩ | ⟨z, -⟩
      · exact Or.inl ⟨fun y => by omega, z⟩
      · exact absurd c19 z.1
    · rw [if_neg (show ¬ m 376 19 = 0 by omega), if_neg (show ¬ m 376 19 = 0 by omega), ← c15, ← c14] at h2
      by_cases y1 : F22 x 0 (wr (m (pA (m 0 4)) 15 - 1)) = 0
      · rw [if_pos y1, if_pos rfl] at h2
        unfold J163_21 at h2
        rcases J h2 with ⟨-, z⟩ | ⟨z, -⟩
        · exact Or.inl ⟨fun y => (cntM (by omega)).mp y1 y.1, z⟩
        · exact absurd rfl z.2
      · rw [if_neg y1, if_neg (by decide)] at h2
        have y1' : 0 ≤ x ∧ x < m (pA (m 0 4)) 15 := by
          by_cases z : 0 ≤ x ∧ x < m (pA (m 0 4)) 15
          · exact z
          · exact absurd ((cntM (by omega)).mpr z) y1
        by_cases y2 : F22 w 0 (wr (m (pA (m 0 4)) 14 - 1)) = 0
        · rw [if_pos y2, if_pos rfl] at h2
          unfold J163_21 at h2
          rcases J h2 with ⟨-, z⟩ | ⟨z, -⟩
          · exact Or.inl ⟨fun y => (cntM (by omega)).mp y2 y.2, z⟩
          · exact absurd rfl z.2
        · rw [if_neg y2, if_neg (by decide)] at h2
          have y2' : 0 ≤ w ∧ w < m (pA (m 0 4)) 14 := by
            by_cases z : 0 ≤ w ∧ w < m (pA (m 0 4)) 14
            · exact z
            · exact absurd ((cntM (by omega)).mpr z) y2
          rcases J h2 with ⟨z, -⟩ | ⟨-, z1, z2⟩
          · exact absurd ⟨by omega, by decide⟩ z
          · refine Or.inr ⟨⟨y1', y2'⟩, ?_, z2⟩
            obtain ⟨xn, rfl⟩ : ∃ xn : Nat, x = xn := ⟨x.toNat, by omega⟩
            obtain ⟨wn, rfl⟩ : ∃ wn : Nat, w = wn := ⟨w.toNat, by omega⟩
            rw [z1, ix12 (by omega) (by omega), yup_na (by decide), fr 404 _ (by decide), Int.toNat_natCast, Int.toNat_natCast]
            exact (hQ 0 xn wn (by decide) (by show xn < 48; omega) (by show wn < 12; omega)).1.symm
  refine askE cl md (fun hC => ?_)
  rcases ct with ⟨c19, c10, c11, c12, c13, c14, c15⟩ | ⟨c19, c84, c10, c11, c12, c13, c14, c15, d10, d11, d12, d13, d14, d15, G, V, hQ⟩
  · omega
  · have := (hQ 0 x.toNat w.toNat (by decide) (by show x.toNat < 48; omega) (by show w.toNat < 12; omega)).2.1
    have e : m (cc 0 x.toNat) w.toNat = m (10 + x.toNat) w.toNat := rfl
    rw [e] at this
    exact ⟨by omega, by omega⟩
theorem reachedQ {x k b : Int} (hI : IQ m) (hx : rg x) (h1 : F173 f x m = some (k, m1)) (h2 : F174 g x m1 = some (b, m2)) : IQ m2 ∧ m2 376 57 = k ∧ (k = 0 → m2 413 0 = b ∧ rg b) := by
  have hI2 : IQ m2 := hI.fr ((show KP PQ m m1 from kcq_F173 (fun a q h => by unfold PQ at h; omega) KP.rf _ h1).tr (show KP PQ m1 m2 from kmq_F174 (fun a q h => by unfold PQ at h; omega) KP.rf _ h2))
  refine ⟨hI2, ?_⟩
  obtain ⟨-, -, ⟨h4, h18⟩, -, hc⟩ := hI
  obtain ⟨p, hp, hp18⟩ : ∃ p : Nat, p ≤ 1 ∧ m 376 18 = (p : Int) := ⟨(m 376 18).toNat, by omega, by omega⟩
  rw [hp18, Int.toNat_natCast] at hc
  have ct := hc.cnt
  unfold F173 at h1
  have cl := askT (m := m) (C := 0 ≤ x ∧ x < m (pA (m 0 4)) 10) (v0 := m 71 x.toNat) h1 (fun z e => by
    unfold F172 F167 at e
    rcases ite1 e with ⟨q, e⟩ | ⟨q, e⟩
    · cases e; exact Or.inl ⟨cntC.mp q, rfl⟩
    · cases e; exact Or.inr ⟨F155_1.mp q, rfl⟩)
  have fr := askF (m := m) (m1 := m1) (by rcases cl with ⟨-, -, z⟩ | ⟨-, -, z⟩; exact Or.inl z; exact Or.inr ⟨_, z⟩)
  have md : (¬ (0 ≤ x ∧ x < m (pA (m 0 4)) 10) ∧ m2 = yup m1 376 57 1) ∨ ((0 ≤ x ∧ x < m (pA (m 0 4)) 10) ∧ b = m 71 x.toNat ∧ m2 = yup m1 376 57 0) := by
    unfold F174 F170 at h2
    rw [fr 376 19 (by decide), fr 376 18 (by decide), hp18, Int.toNat_natCast, fr 384 p (by decide)] at h2
    replace h2 := bI_e h2
    obtain ⟨r, n, e1, h2⟩ := h2
    rcases ct with ⟨c19, c10, c11, c12, c13, c14, c15⟩ | ⟨c19, c84, c10, c11, c12, c13, c14, c15, d10, d11, d12, d13, d14, d15, G, V, hQ⟩
    · rcases F162_r e1 with ⟨z1, z2, rfl, rfl⟩ | ⟨z1, rfl, rfl⟩
      · rw [fr 376 19 (by decide)] at z1
        exact absurd c19 z1
      · rw [if_pos rfl] at h2
        cases h2
        exact Or.inl ⟨fun y => by omega, rfl⟩
    · rw [if_neg (by omega), ← c10] at e1
      by_cases y1 : F22 x 0 (wr (m (pA (m 0 4)) 10 - 1)) = 0
      · rw [if_pos y1] at e1
        rcases F162_r e1 with ⟨z1, z2, rfl, rfl⟩ | ⟨z1, rfl, rfl⟩
        · exact absurd rfl z2
        · rw [if_pos rfl] at h2
          cases h2
          exact Or.inl ⟨(cntM (by omega)).mp y1, rfl⟩
      · rw [if_neg y1] at e1
        have y1' : 0 ≤ x ∧ x < m (pA (m 0 4)) 10 := by
          by_cases z : 0 ≤ x ∧ x < m (pA (m 0 4)) 10
          · exact z
          · exact absurd ((cntM (by omega)).mpr z) y1
        rcases F162_r e1 with ⟨z1, z2, rfl, rfl⟩ | ⟨z1, rfl, rfl⟩
        · rw [if_neg (by decide)] at h2
          cases h2
          refine Or.inr ⟨y1', ?_, rfl⟩
          obtain ⟨xn, rfl⟩ : ∃ xn : Nat, x = xn := ⟨x.toNat, by omega⟩
          rw [yup_na (by decide), fr 407 _ (by decide), Int.toNat_natCast]
          have := (hQ 3 0 xn (by decide) (by decide) (by show xn < 10; omega)).1
          simpa [cc, ww] using this.symm
        · rw [fr 376 19 (by decide)] at z1
          exact absurd ⟨by omega, by decide⟩ z1
  refine askE cl md (fun hC => ?_)
  rcases ct with ⟨c19, c10, c11, c12, c13, c14, c15⟩ | ⟨c19, c84, c10, c11, c12, c13, c14, c15, d10, d11, d12, d13, d14, d15, G, V, hQ⟩
  · omega
  · have := (hQ 3 0 x.toNat (by decide) (by decide) (by show x.toNat < 10; omega)).2.1
    have e : m (cc 3 0) x.toNat = m 71 x.toNat := rfl
    rw [e] at this
    exact ⟨by omega, by omega⟩
theorem goesQ {x w k b : Int} (hI : IQ m) (hx : rg x) (hw : rg w) (h1 : F169 f x w m = some (k, m1)) (h2 : F171 g x w m1 = some (b, m2)) : IQ m2 ∧ m2 376 57 = k ∧ (k = 0 → m2 413 0 = b ∧ rg b) := by
  have hI2 : IQ m2 := hI.fr ((show KP PQ m m1 from kcq_F169 (fun a q h => by unfold PQ at h; omega) KP.rf _ h1).tr (show KP PQ m1 m2 from kmq_F171 (fun a q h => by unfold PQ at h; omega) KP.rf _ h2))
  refine ⟨hI2, ?_⟩
  obtain ⟨-, -, ⟨h4, h18⟩, -, hc⟩ := hI
  obtain ⟨p, hp, hp18⟩ : ∃ p : Nat, p ≤ 1 ∧ m 376 18 = (p : Int) := ⟨(m 376 18).toNat, by omega, by omega⟩
  rw [hp18, Int.toNat_natCast] at hc
  have ct := hc.cnt
  unfold F169 at h1
  have cl := askT (m := m) (C := (0 ≤ x ∧ x < m (pA (m 0 4)) 12) ∧ (0 ≤ w ∧ w < m (pA (m 0 4)) 10)) (v0 := m (59 + x.toNat) w.toNat) h1 (fun z e => by
    unfold F168 F167 J168_22 at e
    rcases ite1 e with ⟨q, e⟩ | ⟨q, e⟩
    · cases e; exact Or.inl ⟨fun z => cntC.mp q z.1, rfl⟩
    rcases ite1 e with ⟨q2, e⟩ | ⟨q2, e⟩
    · cases e; exact Or.inl ⟨fun z => cntC.mp q2 z.2, rfl⟩
    rcases ite1 e with ⟨-, e⟩ | ⟨-, e⟩
    · cases e; exact Or.inr ⟨⟨F155_1.mp q, F155_1.mp q2⟩, rfl⟩
    · cases e)
  have fr := askF (m := m) (m1 := m1) (by rcases cl with ⟨-, -, z⟩ | ⟨-, -, z⟩; exact Or.inl z; exact Or.inr ⟨_, z⟩)
  have md : (¬ ((0 ≤ x ∧ x < m (pA (m 0 4)) 12) ∧ (0 ≤ w ∧ w < m (pA (m 0 4)) 10)) ∧ m2 = yup m1 376 57 1) ∨ (((0 ≤ x ∧ x < m (pA (m 0 4)) 12) ∧ (0 ≤ w ∧ w < m (pA (m 0 4)) 10)) ∧ b = m (59 + x.toNat) w.toNat ∧ m2 = yup m1 376 57 0) := by
    have J : ∀ {z : Int}, J171_33 g x w z m1 = some (b, m2) → (¬ (m 376 19 ≠ 0 ∧ z ≠ 0) ∧ m2 = yup m1 376 57 1) ∨ ((m 376 19 ≠ 0 ∧ z ≠ 0) ∧ b = yup m1 376 57 0 406 (wr ((wr (10 * x)) + w)).toNat ∧ m2 = yup m1 376 57 0) := by
      intro z e
      unfold J171_33 at e
      replace e := bI_e e
      obtain ⟨r, n, e1, e⟩ := e
      rcases F162_r e1 with ⟨z1, z2, rfl, rfl⟩ | ⟨z1, rfl, rfl⟩
      · rw [if_neg (by decide)] at e
        cases e
        rw [fr 376 19 (by decide)] at z1
        exact Or.inr ⟨⟨z1, z2⟩, rfl, rfl⟩
      · rw [if_pos rfl] at e
        cases e
        rw [fr 376 19 (by decide)] at z1
        exact Or.inl ⟨z1, rfl⟩
    unfold F171 F170 at h2
    rw [fr 376 19 (by decide), fr 376 18 (by decide), hp18, Int.toNat_natCast, fr 384 p (by decide), fr 386 p (by decide)] at h2
    rcases ct with ⟨c19, c10, c11, c12, c13, c14, c15⟩ | ⟨c19, c84, c10, c11, c12, c13, c14, c15, d10, d11, d12, d13, d14, d15, G, V, hQ⟩
    · rw [if_pos c19, if_pos rfl] at h2
      unfold J171_32 at h2
      rcases J h2 with ⟨-, z⟩ | ⟨z, -⟩
      · exact Or.inl ⟨fun y => by omega, z⟩
      · exact absurd c19 z.1
    · rw [if_neg (show ¬ m 376 19 = 0 by omega), ← c10, ← c12] at h2
      by_cases y1 : F22 w 0 (wr (m (pA (m 0 4)) 10 - 1)) = 0
      · rw [if_pos y1, if_pos rfl] at h2
        unfold J171_32 at h2
        rcases J h2 with ⟨-, z⟩ | ⟨z, -⟩
        · exact Or.inl ⟨fun y => (cntM (by omega)).mp y1 y.2, z⟩
        · exact absurd rfl z.2
      · rw [if_neg y1, if_neg (by decide)] at h2
        have y1' : 0 ≤ w ∧ w < m (pA (m 0 4)) 10 := by
          by_cases z : 0 ≤ w ∧ w < m (pA (m 0 4)) 10
          · exact z
          · exact absurd ((cntM (by omega)).mpr z) y1
        by_cases y2 : F22 x 0 (wr (m (pA (m 0 4)) 12 - 1)) = 0
        · rw [if_pos y2] at h2
          unfold J171_32 at h2
          rcases J h2 with ⟨-, z⟩ | ⟨z, -⟩
          · exact Or.inl ⟨fun y => (cntM (by omega)).mp y2 y.1, z⟩
          · exact absurd rfl z.2
        · rw [if_neg y2] at h2
          have y2' : 0 ≤ x ∧ x < m (pA (m 0 4)) 12 := by
            by_cases z : 0 ≤ x ∧ x < m (pA (m 0 4)) 12
            · exact z
            · exact absurd ((cntM (by omega)).mpr z) y2
          rcases J h2 with ⟨z, -⟩ | ⟨-, z1, z2⟩
          · exact absurd ⟨by omega, by decide⟩ z
          · refine Or.inr ⟨⟨y2', y1'⟩, ?_, z2⟩
            obtain ⟨xn, rfl⟩ : ∃ xn : Nat, x = xn := ⟨x.toNat, by omega⟩
            obtain ⟨wn, rfl⟩ : ∃ wn : Nat, w = wn := ⟨w.toNat, by omega⟩
            have ix : (wr ((wr (10 * (xn : Int))) + (wn : Int))).toNat = 10 * xn + wn := by
              rw [wr_i (x := 10 * (xn : Int)) (by omega) (by omega), wr_i (by omega) (by omega)]; omega
            rw [z1, ix, yup_na (by decide), fr 406 _ (by decide), Int.toNat_natCast, Int.toNat_natCast]
            exact (hQ 2 xn wn (by decide) (by show xn < 12; omega) (by show wn < 10; omega)).1.symm
  refine askE cl md (fun hC => ?_)
  rcases ct with ⟨c19, c10, c11, c12, c13, c14, c15⟩ | ⟨c19, c84, c10, c11, c12, c13, c14, c15, d10, d11, d12, d13, d14, d15, G, V, hQ⟩
  · omega
  · have := (hQ 2 x.toNat w.toNat (by decide) (by show x.toNat < 12; omega) (by show w.toNat < 10; omega)).2.1
    have e : m (cc 2 x.toNat) w.toNat = m (59 + x.toNat) w.toNat := rfl
    rw [e] at this
    exact ⟨by omega, by omega⟩
end QU

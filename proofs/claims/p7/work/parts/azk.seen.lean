/-! SEEN -/
def IR (m : yM) : Prop := IQ m ∧ SN m
def PR (a q : Nat) : Prop := PQ a q ∨ (171 ≤ a ∧ a < 219) ∨ a = 408
section SE
variable {A p s o f g : Nat} {m m1 m2 : yM}
theorem SN.fr (h : SN m) (e : ∀ a q, (171 ≤ a ∧ a < 219) ∨ a = 408 → m1 a q = m a q) : SN m1 := fun v j hv hj => by
  rw [e (171 + v) j (by omega), e 408 _ (by omega)]
  exact h v j hv hj
theorem IR.fr (h : IR m) (e : KP PR m m1) : IR m1 := ⟨h.1.fr (fun a q ha => e a q (Or.inl ha)), h.2.fr (fun a q ha => e a q (Or.inr ha))⟩
theorem runC {k b : Int} (hI : IQ m) (h1 : F200 f m = some (k, m1)) (h2 : F211 g m1 = some (b, m2)) : IQ m2 ∧ m2 376 57 = k ∧ (k = 0 → m2 413 0 = b ∧ rg b) := (runR hI h1 h2).1
theorem seenQ {x w k b : Int} (hI : IR m) (hx : rg x) (hw : rg w) (h1 : F213 f x w m = some (k, m1)) (h2 : F214 g x w m1 = some (b, m2)) : IR m2 ∧ m2 376 57 = k ∧ (k = 0 → m2 413 0 = b ∧ rg b) := by
  have hI2 : IR m2 := hI.fr ((show KP PR m m1 from kcq_F213 (fun a q h => by unfold PR PQ at h; omega) KP.rf _ h1).tr (show KP PR m1 m2 from kmq_F214 (fun a q h => by unfold PR PQ at h; omega) KP.rf _ h2))
  refine ⟨hI2, ?_⟩
  obtain ⟨⟨-, -, ⟨h4, h18⟩, -, hc⟩, hS⟩ := hI
  obtain ⟨p, hp, hp18⟩ : ∃ p : Nat, p ≤ 1 ∧ m 376 18 = (p : Int) := ⟨(m 376 18).toNat, by omega, by omega⟩
  rw [hp18, Int.toNat_natCast] at hc
  have ct := hc.cnt
  unfold F213 at h1
  have cl := askT (m := m) (C := (0 ≤ x ∧ x < m (pA (m 0 4)) 15) ∧ (0 ≤ w ∧ w < m (pA (m 0 4)) 14)) (v0 := m (171 + x.toNat) w.toNat) h1 (fun z e => by
    unfold F212 F156 F157 J212_16 at e
    rcases ite1 e with ⟨q, e⟩ | ⟨q, e⟩
    · cases e; exact Or.inl ⟨fun z => cntC.mp q z.1, rfl⟩
    rcases ite1 e with ⟨q2, e⟩ | ⟨q2, e⟩
    · cases e; exact Or.inl ⟨fun z => cntC.mp q2 z.2, rfl⟩
    rcases ite1 e with ⟨-, e⟩ | ⟨-, e⟩
    · cases e; exact Or.inr ⟨⟨F155_1.mp q, F155_1.mp q2⟩, rfl⟩
    · cases e)
  have fr := askF (m := m) (m1 := m1) (by rcases cl with ⟨-, -, z⟩ | ⟨-, -, z⟩; exact Or.inl z; exact Or.inr ⟨_, z⟩)
  have md : (¬ ((0 ≤ x ∧ x < m (pA (m 0 4)) 15) ∧ (0 ≤ w ∧ w < m (pA (m 0 4)) 14)) ∧ m2 = yup m1 376 57 1) ∨ (((0 ≤ x ∧ x < m (pA (m 0 4)) 15) ∧ (0 ≤ w ∧ w < m (pA (m 0 4)) 14)) ∧ b = m (171 + x.toNat) w.toNat ∧ m2 = yup m1 376 57 0) := by
    have J : ∀ {z : Int}, J214_22 g x w z m1 = some (b, m2) → (¬ (m 376 19 ≠ 0 ∧ z ≠ 0) ∧ m2 = yup m1 376 57 1) ∨ ((m 376 19 ≠ 0 ∧ z ≠ 0) ∧ b = (if yup m1 376 57 0 408 (wr ((wr (12 * x)) + w)).toNat = 0 then 0 else 1) ∧ m2 = yup m1 376 57 0) := by
      intro z e
      unfold J214_22 at e
      replace e := bI_e e
      obtain ⟨r, n, e1, e⟩ := e
      rcases F162_r e1 with ⟨z1, z2, rfl, rfl⟩ | ⟨z1, rfl, rfl⟩
      · rw [if_neg (by decide)] at e
        rw [fr 376 19 (by decide)] at z1
        refine Or.inr ⟨⟨z1, z2⟩, ?_⟩
        rcases ite1 e with ⟨q, e⟩ | ⟨q, e⟩
        · injection e with e
          injection e with e e'
          exact ⟨by rw [if_pos q]; exact e.symm, e'.symm⟩
        · injection e with e
          injection e with e e'
          exact ⟨by rw [if_neg q]; exact e.symm, e'.symm⟩
      · rw [if_pos rfl] at e
        injection e with e
        injection e with e e'
        rw [fr 376 19 (by decide)] at z1
        exact Or.inl ⟨z1, e'.symm⟩
    have bad : ∀ {P : Prop}, J214_21 g x w m1 = some (b, m2) → ¬ P → (¬ P ∧ m2 = yup m1 376 57 1) := by
      intro P e hP
      unfold J214_21 at e
      rcases J e with ⟨-, z⟩ | ⟨z, -⟩
      · exact ⟨hP, z⟩
      · exact absurd rfl z.2
    unfold F214 F160 F161 at h2
    rw [fr 376 19 (by decide), fr 376 18 (by decide), hp18, Int.toNat_natCast, fr 389 p (by decide), fr 388 p (by decide)] at h2
    rcases ct with ⟨c19, c10, c11, c12, c13, c14, c15⟩ | ⟨c19, c84, c10, c11, c12, c13, c14, c15, d10, d11, d12, d13, d14, d15, G, V, hQ⟩
    · rw [if_pos c19, if_pos rfl] at h2
      exact Or.inl (bad h2 (fun y => by omega))
    · rw [if_neg (show ¬ m 376 19 = 0 by omega), if_neg (show ¬ m 376 19 = 0 by omega), ← c15, ← c14] at h2
      by_cases y1 : F22 x 0 (wr (m (pA (m 0 4)) 15 - 1)) = 0
      · rw [if_pos y1, if_pos rfl] at h2
        exact Or.inl (bad h2 (fun y => (cntM (by omega)).mp y1 y.1))
      rw [if_neg y1, if_neg (by decide)] at h2
      have y1' := cntN (by omega) y1
      by_cases y2 : F22 w 0 (wr (m (pA (m 0 4)) 14 - 1)) = 0
      · rw [if_pos y2, if_pos rfl] at h2
        exact Or.inl (bad h2 (fun y => (cntM (by omega)).mp y2 y.2))
      rw [if_neg y2, if_neg (by decide)] at h2
      have y2' := cntN (by omega) y2
      rcases J h2 with ⟨z, -⟩ | ⟨-, z1, z2⟩
      · exact absurd ⟨by omega, by decide⟩ z
      · refine Or.inr ⟨⟨y1', y2'⟩, ?_, z2⟩
        obtain ⟨xn, rfl⟩ : ∃ xn : Nat, x = xn := ⟨x.toNat, by omega⟩
        obtain ⟨wn, rfl⟩ : ∃ wn : Nat, w = wn := ⟨w.toNat, by omega⟩
        obtain ⟨u1, u2, u3⟩ := hS xn wn (by omega) (by omega)
        rw [z1, ix12 (by omega) (by omega), yup_na (by decide), fr 408 _ (by decide), Int.toNat_natCast, Int.toNat_natCast, ← u1]
        by_cases q : m (171 + xn) wn = 0
        · rw [if_pos q, q]
        · rw [if_neg q]; omega
  refine askE cl md (fun hC => ?_)
  rcases ct with ⟨c19, c10, c11, c12, c13, c14, c15⟩ | ⟨c19, c84, c10, c11, c12, c13, c14, c15, d10, d11, d12, d13, d14, d15, G, V, hQ⟩
  · omega
  · obtain ⟨u1, u2, u3⟩ := hS x.toNat w.toNat (by omega) (by omega)
    exact ⟨by omega, by omega⟩
end SE

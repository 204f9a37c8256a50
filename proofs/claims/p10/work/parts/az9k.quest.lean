/-! THE QUESTIONS: holds, alias -/
section QV
variable {A p s o f g : Nat} {m m1 m2 : yM}
theorem cntN {x c : Int} (h0 : 0 ≤ c ∧ c ≤ 100) (h : ¬ F22 x 0 (wr (c - 1)) = 0) : 0 ≤ x ∧ x < c := by
  by_cases z : 0 ≤ x ∧ x < c
  · exact z
  · exact absurd ((cntM h0).mpr z) h
theorem holdsQ {x w v k b : Int} (hI : IQ m) (hx : rg x) (hw : rg w) (hv : rg v) (h1 : F165 f x w v m = some (k, m1)) (h2 : F166 g x w v m1 = some (b, m2)) : IQ m2 ∧ m2 376 57 = k ∧ (k = 0 → m2 413 0 = b ∧ rg b) := by
  have hI2 : IQ m2 := hI.fr ((show KP PQ m m1 from kcq_F165 (fun a q h => by unfold PQ at h; omega) KP.rf _ h1).tr (show KP PQ m1 m2 from kmq_F166 (fun a q h => by unfold PQ at h; omega) KP.rf _ h2))
  refine ⟨hI2, ?_⟩
  obtain ⟨-, -, ⟨h4, h18⟩, -, hc⟩ := hI
  obtain ⟨p, hp, hp18⟩ : ∃ p : Nat, p ≤ 1 ∧ m 376 18 = (p : Int) := ⟨(m 376 18).toNat, by omega, by omega⟩
  rw [hp18, Int.toNat_natCast] at hc
  have ct := hc.cnt
  unfold F165 at h1
  have cl := askT (m := m) (C := (0 ≤ x ∧ x < m (pA (m 0 4)) 14) ∧ (0 ≤ w ∧ w < m (pA (m 0 4)) 11) ∧ (0 ≤ v ∧ v < m (pA (m 0 4)) 14)) (v0 := m (F83 x w) v.toNat) h1 (fun z e => by
    unfold F164 F157 J164_30 at e
    rcases ite1 e with ⟨q, e⟩ | ⟨q, e⟩
    · cases e; exact Or.inl ⟨fun z => cntC.mp q z.1, rfl⟩
    rcases ite1 e with ⟨q2, e⟩ | ⟨q2, e⟩
    · cases e; exact Or.inl ⟨fun z => cntC.mp q2 z.2.1, rfl⟩
    rcases ite1 e with ⟨q3, e⟩ | ⟨q3, e⟩
    · cases e; exact Or.inl ⟨fun z => cntC.mp q3 z.2.2, rfl⟩
    rcases ite1 e with ⟨-, e⟩ | ⟨-, e⟩
    · cases e; exact Or.inr ⟨⟨F155_1.mp q, F155_1.mp q2, F155_1.mp q3⟩, rfl⟩
    · cases e)
  have fr := askF (m := m) (m1 := m1) (by rcases cl with ⟨-, -, z⟩ | ⟨-, -, z⟩; exact Or.inl z; exact Or.inr ⟨_, z⟩)
  have md : (¬ ((0 ≤ x ∧ x < m (pA (m 0 4)) 14) ∧ (0 ≤ w ∧ w < m (pA (m 0 4)) 11) ∧ (0 ≤ v ∧ v < m (pA (m 0 4)) 14)) ∧ m2 = yup m1 376 57 1) ∨ (((0 ≤ x ∧ x < m (pA (m 0 4)) 14) ∧ (0 ≤ w ∧ w < m (pA (m 0 4)) 11) ∧ (0 ≤ v ∧ v < m (pA (m 0 4)) 14)) ∧ b = m (F83 x w) v.toNat ∧ m2 = yup m1 376 57 0) := by
    have J : ∀ {z : Int}, J166_41 g x w v z m1 = some (b, m2) → (¬ (m 376 19 ≠ 0 ∧ z ≠ 0) ∧ m2 = yup m1 376 57 1) ∨ ((m 376 19 ≠ 0 ∧ z ≠ 0) ∧ b = yup m1 376 57 0 405 (wr ((wr ((wr (96 * x)) + (wr (12 * w)))) + v)).toNat ∧ m2 = yup m1 376 57 0) := by
      intro z e
      unfold J166_41 at e
      replace e := bI_e e
      obtain ⟨r, n, e1, e⟩ := e
      rcases F162_r e1 with ⟨z1, z2, rfl, rfl⟩ | ⟨z1, rfl, rfl⟩
      · rw [if_neg (by decide)] at e
        cases e
        rw [fr 376 19 (by decide)] at z1
        exact Or.inr ⟨⟨z1, z2⟩, rfl, rfl⟩
      · rw [if_pos rfl] at e
        cases e
        rw [fr 376 19 (by decide)] at z1
        exact Or.inl ⟨z1, rfl⟩
    have bad : ∀ {P : Prop}, J166_40 g x w v m1 = some (b, m2) → ¬ P → (¬ P ∧ m2 = yup m1 376 57 1) := by
      intro P e hP
      unfold J166_40 at e
      rcases J e with ⟨-, z⟩ | ⟨z, -⟩
      · exact ⟨hP, z⟩
      · exact absurd rfl z.2
    unfold F166 F161 at h2
    rw [fr 376 19 (by decide), fr 376 18 (by decide), hp18, Int.toNat_natCast, fr 388 p (by decide), fr 385 p (by decide)] at h2
    rcases ct with ⟨c19, c10, c11, c12, c13, c14, c15⟩ | ⟨c19, c84, c10, c11, c12, c13, c14, c15, d10, d11, d12, d13, d14, d15, G, V, hQ⟩
    · rw [if_pos c19, if_pos rfl] at h2
      exact Or.inl (bad h2 (fun y => by omega))
    · rw [if_neg (show ¬ m 376 19 = 0 by omega), if_neg (show ¬ m 376 19 = 0 by omega), ← c14, ← c11] at h2
      by_cases y1 : F22 x 0 (wr (m (pA (m 0 4)) 14 - 1)) = 0
      · rw [if_pos y1, if_pos rfl] at h2
        exact Or.inl (bad h2 (fun y => (cntM (by omega)).mp y1 y.1))
      rw [if_neg y1, if_neg (by decide)] at h2
      have y1' := cntN (by omega) y1
      by_cases y2 : F22 v 0 (wr (m (pA (m 0 4)) 14 - 1)) = 0
      · rw [if_pos y2, if_pos rfl] at h2
        exact Or.inl (bad h2 (fun y => (cntM (by omega)).mp y2 y.2.2))
      rw [if_neg y2, if_neg (by decide)] at h2
      have y2' := cntN (by omega) y2
      by_cases y3 : F22 w 0 (wr (m (pA (m 0 4)) 11 - 1)) = 0
      · rw [if_pos y3] at h2
        exact Or.inl (bad h2 (fun y => (cntM (by omega)).mp y3 y.2.1))
      rw [if_neg y3] at h2
      have y3' := cntN (by omega) y3
      rcases J h2 with ⟨z, -⟩ | ⟨-, z1, z2⟩
      · exact absurd ⟨by omega, by decide⟩ z
      · refine Or.inr ⟨⟨y1', y3', y2'⟩, ?_, z2⟩
        obtain ⟨xn, rfl⟩ : ∃ xn : Nat, x = xn := ⟨x.toNat, by omega⟩
        obtain ⟨wn, rfl⟩ : ∃ wn : Nat, w = wn := ⟨w.toNat, by omega⟩
        obtain ⟨vn, rfl⟩ : ∃ vn : Nat, v = vn := ⟨v.toNat, by omega⟩
        rw [z1, ix96 (by omega) (by omega) (by omega), yup_na (by decide), fr 405 _ (by decide), Int.toNat_natCast, Int.toNat_natCast, F83_e (by omega) (by omega)]
        exact (hQ 1 (8 * xn + wn) vn (by decide) (by show 8 * xn + wn < 96; omega) (by show vn < 12; omega)).1.symm
  refine askE cl md (fun hC => ?_)
  rcases ct with ⟨c19, c10, c11, c12, c13, c14, c15⟩ | ⟨c19, c84, c10, c11, c12, c13, c14, c15, d10, d11, d12, d13, d14, d15, G, V, hQ⟩
  · omega
  · obtain ⟨⟨a1, a2⟩, ⟨a3, a4⟩, a5, a6⟩ := hC
    obtain ⟨xn, rfl⟩ : ∃ xn : Nat, x = xn := ⟨x.toNat, by omega⟩
    obtain ⟨wn, rfl⟩ : ∃ wn : Nat, w = wn := ⟨w.toNat, by omega⟩
    rw [F83_e (by omega) (by omega)]
    have := (hQ 1 (8 * xn + wn) v.toNat (by decide) (by show 8 * xn + wn < 96; omega) (by show v.toNat < 12; omega)).2.1
    exact ⟨by omega, by omega⟩
theorem aliasQ {x w k b : Int} (hI : IQ m) (hx : rg x) (hw : rg w) (h1 : F181 f x w m = some (k, m1)) (h2 : F182 g x w m1 = some (b, m2)) : IQ m2 ∧ m2 376 57 = k ∧ (k = 0 → m2 413 0 = b ∧ rg b) := by
  have hI2 : IQ m2 := hI.fr ((show KP PQ m m1 from kcq_F181 (fun a q h => by unfold PQ at h; omega) KP.rf _ h1).tr (show KP PQ m1 m2 from kmq_F182 (fun a q h => by unfold PQ at h; omega) KP.rf _ h2))
  refine ⟨hI2, ?_⟩
  obtain ⟨-, -, ⟨h4, h18⟩, -, hc⟩ := hI
  obtain ⟨p, hp, hp18⟩ : ∃ p : Nat, p ≤ 1 ∧ m 376 18 = (p : Int) := ⟨(m 376 18).toNat, by omega, by omega⟩
  rw [hp18, Int.toNat_natCast] at hc
  have hA := pA_is (m 0 4)
  have ct := hc.cnt
  -- both may be the same site
  obtain ⟨S, hS⟩ : ∃ S : Prop, S = ∃ j : Nat, (j : Int) < m (pA (m 0 4)) 14 ∧ m (10 + x.toNat) j ≠ -1 ∧ m (10 + w.toNat) j ≠ -1 := ⟨_, rfl⟩
  have hdec : S ∨ ¬ S := Classical.em S
  unfold F181 at h1
  have cl : ∃ v0 : Int, (v0 = 0 ∧ ¬ S ∨ v0 = 1 ∧ S) ∧ ((¬ ((0 ≤ x ∧ x < m (pA (m 0 4)) 15) ∧ (0 ≤ w ∧ w < m (pA (m 0 4)) 15)) ∧ k = 1 ∧ m1 = m) ∨ (((0 ≤ x ∧ x < m (pA (m 0 4)) 15) ∧ (0 ≤ w ∧ w < m (pA (m 0 4)) 15)) ∧ k = 0 ∧ m1 = yup m 413 0 (i2l v0).toInt)) := by
    have main : ∀ (v0 : Int), (v0 = 0 ∧ ¬ S ∨ v0 = 1 ∧ S) → ∀ z, F180 f x w m = some z → (¬ ((0 ≤ x ∧ x < m (pA (m 0 4)) 15) ∧ (0 ≤ w ∧ w < m (pA (m 0 4)) 15)) ∧ z = (.inr 11, m)) ∨ (((0 ≤ x ∧ x < m (pA (m 0 4)) 15) ∧ (0 ≤ w ∧ w < m (pA (m 0 4)) 15)) ∧ z = (.inl v0, m)) := by
      intro v0 hv0 z e
      unfold F180 F156 J180_16 at e
      rcases ite1 e with ⟨q, e⟩ | ⟨q, e⟩
      · cases e; exact Or.inl ⟨fun z => cntC.mp q z.1, rfl⟩
      rcases ite1 e with ⟨q2, e⟩ | ⟨q2, e⟩
      · cases e; exact Or.inl ⟨fun z => cntC.mp q2 z.2, rfl⟩
      refine Or.inr ⟨⟨F155_1.mp q, F155_1.mp q2⟩, ?_⟩
      have a1 := F155_1.mp q
      have a2 := F155_1.mp q2
      replace e := bP_e e
      obtain ⟨r, er, e⟩ := e
      rcases ct with ⟨c19, c10, c11, c12, c13, c14, c15⟩ | ⟨c19, c84, c10, c11, c12, c13, c14, c15, d10, d11, d12, d13, d14, d15, G, V, hQ⟩
      · omega
      rw [c84, pA_pX hA] at er
      unfold F179 at er
      have K : ∀ l : Int, 0 ≤ l → l ≤ m (pA (m 0 4)) 14 → (l < m (pA (m 0 4)) 14 ∧ (m (10 + x.toNat) l.toNat ≠ -1 ∧ m (10 + w.toNat) l.toNat ≠ -1) ∧ B179_2 f (pA (m 0 4)) x w l m = some (.inr (.inr 1))) ∨ (l < m (pA (m 0 4)) 14 ∧ ¬ (m (10 + x.toNat) l.toNat ≠ -1 ∧ m (10 + w.toNat) l.toNat ≠ -1) ∧ B179_2 f (pA (m 0 4)) x w l m = some (.inl (wr (l + 1)))) ∨ (¬ l < m (pA (m 0 4)) 14 ∧ B179_2 f (pA (m 0 4)) x w l m = some (.inr (.inl l))) := by
        intro l l1 l2
        unfold B179_2 J179_39
        by_cases q : l < m (pA (m 0 4)) 14
        · rw [if_pos q, if_pos (by omega)]
          by_cases q3 : m (10 + x.toNat) l.toNat = -1
          · rw [if_pos q3]; exact Or.inr (Or.inl ⟨q, fun z => z.1 q3, rfl⟩)
          · rw [if_neg q3, if_pos (by omega)]
            by_cases q4 : m (10 + w.toNat) l.toNat = -1
            · rw [if_pos q4]; exact Or.inr (Or.inl ⟨q, fun z => z.2 q4, rfl⟩)
            · rw [if_neg q4]; exact Or.inl ⟨q, ⟨q3, q4⟩, rfl⟩
        · rw [if_neg q]; exact Or.inr (Or.inr ⟨q, rfl⟩)
      have inv : ∀ l l' : Int, (0 ≤ l ∧ l ≤ m (pA (m 0 4)) 14 ∧ ∀ j : Nat, (j : Int) < l → ¬ (m (10 + x.toNat) j ≠ -1 ∧ m (10 + w.toNat) j ≠ -1)) → B179_2 f (pA (m 0 4)) x w l m = some (.inl l') → (0 ≤ l' ∧ l' ≤ m (pA (m 0 4)) 14 ∧ ∀ j : Nat, (j : Int) < l' → ¬ (m (10 + x.toNat) j ≠ -1 ∧ m (10 + w.toNat) j ≠ -1)) := by
        intro l l' ⟨i1, i2, i3⟩ e
        rcases K l i1 i2 with ⟨-, -, z⟩ | ⟨z0, z1, z⟩ | ⟨-, z⟩
        · rw [z] at e; cases e
        · rw [z, wr_i (by omega) (by omega)] at e
          cases e
          refine ⟨by omega, by omega, fun j hj => ?_⟩
          by_cases y : (j : Int) = l
          · have : l.toNat = j := by omega
            rw [← this]; exact z1
          · exact i3 j (by omega)
        · rw [z] at e; cases e
      have hI0 : (0 ≤ (0 : Int) ∧ (0 : Int) ≤ m (pA (m 0 4)) 14 ∧ ∀ j : Nat, (j : Int) < 0 → ¬ (m (10 + x.toNat) j ≠ -1 ∧ m (10 + w.toNat) j ≠ -1)) := ⟨by omega, by omega, fun j hj => by omega⟩
      have rr : (r = 0 ∧ ¬ S) ∨ (r = 1 ∧ S) := by
        rcases bQ_e er with ⟨l, y1, y2⟩ | ⟨l, y1, y2⟩
        · obtain ⟨l', ⟨i1, i2, i3⟩, e3⟩ := ploop_inv _ inv _ _ _ hI0 y1
          cases y2
          rcases K l' i1 i2 with ⟨-, -, z⟩ | ⟨-, -, z⟩ | ⟨z0, z⟩
          · rw [z] at e3; cases e3
          · rw [z] at e3; cases e3
          · left
            refine ⟨rfl, ?_⟩
            rw [hS]
            rintro ⟨j, j1, j2, j3⟩
            exact i3 j (by omega) ⟨j2, j3⟩
        · obtain ⟨l', ⟨i1, i2, i3⟩, e3⟩ := ploop_inv _ inv _ _ _ hI0 y1
          cases y2
          rcases K l' i1 i2 with ⟨z0, z1, z⟩ | ⟨-, -, z⟩ | ⟨-, z⟩
          · rw [z] at e3; cases e3
            right
            refine ⟨rfl, ?_⟩
            rw [hS]
            exact ⟨l'.toNat, by omega, z1.1, z1.2⟩
          · rw [z] at e3; cases e3
          · rw [z] at e3; cases e3
      rcases ite1 e with ⟨z0, e⟩ | ⟨z0, e⟩
      · cases e
        rcases rr with ⟨-, y⟩ | ⟨y, -⟩
        · rcases hv0 with ⟨rfl, -⟩ | ⟨-, y'⟩
          · rfl
          · exact absurd y' y
        · omega
      · cases e
        rcases rr with ⟨y, -⟩ | ⟨-, y⟩
        · exact absurd y z0
        · rcases hv0 with ⟨-, y'⟩ | ⟨rfl, -⟩
          · exact absurd y y'
          · rfl
    rcases hdec with hd | hd
    · exact ⟨1, Or.inr ⟨rfl, hd⟩, askT (m := m) h1 (main 1 (Or.inr ⟨rfl, hd⟩))⟩
    · exact ⟨0, Or.inl ⟨rfl, hd⟩, askT (m := m) h1 (main 0 (Or.inl ⟨rfl, hd⟩))⟩
  obtain ⟨v0, hv0, cl⟩ := cl
  have fr := askF (m := m) (m1 := m1) (by rcases cl with ⟨-, -, z⟩ | ⟨-, -, z⟩; exact Or.inl z; exact Or.inr ⟨_, z⟩)
  have md : (¬ ((0 ≤ x ∧ x < m (pA (m 0 4)) 15) ∧ (0 ≤ w ∧ w < m (pA (m 0 4)) 15)) ∧ m2 = yup m1 376 57 1) ∨ (((0 ≤ x ∧ x < m (pA (m 0 4)) 15) ∧ (0 ≤ w ∧ w < m (pA (m 0 4)) 15)) ∧ b = v0 ∧ m2 = yup m1 376 57 0) := by
    have J : ∀ {z : Int}, J182_22 g x w z m1 = some (b, m2) → (¬ (m 376 19 ≠ 0 ∧ z ≠ 0) ∧ m2 = yup m1 376 57 1) ∨ ((m 376 19 ≠ 0 ∧ z ≠ 0) ∧ bL (yloop (fun (l : Int) ml => B182_32 g x w l ml) g 0 (yup m1 376 57 0)) (fun _ n => some ((0 : Int), n)) (fun r mr => some (r, mr)) = some (b, m2)) := by
      intro z e
      unfold J182_22 at e
      replace e := bI_e e
      obtain ⟨r, n, e1, e⟩ := e
      rcases F162_r e1 with ⟨z1, z2, rfl, rfl⟩ | ⟨z1, rfl, rfl⟩
      · rw [if_neg (by decide)] at e
        rw [fr 376 19 (by decide)] at z1
        exact Or.inr ⟨⟨z1, z2⟩, e⟩
      · rw [if_pos rfl] at e
        cases e
        rw [fr 376 19 (by decide)] at z1
        exact Or.inl ⟨z1, rfl⟩
    have bad : ∀ {P : Prop}, J182_21 g x w m1 = some (b, m2) → ¬ P → (¬ P ∧ m2 = yup m1 376 57 1) := by
      intro P e hP
      unfold J182_21 at e
      rcases J e with ⟨-, z⟩ | ⟨z, -⟩
      · exact ⟨hP, z⟩
      · exact absurd rfl z.2
    unfold F182 F160 at h2
    rw [fr 376 19 (by decide), fr 376 18 (by decide), hp18, Int.toNat_natCast, fr 389 p (by decide)] at h2
    rcases ct with ⟨c19, c10, c11, c12, c13, c14, c15⟩ | ⟨c19, c84, c10, c11, c12, c13, c14, c15, d10, d11, d12, d13, d14, d15, G, V, hQ⟩
    · rw [if_pos c19, if_pos rfl] at h2
      exact Or.inl (bad h2 (fun y => by omega))
    · rw [if_neg (show ¬ m 376 19 = 0 by omega), if_neg (show ¬ m 376 19 = 0 by omega), ← c15] at h2
      by_cases y1 : F22 x 0 (wr (m (pA (m 0 4)) 15 - 1)) = 0
      · rw [if_pos y1, if_pos rfl] at h2
        exact Or.inl (bad h2 (fun y => (cntM (by omega)).mp y1 y.1))
      rw [if_neg y1, if_neg (by decide)] at h2
      have y1' := cntN (by omega) y1
      by_cases y2 : F22 w 0 (wr (m (pA (m 0 4)) 15 - 1)) = 0
      · rw [if_pos y2, if_pos rfl] at h2
        exact Or.inl (bad h2 (fun y => (cntM (by omega)).mp y2 y.2))
      rw [if_neg y2, if_neg (by decide)] at h2
      have y2' := cntN (by omega) y2
      rcases J h2 with ⟨z, -⟩ | ⟨-, z1⟩
      · exact absurd ⟨by omega, by decide⟩ z
      · refine Or.inr ⟨⟨y1', y2'⟩, ?_⟩
        obtain ⟨xn, rfl⟩ : ∃ xn : Nat, x = xn := ⟨x.toNat, by omega⟩
        obtain ⟨wn, rfl⟩ : ∃ wn : Nat, w = wn := ⟨w.toNat, by omega⟩
        rw [Int.toNat_natCast, Int.toNat_natCast] at hS
        have f4 : ∀ v j : Nat, v < 48 → j < 12 → yup m1 376 57 0 404 (12 * v + j) = m (10 + v) j := fun v j z1 z2 => by
          rw [yup_na (by decide), fr 404 _ (by decide)]
          exact (hQ 0 v j (by decide) z1 z2).1.symm
        have g4 : ∀ v j : Nat, v < 48 → j < 12 → -1 ≤ m (10 + v) j := fun v j z1 z2 => (hQ 0 v j (by decide) z1 z2).2.1.1
        have K : ∀ (l : Int) (n : yM) y, (∃ j : Nat, l = j ∧ (j : Int) ≤ m (pA (m 0 4)) 14 ∧ n = yup m1 376 57 0 ∧ ∀ i : Nat, i < j → ¬ (m (10 + xn) i ≠ -1 ∧ m (10 + wn) i ≠ -1)) → B182_32 g (xn : Int) (wn : Int) l n = some y → (∃ l', y = .inl (l', n) ∧ (∃ j : Nat, l' = j ∧ (j : Int) ≤ m (pA (m 0 4)) 14 ∧ n = yup m1 376 57 0 ∧ ∀ i : Nat, i < j → ¬ (m (10 + xn) i ≠ -1 ∧ m (10 + wn) i ≠ -1))) ∨ (y = .inr (.inr (1, n)) ∧ S) ∨ (y = .inr (.inl (l, n)) ∧ ¬ S) := by
          rintro l n y ⟨j, rfl, j1, rfl, j3⟩ e
          unfold B182_32 J182_75 at e
          have k18 : yup m1 376 57 0 376 18 = p := by rw [yup_nk (by decide), fr 376 18 (by decide)]; exact hp18
          rw [k18, Int.toNat_natCast, yup_na (by decide), fr 388 p (by decide), ← c14] at e
          rcases ite1 e with ⟨q, e⟩ | ⟨q, e⟩
          · rw [ix12 (by omega) (by omega), ix12 (by omega) (by omega), f4 xn j (by omega) (by omega), f4 wn j (by omega) (by omega), wr_i (by omega) (by omega)] at e
            have n1 := g4 xn j (by omega) (by omega)
            have n2 := g4 wn j (by omega) (by omega)
            have nx : ¬ (m (10 + xn) j ≠ -1 ∧ m (10 + wn) j ≠ -1) → (∃ l', (.inl ((j : Int) + 1, yup m1 376 57 0) : (Int × yM) ⊕ ((Int × yM) ⊕ (Int × yM))) = .inl (l', yup m1 376 57 0) ∧ (∃ j : Nat, l' = j ∧ (j : Int) ≤ m (pA (m 0 4)) 14 ∧ yup m1 376 57 0 = yup m1 376 57 0 ∧ ∀ i : Nat, i < j → ¬ (m (10 + xn) i ≠ -1 ∧ m (10 + wn) i ≠ -1))) := fun hn => ⟨_, rfl, j + 1, by omega, by omega, rfl, fun i hi => by
              by_cases y : i = j
              · subst y; exact hn
              · exact j3 i (by omega)⟩
            rcases ite1 e with ⟨q2, e⟩ | ⟨q2, e⟩
            · cases e
              exact Or.inl (nx (fun z => z.1 (by omega)))
            rcases ite1 e with ⟨q3, e⟩ | ⟨q3, e⟩
            · cases e
              exact Or.inl (nx (fun z => z.2 (by omega)))
            · cases e
              refine Or.inr (Or.inl ⟨rfl, ?_⟩)
              rw [hS]
              exact ⟨j, q, by omega, by omega⟩
          · cases e
            refine Or.inr (Or.inr ⟨rfl, ?_⟩)
            rw [hS]
            rintro ⟨i, i1, i2, i3⟩
            exact j3 i (by omega) ⟨i2, i3⟩
        have hI0 : (∃ j : Nat, (0 : Int) = j ∧ (j : Int) ≤ m (pA (m 0 4)) 14 ∧ yup m1 376 57 0 = yup m1 376 57 0 ∧ ∀ i : Nat, i < j → ¬ (m (10 + xn) i ≠ -1 ∧ m (10 + wn) i ≠ -1)) := ⟨0, rfl, by omega, rfl, fun i hi => by omega⟩
        have stp : ∀ (l : Int) (n : yM) (l' : Int) (n' : yM), (∃ j : Nat, l = j ∧ (j : Int) ≤ m (pA (m 0 4)) 14 ∧ n = yup m1 376 57 0 ∧ ∀ i : Nat, i < j → ¬ (m (10 + xn) i ≠ -1 ∧ m (10 + wn) i ≠ -1)) → B182_32 g (xn : Int) (wn : Int) l n = some (.inl (l', n')) → (∃ j : Nat, l' = j ∧ (j : Int) ≤ m (pA (m 0 4)) 14 ∧ n' = yup m1 376 57 0 ∧ ∀ i : Nat, i < j → ¬ (m (10 + xn) i ≠ -1 ∧ m (10 + wn) i ≠ -1)) := by
          intro l n l' n' hI hB
          rcases K l n _ hI hB with ⟨l2, z, z2⟩ | ⟨z, -⟩ | ⟨z, -⟩
          · cases z; exact z2
          · cases z
          · cases z
        rcases bL_e z1 with ⟨l, n, y3, y4⟩ | ⟨l, n, y3, y4⟩
        · obtain ⟨l', n', hI, e3⟩ := yloop_inv _ stp _ _ _ _ hI0 y3
          cases y4
          rcases K l' n' _ hI e3 with ⟨l2, z, -⟩ | ⟨z, -⟩ | ⟨z, z2⟩
          · cases z
          · cases z
          · cases z
            obtain ⟨-, -, -, j2, -⟩ := hI
            rcases hv0 with ⟨rfl, -⟩ | ⟨-, y⟩
            · exact ⟨rfl, j2⟩
            · exact absurd y z2
        · obtain ⟨l', n', hI, e3⟩ := yloop_inv _ stp _ _ _ _ hI0 y3
          cases y4
          rcases K l' n' _ hI e3 with ⟨l2, z, -⟩ | ⟨z, z2⟩ | ⟨z, -⟩
          · cases z
          · cases z
            obtain ⟨-, -, -, j2, -⟩ := hI
            rcases hv0 with ⟨-, y⟩ | ⟨rfl, -⟩
            · exact absurd z2 y
            · exact ⟨rfl, j2⟩
          · cases z
  refine askE cl md (fun hC => ?_)
  rcases hv0 with ⟨rfl, -⟩ | ⟨rfl, -⟩ <;> exact ⟨by decide, by decide⟩
end QV
/-! SAFE: a cast's statement, its sites one by one -/
/-- the site j can't come to the cast, or passes it: class, model -/
def sG (f A v : Nat) (tc : Int) (m : yM) (j : Nat) : Prop := m (10 + v) j = -1 ∨ ∃ r, r ≠ 0 ∧ F81 f A (m (A + 8) j) tc m = some r
def sH (g p v : Nat) (tc : Int) (m : yM) (j : Nat) : Prop := m 404 (12 * v + j) < 0 ∨ ∃ r, r ≠ 0 ∧ F149 g p (m 400 (12 * p + j)) tc m = some r
section QS
variable {A p s o f g : Nat} {m m1 m2 : yM}
theorem F175_r {S v : Nat} {tc r : Int} (h14 : 0 ≤ m A 14 ∧ m A 14 ≤ 12) (s3 : m S 3 = v) (hv : v < 48) (s7 : m S 7 = tc) (h : F175 f A S m = some r) : (r = 1 ∧ ∀ j : Nat, (j : Int) < m A 14 → sG f A v tc m j) ∨ (r = 0 ∧ ∃ j : Nat, (j : Int) < m A 14 ∧ m (10 + v) j ≠ -1 ∧ F81 f A (m (A + 8) j) tc m = some 0) := by
  have st : ∀ (l : Int) y, 0 ≤ l → B175_2 f A S l m = some y → (l < m A 14 ∧ sG f A v tc m l.toNat ∧ y = .inl (l + 1)) ∨ (l < m A 14 ∧ m (10 + v) l.toNat ≠ -1 ∧ F81 f A (m (A + 8) l.toNat) tc m = some 0 ∧ y = .inr (.inr 0)) ∨ (¬ l < m A 14 ∧ y = .inr (.inl l)) := by
    intro l y hl e
    unfold B175_2 J175_53 at e
    rw [s3, s7, Int.toNat_natCast] at e
    rcases ite1 e with ⟨q, e⟩ | ⟨q, e⟩
    · rw [if_pos (by omega), wr_i (x := l + 1) (by omega) (by omega)] at e
      rcases ite1 e with ⟨q2, e⟩ | ⟨q2, e⟩
      · cases e
        exact Or.inl ⟨q, Or.inl q2, rfl⟩
      · replace e := bP_e e
        obtain ⟨r, er, e⟩ := e
        rcases ite1 e with ⟨q3, e⟩ | ⟨q3, e⟩
        · cases e
          exact Or.inr (Or.inl ⟨q, q2, by rw [q3] at er; exact er, rfl⟩)
        · cases e
          exact Or.inl ⟨q, Or.inr ⟨r, q3, er⟩, rfl⟩
    · cases e
      exact Or.inr (Or.inr ⟨q, rfl⟩)
  have inv : ∀ l l' : Int, (0 ≤ l ∧ l ≤ m A 14 ∧ ∀ j : Nat, (j : Int) < l → sG f A v tc m j) → B175_2 f A S l m = some (.inl l') → (0 ≤ l' ∧ l' ≤ m A 14 ∧ ∀ j : Nat, (j : Int) < l' → sG f A v tc m j) := by
    intro l l' ⟨i1, i2, i3⟩ e
    rcases st l _ i1 e with ⟨z0, z1, z⟩ | ⟨-, -, -, z⟩ | ⟨-, z⟩
    · cases z
      refine ⟨by omega, by omega, fun j hj => ?_⟩
      by_cases y : (j : Int) = l
      · have : l.toNat = j := by omega
        rw [← this]; exact z1
      · exact i3 j (by omega)
    · cases z
    · cases z
  have I0 : (0 ≤ (0 : Int) ∧ (0 : Int) ≤ m A 14 ∧ ∀ j : Nat, (j : Int) < 0 → sG f A v tc m j) := ⟨by omega, by omega, fun j hj => by omega⟩
  unfold F175 at h
  rcases bQ_e h with ⟨l, y1, y2⟩ | ⟨l, y1, y2⟩
  · obtain ⟨l', ⟨i1, i2, i3⟩, e3⟩ := ploop_inv _ inv _ _ _ I0 y1
    cases y2
    rcases st l' _ i1 e3 with ⟨-, -, z⟩ | ⟨-, -, -, z⟩ | ⟨z0, z⟩
    · cases z
    · cases z
    · exact Or.inl ⟨rfl, fun j hj => i3 j (by omega)⟩
  · obtain ⟨l', ⟨i1, i2, i3⟩, e3⟩ := ploop_inv _ inv _ _ _ I0 y1
    cases y2
    rcases st l' _ i1 e3 with ⟨-, -, z⟩ | ⟨z0, z1, z2, z⟩ | ⟨-, z⟩
    · cases z
    · cases z
      exact Or.inr ⟨rfl, l'.toNat, by omega, z1, z2⟩
    · cases z
theorem F178_l {v c n : Nat} {tc b : Int} (hp : p ≤ 1) (h18 : m 376 18 = p) (h388 : m 388 p = n) (hn : n ≤ 12) (hv : v < 48) (hc : c < 8) (h402 : m 402 (8 * p + c) = tc) (h : bL (yloop (fun (l : Int) ml => B178_42 g (c : Int) (v : Int) l ml) g 0 m) (fun _ n => some ((1 : Int), n)) (fun r mr => some (r, mr)) = some (b, m2)) : m2 = m ∧ ((b = 1 ∧ ∀ j : Nat, j < n → sH g p v tc m j) ∨ (b = 0 ∧ ∃ j : Nat, j < n ∧ ¬ m 404 (12 * v + j) < 0 ∧ F149 g p (m 400 (12 * p + j)) tc m = some 0)) := by
  have st : ∀ (l : Int) (m' : yM) y, (∃ j : Nat, l = j ∧ j ≤ n ∧ m' = m ∧ ∀ i : Nat, i < j → sH g p v tc m i) → B178_42 g (c : Int) (v : Int) l m' = some y → (∃ l', y = .inl (l', m') ∧ ∃ j : Nat, l' = j ∧ j ≤ n ∧ m' = m ∧ ∀ i : Nat, i < j → sH g p v tc m i) ∨ (y = .inr (.inr (0, m')) ∧ ∃ j : Nat, j < n ∧ ¬ m 404 (12 * v + j) < 0 ∧ F149 g p (m 400 (12 * p + j)) tc m = some 0) ∨ (y = .inr (.inl (l, m')) ∧ ∀ j : Nat, j < n → sH g p v tc m j) := by
    rintro l m' y ⟨j, rfl, hj, hm, hi⟩ e
    rw [hm] at e
    rw [hm]
    unfold B178_42 J178_110 at e
    rw [h18, Int.toNat_natCast, h388] at e
    rcases ite1 e with ⟨q, e⟩ | ⟨q, e⟩
    · rw [ix12 hv (by omega), ixp12 hp (by omega), ixp8 hp (by omega), h402, wr_i (x := (j : Int) + 1) (by omega) (by omega)] at e
      have nx : sH g p v tc m j → (∃ l', (.inl ((j : Int) + 1, m) : (Int × yM) ⊕ ((Int × yM) ⊕ (Int × yM))) = .inl (l', m) ∧ ∃ j : Nat, l' = j ∧ j ≤ n ∧ m = m ∧ ∀ i : Nat, i < j → sH g p v tc m i) := fun hz => ⟨_, rfl, j + 1, by omega, by omega, rfl, fun i i1 => by
        by_cases y : i = j
        · rw [y]; exact hz
        · exact hi i (by omega)⟩
      rcases ite1 e with ⟨q2, e⟩ | ⟨q2, e⟩
      · cases e
        exact Or.inl (nx (Or.inl q2))
      · replace e := bP_e e
        obtain ⟨r, er, e⟩ := e
        rcases ite1 e with ⟨q3, e⟩ | ⟨q3, e⟩
        · cases e
          exact Or.inr (Or.inl ⟨rfl, j, by omega, q2, by rw [q3] at er; exact er⟩)
        · cases e
          exact Or.inl (nx (Or.inr ⟨r, q3, er⟩))
    · cases e
      exact Or.inr (Or.inr ⟨rfl, fun i hi2 => hi i (by omega)⟩)
  have I0 : (∃ j : Nat, (0 : Int) = j ∧ j ≤ n ∧ m = m ∧ ∀ i : Nat, i < j → sH g p v tc m i) := ⟨0, rfl, by omega, rfl, fun i hi => by omega⟩
  have stp : ∀ (l : Int) (n1 : yM) (l' : Int) (n2 : yM), (∃ j : Nat, l = j ∧ j ≤ n ∧ n1 = m ∧ ∀ i : Nat, i < j → sH g p v tc m i) → B178_42 g (c : Int) (v : Int) l n1 = some (.inl (l', n2)) → (∃ j : Nat, l' = j ∧ j ≤ n ∧ n2 = m ∧ ∀ i : Nat, i < j → sH g p v tc m i) := by
    intro l n1 l' n2 hI hB
    rcases st l n1 _ hI hB with ⟨l2, z, z2⟩ | ⟨z, -⟩ | ⟨z, -⟩
    · cases z; exact z2
    · cases z
    · cases z
  rcases bL_e h with ⟨l, n1, y3, y4⟩ | ⟨l, n1, y3, y4⟩
  · obtain ⟨l', n', hI, e3⟩ := yloop_inv _ stp _ _ _ _ I0 y3
    cases y4
    rcases st l' n' _ hI e3 with ⟨l2, z, -⟩ | ⟨z, -⟩ | ⟨z, z2⟩
    · cases z
    · cases z
    · cases z
      obtain ⟨-, -, -, j2, -⟩ := hI
      exact ⟨j2, Or.inl ⟨rfl, z2⟩⟩
  · obtain ⟨l', n', hI, e3⟩ := yloop_inv _ stp _ _ _ _ I0 y3
    cases y4
    rcases st l' n' _ hI e3 with ⟨l2, z, -⟩ | ⟨z, z2⟩ | ⟨z, -⟩
    · cases z
    · cases z
      obtain ⟨-, -, -, j2, -⟩ := hI
      exact ⟨j2, Or.inr ⟨rfl, z2⟩⟩
    · cases z
/-- the cast c, its statement -/
theorem RPG.cast {c : Nat} (h : RPG A p s o m m) (hc : (c : Int) < m A 13) : ∃ t : Nat, t < s ∧ m (A + 9) c = t ∧ (0 ≤ m (A + 20 + t) 3 ∧ m (A + 20 + t) 3 < 48) ∧ m 401 (8 * p + c) = m (A + 20 + t) 3 ∧ m 402 (8 * p + c) = m (A + 20 + t) 7 ∧ 0 ≤ m (A + 20 + t) 7 := by
  obtain ⟨r1, r2, r3, r4, ⟨-, -, -, hCA, -⟩, r6, ⟨N, r7⟩, r8⟩ := h
  obtain ⟨⟨t, t1, t2, t3⟩, inj⟩ := hCA c hc
  refine ⟨t, t1, t2, ?_⟩
  obtain ⟨u, u1, hu⟩ := r7.all t (by omega) t1
  rcases hu with hu | hu
  · obtain ⟨-, hu⟩ := hu
    rcases hu with z | z | z | z | z | z | z | z
    case inr.inr.inr.inr.inr.inl =>
      obtain ⟨y1, y2, y3, y4, y5, y6, y7, y8, y9, y10, y11, y12, y13, y14⟩ := z
      have e : (m 403 (1000 * p + 8 * u + 4)).toNat = c := inj _ (by omega) (by rw [y10, t2])
      rw [e] at y11 y12
      exact ⟨⟨y6.1, y6.2.1⟩, y11, y12, y13⟩
    all_goals (have := z.1; omega)
  · have := qB.kd hu
    omega
theorem safeQ {x k b : Int} (hI : IQ m) (hx : rg x) (h1 : F177 f x m = some (k, m1)) (h2 : F178 g x m1 = some (b, m2)) : IQ m2 ∧ m2 376 57 = k ∧ (k = 0 → m2 413 0 = b ∧ rg b) := by
  have hI2 : IQ m2 := hI.fr ((show KP PQ m m1 from kcq_F177 (fun a q h => by unfold PQ at h; omega) KP.rf _ h1).tr (show KP PQ m1 m2 from kmq_F178 (fun a q h => by unfold PQ at h; omega) KP.rf _ h2))
  refine ⟨hI2, ?_⟩
  obtain ⟨-, -, ⟨h4, h18⟩, -, hc⟩ := hI
  obtain ⟨p, hp, hp18⟩ : ∃ p : Nat, p ≤ 1 ∧ m 376 18 = (p : Int) := ⟨(m 376 18).toNat, by omega, by omega⟩
  rw [hp18, Int.toNat_natCast] at hc
  have hA := pA_is (m 0 4)
  obtain ⟨A, hAe⟩ : ∃ A, A = pA (m 0 4) := ⟨_, rfl⟩
  rw [← hAe] at hc hA
  have ct := hc.cnt
  unfold F177 at h1
  unfold F178 at h2
  replace h2 := bI_e h2
  obtain ⟨r, n, e1, h2⟩ := h2
  by_cases hC : 0 ≤ x ∧ x < m A 13
  case neg =>
    have z : F176 f x m = some (.inr 11, m) := by
      unfold F176
      rw [← hAe, if_pos (cntC.mpr hC)]
    rcases bT_e h1 with ⟨r2, m', e3, e4⟩ | ⟨r2, m', e3, e4⟩
    · rw [z] at e3; cases e3
    rw [z] at e3
    cases e3
    rw [if_pos rfl] at e4
    cases e4
    rcases F162_r e1 with ⟨z1, z2, -, -⟩ | ⟨z1, rfl, rfl⟩
    · exfalso
      rcases ct with ⟨c19, -⟩ | ⟨c19, c84, c10, c11, c12, c13, c14, c15, d10, d11, d12, d13, -⟩
      · exact z1 c19
      · rw [hp18, Int.toNat_natCast, ← c13] at z2
        exact z2 ((cntM (by omega)).mpr hC)
    · rw [if_pos rfl] at h2
      cases h2
      exact ⟨yup_eq _ _ _ _, fun e => absurd e (by decide)⟩
  obtain ⟨xn, rfl⟩ : ∃ xn : Nat, x = xn := ⟨x.toNat, by omega⟩
  rcases hc with ⟨-, -, -, -, -, c13, -⟩ | ⟨c19, c84, s, o, hR, hQ, -⟩
  · omega
  rcases ct with ⟨c19', -⟩ | ⟨-, -, c10, c11, c12, c13, c14, c15, d10, d11, d12, d13, d14, d15, -⟩
  · omega
  obtain ⟨t, t1, t2, t3, t401, t402, t7⟩ := hR.cast hC.2
  obtain ⟨v, hv⟩ : ∃ v : Nat, m (A + 20 + t) 3 = v := ⟨(m (A + 20 + t) 3).toNat, by omega⟩
  obtain ⟨tc, htc⟩ : ∃ tc, m (A + 20 + t) 7 = tc := ⟨_, rfl⟩
  rw [hv] at t3 t401
  rw [htc] at t402 t7
  have hs40 : s ≤ 40 := hR.2.2.2.2.2.1.2.1
  have cl : ∀ z, F176 f (xn : Int) m = some z → ∃ v0 : Int, z = (.inl v0, m) ∧ ((v0 = 1 ∧ ∀ j : Nat, (j : Int) < m A 14 → sG f A v tc m j) ∨ (v0 = 0 ∧ ∃ j : Nat, (j : Int) < m A 14 ∧ m (10 + v) j ≠ -1 ∧ F81 f A (m (A + 8) j) tc m = some 0)) := by
    intro z e
    unfold F176 at e
    rw [← hAe, if_neg (fun q => cntC.mp q hC), Int.toNat_natCast, t2, if_pos (by omega), Int.toNat_natCast, c84, pA_pX hA] at e
    replace e := bP_e e
    obtain ⟨r5, er, e⟩ := e
    rcases F175_r (by omega) hv (by omega) htc er with ⟨w1, w2⟩ | ⟨w1, w2⟩
    · rw [w1, if_neg (by decide)] at e
      cases e
      exact ⟨1, rfl, Or.inl ⟨rfl, w2⟩⟩
    · rw [if_pos w1] at e
      cases e
      exact ⟨0, rfl, Or.inr ⟨rfl, w2⟩⟩
  rcases bT_e h1 with ⟨r2, m', e3, e4⟩ | ⟨r2, m', e3, e4⟩
  case inr =>
    obtain ⟨v0, z, -⟩ := cl _ e3
    cases z
  obtain ⟨v0, z, hv0⟩ := cl _ e3
  injection z with y1 y2
  injection y1 with y1
  rw [y1, y2] at e4
  injection e4 with e4
  injection e4 with e4k e4m
  have fr : ∀ a q, a ≠ 413 → m1 a q = m a q := fun a q ha => by rw [← e4m]; exact yup_na ha
  rcases F162_r e1 with ⟨z1, z2, rfl, rfl⟩ | ⟨z1, -, -⟩
  case inr =>
    exfalso
    refine z1 ⟨by rw [fr 376 19 (by decide)]; omega, ?_⟩
    rw [fr 376 18 (by decide), hp18, Int.toNat_natCast, fr 387 p (by decide), ← c13]
    exact fun y => (cntM (by omega)).mp y hC
  rw [if_neg (by decide)] at h2
  have k18 : yup m1 376 57 0 376 18 = p := by rw [yup_nk (by decide), fr 376 18 (by decide)]; exact hp18
  have fn : ∀ a q, a ≠ 413 → a ≠ 376 → yup m1 376 57 0 a q = m a q := fun a q z1 z2 => by rw [yup_na z2, fr a q z1]
  rw [k18, ixp8 hp (by omega), fn 401 _ (by decide) (by decide), t401] at h2
  obtain ⟨n14, hn14⟩ : ∃ n14 : Nat, m A 14 = n14 := ⟨(m A 14).toNat, by omega⟩
  obtain ⟨e5, hb⟩ := F178_l (tc := tc) (n := n14) hp k18 (by rw [fn 388 p (by decide) (by decide), ← c14]; exact hn14) (by omega) (by omega) (by omega) (by rw [fn 402 _ (by decide) (by decide)]; exact t402) h2
  have cmp : ∀ (j : Nat) {r r' : Int}, j < n14 → m (10 + v) j ≠ -1 → F81 f A (m (A + 8) j) tc m = some r → F149 g p (yup m1 376 57 0 400 (12 * p + j)) tc (yup m1 376 57 0) = some r' → r = r' := by
    intro j r r' hj hz a1 a2
    have hg := (hQ 0 v j (by decide) (by show v < 48; omega) (by show j < 12; omega)).2.2.1 (by decide) hz
    obtain ⟨g1, g2, g3⟩ := hR.2.2.2.2.2.2.2 j hg
    rw [fn 400 _ (by decide) (by decide), ← g1] at a2
    exact (below_r (hR.1.fr rfl (fun _ _ _ => rfl) (fun b q hb => fn _ _ (by omega) (by omega))) hp t7 g2 g3 a1 a2).1
  have fact : ∀ j : Nat, j < n14 → (yup m1 376 57 0 404 (12 * v + j) = m (10 + v) j ∧ -1 ≤ m (10 + v) j) := fun j hj => by
    have z := hQ 0 v j (by decide) (by show v < 48; omega) (by show j < 12; omega)
    rw [fn 404 _ (by decide) (by decide)]
    exact ⟨z.1.symm, z.2.1.1⟩
  rw [e5, ← e4k]
  refine ⟨yup_eq _ _ _ _, fun _ => ?_⟩
  rw [yup_na (by decide), ← e4m, yup_eq]
  rcases hv0 with ⟨rfl, w⟩ | ⟨rfl, j, j1, j2, j3⟩
  · rcases hb with ⟨rfl, -⟩ | ⟨-, j, j1, j2, j3⟩
    · exact ⟨i2l_i ⟨by decide, by decide⟩, by decide, by decide⟩
    · exfalso
      obtain ⟨y1, y2⟩ := fact j j1
      rcases w j (by omega) with z | ⟨r, q1, q2⟩
      · omega
      · exact q1 (cmp j j1 (by omega) q2 j3)
  · rcases hb with ⟨-, w⟩ | ⟨rfl, -⟩
    · exfalso
      obtain ⟨y1, y2⟩ := fact j (by omega)
      rcases w j (by omega) with z | ⟨r, q1, q2⟩
      · omega
      · exact q1 (cmp j (by omega) j2 j3 q2).symm
    · exact ⟨i2l_i ⟨by decide, by decide⟩, by decide, by decide⟩
end QS

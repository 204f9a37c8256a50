section
/-! READING, for the questions -/
section RQ
variable {A p k s o a f g : Nat} {m m1 m2 mc mm mc' mm' M N : yM}
theorem F73_8 {r : Int} (hP : PRG A p k s o a M N) (h : F73 f A M = some (r, mc')) : mc' (A + 8) 0 = M (A + 8) 0 := by
  have hst := hP.st.1
  obtain ⟨p1, p2, p3, p4, p5, p6, p7, ⟨q1, q2, q3, q4, q5, q6, q7, q8⟩, p8⟩ := hP
  have st : ∀ (l : Int) (m : yM) (y : (Int × yM) ⊕ ((Int × yM) ⊕ (Int × yM))), (0 ≤ l ∧ fNc A M m ∧ (∀ t : Nat, t < s → M (A + 20 + t) 0 = 5 → m (A + 20 + t) 6 = M (A + 20 + t) 6) ∧ m (A + 8) 0 = M (A + 8) 0) → B73_2 f A l m = some y → (∃ l' m', y = .inl (l', m') ∧ (0 ≤ l' ∧ fNc A M m' ∧ (∀ t : Nat, t < s → M (A + 20 + t) 0 = 5 → m' (A + 20 + t) 6 = M (A + 20 + t) 6) ∧ m' (A + 8) 0 = M (A + 8) 0)) ∨ (∃ x m', y = .inr (.inr (x, m')) ∧ m' (A + 8) 0 = M (A + 8) 0) ∨ y = .inr (.inl (l, m)) := by
    intro l m y ⟨i1, i2, i3, i4⟩ e
    unfold B73_2 at e
    rw [i2 A 16 (by omega) (by omega) (by omega), q1] at e
    rcases ite1 e with ⟨ql, e⟩ | ⟨ql, e⟩
    case inr => cases e; exact Or.inr (Or.inr rfl)
    obtain ⟨n, rfl⟩ : ∃ n : Nat, l = n := ⟨l.toNat, by omega⟩
    have hn : n < s := by omega
    have w1 : wr ((n : Int) + 1) = (n : Int) + 1 := wr_i (by omega) (by omega)
    rw [Int.toNat_natCast, i2 (A + 20 + n) 0 (by omega) (by omega) (by omega)] at e
    have s34 : M (A + 20 + n) 0 ≠ 5 → J73_34 f A (n : Int) (A + 20 + n) m = some y → (∃ l' m', y = .inl (l', m') ∧ (0 ≤ l' ∧ fNc A M m' ∧ (∀ t : Nat, t < s → M (A + 20 + t) 0 = 5 → m' (A + 20 + t) 6 = M (A + 20 + t) 6) ∧ m' (A + 8) 0 = M (A + 8) 0)) := by
      intro hk e
      unfold J73_34 J73_112 at e
      replace e := bP_e e
      obtain ⟨v, -, e⟩ := e
      rw [w1] at e
      cases e
      refine ⟨_, _, rfl, by omega, i2.st (by omega) (Or.inl rfl), fun t ht h5 => ?_, by rw [yup_na (by omega)]; exact i4⟩
      rw [yup_na (by rintro z; obtain rfl : t = n := by omega
                     exact hk h5)]
      exact i3 t ht h5
    have s66 : J73_66 f A (n : Int) (A + 20 + n) m = some y → (∃ l' m', y = .inl (l', m') ∧ (0 ≤ l' ∧ fNc A M m' ∧ (∀ t : Nat, t < s → M (A + 20 + t) 0 = 5 → m' (A + 20 + t) 6 = M (A + 20 + t) 6) ∧ m' (A + 8) 0 = M (A + 8) 0)) ∨ (∃ x m', y = .inr (.inr (x, m')) ∧ m' (A + 8) 0 = M (A + 8) 0) := by
      intro e
      unfold J73_66 J73_112 at e
      replace e := bP_e e
      obtain ⟨v, -, e⟩ := e
      rw [w1, i2 (A + 20 + n) 0 (by omega) (by omega) (by omega)] at e
      rcases ite1 e with ⟨-, e⟩ | ⟨-, e⟩
      · cases e
        exact Or.inr ⟨_, _, rfl, by rw [yup_na (by omega)]; exact i4⟩
      left
      rcases ite1 e with ⟨z5, e⟩ | ⟨z5, e⟩
      · rw [i3 n hn z5] at e
        cases e
        have := (hst n hn z5).1
        refine ⟨_, _, rfl, by omega, (i2.st (by omega) (Or.inr rfl)).a8, fun t ht h5 => ?_, by rw [yup_nk (by omega), yup_na (by omega)]; exact i4⟩
        rw [yup_na (by omega), yup_ne (by omega)]
        exact i3 t ht h5
      · cases e
        refine ⟨_, _, rfl, by omega, i2.st (by omega) (Or.inr rfl), fun t ht h5 => ?_, by rw [yup_na (by omega)]; exact i4⟩
        rw [yup_ne (by omega)]
        exact i3 t ht h5
    rcases ite1 e with ⟨k9, e⟩ | ⟨k9, e⟩
    · exact Or.inl (s34 (by omega) e)
    rcases ite1 e with ⟨k3, e⟩ | ⟨k3, e⟩
    · exact Or.inl (s34 (by omega) e)
    rcases ite1 e with ⟨k5, e⟩ | ⟨k5, e⟩
    · rcases s66 e with z | z
      · exact Or.inl z
      · exact Or.inr (Or.inl z)
    rcases ite1 e with ⟨k7, e⟩ | ⟨k7, e⟩
    · rcases s66 e with z | z
      · exact Or.inl z
      · exact Or.inr (Or.inl z)
    unfold J73_112 at e
    rw [w1] at e
    cases e
    exact Or.inl ⟨_, _, rfl, by omega, i2, i3, i4⟩
  unfold F73 at h
  have I0 : (0 ≤ (0 : Int) ∧ fNc A M M ∧ (∀ t : Nat, t < s → M (A + 20 + t) 0 = 5 → M (A + 20 + t) 6 = M (A + 20 + t) 6) ∧ M (A + 8) 0 = M (A + 8) 0) := ⟨by omega, fNc.rf, fun _ _ _ => rfl, rfl⟩
  have go : ∀ {r : (Int × yM) ⊕ (Int × yM)}, yloop (fun (l : Int) ml => B73_2 f A l ml) f 0 M = some r → (∀ x m', r = .inl (x, m') → m' (A + 8) 0 = M (A + 8) 0) ∧ (∀ x m', r = .inr (x, m') → m' (A + 8) 0 = M (A + 8) 0) := by
    intro r e
    obtain ⟨l', m', hI, e3⟩ := yloop_inv _ (fun l m l' m' hI hB => by
      rcases st l m _ hI hB with ⟨l2, m2, z, z2⟩ | ⟨x, m2, z, -⟩ | z
      · cases z; exact z2
      · cases z
      · cases z) _ _ _ _ I0 e
    rcases st l' m' _ hI e3 with ⟨l2, m2, z, -⟩ | ⟨x, m2, z, z2⟩ | z
    · cases z
    · cases z
      exact ⟨fun x m' e => (by cases e), fun x m' e => by cases e; exact z2⟩
    · cases z
      exact ⟨fun x m' e => by cases e; exact hI.2.2.2, fun x m' e => by cases e⟩
  rcases bL_e h with ⟨l, x, e1, e2⟩ | ⟨l, x, e1, e2⟩
  · replace e2 := bP_e e2
    obtain ⟨v, -, e2⟩ := e2
    cases e2
    rw [yup_na (by omega)]
    exact (go e1).1 _ _ rfl
  · cases e2
    exact (go e1).2 _ _ rfl
/-- the model refuses a name: nothing else is changed -/
theorem F141_f (hp : p ≤ 1) (h3 : 0 ≤ N 383 p ∧ N 383 p ≤ 6) (h5 : 0 ≤ N 385 p ∧ N 385 p ≤ 8) (h7 : 0 ≤ N 387 p ∧ N 387 p ≤ 8) (h8 : 1 ≤ N 388 p ∧ N 388 p ≤ 12) (h0 : 0 ≤ N 390 p ∧ N 390 p ≤ 120) (h : F141 g p N = some mm') (hw : 0 ≤ mm' 376 8) : ∀ a q, ¬ (a = 376 ∧ q = 8) → mm' a q = N a q := by
  unfold F141 at h
  rcases bL_e h with ⟨l, m1, e1, e2⟩ | ⟨l, m1, e1, e2⟩
  · have f1 := asked_m e1
    unfold J141_47 at e2
    rcases ite1 e2 with ⟨q, e2⟩ | ⟨q, e2⟩
    case inr => cases e2; exact f1
    exfalso
    rcases bL_e e2 with ⟨l2, m2, e3, e4⟩ | ⟨l2, m2, e3, e4⟩
    · obtain ⟨l', m', z, s1, -⟩ := sites_m hp (by rw [f1 383 p (by omega)]; exact h3) (by rw [f1 388 p (by omega)]; exact h8) e3
      cases z
      rcases bL_e e4 with ⟨l3, m3, e5, e6⟩ | ⟨l3, m3, e5, e6⟩
      · obtain ⟨l', m', z, c1, -⟩ := casts_m hp (by rw [s1 383 p (by decide), f1 383 p (by omega)]; exact h3) (by rw [s1 387 p (by decide), f1 387 p (by omega)]; exact h7) e5
        cases z
        rcases bL_e e6 with ⟨l4, m4, e7, e8⟩ | ⟨l4, m4, e7, e8⟩
        · obtain ⟨l', m', z, o1, -⟩ := ops_m hp (by rw [c1 385 p (by decide), s1 385 p (by decide), f1 385 p (by omega)]; exact h5) (by rw [c1 390 p (by decide), s1 390 p (by decide), f1 390 p (by omega)]; exact h0) e7
          cases z
          cases e8
          rw [o1 376 8 (by decide), c1 376 8 (by decide), s1 376 8 (by decide)] at hw
          omega
        · obtain ⟨l', m', z, -⟩ := ops_m hp (by rw [c1 385 p (by decide), s1 385 p (by decide), f1 385 p (by omega)]; exact h5) (by rw [c1 390 p (by decide), s1 390 p (by decide), f1 390 p (by omega)]; exact h0) e7
          cases z
      · obtain ⟨l', m', z, -⟩ := casts_m hp (by rw [s1 383 p (by decide), f1 383 p (by omega)]; exact h3) (by rw [s1 387 p (by decide), f1 387 p (by omega)]; exact h7) e5
        cases z
    · obtain ⟨l', m', z, -⟩ := sites_m hp (by rw [f1 383 p (by omega)]; exact h3) (by rw [f1 388 p (by omega)]; exact h8) e3
      cases z
  · exfalso
    obtain ⟨l', m', -, i3⟩ := yloop_inv (fun _ _ => True) (fun _ _ _ _ _ _ => trivial) _ _ _ _ trivial e1
    unfold B141_2 J141_41 at i3
    rcases ite1 i3 with ⟨-, i3⟩ | ⟨-, i3⟩
    · rcases ite1 i3 with ⟨-, i3⟩ | ⟨-, i3⟩
      · replace i3 := bP_e i3
        obtain ⟨v, -, i3⟩ := i3
        rcases ite1 i3 with ⟨-, i3⟩ | ⟨-, i3⟩ <;> cases i3
      · cases i3
    · cases i3
def RD7 (f : Nat) (m7 m1 : yM) (r r7 : Int) : Prop := (r7 ≠ -1 ∧ m1 = yup m7 0 7 r7 ∧ r = 1) ∨ (r7 = -1 ∧ ∃ m8 m9 v, F91 f (pA (m7 0 5)) (yup (yup (yup m7 0 7 r7) 0 4 (pX (pA (m7 0 5)))) 0 5 (pX (pA (m7 0 4)))) = some m8 ∧ F92 f m8 = some m9 ∧ m1 = yup m9 413 0 v ∧ r = 0 ∧ ∃ c, F93 f (pA (m7 0 5)) m9 = some c ∧ v = (i2l c).toInt)
/-- the class's read, with its analysis -/
theorem F95_q {r : Int} (h : F95 f m = some (r, m1)) : ∃ r7 m7, F74 f (m 0 6) (pA (m 0 5)) m = some (r7, m7) ∧ RD7 f m7 m1 r r7 := by
  have main : ∀ z, F94 f m = some z → ∃ r7 m7, F74 f (m 0 6) (pA (m 0 5)) m = some (r7, m7) ∧ ((r7 ≠ -1 ∧ z = (.inr 9, yup m7 0 7 r7)) ∨ (r7 = -1 ∧ ∃ v m8 m9, z = (.inl v, m9) ∧ F91 f (pA (m7 0 5)) (yup (yup (yup m7 0 7 r7) 0 4 (pX (pA (m7 0 5)))) 0 5 (pX (pA (m7 0 4)))) = some m8 ∧ F92 f m8 = some m9 ∧ F93 f (pA (m7 0 5)) m9 = some v)) := by
    intro z e
    unfold F94 at e
    replace e := bI_e e
    obtain ⟨r7, m7, e7, e⟩ := e
    refine ⟨r7, m7, e7, ?_⟩
    rcases ite1 e with ⟨q, e⟩ | ⟨q, e⟩
    · rw [pA_pX (pA_is _)] at e
      replace e := bU_e e
      obtain ⟨m8, e8, e⟩ := e
      replace e := bU_e e
      obtain ⟨m9, e9, e⟩ := e
      replace e := bP_e e
      obtain ⟨r9, e10, e⟩ := e
      cases e
      exact Or.inr ⟨q, _, m8, m9, rfl, e8, e9, e10⟩
    · cases e
      exact Or.inl ⟨q, rfl⟩
  unfold F95 at h
  rcases bT_e h with ⟨r2, m2, e1, e2⟩ | ⟨r2, m2, e1, e2⟩
  · obtain ⟨r7, m7, a1, ⟨-, a2⟩ | ⟨a2, v, m8, m9, a3, a4, a5, a6⟩⟩ := main _ e1
    · cases a2
    · cases a3
      cases e2
      exact ⟨r7, m7, a1, Or.inr ⟨a2, m8, _, _, a4, a5, rfl, rfl, _, a6, rfl⟩⟩
  · obtain ⟨r7, m7, a1, ⟨a0, a2⟩ | ⟨a2, v, m8, m9, a3, a4, a5, a6⟩⟩ := main _ e1
    · cases a2
      rw [if_pos rfl] at e2
      cases e2
      exact ⟨r7, m7, a1, Or.inl ⟨a0, rfl, rfl⟩⟩
    · cases a3
/-- the model, behind the reading, with its analysis -/
theorem J132_q {x b : Int} (h : J152_132 g x m = some (b, m2)) : (0 ≤ m 376 8 ∧ ∃ c, m2 = yup (yup m 376 2 (m 376 8)) 376 57 c ∧ c = 1) ∨ (m 376 8 < 0 ∧ ∃ X1 c, (∀ a q, a ≠ 408 → X1 a q = yup (yup (yup (yup (yup m 376 2 (m 376 8)) 376 57 c) 376 18 x) 376 19 1) 376 51 0 a q) ∧ F151 g X1 = some m2 ∧ c = 0 ∧ b = (fS m2 576 : Nat) ∧ ∀ i, i < 576 → X1 408 i = 0) := by
  unfold J152_132 at h
  have key : ∀ {y : Int}, J152_153 g x y (yup m 376 2 (m 376 8)) = some (b, m2) → (y = 0 → ∃ c, m2 = yup (yup m 376 2 (m 376 8)) 376 57 c ∧ c = 1) ∧ (y ≠ 0 → ∃ X1 c, (∀ a q, a ≠ 408 → X1 a q = yup (yup (yup (yup (yup m 376 2 (m 376 8)) 376 57 c) 376 18 x) 376 19 1) 376 51 0 a q) ∧ F151 g X1 = some m2 ∧ c = 0 ∧ b = (fS m2 576 : Nat) ∧ ∀ i, i < 576 → X1 408 i = 0) := by
    intro y e
    unfold J152_153 at e
    replace e := bI_e e
    obtain ⟨r1, n1, e1, e⟩ := e
    obtain ⟨rfl, c, rfl, hc1, hc0⟩ := F23_x e1
    refine ⟨fun z => ?_, fun z => ?_⟩
    · rw [if_pos z] at e
      cases e
      exact ⟨c, rfl, hc1 z⟩
    · rw [if_neg z] at e
      have hcz := hc0 z
      have g1 : ∀ {r}, yloop (fun (l : Int) ml => B152_179 g l ml) g 0 (yup (yup (yup (yup (yup m 376 2 (m 376 8)) 376 57 c) 376 18 x) 376 19 1) 376 51 0) = some r → ∃ l X1, r = .inl (l, X1) ∧ (∀ j, j < 576 → X1 408 (0 + j) = 0) ∧ (∀ a q, ¬ (a = 408 ∧ 0 ≤ q ∧ q < 0 + 576) → X1 a q = yup (yup (yup (yup (yup m 376 2 (m 376 8)) 376 57 c) 376 18 x) 376 19 1) 376 51 0 a q) := fun e => fill_r (fun j m y hj _ e => by
        unfold B152_179 at e
        rw [k1w (by omega), Int.toNat_natCast] at e
        rcases ite1 e with ⟨q, e⟩ | ⟨q, e⟩
        · injection e with e
          exact Or.inr ⟨by omega, by rw [← e, Nat.zero_add]⟩
        · injection e with e
          exact Or.inl ⟨by omega, e.symm⟩) e
      obtain ⟨l, X1, a1, e⟩ := bL_m e (fun r er => by obtain ⟨l, X1, z, -⟩ := g1 er; exact ⟨l, X1, z⟩)
      obtain ⟨_, _, z2, h408, hX'⟩ := g1 a1
      cases z2
      have hX : ∀ a q, a ≠ 408 → X1 a q = yup (yup (yup (yup (yup m 376 2 (m 376 8)) 376 57 c) 376 18 x) 376 19 1) 376 51 0 a q := fun a q ha => hX' a q (fun w => ha w.1)
      replace e := bU_e e
      obtain ⟨X2, e3, e⟩ := e
      refine ⟨X1, c, hX, ?_⟩
      have st2 : ∀ (l : Int × Int) (mi : yM) y, (mi = X2 ∧ ∃ i : Nat, l.1 = ((fS X2 i : Nat) : Int) ∧ l.2 = i ∧ i ≤ 576) → B152_207 g l.1 l.2 mi = some y → (∃ l' : Int × Int, y = .inl (l', X2) ∧ ∃ i : Nat, l'.1 = ((fS X2 i : Nat) : Int) ∧ l'.2 = i ∧ i ≤ 576) ∨ (∃ l' : Int × Int, y = .inr (.inl (l', X2)) ∧ l'.1 = ((fS X2 576 : Nat) : Int)) := by
        intro l mi y ⟨hI, i, i1, i2, i3⟩ e
        unfold B152_207 J152_226 at e
        rw [hI, i1, i2, Int.toNat_natCast] at e
        rcases ite1 e with ⟨q, e⟩ | ⟨q, e⟩
        · have sc := fS_s (mm := X2) i
          have le := fS_le (mm := X2) i
          rw [wr_i (x := (i : Int) + 1) (by omega) (by omega), wr_i (x := ((fS X2 i : Nat) : Int) + 1) (by omega) (by omega)] at e
          rcases ite1 e with ⟨q2, e⟩ | ⟨q2, e⟩
          · rw [if_neg (by omega)] at sc
            cases e
            exact Or.inl ⟨_, rfl, i + 1, by show ((fS X2 i : Nat) : Int) = _; rw [sc]; rfl, by show (i : Int) + 1 = _; omega, by omega⟩
          · rw [if_pos (by omega)] at sc
            cases e
            exact Or.inl ⟨_, rfl, i + 1, by show ((fS X2 i : Nat) : Int) + 1 = _; rw [sc]; omega, by show (i : Int) + 1 = _; omega, by omega⟩
        · cases e
          obtain rfl : i = 576 := by omega
          exact Or.inr ⟨_, rfl, rfl⟩
      have inv2 : ∀ (l : Int × Int) (mi : yM) (l' : Int × Int) (mi' : yM), (mi = X2 ∧ ∃ i : Nat, l.1 = ((fS X2 i : Nat) : Int) ∧ l.2 = i ∧ i ≤ 576) → B152_207 g l.1 l.2 mi = some (.inl (l', mi')) → (mi' = X2 ∧ ∃ i : Nat, l'.1 = ((fS X2 i : Nat) : Int) ∧ l'.2 = i ∧ i ≤ 576) := by
        intro l mi l' mi' hI hB
        rcases st2 l mi _ hI hB with ⟨l2, w, w2⟩ | ⟨l2, w, -⟩
        · injection w with w
          injection w with w w'
          rw [w, w']
          exact ⟨rfl, w2⟩
        · cases w
      rcases bL_e e with ⟨l3, m3, d1, d2⟩ | ⟨l3, m3, d1, d2⟩
      · obtain ⟨l', m', hI, e4⟩ := yloop_inv _ inv2 _ _ _ _ ⟨rfl, 0, rfl, rfl, by omega⟩ d1
        rcases st2 l' m' _ hI e4 with ⟨l2, w, -⟩ | ⟨l2, w, w2⟩
        · cases w
        · injection w with w
          injection w with w
          injection w with w w'
          injection d2 with d2
          injection d2 with d2 d2'
          rw [← d2', ← d2, w, w']
          exact ⟨e3, hcz, w2, fun i hi => by have := h408 i hi; rw [Nat.zero_add] at this; exact this⟩
      · obtain ⟨l', m', hI, e4⟩ := yloop_inv _ inv2 _ _ _ _ ⟨rfl, 0, rfl, rfl, by omega⟩ d1
        rcases st2 l' m' _ hI e4 with ⟨l2, w, -⟩ | ⟨l2, w, w2⟩
        · cases w
        · cases w
  rcases ite1 h with ⟨q, h⟩ | ⟨q, h⟩
  · exact Or.inr ⟨q, (key h).2 (by decide)⟩
  · exact Or.inl ⟨by omega, (key h).1 rfl⟩
/-- read, and what it answers -/
theorem readR2 {r b : Int} (hI : IQ m) (h1 : F95 f m = some (r, m1)) (h2 : F152 g m1 = some (b, m2)) : IQ m2 ∧ m2 376 57 = r ∧ (r = 0 → m2 413 0 = b ∧ rg b) ∧ (SN m → SN m2) := by
  obtain ⟨⟨t1, t2, t3, t4⟩, hK, ⟨h4, h18⟩, h80, hc⟩ := hI
  obtain ⟨r7, m7, e7, c7⟩ := F95_q h1
  have hA := pA_is (m 0 4)
  have hB := pA_is (m 0 5)
  have hd := pA_d h4
  have f7 := F74_fr hB e7
  obtain ⟨p, hp, hp18⟩ : ∃ p : Nat, p ≤ 1 ∧ m 376 18 = 1 - (p : Int) := ⟨(1 - m 376 18).toNat, by omega, by omega⟩
  have g4 : m7 0 4 = m 0 4 := f7 0 4 (by omega) (by omega) (by omega) (by omega) (by omega) (by omega)
  have g5 : m7 0 5 = m 0 5 := f7 0 5 (by omega) (by omega) (by omega) (by omega) (by omega) (by omega)
  -- what the class leaves
  have fr : ∀ a q, (a = 0 ∧ q = 6) ∨ a = 1 ∨ a = 4 ∨ (376 ≤ a ∧ a ≠ 413) ∨ (256 ≤ a ∧ a < 376 ∧ ¬ (pA (m 0 5) ≤ a ∧ a < pA (m 0 5) + 60)) → m1 a q = m a q := by
    intro a q ha
    have f7' := f7 a q (by omega) (by omega) (by omega) (by omega) (by omega) (by omega)
    rcases c7 with ⟨-, rfl, -⟩ | ⟨-, m8, m9, v, c1, c2, rfl, -⟩
    · rw [yup_ne (by omega)]; exact f7'
    · have k8 := kan_F91 (P := fun a _ => a < 8 ∨ 256 ≤ a) (fun a q h => by omega) KP.rf _ c1
      have k9 : KP (fun a _ => a < 8 ∨ 256 ≤ a) _ m9 := ksn_F92 (P := fun a _ => a < 8 ∨ 256 ≤ a) (fun a q h => by omega) k8 _ c2
      rw [yup_ne (by omega), k9 a q (show a < 8 ∨ 256 ≤ a by omega), yup_ne (by omega), yup_ne (by omega), yup_ne (by omega)]; exact f7'
  have x6 := fr 0 6 (by omega)
  have x1 := fr 376 1 (by omega)
  have x18 := fr 376 18 (by omega)
  obtain ⟨-, mm', k1, k2, hR⟩ := parse_r ⟨t2, t3⟩ hB hp (by omega) hK (fun t z1 z2 => by
    rw [fr 377 _ (by omega)]
    have := t4 t z1 z2
    exact ⟨this.1.symm, this.2⟩) (by omega) e7 h2
  have y : ∀ a q, (a < 376) ∨ (a = 376 ∧ (q = 1 ∨ q = 18 ∨ q = 19 ∨ q = 47)) ∨ a = 377 ∨ (404 ≤ a ∧ a ≤ 407) → mm' a q = m1 a q := fun a q ha => k2 a q (by unfold arM; omega) (by omega) (by omega) (by omega)
  have fin : m2 0 6 = m1 0 6 → m2 376 1 = m1 376 1 → (∀ q, m2 1 q = m1 1 q) → (∀ q, m2 377 q = m1 377 q) → (∀ q, m2 4 q = m1 4 q) → GQ2 m2 → (m2 264 0 = 0 ∧ m2 324 0 = 0) → CQ (pA (m2 0 4)) (m2 376 18).toNat m2 → IQ m2 := by
    intro a1 a3 a6 a7 a8 a9 a9' a10
    refine ⟨⟨by omega, by omega, by omega, fun t z1 z2 => ?_⟩, fun j j1 j2 => ?_, a9, a9', a10⟩
    · rw [a6, a7, fr 1 _ (by omega), fr 377 _ (by omega)]
      exact t4 t z1 (by omega)
    · rw [a8, fr 4 _ (by omega)]
      exact hK j j1 j2
  have hB8 : m (pA (m 0 5) + 8) 0 = 0 := by
    rcases hd with ⟨-, z⟩ | ⟨-, z⟩
    · rw [z]; exact h80.2
    · rw [z]; exact h80.1
  have hA8 : m (pA (m 0 4) + 8) 0 = 0 := by
    rcases hd with ⟨z, -⟩ | ⟨z, -⟩
    · rw [z]; exact h80.1
    · rw [z]; exact h80.2
  have two8 : m2 (pA (m 0 4) + 8) 0 = 0 → m2 (pA (m 0 5) + 8) 0 = 0 → m2 264 0 = 0 ∧ m2 324 0 = 0 := by
    intro z1 z2
    rcases hd with ⟨w1, w2⟩ | ⟨w1, w2⟩
    · rw [w1] at z1; rw [w2] at z2; exact ⟨z1, z2⟩
    · rw [w1] at z1; rw [w2] at z2; exact ⟨z2, z1⟩
  rcases J132_q k1 with ⟨q, c, rfl, hc1⟩ | ⟨q, X1, c, hX, e151, hc0, hb, h408⟩
  · rcases hR with ⟨q1, q2, hR⟩ | ⟨-, q2, -⟩
    · rcases c7 with ⟨c8, rfl, hr⟩ | ⟨c8, -⟩
      · have u : ∀ a q, a ≠ 376 → yup (yup mm' 376 2 (mm' 376 8)) 376 57 c a q = mm' a q := fun a q ha => by rw [yup_na ha, yup_na ha]
        have u6 : ∀ q, q ≠ 2 → q ≠ 57 → yup (yup mm' 376 2 (mm' 376 8)) 376 57 c 376 q = mm' 376 q := fun q z1 z2 => by rw [yup_nk z2, yup_nk z1]
        have v4 : yup (yup mm' 376 2 (mm' 376 8)) 376 57 c 0 4 = m 0 4 := by rw [u _ _ (by decide), y 0 4 (by omega), yup_nk (by decide), g4]
        have v5 : yup (yup mm' 376 2 (mm' 376 8)) 376 57 c 0 5 = m 0 5 := by rw [u _ _ (by decide), y 0 5 (by omega), yup_nk (by decide), g5]
        have v18 : yup (yup mm' 376 2 (mm' 376 8)) 376 57 c 376 18 = m 376 18 := by rw [u6 _ (by decide) (by decide), y 376 18 (by omega)]; exact x18
        -- the rows of the other program
        have rows : m7 (pA (m 0 5) + 8) 0 = 0 ∧ (∀ b q, arP (m 376 18).toNat b q → mm' b q = yup m7 0 7 r7 b q) := by
          have dis : ∀ b q, arP (m 376 18).toNat b q → ¬ arM p b q ∧ ¬ (b = 376 ∧ q = 8) := fun b q hb => by
            have e18 : (m 376 18).toNat = 1 - p := by omega
            rw [e18] at hb
            unfold arP at hb
            unfold arM
            omega
          rcases hR with ⟨w1, w2⟩ | ⟨k, s, o, a, M, N, hPR, w1, w2, w3, w4⟩
          · exact ⟨by rw [w1]; exact hB8, fun b q hb => w2 b q (dis b q hb).1⟩
          · have e8 := F73_8 hPR w2
            obtain ⟨p1, p2, p3, p4, p5, p6, p7, ⟨q1', q2', q3', q4', q5', q6', q7', q8'⟩, p8⟩ := hPR
            have hco := p5
            unfold rCo at hco
            have kb : k ≤ 10 := by have := p4.2.2.1; omega
            have hf := F141_f hp (by rw [← p1.1]; exact ⟨p1.2.1, p1.2.2.1⟩) (by rw [← p2.1]; exact ⟨p2.2.1, p2.2.2.1⟩) (by omega) (by omega) (by omega) w3 (by omega)
            exact ⟨by rw [e8, w1]; exact hB8, fun b q hb => by rw [hf b q (dis b q hb).2]; exact w4 b q (dis b q hb).1⟩
        refine ⟨fin ?_ ?_ (fun q => ?_) (fun q => ?_) (fun q => ?_) ⟨by rw [v4, v5]; exact h4, by rw [v18]; exact h18⟩ (two8 ?_ ?_) ?_, by rw [yup_eq, hc1, hr], fun e => by rw [hr] at e; exact absurd e (by decide), fun hS v j hv hj => ?_⟩
        · rw [u _ _ (by decide)]; exact y 0 6 (by omega)
        · rw [u6 _ (by decide) (by decide)]; exact y 376 1 (by omega)
        · rw [u _ _ (by decide)]; exact y 1 q (by omega)
        · rw [u _ _ (by decide)]; exact y 377 q (by omega)
        · rw [u _ _ (by decide)]; exact y 4 q (by omega)
        · rw [u _ _ (by omega), y _ _ (by omega), fr _ _ (by omega)]; exact hA8
        · rw [u _ _ (by omega), y _ _ (by omega), yup_na (by omega)]; exact rows.1
        · rw [v4, v18]
          refine hc.fr hA (by omega) ?_ ?_ (fun a q ha => ?_) (fun b q hb => ?_)
          · rw [u6 _ (by decide) (by decide), y 376 19 (by omega)]; exact fr _ _ (by omega)
          · rw [u6 _ (by decide) (by decide), y 376 47 (by omega)]; exact fr _ _ (by omega)
          · rw [u _ _ (by omega), y _ _ (by omega), yup_na (by omega)]
            exact f7 a q (by omega) (by omega) (by omega) (by omega) (by omega) (by omega)
          · rcases hb with hb | hb
            · rw [u b q (by unfold arP at hb; omega), rows.2 b q hb]
              exact fr _ _ (by unfold arP at hb; omega)
            · rw [u b q (by omega), y b q (by omega)]
              exact fr _ _ (by omega)
        · rw [u _ _ (by omega), u _ _ (by omega), y (171 + v) j (by omega), k2 408 _ (by unfold arM; omega) (by omega) (by omega) (by omega), yup_na (by omega), yup_na (by omega), f7 _ _ (by omega) (by omega) (by omega) (by omega) (by omega) (by omega), f7 408 _ (by omega) (by omega) (by omega) (by omega) (by omega) (by omega)]
          exact hS v j hv hj
      · omega
    · omega
  · rcases hR with ⟨q1, q2, -⟩ | ⟨q1, q2, k, s, o, a, M, N, hPR, hM9, hN8, e73, e141, hM8⟩
    · omega
    · rcases c7 with ⟨c8, -⟩ | ⟨-, m8, m9, v, e91, e92, rfl, hr, cn, hcn, hvc⟩
      · omega
      · rw [g5] at e91
        rw [g4] at e91
        obtain ⟨hRP, fc, hSm, h8z, mF, e72, fF⟩ := hPR.rpg hp hM9 (by rw [hM8]; exact hB8) e73 e141 q2
        have XP : ∀ b q, b ≠ 376 → b ≠ 408 → X1 b q = mm' b q := fun b q z1 z2 => by rw [hX b q z2, yup_na z1, yup_na z1, yup_na z1, yup_na z1, yup_na z1]
        have X18 : X1 376 18 = p := by rw [hX 376 18 (by decide), yup_nk (by decide), yup_nk (by decide), yup_eq]
        have X19 : X1 376 19 = 1 := by rw [hX 376 19 (by decide), yup_nk (by decide), yup_eq]
        have X01 : X1 376 1 = mm' 376 1 := by rw [hX 376 1 (by decide), yup_nk (by decide), yup_nk (by decide), yup_nk (by decide), yup_nk (by decide), yup_nk (by decide)]
        have hRX : RPG (pA (m 0 5)) p s o (yup (yup (yup m7 0 7 r7) 0 4 (pX (pA (m 0 5)))) 0 5 (pX (pA (m 0 4)))) X1 := hRP.fr hB (fun a q ha => by rw [yup_na (by omega), yup_na (by omega), yup_na (by omega)]) (fun a q z1 z2 => XP a q (by omega) (by omega))
        obtain ⟨w1, w2, w3, w4, w5⟩ := facts_r hB hp hRX X18 ⟨f, mF, by rw [yup_na (by omega), yup_na (by omega), yup_na (by omega)]; exact e72, fun a q ha => by rw [yup_na (by omega), yup_na (by omega), yup_na (by omega), fF a q (by omega) (by omega) (by omega), fc a q (by omega) (by omega) (by omega)]⟩ e91 e151
        have k9 : ∀ a q, a < 169 ∨ 256 ≤ a → m9 a q = m8 a q := ksn_F92 (P := fun a _ => a < 169 ∨ 256 ≤ a) (fun a q h => h) KP.rf _ e92
        -- the last memory, by its cells
        have cM : ∀ b q, b < 376 → m2 b q = yup m9 413 0 v b q := fun b q hb => by
          rw [w5 b q (by omega) (by omega), XP b q (by omega) (by omega), y b q (by omega)]
        have c8 : ∀ b q, b < 169 ∨ (256 ≤ b ∧ b < 376) → m2 b q = m8 b q := fun b q hb => by
          rw [cM b q (by omega), yup_na (by omega), k9 b q (by omega)]
        have cP : ∀ b q, 256 ≤ b → b < 376 → m2 b q = m7 b q := fun b q z1 z2 => by
          rw [c8 b q (by omega), w4 b q (by omega), yup_na (by omega), yup_na (by omega), yup_na (by omega)]
        have cL : ∀ q, m2 0 q = yup (yup (yup m7 0 7 r7) 0 4 (pX (pA (m 0 5)))) 0 5 (pX (pA (m 0 4))) 0 q := fun q => by
          have k8 := kan_F91 (P := fun a _ => a < 8 ∨ 256 ≤ a) (fun a q h => by omega) KP.rf _ e91
          have k8' : ∀ a q, a < 8 ∨ 256 ≤ a → m8 a q = yup (yup (yup m7 0 7 r7) 0 4 (pX (pA (m 0 5)))) 0 5 (pX (pA (m 0 4))) a q := k8
          rw [c8 0 q (by omega), k8' 0 q (by omega)]
        have v4 : m2 0 4 = pX (pA (m 0 5)) := by rw [cL, yup_nk (by decide), yup_eq]
        have v5 : m2 0 5 = pX (pA (m 0 4)) := by rw [cL, yup_eq]
        have mA : ∀ b q, 383 ≤ b → b < 404 → m2 b q = mm' b q := fun b q z1 z2 => by rw [w5 b q z2 (by omega), XP b q (by omega) (by omega)]
        have m18 : m2 376 18 = p := by rw [w5 376 18 (by decide) (by decide)]; exact X18
        refine ⟨fin ?_ ?_ (fun q => ?_) (fun q => ?_) (fun q => ?_) ⟨?_, ?_⟩ (two8 ?_ ?_) ?_, by rw [w5 376 57 (by decide) (by decide), hX 376 57 (by decide), yup_nk (by decide), yup_nk (by decide), yup_nk (by decide), yup_eq, hc0, hr], fun _ => ?_, fun _ v' j hv hj => ?_⟩
        · rw [cM 0 6 (by decide)]
        · rw [w5 376 1 (by decide) (by decide), X01]; exact y 376 1 (by omega)
        · rw [cM 1 q (by decide)]
        · rw [w5 377 q (by decide) (by omega), XP 377 q (by decide) (by decide)]; exact y 377 q (by omega)
        · rw [cM 4 q (by decide)]
        · rw [v4, v5]
          rcases hd with ⟨z1, z2⟩ | ⟨z1, z2⟩
          · rw [z1, z2]; exact Or.inr ⟨rfl, rfl⟩
          · rw [z1, z2]; exact Or.inl ⟨rfl, rfl⟩
        · rw [m18]; omega
        · rw [cP _ _ (by omega) (by omega), f7 _ _ (by omega) (by omega) (by omega) (by omega) (by omega) (by omega)]; exact hA8
        · rw [cP _ _ (by omega) (by omega)]; exact h8z
        · rw [v4, pA_pX hB, m18, Int.toNat_natCast]
          refine Or.inr ⟨?_, ?_, s, o, ?_, ?_, ?_, ?_⟩
          · rw [w5 376 19 (by decide) (by decide)]; exact X19
          · rw [c8 8 4 (by omega)]; exact w3
          · exact hRP.frp hB hp (fun a q z1 z2 => cP a q (by omega) (by omega)) (fun b q hb => mA b q (by unfold arP at hb; omega) (by unfold arP at hb; omega))
          · exact w1.fr (by rw [cP _ _ (by omega) (by omega), yup_na (by omega), yup_na (by omega), yup_na (by omega)]) (fun x hx => hx.fr hB hRX.2.2.2.2.2.1.2.1 (fun a q z1 z2 => by rw [cP a q (by omega) (by omega), yup_na (by omega), yup_na (by omega), yup_na (by omega)])) (fun a q z1 z2 => c8 a q (by omega)) (fun _ _ _ _ => rfl)
          · rw [w2, c8 8 6 (by omega)]
          · exact ⟨f, mF, by rw [cP _ _ (by omega) (by omega)]; exact e72, fun a q ha => by rw [cP _ _ (by omega) (by omega), fF a q (by omega) (by omega) (by omega), fc a q (by omega) (by omega) (by omega)]⟩
        · have z413 : m2 413 0 = v := by
            have k := kma_F151 (P := fun a _ => a = 413) (fun a q h => by omega) KP.rf _ e151
            have k' : ∀ a q, a = 413 → m2 a q = X1 a q := k
            rw [k' 413 0 rfl, XP 413 0 (by decide) (by decide), k2 413 0 (by unfold arM; omega) (by omega) (by omega) (by omega), yup_eq]
          have hco := hRX.2.2.1
          unfold rCo at hco
          have h15 := hRX.2.2.2.2.1
          rw [g5] at hcn
          have q14 : m9 (pA (m 0 5)) 14 = yup (yup (yup m7 0 7 r7) 0 4 (pX (pA (m 0 5)))) 0 5 (pX (pA (m 0 4))) (pA (m 0 5)) 14 := by rw [k9 _ _ (by omega), w4 _ _ (by omega)]
          have q15 : m9 (pA (m 0 5)) 15 = yup (yup (yup m7 0 7 r7) 0 4 (pX (pA (m 0 5)))) 0 5 (pX (pA (m 0 4))) (pA (m 0 5)) 15 := by rw [k9 _ _ (by omega), w4 _ _ (by omega)]
          obtain ⟨n, hn⟩ : ∃ n : Nat, m9 (pA (m 0 5)) 14 = n := ⟨(m9 (pA (m 0 5)) 14).toNat, by omega⟩
          obtain ⟨nv, hnv⟩ : ∃ nv : Nat, m9 (pA (m 0 5)) 15 = nv := ⟨(m9 (pA (m 0 5)) 15).toNat, by have := h15.2.1; omega⟩
          have ec := F93_r (mm := m2) hn (by omega) hnv (by have := h15.2.2.1; omega) (fun x j x1 j1 => by
            obtain ⟨u1, u2, u3, u4⟩ := w1 0 x j (by decide) (by show x < 48; exact x1) (by show j < 12; exact j1)
            have e9 : m9 (10 + x) j = m8 (10 + x) j := k9 _ _ (by omega)
            rw [e9]
            refine ⟨u1, u2.1, fun z => ⟨?_, ?_⟩⟩
            · have := (GEN.lt hRX (u3 (by decide) z)).2
              omega
            · have := u4 rfl z
              omega) hcn
          have le := fS_le (mm := m2) 576
          have hrg : rg b := by rw [hb]; exact ⟨by omega, by omega⟩
          refine ⟨?_, hrg⟩
          rw [z413, hvc, ec, ← hb]
          exact i2l_i hrg
        · have k := kma_F151 (P := fun a _ => a = 408) (fun a q h => by omega) KP.rf _ e151
          have k' : ∀ a q, a = 408 → m2 a q = X1 a q := k
          rw [cM (171 + v') j (by omega), yup_na (by omega), (F92_r e92).1 v' j hv hj, k' 408 _ rfl, h408 _ (by omega)]
          omega
theorem readR {r b : Int} (hI : IQ m) (h1 : F95 f m = some (r, m1)) (h2 : F152 g m1 = some (b, m2)) : IQ m2 ∧ m2 376 57 = r ∧ (r = 0 → m2 413 0 = b ∧ rg b) := by
  obtain ⟨a1, a2, a3, -⟩ := readR2 hI h1 h2
  exact ⟨a1, a2, a3⟩
theorem readQ {r b : Int} (hI : IQ m) (h1 : F95 f m = some (r, m1)) (h2 : F152 g m1 = some (b, m2)) : IQ m2 := (readR hI h1 h2).1
end RQ
end
section
/-! THE QUESTIONS about facts -/
section QU
variable {A p s o f g : Nat} {m m1 m2 : yM}
theorem askT {o : Option ((Int ⊕ Nat) × yM)} {C : Prop} {v0 k : Int} (h : bT o (fun r m' => some ((0 : Int), yup m' 413 0 ((i2l r).toInt))) (fun e' m' => (if e' = 11 then (some (1, m')) else none)) = some (k, m1)) (hm : ∀ z, o = some z → (¬ C ∧ z = (.inr 11, m)) ∨ (C ∧ z = (.inl v0, m))) : (¬ C ∧ k = 1 ∧ m1 = m) ∨ (C ∧ k = 0 ∧ m1 = yup m 413 0 (i2l v0).toInt) := by
  rcases bT_e h with ⟨r2, m', e1, e2⟩ | ⟨r2, m', e1, e2⟩
  · rcases hm _ e1 with ⟨-, z⟩ | ⟨z1, z⟩
    · cases z
    · cases z
      cases e2
      exact Or.inr ⟨z1, rfl, rfl⟩
  · rcases hm _ e1 with ⟨z1, z⟩ | ⟨-, z⟩
    · cases z
      rw [if_pos rfl] at e2
      cases e2
      exact Or.inl ⟨z1, rfl, rfl⟩
    · cases z
theorem askE {C : Prop} {v0 k b : Int} (hc : (¬ C ∧ k = 1 ∧ m1 = m) ∨ (C ∧ k = 0 ∧ m1 = yup m 413 0 (i2l v0).toInt)) (hm : (¬ C ∧ m2 = yup m1 376 57 1) ∨ (C ∧ b = v0 ∧ m2 = yup m1 376 57 0)) (hv : C → rg v0) : m2 376 57 = k ∧ (k = 0 → m2 413 0 = b ∧ rg b) := by
  rcases hc with ⟨c1, rfl, rfl⟩ | ⟨c1, rfl, rfl⟩
  · rcases hm with ⟨-, rfl⟩ | ⟨c2, -⟩
    · exact ⟨yup_eq _ _ _ _, fun e => absurd e (by decide)⟩
    · exact absurd c2 c1
  · rcases hm with ⟨c2, -⟩ | ⟨-, rfl, rfl⟩
    · exact absurd c1 c2
    · refine ⟨yup_eq _ _ _ _, fun _ => ?_⟩
      rw [yup_na (by decide), yup_eq, i2l_i (hv c1)]
      exact ⟨rfl, hv c1⟩
/-- the class's memory and what the model reads of it -/
theorem askF (hc : m1 = m ∨ ∃ v, m1 = yup m 413 0 v) : ∀ a q, a ≠ 413 → m1 a q = m a q := fun a q ha => by
  rcases hc with rfl | ⟨v, rfl⟩
  · rfl
  · exact yup_na ha
theorem cntM {x c : Int} (h0 : 0 ≤ c ∧ c ≤ 100) : F22 x 0 (wr (c - 1)) = 0 ↔ ¬ (0 ≤ x ∧ x < c) := by
  rw [wr_i (by omega) (by omega), F22_0]
  omega
theorem cntC {x c : Int} : F155 x c = 0 ↔ ¬ (0 ≤ x ∧ x < c) := by
  have := F155_1 (x := x) (n := c)
  constructor
  · intro z w; exact this.mpr w z
  · intro z
    by_cases w : F155 x c = 0
    · exact w
    · exact absurd (this.mp w) z
/-- what the state says of counts -/
theorem CQ.cnt (h : CQ A p m) : (m 376 19 = 0 ∧ m A 10 = 0 ∧ m A 11 = 0 ∧ m A 12 = 0 ∧ m A 13 = 0 ∧ m A 14 = 0 ∧ m A 15 = 0) ∨ (m 376 19 = 1 ∧ m 8 4 = pX A ∧ m A 10 = m 384 p ∧ m A 11 = m 385 p ∧ m A 12 = m 386 p ∧ m A 13 = m 387 p ∧ m A 14 = m 388 p ∧ m A 15 = m 389 p ∧ (0 ≤ m A 10 ∧ m A 10 ≤ 10) ∧ (0 ≤ m A 11 ∧ m A 11 ≤ 8) ∧ (0 ≤ m A 12 ∧ m A 12 ≤ 12) ∧ (0 ≤ m A 13 ∧ m A 13 ≤ 8) ∧ (1 ≤ m A 14 ∧ m A 14 ≤ 12) ∧ (0 ≤ m A 15 ∧ m A 15 ≤ 48) ∧ ∃ G V, FQ G V m m) := by
  rcases h with ⟨h1, -, h2⟩ | ⟨h1, h2, s, o, h3, h4, h5⟩
  · exact Or.inl ⟨h1, h2⟩
  · obtain ⟨r1, r2, r3, r4, r5, r6, r7, r8⟩ := h3
    unfold rCo at r3
    exact Or.inr ⟨h1, h2, r2.1, r4.1, by omega, by omega, by omega, r5.1, ⟨r2.2.1, r2.2.2.1⟩, ⟨r4.2.1, r4.2.2⟩, by omega, by omega, by omega, ⟨r5.2.1, r5.2.2.1⟩, _, _, h4⟩
theorem mayQ {x w k b : Int} (hI : IQ m) (hx : rg x) (hw : rg w) (h1 : F159 f x w m = some (k, m1)) (h2 : F163 g x w m1 = some (b, m2)) : IQ m2 ∧ m2 376 57 = k ∧ (k = 0 → m2 413 0 = b ∧ rg b) := by
  have hI2 : IQ m2 := hI.fr ((show KP PQ m m1 from kcq_F159 (fun a q h => by unfold PQ at h; omega) KP.rf _ h1).tr (show KP PQ m1 m2 from kmq_F163 (fun a q h => by unfold PQ at h; omega) KP.rf _ h2))
  refine ⟨hI2, ?_⟩
  obtain ⟨-, -, ⟨h4, h18⟩, -, hc⟩ := hI
  obtain ⟨p, hp, hp18⟩ : ∃ p : Nat, p ≤ 1 ∧ m 376 18 = (p : Int) := ⟨(m 376 18).toNat, by omega, by omega⟩
  rw [hp18, Int.toNat_natCast] at hc
  have ct := hc.cnt
  unfold F159 at h1
  have cl := askT (m := m) (C := (0 ≤ x ∧ x < m (pA (m 0 4)) 15) ∧ (0 ≤ w ∧ w < m (pA (m 0 4)) 14)) (v0 := m (10 + x.toNat) w.toNat) h1 (fun z e => by
    unfold F158 F156 F157 J158_16 at e
    rcases ite1 e with ⟨q, e⟩ | ⟨q, e⟩
    · cases e; exact Or.inl ⟨fun z => cntC.mp q z.1, rfl⟩
    rcases ite1 e with ⟨q2, e⟩ | ⟨q2, e⟩
    · cases e; exact Or.inl ⟨fun z => cntC.mp q2 z.2, rfl⟩
    rcases ite1 e with ⟨-, e⟩ | ⟨-, e⟩
    · cases e; exact Or.inr ⟨⟨F155_1.mp q, F155_1.mp q2⟩, rfl⟩
    · cases e)
  have fr := askF (m := m) (m1 := m1) (by rcases cl with ⟨-, -, z⟩ | ⟨-, -, z⟩; exact Or.inl z; exact Or.inr ⟨_, z⟩)
  have md : (¬ ((0 ≤ x ∧ x < m (pA (m 0 4)) 15) ∧ (0 ≤ w ∧ w < m (pA (m 0 4)) 14)) ∧ m2 = yup m1 376 57 1) ∨ (((0 ≤ x ∧ x < m (pA (m 0 4)) 15) ∧ (0 ≤ w ∧ w < m (pA (m 0 4)) 14)) ∧ b = m (10 + x.toNat) w.toNat ∧ m2 = yup m1 376 57 0) := by
    have J : ∀ {z : Int}, J163_22 g x w z m1 = some (b, m2) → (¬ (m 376 19 ≠ 0 ∧ z ≠ 0) ∧ m2 = yup m1 376 57 1) ∨ ((m 376 19 ≠ 0 ∧ z ≠ 0) ∧ b = yup m1 376 57 0 404 (wr ((wr (12 * x)) + w)).toNat ∧ m2 = yup m1 376 57 0) := by
      intro z e
      unfold J163_22 at e
      replace e := bI_e e
      obtain ⟨r, n, e1, e⟩ := e
      rcases F162_r e1 with ⟨z1, z2, rfl, rfl⟩ | ⟨z1, rfl, rfl⟩
      · rw [if_neg (by decide)] at e
        cases e
        rw [fr 376 19 (by decide)] at z1
        exact Or.inr ⟨⟨z1, z2⟩, rfl, rfl⟩
      · rw [if_pos rfl] at e
        cases e
        rw [fr 376 19 (by decide)] at z1
        exact Or.inl ⟨z1, rfl⟩
    unfold F163 F160 F161 at h2
    rw [fr 376 19 (by decide), fr 376 18 (by decide), hp18, Int.toNat_natCast, fr 389 p (by decide), fr 388 p (by decide)] at h2
    rcases ct with ⟨c19, c10, c11, c12, c13, c14, c15⟩ | ⟨c19, c84, c10, c11, c12, c13, c14, c15, d10, d11, d12, d13, d14, d15, G, V, hQ⟩
    · rw [if_pos c19, if_pos rfl] at h2
      unfold J163_21 at h2
      rcases J h2 with ⟨-, z⟩ | ⟨z, -⟩
      · exact Or.inl ⟨fun y => by omega, z⟩
      · exact absurd c19 z.1
    · rw [if_neg (show ¬ m 376 19 = 0 by omega), if_neg (show ¬ m 376 19 = 0 by omega), ← c15, ← c14] at h2
      by_cases y1 : F22 x 0 (wr (m (pA (m 0 4)) 15 - 1)) = 0
      · rw [if_pos y1, if_pos rfl] at h2
        unfold J163_21 at h2
        rcases J h2 with ⟨-, z⟩ | ⟨z, -⟩
        · exact Or.inl ⟨fun y => (cntM (by omega)).mp y1 y.1, z⟩
        · exact absurd rfl z.2
      · rw [if_neg y1, if_neg (by decide)] at h2
        have y1' : 0 ≤ x ∧ x < m (pA (m 0 4)) 15 := by
          by_cases z : 0 ≤ x ∧ x < m (pA (m 0 4)) 15
          · exact z
          · exact absurd ((cntM (by omega)).mpr z) y1
        by_cases y2 : F22 w 0 (wr (m (pA (m 0 4)) 14 - 1)) = 0
        · rw [if_pos y2, if_pos rfl] at h2
          unfold J163_21 at h2
          rcases J h2 with ⟨-, z⟩ | ⟨z, -⟩
          · exact Or.inl ⟨fun y => (cntM (by omega)).mp y2 y.2, z⟩
          · exact absurd rfl z.2
        · rw [if_neg y2, if_neg (by decide)] at h2
          have y2' : 0 ≤ w ∧ w < m (pA (m 0 4)) 14 := by
            by_cases z : 0 ≤ w ∧ w < m (pA (m 0 4)) 14
            · exact z
            · exact absurd ((cntM (by omega)).mpr z) y2
          rcases J h2 with ⟨z, -⟩ | ⟨-, z1, z2⟩
          · exact absurd ⟨by omega, by decide⟩ z
          · refine Or.inr ⟨⟨y1', y2'⟩, ?_, z2⟩
            obtain ⟨xn, rfl⟩ : ∃ xn : Nat, x = xn := ⟨x.toNat, by omega⟩
            obtain ⟨wn, rfl⟩ : ∃ wn : Nat, w = wn := ⟨w.toNat, by omega⟩
            rw [z1, ix12 (by omega) (by omega), yup_na (by decide), fr 404 _ (by decide), Int.toNat_natCast, Int.toNat_natCast]
            exact (hQ 0 xn wn (by decide) (by show xn < 48; omega) (by show wn < 12; omega)).1.symm
  refine askE cl md (fun hC => ?_)
  rcases ct with ⟨c19, c10, c11, c12, c13, c14, c15⟩ | ⟨c19, c84, c10, c11, c12, c13, c14, c15, d10, d11, d12, d13, d14, d15, G, V, hQ⟩
  · omega
  · have := (hQ 0 x.toNat w.toNat (by decide) (by show x.toNat < 48; omega) (by show w.toNat < 12; omega)).2.1
    have e : m (cc 0 x.toNat) w.toNat = m (10 + x.toNat) w.toNat := rfl
    rw [e] at this
    exact ⟨by omega, by omega⟩
theorem reachedQ {x k b : Int} (hI : IQ m) (hx : rg x) (h1 : F173 f x m = some (k, m1)) (h2 : F174 g x m1 = some (b, m2)) : IQ m2 ∧ m2 376 57 = k ∧ (k = 0 → m2 413 0 = b ∧ rg b) := by
  have hI2 : IQ m2 := hI.fr ((show KP PQ m m1 from kcq_F173 (fun a q h => by unfold PQ at h; omega) KP.rf _ h1).tr (show KP PQ m1 m2 from kmq_F174 (fun a q h => by unfold PQ at h; omega) KP.rf _ h2))
  refine ⟨hI2, ?_⟩
  obtain ⟨-, -, ⟨h4, h18⟩, -, hc⟩ := hI
  obtain ⟨p, hp, hp18⟩ : ∃ p : Nat, p ≤ 1 ∧ m 376 18 = (p : Int) := ⟨(m 376 18).toNat, by omega, by omega⟩
  rw [hp18, Int.toNat_natCast] at hc
  have ct := hc.cnt
  unfold F173 at h1
  have cl := askT (m := m) (C := 0 ≤ x ∧ x < m (pA (m 0 4)) 10) (v0 := m 71 x.toNat) h1 (fun z e => by
    unfold F172 F167 at e
    rcases ite1 e with ⟨q, e⟩ | ⟨q, e⟩
    · cases e; exact Or.inl ⟨cntC.mp q, rfl⟩
    · cases e; exact Or.inr ⟨F155_1.mp q, rfl⟩)
  have fr := askF (m := m) (m1 := m1) (by rcases cl with ⟨-, -, z⟩ | ⟨-, -, z⟩; exact Or.inl z; exact Or.inr ⟨_, z⟩)
  have md : (¬ (0 ≤ x ∧ x < m (pA (m 0 4)) 10) ∧ m2 = yup m1 376 57 1) ∨ ((0 ≤ x ∧ x < m (pA (m 0 4)) 10) ∧ b = m 71 x.toNat ∧ m2 = yup m1 376 57 0) := by
    unfold F174 F170 at h2
    rw [fr 376 19 (by decide), fr 376 18 (by decide), hp18, Int.toNat_natCast, fr 384 p (by decide)] at h2
    replace h2 := bI_e h2
    obtain ⟨r, n, e1, h2⟩ := h2
    rcases ct with ⟨c19, c10, c11, c12, c13, c14, c15⟩ | ⟨c19, c84, c10, c11, c12, c13, c14, c15, d10, d11, d12, d13, d14, d15, G, V, hQ⟩
    · rcases F162_r e1 with ⟨z1, z2, rfl, rfl⟩ | ⟨z1, rfl, rfl⟩
      · rw [fr 376 19 (by decide)] at z1
        exact absurd c19 z1
      · rw [if_pos rfl] at h2
        cases h2
        exact Or.inl ⟨fun y => by omega, rfl⟩
    · rw [if_neg (by omega), ← c10] at e1
      by_cases y1 : F22 x 0 (wr (m (pA (m 0 4)) 10 - 1)) = 0
      · rw [if_pos y1] at e1
        rcases F162_r e1 with ⟨z1, z2, rfl, rfl⟩ | ⟨z1, rfl, rfl⟩
        · exact absurd rfl z2
        · rw [if_pos rfl] at h2
          cases h2
          exact Or.inl ⟨(cntM (by omega)).mp y1, rfl⟩
      · rw [if_neg y1] at e1
        have y1' : 0 ≤ x ∧ x < m (pA (m 0 4)) 10 := by
          by_cases z : 0 ≤ x ∧ x < m (pA (m 0 4)) 10
          · exact z
          · exact absurd ((cntM (by omega)).mpr z) y1
        rcases F162_r e1 with ⟨z1, z2, rfl, rfl⟩ | ⟨z1, rfl, rfl⟩
        · rw [if_neg (by decide)] at h2
          cases h2
          refine Or.inr ⟨y1', ?_, rfl⟩
          obtain ⟨xn, rfl⟩ : ∃ xn : Nat, x = xn := ⟨x.toNat, by omega⟩
          rw [yup_na (by decide), fr 407 _ (by decide), Int.toNat_natCast]
          have := (hQ 3 0 xn (by decide) (by decide) (by show xn < 10; omega)).1
          simpa [cc, ww] using this.symm
        · rw [fr 376 19 (by decide)] at z1
          exact absurd ⟨by omega, by decide⟩ z1
  refine askE cl md (fun hC => ?_)
  rcases ct with ⟨c19, c10, c11, c12, c13, c14, c15⟩ | ⟨c19, c84, c10, c11, c12, c13, c14, c15, d10, d11, d12, d13, d14, d15, G, V, hQ⟩
  · omega
  · have := (hQ 3 0 x.toNat (by decide) (by decide) (by show x.toNat < 10; omega)).2.1
    have e : m (cc 3 0) x.toNat = m 71 x.toNat := rfl
    rw [e] at this
    exact ⟨by omega, by omega⟩
theorem goesQ {x w k b : Int} (hI : IQ m) (hx : rg x) (hw : rg w) (h1 : F169 f x w m = some (k, m1)) (h2 : F171 g x w m1 = some (b, m2)) : IQ m2 ∧ m2 376 57 = k ∧ (k = 0 → m2 413 0 = b ∧ rg b) := by
  have hI2 : IQ m2 := hI.fr ((show KP PQ m m1 from kcq_F169 (fun a q h => by unfold PQ at h; omega) KP.rf _ h1).tr (show KP PQ m1 m2 from kmq_F171 (fun a q h => by unfold PQ at h; omega) KP.rf _ h2))
  refine ⟨hI2, ?_⟩
  obtain ⟨-, -, ⟨h4, h18⟩, -, hc⟩ := hI
  obtain ⟨p, hp, hp18⟩ : ∃ p : Nat, p ≤ 1 ∧ m 376 18 = (p : Int) := ⟨(m 376 18).toNat, by omega, by omega⟩
  rw [hp18, Int.toNat_natCast] at hc
  have ct := hc.cnt
  unfold F169 at h1
  have cl := askT (m := m) (C := (0 ≤ x ∧ x < m (pA (m 0 4)) 12) ∧ (0 ≤ w ∧ w < m (pA (m 0 4)) 10)) (v0 := m (59 + x.toNat) w.toNat) h1 (fun z e => by
    unfold F168 F167 J168_22 at e
    rcases ite1 e with ⟨q, e⟩ | ⟨q, e⟩
    · cases e; exact Or.inl ⟨fun z => cntC.mp q z.1, rfl⟩
    rcases ite1 e with ⟨q2, e⟩ | ⟨q2, e⟩
    · cases e; exact Or.inl ⟨fun z => cntC.mp q2 z.2, rfl⟩
    rcases ite1 e with ⟨-, e⟩ | ⟨-, e⟩
    · cases e; exact Or.inr ⟨⟨F155_1.mp q, F155_1.mp q2⟩, rfl⟩
    · cases e)
  have fr := askF (m := m) (m1 := m1) (by rcases cl with ⟨-, -, z⟩ | ⟨-, -, z⟩; exact Or.inl z; exact Or.inr ⟨_, z⟩)
  have md : (¬ ((0 ≤ x ∧ x < m (pA (m 0 4)) 12) ∧ (0 ≤ w ∧ w < m (pA (m 0 4)) 10)) ∧ m2 = yup m1 376 57 1) ∨ (((0 ≤ x ∧ x < m (pA (m 0 4)) 12) ∧ (0 ≤ w ∧ w < m (pA (m 0 4)) 10)) ∧ b = m (59 + x.toNat) w.toNat ∧ m2 = yup m1 376 57 0) := by
    have J : ∀ {z : Int}, J171_33 g x w z m1 = some (b, m2) → (¬ (m 376 19 ≠ 0 ∧ z ≠ 0) ∧ m2 = yup m1 376 57 1) ∨ ((m 376 19 ≠ 0 ∧ z ≠ 0) ∧ b = yup m1 376 57 0 406 (wr ((wr (10 * x)) + w)).toNat ∧ m2 = yup m1 376 57 0) := by
      intro z e
      unfold J171_33 at e
      replace e := bI_e e
      obtain ⟨r, n, e1, e⟩ := e
      rcases F162_r e1 with ⟨z1, z2, rfl, rfl⟩ | ⟨z1, rfl, rfl⟩
      · rw [if_neg (by decide)] at e
        cases e
        rw [fr 376 19 (by decide)] at z1
        exact Or.inr ⟨⟨z1, z2⟩, rfl, rfl⟩
      · rw [if_pos rfl] at e
        cases e
        rw [fr 376 19 (by decide)] at z1
        exact Or.inl ⟨z1, rfl⟩
    unfold F171 F170 at h2
    rw [fr 376 19 (by decide), fr 376 18 (by decide), hp18, Int.toNat_natCast, fr 384 p (by decide), fr 386 p (by decide)] at h2
    rcases ct with ⟨c19, c10, c11, c12, c13, c14, c15⟩ | ⟨c19, c84, c10, c11, c12, c13, c14, c15, d10, d11, d12, d13, d14, d15, G, V, hQ⟩
    · rw [if_pos c19, if_pos rfl] at h2
      unfold J171_32 at h2
      rcases J h2 with ⟨-, z⟩ | ⟨z, -⟩
      · exact Or.inl ⟨fun y => by omega, z⟩
      · exact absurd c19 z.1
    · rw [if_neg (show ¬ m 376 19 = 0 by omega), ← c10, ← c12] at h2
      by_cases y1 : F22 w 0 (wr (m (pA (m 0 4)) 10 - 1)) = 0
      · rw [if_pos y1, if_pos rfl] at h2
        unfold J171_32 at h2
        rcases J h2 with ⟨-, z⟩ | ⟨z, -⟩
        · exact Or.inl ⟨fun y => (cntM (by omega)).mp y1 y.2, z⟩
        · exact absurd rfl z.2
      · rw [if_neg y1, if_neg (by decide)] at h2
        have y1' : 0 ≤ w ∧ w < m (pA (m 0 4)) 10 := by
          by_cases z : 0 ≤ w ∧ w < m (pA (m 0 4)) 10
          · exact z
          · exact absurd ((cntM (by omega)).mpr z) y1
        by_cases y2 : F22 x 0 (wr (m (pA (m 0 4)) 12 - 1)) = 0
        · rw [if_pos y2] at h2
          unfold J171_32 at h2
          rcases J h2 with ⟨-, z⟩ | ⟨z, -⟩
          · exact Or.inl ⟨fun y => (cntM (by omega)).mp y2 y.1, z⟩
          · exact absurd rfl z.2
        · rw [if_neg y2] at h2
          have y2' : 0 ≤ x ∧ x < m (pA (m 0 4)) 12 := by
            by_cases z : 0 ≤ x ∧ x < m (pA (m 0 4)) 12
            · exact z
            · exact absurd ((cntM (by omega)).mpr z) y2
          rcases J h2 with ⟨z, -⟩ | ⟨-, z1, z2⟩
          · exact absurd ⟨by omega, by decide⟩ z
          · refine Or.inr ⟨⟨y2', y1'⟩, ?_, z2⟩
            obtain ⟨xn, rfl⟩ : ∃ xn : Nat, x = xn := ⟨x.toNat, by omega⟩
            obtain ⟨wn, rfl⟩ : ∃ wn : Nat, w = wn := ⟨w.toNat, by omega⟩
            have ix : (wr ((wr (10 * (xn : Int))) + (wn : Int))).toNat = 10 * xn + wn := by
              rw [wr_i (x := 10 * (xn : Int)) (by omega) (by omega), wr_i (by omega) (by omega)]; omega
            rw [z1, ix, yup_na (by decide), fr 406 _ (by decide), Int.toNat_natCast, Int.toNat_natCast]
            exact (hQ 2 xn wn (by decide) (by show xn < 12; omega) (by show wn < 10; omega)).1.symm
  refine askE cl md (fun hC => ?_)
  rcases ct with ⟨c19, c10, c11, c12, c13, c14, c15⟩ | ⟨c19, c84, c10, c11, c12, c13, c14, c15, d10, d11, d12, d13, d14, d15, G, V, hQ⟩
  · omega
  · have := (hQ 2 x.toNat w.toNat (by decide) (by show x.toNat < 12; omega) (by show w.toNat < 10; omega)).2.1
    have e : m (cc 2 x.toNat) w.toNat = m (59 + x.toNat) w.toNat := rfl
    rw [e] at this
    exact ⟨by omega, by omega⟩
end QU
end
section
/-! THE QUESTIONS: holds, alias -/
section QV
variable {A p s o f g : Nat} {m m1 m2 : yM}
theorem cntN {x c : Int} (h0 : 0 ≤ c ∧ c ≤ 100) (h : ¬ F22 x 0 (wr (c - 1)) = 0) : 0 ≤ x ∧ x < c := by
  by_cases z : 0 ≤ x ∧ x < c
  · exact z
  · exact absurd ((cntM h0).mpr z) h
theorem holdsQ {x w v k b : Int} (hI : IQ m) (hx : rg x) (hw : rg w) (hv : rg v) (h1 : F165 f x w v m = some (k, m1)) (h2 : F166 g x w v m1 = some (b, m2)) : IQ m2 ∧ m2 376 57 = k ∧ (k = 0 → m2 413 0 = b ∧ rg b) := by
  have hI2 : IQ m2 := hI.fr ((show KP PQ m m1 from kcq_F165 (fun a q h => by unfold PQ at h; omega) KP.rf _ h1).tr (show KP PQ m1 m2 from kmq_F166 (fun a q h => by unfold PQ at h; omega) KP.rf _ h2))
  refine ⟨hI2, ?_⟩
  obtain ⟨-, -, ⟨h4, h18⟩, -, hc⟩ := hI
  obtain ⟨p, hp, hp18⟩ : ∃ p : Nat, p ≤ 1 ∧ m 376 18 = (p : Int) := ⟨(m 376 18).toNat, by omega, by omega⟩
  rw [hp18, Int.toNat_natCast] at hc
  have ct := hc.cnt
  unfold F165 at h1
  have cl := askT (m := m) (C := (0 ≤ x ∧ x < m (pA (m 0 4)) 14) ∧ (0 ≤ w ∧ w < m (pA (m 0 4)) 11) ∧ (0 ≤ v ∧ v < m (pA (m 0 4)) 14)) (v0 := m (F83 x w) v.toNat) h1 (fun z e => by
    unfold F164 F157 J164_30 at e
    rcases ite1 e with ⟨q, e⟩ | ⟨q, e⟩
    · cases e; exact Or.inl ⟨fun z => cntC.mp q z.1, rfl⟩
    rcases ite1 e with ⟨q2, e⟩ | ⟨q2, e⟩
    · cases e; exact Or.inl ⟨fun z => cntC.mp q2 z.2.1, rfl⟩
    rcases ite1 e with ⟨q3, e⟩ | ⟨q3, e⟩
    · cases e; exact Or.inl ⟨fun z => cntC.mp q3 z.2.2, rfl⟩
    rcases ite1 e with ⟨-, e⟩ | ⟨-, e⟩
    · cases e; exact Or.inr ⟨⟨F155_1.mp q, F155_1.mp q2, F155_1.mp q3⟩, rfl⟩
    · cases e)
  have fr := askF (m := m) (m1 := m1) (by rcases cl with ⟨-, -, z⟩ | ⟨-, -, z⟩; exact Or.inl z; exact Or.inr ⟨_, z⟩)
  have md : (¬ ((0 ≤ x ∧ x < m (pA (m 0 4)) 14) ∧ (0 ≤ w ∧ w < m (pA (m 0 4)) 11) ∧ (0 ≤ v ∧ v < m (pA (m 0 4)) 14)) ∧ m2 = yup m1 376 57 1) ∨ (((0 ≤ x ∧ x < m (pA (m 0 4)) 14) ∧ (0 ≤ w ∧ w < m (pA (m 0 4)) 11) ∧ (0 ≤ v ∧ v < m (pA (m 0 4)) 14)) ∧ b = m (F83 x w) v.toNat ∧ m2 = yup m1 376 57 0) := by
    have J : ∀ {z : Int}, J166_41 g x w v z m1 = some (b, m2) → (¬ (m 376 19 ≠ 0 ∧ z ≠ 0) ∧ m2 = yup m1 376 57 1) ∨ ((m 376 19 ≠ 0 ∧ z ≠ 0) ∧ b = yup m1 376 57 0 405 (wr ((wr ((wr (96 * x)) + (wr (12 * w)))) + v)).toNat ∧ m2 = yup m1 376 57 0) := by
      intro z e
      unfold J166_41 at e
      replace e := bI_e e
      obtain ⟨r, n, e1, e⟩ := e
      rcases F162_r e1 with ⟨z1, z2, rfl, rfl⟩ | ⟨z1, rfl, rfl⟩
      · rw [if_neg (by decide)] at e
        cases e
        rw [fr 376 19 (by decide)] at z1
        exact Or.inr ⟨⟨z1, z2⟩, rfl, rfl⟩
      · rw [if_pos rfl] at e
        cases e
        rw [fr 376 19 (by decide)] at z1
        exact Or.inl ⟨z1, rfl⟩
    have bad : ∀ {P : Prop}, J166_40 g x w v m1 = some (b, m2) → ¬ P → (¬ P ∧ m2 = yup m1 376 57 1) := by
      intro P e hP
      unfold J166_40 at e
      rcases J e with ⟨-, z⟩ | ⟨z, -⟩
      · exact ⟨hP, z⟩
      · exact absurd rfl z.2
    unfold F166 F161 at h2
    rw [fr 376 19 (by decide), fr 376 18 (by decide), hp18, Int.toNat_natCast, fr 388 p (by decide), fr 385 p (by decide)] at h2
    rcases ct with ⟨c19, c10, c11, c12, c13, c14, c15⟩ | ⟨c19, c84, c10, c11, c12, c13, c14, c15, d10, d11, d12, d13, d14, d15, G, V, hQ⟩
    · rw [if_pos c19, if_pos rfl] at h2
      exact Or.inl (bad h2 (fun y => by omega))
    · rw [if_neg (show ¬ m 376 19 = 0 by omega), if_neg (show ¬ m 376 19 = 0 by omega), ← c14, ← c11] at h2
      by_cases y1 : F22 x 0 (wr (m (pA (m 0 4)) 14 - 1)) = 0
      · rw [if_pos y1, if_pos rfl] at h2
        exact Or.inl (bad h2 (fun y => (cntM (by omega)).mp y1 y.1))
      rw [if_neg y1, if_neg (by decide)] at h2
      have y1' := cntN (by omega) y1
      by_cases y2 : F22 v 0 (wr (m (pA (m 0 4)) 14 - 1)) = 0
      · rw [if_pos y2, if_pos rfl] at h2
        exact Or.inl (bad h2 (fun y => (cntM (by omega)).mp y2 y.2.2))
      rw [if_neg y2, if_neg (by decide)] at h2
      have y2' := cntN (by omega) y2
      by_cases y3 : F22 w 0 (wr (m (pA (m 0 4)) 11 - 1)) = 0
      · rw [if_pos y3] at h2
        exact Or.inl (bad h2 (fun y => (cntM (by omega)).mp y3 y.2.1))
      rw [if_neg y3] at h2
      have y3' := cntN (by omega) y3
      rcases J h2 with ⟨z, -⟩ | ⟨-, z1, z2⟩
      · exact absurd ⟨by omega, by decide⟩ z
      · refine Or.inr ⟨⟨y1', y3', y2'⟩, ?_, z2⟩
        obtain ⟨xn, rfl⟩ : ∃ xn : Nat, x = xn := ⟨x.toNat, by omega⟩
        obtain ⟨wn, rfl⟩ : ∃ wn : Nat, w = wn := ⟨w.toNat, by omega⟩
        obtain ⟨vn, rfl⟩ : ∃ vn : Nat, v = vn := ⟨v.toNat, by omega⟩
        rw [z1, ix96 (by omega) (by omega) (by omega), yup_na (by decide), fr 405 _ (by decide), Int.toNat_natCast, Int.toNat_natCast, F83_e (by omega) (by omega)]
        exact (hQ 1 (8 * xn + wn) vn (by decide) (by show 8 * xn + wn < 96; omega) (by show vn < 12; omega)).1.symm
  refine askE cl md (fun hC => ?_)
  rcases ct with ⟨c19, c10, c11, c12, c13, c14, c15⟩ | ⟨c19, c84, c10, c11, c12, c13, c14, c15, d10, d11, d12, d13, d14, d15, G, V, hQ⟩
  · omega
  · obtain ⟨⟨a1, a2⟩, ⟨a3, a4⟩, a5, a6⟩ := hC
    obtain ⟨xn, rfl⟩ : ∃ xn : Nat, x = xn := ⟨x.toNat, by omega⟩
    obtain ⟨wn, rfl⟩ : ∃ wn : Nat, w = wn := ⟨w.toNat, by omega⟩
    rw [F83_e (by omega) (by omega)]
    have := (hQ 1 (8 * xn + wn) v.toNat (by decide) (by show 8 * xn + wn < 96; omega) (by show v.toNat < 12; omega)).2.1
    exact ⟨by omega, by omega⟩
theorem aliasQ {x w k b : Int} (hI : IQ m) (hx : rg x) (hw : rg w) (h1 : F181 f x w m = some (k, m1)) (h2 : F182 g x w m1 = some (b, m2)) : IQ m2 ∧ m2 376 57 = k ∧ (k = 0 → m2 413 0 = b ∧ rg b) := by
  have hI2 : IQ m2 := hI.fr ((show KP PQ m m1 from kcq_F181 (fun a q h => by unfold PQ at h; omega) KP.rf _ h1).tr (show KP PQ m1 m2 from kmq_F182 (fun a q h => by unfold PQ at h; omega) KP.rf _ h2))
  refine ⟨hI2, ?_⟩
  obtain ⟨-, -, ⟨h4, h18⟩, -, hc⟩ := hI
  obtain ⟨p, hp, hp18⟩ : ∃ p : Nat, p ≤ 1 ∧ m 376 18 = (p : Int) := ⟨(m 376 18).toNat, by omega, by omega⟩
  rw [hp18, Int.toNat_natCast] at hc
  have hA := pA_is (m 0 4)
  have ct := hc.cnt
  -- both may be the same site
  obtain ⟨S, hS⟩ : ∃ S : Prop, S = ∃ j : Nat, (j : Int) < m (pA (m 0 4)) 14 ∧ m (10 + x.toNat) j ≠ -1 ∧ m (10 + w.toNat) j ≠ -1 := ⟨_, rfl⟩
  have hdec : S ∨ ¬ S := Classical.em S
  unfold F181 at h1
  have cl : ∃ v0 : Int, (v0 = 0 ∧ ¬ S ∨ v0 = 1 ∧ S) ∧ ((¬ ((0 ≤ x ∧ x < m (pA (m 0 4)) 15) ∧ (0 ≤ w ∧ w < m (pA (m 0 4)) 15)) ∧ k = 1 ∧ m1 = m) ∨ (((0 ≤ x ∧ x < m (pA (m 0 4)) 15) ∧ (0 ≤ w ∧ w < m (pA (m 0 4)) 15)) ∧ k = 0 ∧ m1 = yup m 413 0 (i2l v0).toInt)) := by
    have main : ∀ (v0 : Int), (v0 = 0 ∧ ¬ S ∨ v0 = 1 ∧ S) → ∀ z, F180 f x w m = some z → (¬ ((0 ≤ x ∧ x < m (pA (m 0 4)) 15) ∧ (0 ≤ w ∧ w < m (pA (m 0 4)) 15)) ∧ z = (.inr 11, m)) ∨ (((0 ≤ x ∧ x < m (pA (m 0 4)) 15) ∧ (0 ≤ w ∧ w < m (pA (m 0 4)) 15)) ∧ z = (.inl v0, m)) := by
      intro v0 hv0 z e
      unfold F180 F156 J180_16 at e
      rcases ite1 e with ⟨q, e⟩ | ⟨q, e⟩
      · cases e; exact Or.inl ⟨fun z => cntC.mp q z.1, rfl⟩
      rcases ite1 e with ⟨q2, e⟩ | ⟨q2, e⟩
      · cases e; exact Or.inl ⟨fun z => cntC.mp q2 z.2, rfl⟩
      refine Or.inr ⟨⟨F155_1.mp q, F155_1.mp q2⟩, ?_⟩
      have a1 := F155_1.mp q
      have a2 := F155_1.mp q2
      replace e := bP_e e
      obtain ⟨r, er, e⟩ := e
      rcases ct with ⟨c19, c10, c11, c12, c13, c14, c15⟩ | ⟨c19, c84, c10, c11, c12, c13, c14, c15, d10, d11, d12, d13, d14, d15, G, V, hQ⟩
      · omega
      rw [c84, pA_pX hA] at er
      unfold F179 at er
      have K : ∀ l : Int, 0 ≤ l → l ≤ m (pA (m 0 4)) 14 → (l < m (pA (m 0 4)) 14 ∧ (m (10 + x.toNat) l.toNat ≠ -1 ∧ m (10 + w.toNat) l.toNat ≠ -1) ∧ B179_2 f (pA (m 0 4)) x w l m = some (.inr (.inr 1))) ∨ (l < m (pA (m 0 4)) 14 ∧ ¬ (m (10 + x.toNat) l.toNat ≠ -1 ∧ m (10 + w.toNat) l.toNat ≠ -1) ∧ B179_2 f (pA (m 0 4)) x w l m = some (.inl (wr (l + 1)))) ∨ (¬ l < m (pA (m 0 4)) 14 ∧ B179_2 f (pA (m 0 4)) x w l m = some (.inr (.inl l))) := by
        intro l l1 l2
        unfold B179_2 J179_39
        by_cases q : l < m (pA (m 0 4)) 14
        · rw [if_pos q, if_pos (by omega)]
          by_cases q3 : m (10 + x.toNat) l.toNat = -1
          · rw [if_pos q3]; exact Or.inr (Or.inl ⟨q, fun z => z.1 q3, rfl⟩)
          · rw [if_neg q3, if_pos (by omega)]
            by_cases q4 : m (10 + w.toNat) l.toNat = -1
            · rw [if_pos q4]; exact Or.inr (Or.inl ⟨q, fun z => z.2 q4, rfl⟩)
            · rw [if_neg q4]; exact Or.inl ⟨q, ⟨q3, q4⟩, rfl⟩
        · rw [if_neg q]; exact Or.inr (Or.inr ⟨q, rfl⟩)
      have inv : ∀ l l' : Int, (0 ≤ l ∧ l ≤ m (pA (m 0 4)) 14 ∧ ∀ j : Nat, (j : Int) < l → ¬ (m (10 + x.toNat) j ≠ -1 ∧ m (10 + w.toNat) j ≠ -1)) → B179_2 f (pA (m 0 4)) x w l m = some (.inl l') → (0 ≤ l' ∧ l' ≤ m (pA (m 0 4)) 14 ∧ ∀ j : Nat, (j : Int) < l' → ¬ (m (10 + x.toNat) j ≠ -1 ∧ m (10 + w.toNat) j ≠ -1)) := by
        intro l l' ⟨i1, i2, i3⟩ e
        rcases K l i1 i2 with ⟨-, -, z⟩ | ⟨z0, z1, z⟩ | ⟨-, z⟩
        · rw [z] at e; cases e
        · rw [z, wr_i (by omega) (by omega)] at e
          cases e
          refine ⟨by omega, by omega, fun j hj => ?_⟩
          by_cases y : (j : Int) = l
          · have : l.toNat = j := by omega
            rw [← this]; exact z1
          · exact i3 j (by omega)
        · rw [z] at e; cases e
      have hI0 : (0 ≤ (0 : Int) ∧ (0 : Int) ≤ m (pA (m 0 4)) 14 ∧ ∀ j : Nat, (j : Int) < 0 → ¬ (m (10 + x.toNat) j ≠ -1 ∧ m (10 + w.toNat) j ≠ -1)) := ⟨by omega, by omega, fun j hj => by omega⟩
      have rr : (r = 0 ∧ ¬ S) ∨ (r = 1 ∧ S) := by
        rcases bQ_e er with ⟨l, y1, y2⟩ | ⟨l, y1, y2⟩
        · obtain ⟨l', ⟨i1, i2, i3⟩, e3⟩ := ploop_inv _ inv _ _ _ hI0 y1
          cases y2
          rcases K l' i1 i2 with ⟨-, -, z⟩ | ⟨-, -, z⟩ | ⟨z0, z⟩
          · rw [z] at e3; cases e3
          · rw [z] at e3; cases e3
          · left
            refine ⟨rfl, ?_⟩
            rw [hS]
            rintro ⟨j, j1, j2, j3⟩
            exact i3 j (by omega) ⟨j2, j3⟩
        · obtain ⟨l', ⟨i1, i2, i3⟩, e3⟩ := ploop_inv _ inv _ _ _ hI0 y1
          cases y2
          rcases K l' i1 i2 with ⟨z0, z1, z⟩ | ⟨-, -, z⟩ | ⟨-, z⟩
          · rw [z] at e3; cases e3
            right
            refine ⟨rfl, ?_⟩
            rw [hS]
            exact ⟨l'.toNat, by omega, z1.1, z1.2⟩
          · rw [z] at e3; cases e3
          · rw [z] at e3; cases e3
      rcases ite1 e with ⟨z0, e⟩ | ⟨z0, e⟩
      · cases e
        rcases rr with ⟨-, y⟩ | ⟨y, -⟩
        · rcases hv0 with ⟨rfl, -⟩ | ⟨-, y'⟩
          · rfl
          · exact absurd y' y
        · omega
      · cases e
        rcases rr with ⟨y, -⟩ | ⟨-, y⟩
        · exact absurd y z0
        · rcases hv0 with ⟨-, y'⟩ | ⟨rfl, -⟩
          · exact absurd y y'
          · rfl
    rcases hdec with hd | hd
    · exact ⟨1, Or.inr ⟨rfl, hd⟩, askT (m := m) h1 (main 1 (Or.inr ⟨rfl, hd⟩))⟩
    · exact ⟨0, Or.inl ⟨rfl, hd⟩, askT (m := m) h1 (main 0 (Or.inl ⟨rfl, hd⟩))⟩
  obtain ⟨v0, hv0, cl⟩ := cl
  have fr := askF (m := m) (m1 := m1) (by rcases cl with ⟨-, -, z⟩ | ⟨-, -, z⟩; exact Or.inl z; exact Or.inr ⟨_, z⟩)
  have md : (¬ ((0 ≤ x ∧ x < m (pA (m 0 4)) 15) ∧ (0 ≤ w ∧ w < m (pA (m 0 4)) 15)) ∧ m2 = yup m1 376 57 1) ∨ (((0 ≤ x ∧ x < m (pA (m 0 4)) 15) ∧ (0 ≤ w ∧ w < m (pA (m 0 4)) 15)) ∧ b = v0 ∧ m2 = yup m1 376 57 0) := by
    have J : ∀ {z : Int}, J182_22 g x w z m1 = some (b, m2) → (¬ (m 376 19 ≠ 0 ∧ z ≠ 0) ∧ m2 = yup m1 376 57 1) ∨ ((m 376 19 ≠ 0 ∧ z ≠ 0) ∧ bL (yloop (fun (l : Int) ml => B182_32 g x w l ml) g 0 (yup m1 376 57 0)) (fun _ n => some ((0 : Int), n)) (fun r mr => some (r, mr)) = some (b, m2)) := by
      intro z e
      unfold J182_22 at e
      replace e := bI_e e
      obtain ⟨r, n, e1, e⟩ := e
      rcases F162_r e1 with ⟨z1, z2, rfl, rfl⟩ | ⟨z1, rfl, rfl⟩
      · rw [if_neg (by decide)] at e
        rw [fr 376 19 (by decide)] at z1
        exact Or.inr ⟨⟨z1, z2⟩, e⟩
      · rw [if_pos rfl] at e
        cases e
        rw [fr 376 19 (by decide)] at z1
        exact Or.inl ⟨z1, rfl⟩
    have bad : ∀ {P : Prop}, J182_21 g x w m1 = some (b, m2) → ¬ P → (¬ P ∧ m2 = yup m1 376 57 1) := by
      intro P e hP
      unfold J182_21 at e
      rcases J e with ⟨-, z⟩ | ⟨z, -⟩
      · exact ⟨hP, z⟩
      · exact absurd rfl z.2
    unfold F182 F160 at h2
    rw [fr 376 19 (by decide), fr 376 18 (by decide), hp18, Int.toNat_natCast, fr 389 p (by decide)] at h2
    rcases ct with ⟨c19, c10, c11, c12, c13, c14, c15⟩ | ⟨c19, c84, c10, c11, c12, c13, c14, c15, d10, d11, d12, d13, d14, d15, G, V, hQ⟩
    · rw [if_pos c19, if_pos rfl] at h2
      exact Or.inl (bad h2 (fun y => by omega))
    · rw [if_neg (show ¬ m 376 19 = 0 by omega), if_neg (show ¬ m 376 19 = 0 by omega), ← c15] at h2
      by_cases y1 : F22 x 0 (wr (m (pA (m 0 4)) 15 - 1)) = 0
      · rw [if_pos y1, if_pos rfl] at h2
        exact Or.inl (bad h2 (fun y => (cntM (by omega)).mp y1 y.1))
      rw [if_neg y1, if_neg (by decide)] at h2
      have y1' := cntN (by omega) y1
      by_cases y2 : F22 w 0 (wr (m (pA (m 0 4)) 15 - 1)) = 0
      · rw [if_pos y2, if_pos rfl] at h2
        exact Or.inl (bad h2 (fun y => (cntM (by omega)).mp y2 y.2))
      rw [if_neg y2, if_neg (by decide)] at h2
      have y2' := cntN (by omega) y2
      rcases J h2 with ⟨z, -⟩ | ⟨-, z1⟩
      · exact absurd ⟨by omega, by decide⟩ z
      · refine Or.inr ⟨⟨y1', y2'⟩, ?_⟩
        obtain ⟨xn, rfl⟩ : ∃ xn : Nat, x = xn := ⟨x.toNat, by omega⟩
        obtain ⟨wn, rfl⟩ : ∃ wn : Nat, w = wn := ⟨w.toNat, by omega⟩
        rw [Int.toNat_natCast, Int.toNat_natCast] at hS
        have f4 : ∀ v j : Nat, v < 48 → j < 12 → yup m1 376 57 0 404 (12 * v + j) = m (10 + v) j := fun v j z1 z2 => by
          rw [yup_na (by decide), fr 404 _ (by decide)]
          exact (hQ 0 v j (by decide) z1 z2).1.symm
        have g4 : ∀ v j : Nat, v < 48 → j < 12 → -1 ≤ m (10 + v) j := fun v j z1 z2 => (hQ 0 v j (by decide) z1 z2).2.1.1
        have K : ∀ (l : Int) (n : yM) y, (∃ j : Nat, l = j ∧ (j : Int) ≤ m (pA (m 0 4)) 14 ∧ n = yup m1 376 57 0 ∧ ∀ i : Nat, i < j → ¬ (m (10 + xn) i ≠ -1 ∧ m (10 + wn) i ≠ -1)) → B182_32 g (xn : Int) (wn : Int) l n = some y → (∃ l', y = .inl (l', n) ∧ (∃ j : Nat, l' = j ∧ (j : Int) ≤ m (pA (m 0 4)) 14 ∧ n = yup m1 376 57 0 ∧ ∀ i : Nat, i < j → ¬ (m (10 + xn) i ≠ -1 ∧ m (10 + wn) i ≠ -1))) ∨ (y = .inr (.inr (1, n)) ∧ S) ∨ (y = .inr (.inl (l, n)) ∧ ¬ S) := by
          rintro l n y ⟨j, rfl, j1, rfl, j3⟩ e
          unfold B182_32 J182_75 at e
          have k18 : yup m1 376 57 0 376 18 = p := by rw [yup_nk (by decide), fr 376 18 (by decide)]; exact hp18
          rw [k18, Int.toNat_natCast, yup_na (by decide), fr 388 p (by decide), ← c14] at e
          rcases ite1 e with ⟨q, e⟩ | ⟨q, e⟩
          · rw [ix12 (by omega) (by omega), ix12 (by omega) (by omega), f4 xn j (by omega) (by omega), f4 wn j (by omega) (by omega), wr_i (by omega) (by omega)] at e
            have n1 := g4 xn j (by omega) (by omega)
            have n2 := g4 wn j (by omega) (by omega)
            have nx : ¬ (m (10 + xn) j ≠ -1 ∧ m (10 + wn) j ≠ -1) → (∃ l', (.inl ((j : Int) + 1, yup m1 376 57 0) : (Int × yM) ⊕ ((Int × yM) ⊕ (Int × yM))) = .inl (l', yup m1 376 57 0) ∧ (∃ j : Nat, l' = j ∧ (j : Int) ≤ m (pA (m 0 4)) 14 ∧ yup m1 376 57 0 = yup m1 376 57 0 ∧ ∀ i : Nat, i < j → ¬ (m (10 + xn) i ≠ -1 ∧ m (10 + wn) i ≠ -1))) := fun hn => ⟨_, rfl, j + 1, by omega, by omega, rfl, fun i hi => by
              by_cases y : i = j
              · subst y; exact hn
              · exact j3 i (by omega)⟩
            rcases ite1 e with ⟨q2, e⟩ | ⟨q2, e⟩
            · cases e
              exact Or.inl (nx (fun z => z.1 (by omega)))
            rcases ite1 e with ⟨q3, e⟩ | ⟨q3, e⟩
            · cases e
              exact Or.inl (nx (fun z => z.2 (by omega)))
            · cases e
              refine Or.inr (Or.inl ⟨rfl, ?_⟩)
              rw [hS]
              exact ⟨j, q, by omega, by omega⟩
          · cases e
            refine Or.inr (Or.inr ⟨rfl, ?_⟩)
            rw [hS]
            rintro ⟨i, i1, i2, i3⟩
            exact j3 i (by omega) ⟨i2, i3⟩
        have hI0 : (∃ j : Nat, (0 : Int) = j ∧ (j : Int) ≤ m (pA (m 0 4)) 14 ∧ yup m1 376 57 0 = yup m1 376 57 0 ∧ ∀ i : Nat, i < j → ¬ (m (10 + xn) i ≠ -1 ∧ m (10 + wn) i ≠ -1)) := ⟨0, rfl, by omega, rfl, fun i hi => by omega⟩
        have stp : ∀ (l : Int) (n : yM) (l' : Int) (n' : yM), (∃ j : Nat, l = j ∧ (j : Int) ≤ m (pA (m 0 4)) 14 ∧ n = yup m1 376 57 0 ∧ ∀ i : Nat, i < j → ¬ (m (10 + xn) i ≠ -1 ∧ m (10 + wn) i ≠ -1)) → B182_32 g (xn : Int) (wn : Int) l n = some (.inl (l', n')) → (∃ j : Nat, l' = j ∧ (j : Int) ≤ m (pA (m 0 4)) 14 ∧ n' = yup m1 376 57 0 ∧ ∀ i : Nat, i < j → ¬ (m (10 + xn) i ≠ -1 ∧ m (10 + wn) i ≠ -1)) := by
          intro l n l' n' hI hB
          rcases K l n _ hI hB with ⟨l2, z, z2⟩ | ⟨z, -⟩ | ⟨z, -⟩
          · cases z; exact z2
          · cases z
          · cases z
        rcases bL_e z1 with ⟨l, n, y3, y4⟩ | ⟨l, n, y3, y4⟩
        · obtain ⟨l', n', hI, e3⟩ := yloop_inv _ stp _ _ _ _ hI0 y3
          cases y4
          rcases K l' n' _ hI e3 with ⟨l2, z, -⟩ | ⟨z, -⟩ | ⟨z, z2⟩
          · cases z
          · cases z
          · cases z
            obtain ⟨-, -, -, j2, -⟩ := hI
            rcases hv0 with ⟨rfl, -⟩ | ⟨-, y⟩
            · exact ⟨rfl, j2⟩
            · exact absurd y z2
        · obtain ⟨l', n', hI, e3⟩ := yloop_inv _ stp _ _ _ _ hI0 y3
          cases y4
          rcases K l' n' _ hI e3 with ⟨l2, z, -⟩ | ⟨z, z2⟩ | ⟨z, -⟩
          · cases z
          · cases z
            obtain ⟨-, -, -, j2, -⟩ := hI
            rcases hv0 with ⟨-, y⟩ | ⟨rfl, -⟩
            · exact absurd z2 y
            · exact ⟨rfl, j2⟩
          · cases z
  refine askE cl md (fun hC => ?_)
  rcases hv0 with ⟨rfl, -⟩ | ⟨rfl, -⟩ <;> exact ⟨by decide, by decide⟩
end QV
/-! SAFE: a cast's statement, its sites one by one -/
/-- the site j can't come to the cast, or passes it: class, model -/
def sG (f A v : Nat) (tc : Int) (m : yM) (j : Nat) : Prop := m (10 + v) j = -1 ∨ ∃ r, r ≠ 0 ∧ F81 f A (m (A + 8) j) tc m = some r
def sH (g p v : Nat) (tc : Int) (m : yM) (j : Nat) : Prop := m 404 (12 * v + j) < 0 ∨ ∃ r, r ≠ 0 ∧ F149 g p (m 400 (12 * p + j)) tc m = some r
section QS
variable {A p s o f g : Nat} {m m1 m2 : yM}
theorem F175_r {S v : Nat} {tc r : Int} (h14 : 0 ≤ m A 14 ∧ m A 14 ≤ 12) (s3 : m S 3 = v) (hv : v < 48) (s7 : m S 7 = tc) (h : F175 f A S m = some r) : (r = 1 ∧ ∀ j : Nat, (j : Int) < m A 14 → sG f A v tc m j) ∨ (r = 0 ∧ ∃ j : Nat, (j : Int) < m A 14 ∧ m (10 + v) j ≠ -1 ∧ F81 f A (m (A + 8) j) tc m = some 0) := by
  have st : ∀ (l : Int) y, 0 ≤ l → B175_2 f A S l m = some y → (l < m A 14 ∧ sG f A v tc m l.toNat ∧ y = .inl (l + 1)) ∨ (l < m A 14 ∧ m (10 + v) l.toNat ≠ -1 ∧ F81 f A (m (A + 8) l.toNat) tc m = some 0 ∧ y = .inr (.inr 0)) ∨ (¬ l < m A 14 ∧ y = .inr (.inl l)) := by
    intro l y hl e
    unfold B175_2 J175_53 at e
    rw [s3, s7, Int.toNat_natCast] at e
    rcases ite1 e with ⟨q, e⟩ | ⟨q, e⟩
    · rw [if_pos (by omega), wr_i (x := l + 1) (by omega) (by omega)] at e
      rcases ite1 e with ⟨q2, e⟩ | ⟨q2, e⟩
      · cases e
        exact Or.inl ⟨q, Or.inl q2, rfl⟩
      · replace e := bP_e e
        obtain ⟨r, er, e⟩ := e
        rcases ite1 e with ⟨q3, e⟩ | ⟨q3, e⟩
        · cases e
          exact Or.inr (Or.inl ⟨q, q2, by rw [q3] at er; exact er, rfl⟩)
        · cases e
          exact Or.inl ⟨q, Or.inr ⟨r, q3, er⟩, rfl⟩
    · cases e
      exact Or.inr (Or.inr ⟨q, rfl⟩)
  have inv : ∀ l l' : Int, (0 ≤ l ∧ l ≤ m A 14 ∧ ∀ j : Nat, (j : Int) < l → sG f A v tc m j) → B175_2 f A S l m = some (.inl l') → (0 ≤ l' ∧ l' ≤ m A 14 ∧ ∀ j : Nat, (j : Int) < l' → sG f A v tc m j) := by
    intro l l' ⟨i1, i2, i3⟩ e
    rcases st l _ i1 e with ⟨z0, z1, z⟩ | ⟨-, -, -, z⟩ | ⟨-, z⟩
    · cases z
      refine ⟨by omega, by omega, fun j hj => ?_⟩
      by_cases y : (j : Int) = l
      · have : l.toNat = j := by omega
        rw [← this]; exact z1
      · exact i3 j (by omega)
    · cases z
    · cases z
  have I0 : (0 ≤ (0 : Int) ∧ (0 : Int) ≤ m A 14 ∧ ∀ j : Nat, (j : Int) < 0 → sG f A v tc m j) := ⟨by omega, by omega, fun j hj => by omega⟩
  unfold F175 at h
  rcases bQ_e h with ⟨l, y1, y2⟩ | ⟨l, y1, y2⟩
  · obtain ⟨l', ⟨i1, i2, i3⟩, e3⟩ := ploop_inv _ inv _ _ _ I0 y1
    cases y2
    rcases st l' _ i1 e3 with ⟨-, -, z⟩ | ⟨-, -, -, z⟩ | ⟨z0, z⟩
    · cases z
    · cases z
    · exact Or.inl ⟨rfl, fun j hj => i3 j (by omega)⟩
  · obtain ⟨l', ⟨i1, i2, i3⟩, e3⟩ := ploop_inv _ inv _ _ _ I0 y1
    cases y2
    rcases st l' _ i1 e3 with ⟨-, -, z⟩ | ⟨z0, z1, z2, z⟩ | ⟨-, z⟩
    · cases z
    · cases z
      exact Or.inr ⟨rfl, l'.toNat, by omega, z1, z2⟩
    · cases z
theorem F178_l {v c n : Nat} {tc b : Int} (hp : p ≤ 1) (h18 : m 376 18 = p) (h388 : m 388 p = n) (hn : n ≤ 12) (hv : v < 48) (hc : c < 8) (h402 : m 402 (8 * p + c) = tc) (h : bL (yloop (fun (l : Int) ml => B178_42 g (c : Int) (v : Int) l ml) g 0 m) (fun _ n => some ((1 : Int), n)) (fun r mr => some (r, mr)) = some (b, m2)) : m2 = m ∧ ((b = 1 ∧ ∀ j : Nat, j < n → sH g p v tc m j) ∨ (b = 0 ∧ ∃ j : Nat, j < n ∧ ¬ m 404 (12 * v + j) < 0 ∧ F149 g p (m 400 (12 * p + j)) tc m = some 0)) := by
  have st : ∀ (l : Int) (m' : yM) y, (∃ j : Nat, l = j ∧ j ≤ n ∧ m' = m ∧ ∀ i : Nat, i < j → sH g p v tc m i) → B178_42 g (c : Int) (v : Int) l m' = some y → (∃ l', y = .inl (l', m') ∧ ∃ j : Nat, l' = j ∧ j ≤ n ∧ m' = m ∧ ∀ i : Nat, i < j → sH g p v tc m i) ∨ (y = .inr (.inr (0, m')) ∧ ∃ j : Nat, j < n ∧ ¬ m 404 (12 * v + j) < 0 ∧ F149 g p (m 400 (12 * p + j)) tc m = some 0) ∨ (y = .inr (.inl (l, m')) ∧ ∀ j : Nat, j < n → sH g p v tc m j) := by
    rintro l m' y ⟨j, rfl, hj, hm, hi⟩ e
    rw [hm] at e
    rw [hm]
    unfold B178_42 J178_110 at e
    rw [h18, Int.toNat_natCast, h388] at e
    rcases ite1 e with ⟨q, e⟩ | ⟨q, e⟩
    · rw [ix12 hv (by omega), ixp12 hp (by omega), ixp8 hp (by omega), h402, wr_i (x := (j : Int) + 1) (by omega) (by omega)] at e
      have nx : sH g p v tc m j → (∃ l', (.inl ((j : Int) + 1, m) : (Int × yM) ⊕ ((Int × yM) ⊕ (Int × yM))) = .inl (l', m) ∧ ∃ j : Nat, l' = j ∧ j ≤ n ∧ m = m ∧ ∀ i : Nat, i < j → sH g p v tc m i) := fun hz => ⟨_, rfl, j + 1, by omega, by omega, rfl, fun i i1 => by
        by_cases y : i = j
        · rw [y]; exact hz
        · exact hi i (by omega)⟩
      rcases ite1 e with ⟨q2, e⟩ | ⟨q2, e⟩
      · cases e
        exact Or.inl (nx (Or.inl q2))
      · replace e := bP_e e
        obtain ⟨r, er, e⟩ := e
        rcases ite1 e with ⟨q3, e⟩ | ⟨q3, e⟩
        · cases e
          exact Or.inr (Or.inl ⟨rfl, j, by omega, q2, by rw [q3] at er; exact er⟩)
        · cases e
          exact Or.inl (nx (Or.inr ⟨r, q3, er⟩))
    · cases e
      exact Or.inr (Or.inr ⟨rfl, fun i hi2 => hi i (by omega)⟩)
  have I0 : (∃ j : Nat, (0 : Int) = j ∧ j ≤ n ∧ m = m ∧ ∀ i : Nat, i < j → sH g p v tc m i) := ⟨0, rfl, by omega, rfl, fun i hi => by omega⟩
  have stp : ∀ (l : Int) (n1 : yM) (l' : Int) (n2 : yM), (∃ j : Nat, l = j ∧ j ≤ n ∧ n1 = m ∧ ∀ i : Nat, i < j → sH g p v tc m i) → B178_42 g (c : Int) (v : Int) l n1 = some (.inl (l', n2)) → (∃ j : Nat, l' = j ∧ j ≤ n ∧ n2 = m ∧ ∀ i : Nat, i < j → sH g p v tc m i) := by
    intro l n1 l' n2 hI hB
    rcases st l n1 _ hI hB with ⟨l2, z, z2⟩ | ⟨z, -⟩ | ⟨z, -⟩
    · cases z; exact z2
    · cases z
    · cases z
  rcases bL_e h with ⟨l, n1, y3, y4⟩ | ⟨l, n1, y3, y4⟩
  · obtain ⟨l', n', hI, e3⟩ := yloop_inv _ stp _ _ _ _ I0 y3
    cases y4
    rcases st l' n' _ hI e3 with ⟨l2, z, -⟩ | ⟨z, -⟩ | ⟨z, z2⟩
    · cases z
    · cases z
    · cases z
      obtain ⟨-, -, -, j2, -⟩ := hI
      exact ⟨j2, Or.inl ⟨rfl, z2⟩⟩
  · obtain ⟨l', n', hI, e3⟩ := yloop_inv _ stp _ _ _ _ I0 y3
    cases y4
    rcases st l' n' _ hI e3 with ⟨l2, z, -⟩ | ⟨z, z2⟩ | ⟨z, -⟩
    · cases z
    · cases z
      obtain ⟨-, -, -, j2, -⟩ := hI
      exact ⟨j2, Or.inr ⟨rfl, z2⟩⟩
    · cases z
/-- the cast c, its statement -/
theorem RPG.cast {c : Nat} (h : RPG A p s o m m) (hc : (c : Int) < m A 13) : ∃ t : Nat, t < s ∧ m (A + 9) c = t ∧ (0 ≤ m (A + 20 + t) 3 ∧ m (A + 20 + t) 3 < 48) ∧ m 401 (8 * p + c) = m (A + 20 + t) 3 ∧ m 402 (8 * p + c) = m (A + 20 + t) 7 ∧ 0 ≤ m (A + 20 + t) 7 := by
  obtain ⟨r1, r2, r3, r4, ⟨-, -, -, hCA, -⟩, r6, ⟨N, r7⟩, r8⟩ := h
  obtain ⟨⟨t, t1, t2, t3⟩, inj⟩ := hCA c hc
  refine ⟨t, t1, t2, ?_⟩
  obtain ⟨u, u1, hu⟩ := r7.all t (by omega) t1
  rcases hu with hu | hu
  · obtain ⟨-, hu⟩ := hu
    rcases hu with z | z | z | z | z | z | z | z
    case inr.inr.inr.inr.inr.inl =>
      obtain ⟨y1, y2, y3, y4, y5, y6, y7, y8, y9, y10, y11, y12, y13, y14⟩ := z
      have e : (m 403 (1000 * p + 8 * u + 4)).toNat = c := inj _ (by omega) (by rw [y10, t2])
      rw [e] at y11 y12
      exact ⟨⟨y6.1, y6.2.1⟩, y11, y12, y13⟩
    all_goals (have := z.1; omega)
  · have := qB.kd hu
    omega
theorem safeQ {x k b : Int} (hI : IQ m) (hx : rg x) (h1 : F177 f x m = some (k, m1)) (h2 : F178 g x m1 = some (b, m2)) : IQ m2 ∧ m2 376 57 = k ∧ (k = 0 → m2 413 0 = b ∧ rg b) := by
  have hI2 : IQ m2 := hI.fr ((show KP PQ m m1 from kcq_F177 (fun a q h => by unfold PQ at h; omega) KP.rf _ h1).tr (show KP PQ m1 m2 from kmq_F178 (fun a q h => by unfold PQ at h; omega) KP.rf _ h2))
  refine ⟨hI2, ?_⟩
  obtain ⟨-, -, ⟨h4, h18⟩, -, hc⟩ := hI
  obtain ⟨p, hp, hp18⟩ : ∃ p : Nat, p ≤ 1 ∧ m 376 18 = (p : Int) := ⟨(m 376 18).toNat, by omega, by omega⟩
  rw [hp18, Int.toNat_natCast] at hc
  have hA := pA_is (m 0 4)
  obtain ⟨A, hAe⟩ : ∃ A, A = pA (m 0 4) := ⟨_, rfl⟩
  rw [← hAe] at hc hA
  have ct := hc.cnt
  unfold F177 at h1
  unfold F178 at h2
  replace h2 := bI_e h2
  obtain ⟨r, n, e1, h2⟩ := h2
  by_cases hC : 0 ≤ x ∧ x < m A 13
  case neg =>
    have z : F176 f x m = some (.inr 11, m) := by
      unfold F176
      rw [← hAe, if_pos (cntC.mpr hC)]
    rcases bT_e h1 with ⟨r2, m', e3, e4⟩ | ⟨r2, m', e3, e4⟩
    · rw [z] at e3; cases e3
    rw [z] at e3
    cases e3
    rw [if_pos rfl] at e4
    cases e4
    rcases F162_r e1 with ⟨z1, z2, -, -⟩ | ⟨z1, rfl, rfl⟩
    · exfalso
      rcases ct with ⟨c19, -⟩ | ⟨c19, c84, c10, c11, c12, c13, c14, c15, d10, d11, d12, d13, -⟩
      · exact z1 c19
      · rw [hp18, Int.toNat_natCast, ← c13] at z2
        exact z2 ((cntM (by omega)).mpr hC)
    · rw [if_pos rfl] at h2
      cases h2
      exact ⟨yup_eq _ _ _ _, fun e => absurd e (by decide)⟩
  obtain ⟨xn, rfl⟩ : ∃ xn : Nat, x = xn := ⟨x.toNat, by omega⟩
  rcases hc with ⟨-, -, -, -, -, c13, -⟩ | ⟨c19, c84, s, o, hR, hQ, -⟩
  · omega
  rcases ct with ⟨c19', -⟩ | ⟨-, -, c10, c11, c12, c13, c14, c15, d10, d11, d12, d13, d14, d15, -⟩
  · omega
  obtain ⟨t, t1, t2, t3, t401, t402, t7⟩ := hR.cast hC.2
  obtain ⟨v, hv⟩ : ∃ v : Nat, m (A + 20 + t) 3 = v := ⟨(m (A + 20 + t) 3).toNat, by omega⟩
  obtain ⟨tc, htc⟩ : ∃ tc, m (A + 20 + t) 7 = tc := ⟨_, rfl⟩
  rw [hv] at t3 t401
  rw [htc] at t402 t7
  have hs40 : s ≤ 40 := hR.2.2.2.2.2.1.2.1
  have cl : ∀ z, F176 f (xn : Int) m = some z → ∃ v0 : Int, z = (.inl v0, m) ∧ ((v0 = 1 ∧ ∀ j : Nat, (j : Int) < m A 14 → sG f A v tc m j) ∨ (v0 = 0 ∧ ∃ j : Nat, (j : Int) < m A 14 ∧ m (10 + v) j ≠ -1 ∧ F81 f A (m (A + 8) j) tc m = some 0)) := by
    intro z e
    unfold F176 at e
    rw [← hAe, if_neg (fun q => cntC.mp q hC), Int.toNat_natCast, t2, if_pos (by omega), Int.toNat_natCast, c84, pA_pX hA] at e
    replace e := bP_e e
    obtain ⟨r5, er, e⟩ := e
    rcases F175_r (by omega) hv (by omega) htc er with ⟨w1, w2⟩ | ⟨w1, w2⟩
    · rw [w1, if_neg (by decide)] at e
      cases e
      exact ⟨1, rfl, Or.inl ⟨rfl, w2⟩⟩
    · rw [if_pos w1] at e
      cases e
      exact ⟨0, rfl, Or.inr ⟨rfl, w2⟩⟩
  rcases bT_e h1 with ⟨r2, m', e3, e4⟩ | ⟨r2, m', e3, e4⟩
  case inr =>
    obtain ⟨v0, z, -⟩ := cl _ e3
    cases z
  obtain ⟨v0, z, hv0⟩ := cl _ e3
  injection z with y1 y2
  injection y1 with y1
  rw [y1, y2] at e4
  injection e4 with e4
  injection e4 with e4k e4m
  have fr : ∀ a q, a ≠ 413 → m1 a q = m a q := fun a q ha => by rw [← e4m]; exact yup_na ha
  rcases F162_r e1 with ⟨z1, z2, rfl, rfl⟩ | ⟨z1, -, -⟩
  case inr =>
    exfalso
    refine z1 ⟨by rw [fr 376 19 (by decide)]; omega, ?_⟩
    rw [fr 376 18 (by decide), hp18, Int.toNat_natCast, fr 387 p (by decide), ← c13]
    exact fun y => (cntM (by omega)).mp y hC
  rw [if_neg (by decide)] at h2
  have k18 : yup m1 376 57 0 376 18 = p := by rw [yup_nk (by decide), fr 376 18 (by decide)]; exact hp18
  have fn : ∀ a q, a ≠ 413 → a ≠ 376 → yup m1 376 57 0 a q = m a q := fun a q z1 z2 => by rw [yup_na z2, fr a q z1]
  rw [k18, ixp8 hp (by omega), fn 401 _ (by decide) (by decide), t401] at h2
  obtain ⟨n14, hn14⟩ : ∃ n14 : Nat, m A 14 = n14 := ⟨(m A 14).toNat, by omega⟩
  obtain ⟨e5, hb⟩ := F178_l (tc := tc) (n := n14) hp k18 (by rw [fn 388 p (by decide) (by decide), ← c14]; exact hn14) (by omega) (by omega) (by omega) (by rw [fn 402 _ (by decide) (by decide)]; exact t402) h2
  have cmp : ∀ (j : Nat) {r r' : Int}, j < n14 → m (10 + v) j ≠ -1 → F81 f A (m (A + 8) j) tc m = some r → F149 g p (yup m1 376 57 0 400 (12 * p + j)) tc (yup m1 376 57 0) = some r' → r = r' := by
    intro j r r' hj hz a1 a2
    have hg := (hQ 0 v j (by decide) (by show v < 48; omega) (by show j < 12; omega)).2.2.1 (by decide) hz
    obtain ⟨g1, g2, g3⟩ := hR.2.2.2.2.2.2.2 j hg
    rw [fn 400 _ (by decide) (by decide), ← g1] at a2
    exact (below_r (hR.1.fr rfl (fun _ _ _ => rfl) (fun b q hb => fn _ _ (by omega) (by omega))) hp t7 g2 g3 a1 a2).1
  have fact : ∀ j : Nat, j < n14 → (yup m1 376 57 0 404 (12 * v + j) = m (10 + v) j ∧ -1 ≤ m (10 + v) j) := fun j hj => by
    have z := hQ 0 v j (by decide) (by show v < 48; omega) (by show j < 12; omega)
    rw [fn 404 _ (by decide) (by decide)]
    exact ⟨z.1.symm, z.2.1.1⟩
  rw [e5, ← e4k]
  refine ⟨yup_eq _ _ _ _, fun _ => ?_⟩
  rw [yup_na (by decide), ← e4m, yup_eq]
  rcases hv0 with ⟨rfl, w⟩ | ⟨rfl, j, j1, j2, j3⟩
  · rcases hb with ⟨rfl, -⟩ | ⟨-, j, j1, j2, j3⟩
    · exact ⟨i2l_i ⟨by decide, by decide⟩, by decide, by decide⟩
    · exfalso
      obtain ⟨y1, y2⟩ := fact j j1
      rcases w j (by omega) with z | ⟨r, q1, q2⟩
      · omega
      · exact q1 (cmp j j1 (by omega) q2 j3)
  · rcases hb with ⟨-, w⟩ | ⟨rfl, -⟩
    · exfalso
      obtain ⟨y1, y2⟩ := fact j (by omega)
      rcases w j (by omega) with z | ⟨r, q1, q2⟩
      · omega
      · exact q1 (cmp j (by omega) j2 j3 q2).symm
    · exact ⟨i2l_i ⟨by decide, by decide⟩, by decide, by decide⟩
end QS
end

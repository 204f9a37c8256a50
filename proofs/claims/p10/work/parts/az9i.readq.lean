/-! READING, for the questions -/
section RQ
variable {A p k s o a f g : Nat} {m m1 m2 mc mm mc' mm' M N : yM}
theorem F73_8 {r : Int} (hP : PRG A p k s o a M N) (h : F73 f A M = some (r, mc')) : mc' (A + 8) 0 = M (A + 8) 0 := by
  have hst := hP.st.1
  obtain ⟨p1, p2, p3, p4, p5, p6, p7, ⟨q1, q2, q3, q4, q5, q6, q7, q8⟩, p8⟩ := hP
  have st : ∀ (l : Int) (m : yM) (y : (Int × yM) ⊕ ((Int × yM) ⊕ (Int × yM))), (0 ≤ l ∧ fNc A M m ∧ (∀ t : Nat, t < s → M (A + 20 + t) 0 = 5 → m (A + 20 + t) 6 = M (A + 20 + t) 6) ∧ m (A + 8) 0 = M (A + 8) 0) → B73_2 f A l m = some y → (∃ l' m', y = .inl (l', m') ∧ (0 ≤ l' ∧ fNc A M m' ∧ (∀ t : Nat, t < s → M (A + 20 + t) 0 = 5 → m' (A + 20 + t) 6 = M (A + 20 + t) 6) ∧ m' (A + 8) 0 = M (A + 8) 0)) ∨ (∃ x m', y = .inr (.inr (x, m')) ∧ m' (A + 8) 0 = M (A + 8) 0) ∨ y = .inr (.inl (l, m)) := by
    intro l m y ⟨i1, i2, i3, i4⟩ e
    unfold B73_2 at e
    rw [i2 A 16 (by omega) (by omega) (by omega), q1] at e
    rcases ite1 e with ⟨ql, e⟩ | ⟨ql, e⟩
    case inr => cases e; exact Or.inr (Or.inr rfl)
    obtain ⟨n, rfl⟩ : ∃ n : Nat, l = n := ⟨l.toNat, by omega⟩
    have hn : n < s := by omega
    have w1 : wr ((n : Int) + 1) = (n : Int) + 1 := wr_i (by omega) (by omega)
    rw [Int.toNat_natCast, i2 (A + 20 + n) 0 (by omega) (by omega) (by omega)] at e
    have s34 : M (A + 20 + n) 0 ≠ 5 → J73_34 f A (n : Int) (A + 20 + n) m = some y → (∃ l' m', y = .inl (l', m') ∧ (0 ≤ l' ∧ fNc A M m' ∧ (∀ t : Nat, t < s → M (A + 20 + t) 0 = 5 → m' (A + 20 + t) 6 = M (A + 20 + t) 6) ∧ m' (A + 8) 0 = M (A + 8) 0)) := by
      intro hk e
      unfold J73_34 J73_112 at e
      replace e := bP_e e
      obtain ⟨v, -, e⟩ := e
      rw [w1] at e
      cases e
      refine ⟨_, _, rfl, by omega, i2.st (by omega) (Or.inl rfl), fun t ht h5 => ?_, by rw [yup_na (by omega)]; exact i4⟩
      rw [yup_na (by rintro z; obtain rfl : t = n := by omega
                     exact hk h5)]
      exact i3 t ht h5
    have s66 : J73_66 f A (n : Int) (A + 20 + n) m = some y → (∃ l' m', y = .inl (l', m') ∧ (0 ≤ l' ∧ fNc A M m' ∧ (∀ t : Nat, t < s → M (A + 20 + t) 0 = 5 → m' (A + 20 + t) 6 = M (A + 20 + t) 6) ∧ m' (A + 8) 0 = M (A + 8) 0)) ∨ (∃ x m', y = .inr (.inr (x, m')) ∧ m' (A + 8) 0 = M (A + 8) 0) := by
      intro e
      unfold J73_66 J73_112 at e
      replace e := bP_e e
      obtain ⟨v, -, e⟩ := e
      rw [w1, i2 (A + 20 + n) 0 (by omega) (by omega) (by omega)] at e
      rcases ite1 e with ⟨-, e⟩ | ⟨-, e⟩
      · cases e
        exact Or.inr ⟨_, _, rfl, by rw [yup_na (by omega)]; exact i4⟩
      left
      rcases ite1 e with ⟨z5, e⟩ | ⟨z5, e⟩
      · rw [i3 n hn z5] at e
        cases e
        have := (hst n hn z5).1
        refine ⟨_, _, rfl, by omega, (i2.st (by omega) (Or.inr rfl)).a8, fun t ht h5 => ?_, by rw [yup_nk (by omega), yup_na (by omega)]; exact i4⟩
        rw [yup_na (by omega), yup_ne (by omega)]
        exact i3 t ht h5
      · cases e
        refine ⟨_, _, rfl, by omega, i2.st (by omega) (Or.inr rfl), fun t ht h5 => ?_, by rw [yup_na (by omega)]; exact i4⟩
        rw [yup_ne (by omega)]
        exact i3 t ht h5
    rcases ite1 e with ⟨k9, e⟩ | ⟨k9, e⟩
    · exact Or.inl (s34 (by omega) e)
    rcases ite1 e with ⟨k3, e⟩ | ⟨k3, e⟩
    · exact Or.inl (s34 (by omega) e)
    rcases ite1 e with ⟨k5, e⟩ | ⟨k5, e⟩
    · rcases s66 e with z | z
      · exact Or.inl z
      · exact Or.inr (Or.inl z)
    rcases ite1 e with ⟨k7, e⟩ | ⟨k7, e⟩
    · rcases s66 e with z | z
      · exact Or.inl z
      · exact Or.inr (Or.inl z)
    unfold J73_112 at e
    rw [w1] at e
    cases e
    exact Or.inl ⟨_, _, rfl, by omega, i2, i3, i4⟩
  unfold F73 at h
  have I0 : (0 ≤ (0 : Int) ∧ fNc A M M ∧ (∀ t : Nat, t < s → M (A + 20 + t) 0 = 5 → M (A + 20 + t) 6 = M (A + 20 + t) 6) ∧ M (A + 8) 0 = M (A + 8) 0) := ⟨by omega, fNc.rf, fun _ _ _ => rfl, rfl⟩
  have go : ∀ {r : (Int × yM) ⊕ (Int × yM)}, yloop (fun (l : Int) ml => B73_2 f A l ml) f 0 M = some r → (∀ x m', r = .inl (x, m') → m' (A + 8) 0 = M (A + 8) 0) ∧ (∀ x m', r = .inr (x, m') → m' (A + 8) 0 = M (A + 8) 0) := by
    intro r e
    obtain ⟨l', m', hI, e3⟩ := yloop_inv _ (fun l m l' m' hI hB => by
      rcases st l m _ hI hB with ⟨l2, m2, z, z2⟩ | ⟨x, m2, z, -⟩ | z
      · cases z; exact z2
      · cases z
      · cases z) _ _ _ _ I0 e
    rcases st l' m' _ hI e3 with ⟨l2, m2, z, -⟩ | ⟨x, m2, z, z2⟩ | z
    · cases z
    · cases z
      exact ⟨fun x m' e => (by cases e), fun x m' e => by cases e; exact z2⟩
    · cases z
      exact ⟨fun x m' e => by cases e; exact hI.2.2.2, fun x m' e => by cases e⟩
  rcases bL_e h with ⟨l, x, e1, e2⟩ | ⟨l, x, e1, e2⟩
  · replace e2 := bP_e e2
    obtain ⟨v, -, e2⟩ := e2
    cases e2
    rw [yup_na (by omega)]
    exact (go e1).1 _ _ rfl
  · cases e2
    exact (go e1).2 _ _ rfl
/-- the model refuses a name: nothing else is changed -/
theorem F141_f (hp : p ≤ 1) (h3 : 0 ≤ N 383 p ∧ N 383 p ≤ 6) (h5 : 0 ≤ N 385 p ∧ N 385 p ≤ 8) (h7 : 0 ≤ N 387 p ∧ N 387 p ≤ 8) (h8 : 1 ≤ N 388 p ∧ N 388 p ≤ 12) (h0 : 0 ≤ N 390 p ∧ N 390 p ≤ 120) (h : F141 g p N = some mm') (hw : 0 ≤ mm' 376 8) : ∀ a q, ¬ (a = 376 ∧ q = 8) → mm' a q = N a q := by
  unfold F141 at h
  rcases bL_e h with ⟨l, m1, e1, e2⟩ | ⟨l, m1, e1, e2⟩
  · have f1 := asked_m e1
    unfold J141_47 at e2
    rcases ite1 e2 with ⟨q, e2⟩ | ⟨q, e2⟩
    case inr => cases e2; exact f1
    exfalso
    rcases bL_e e2 with ⟨l2, m2, e3, e4⟩ | ⟨l2, m2, e3, e4⟩
    · obtain ⟨l', m', z, s1, -⟩ := sites_m hp (by rw [f1 383 p (by omega)]; exact h3) (by rw [f1 388 p (by omega)]; exact h8) e3
      cases z
      rcases bL_e e4 with ⟨l3, m3, e5, e6⟩ | ⟨l3, m3, e5, e6⟩
      · obtain ⟨l', m', z, c1, -⟩ := casts_m hp (by rw [s1 383 p (by decide), f1 383 p (by omega)]; exact h3) (by rw [s1 387 p (by decide), f1 387 p (by omega)]; exact h7) e5
        cases z
        rcases bL_e e6 with ⟨l4, m4, e7, e8⟩ | ⟨l4, m4, e7, e8⟩
        · obtain ⟨l', m', z, o1, -⟩ := ops_m hp (by rw [c1 385 p (by decide), s1 385 p (by decide), f1 385 p (by omega)]; exact h5) (by rw [c1 390 p (by decide), s1 390 p (by decide), f1 390 p (by omega)]; exact h0) e7
          cases z
          cases e8
          rw [o1 376 8 (by decide), c1 376 8 (by decide), s1 376 8 (by decide)] at hw
          omega
        · obtain ⟨l', m', z, -⟩ := ops_m hp (by rw [c1 385 p (by decide), s1 385 p (by decide), f1 385 p (by omega)]; exact h5) (by rw [c1 390 p (by decide), s1 390 p (by decide), f1 390 p (by omega)]; exact h0) e7
          cases z
      · obtain ⟨l', m', z, -⟩ := casts_m hp (by rw [s1 383 p (by decide), f1 383 p (by omega)]; exact h3) (by rw [s1 387 p (by decide), f1 387 p (by omega)]; exact h7) e5
        cases z
    · obtain ⟨l', m', z, -⟩ := sites_m hp (by rw [f1 383 p (by omega)]; exact h3) (by rw [f1 388 p (by omega)]; exact h8) e3
      cases z
  · exfalso
    obtain ⟨l', m', -, i3⟩ := yloop_inv (fun _ _ => True) (fun _ _ _ _ _ _ => trivial) _ _ _ _ trivial e1
    unfold B141_2 J141_41 at i3
    rcases ite1 i3 with ⟨-, i3⟩ | ⟨-, i3⟩
    · rcases ite1 i3 with ⟨-, i3⟩ | ⟨-, i3⟩
      · replace i3 := bP_e i3
        obtain ⟨v, -, i3⟩ := i3
        rcases ite1 i3 with ⟨-, i3⟩ | ⟨-, i3⟩ <;> cases i3
      · cases i3
    · cases i3
def RD7 (f : Nat) (m7 m1 : yM) (r r7 : Int) : Prop := (r7 ≠ -1 ∧ m1 = yup m7 0 7 r7 ∧ r = 1) ∨ (r7 = -1 ∧ ∃ m8 m9 v, F91 f (pA (m7 0 5)) (yup (yup (yup m7 0 7 r7) 0 4 (pX (pA (m7 0 5)))) 0 5 (pX (pA (m7 0 4)))) = some m8 ∧ F92 f m8 = some m9 ∧ m1 = yup m9 413 0 v ∧ r = 0 ∧ ∃ c, F93 f (pA (m7 0 5)) m9 = some c ∧ v = (i2l c).toInt)
/-- the class's read, with its analysis -/
theorem F95_q {r : Int} (h : F95 f m = some (r, m1)) : ∃ r7 m7, F74 f (m 0 6) (pA (m 0 5)) m = some (r7, m7) ∧ RD7 f m7 m1 r r7 := by
  have main : ∀ z, F94 f m = some z → ∃ r7 m7, F74 f (m 0 6) (pA (m 0 5)) m = some (r7, m7) ∧ ((r7 ≠ -1 ∧ z = (.inr 9, yup m7 0 7 r7)) ∨ (r7 = -1 ∧ ∃ v m8 m9, z = (.inl v, m9) ∧ F91 f (pA (m7 0 5)) (yup (yup (yup m7 0 7 r7) 0 4 (pX (pA (m7 0 5)))) 0 5 (pX (pA (m7 0 4)))) = some m8 ∧ F92 f m8 = some m9 ∧ F93 f (pA (m7 0 5)) m9 = some v)) := by
    intro z e
    unfold F94 at e
    replace e := bI_e e
    obtain ⟨r7, m7, e7, e⟩ := e
    refine ⟨r7, m7, e7, ?_⟩
    rcases ite1 e with ⟨q, e⟩ | ⟨q, e⟩
    · rw [pA_pX (pA_is _)] at e
      replace e := bU_e e
      obtain ⟨m8, e8, e⟩ := e
      replace e := bU_e e
      obtain ⟨m9, e9, e⟩ := e
      replace e := bP_e e
      obtain ⟨r9, e10, e⟩ := e
      cases e
      exact Or.inr ⟨q, _, m8, m9, rfl, e8, e9, e10⟩
    · cases e
      exact Or.inl ⟨q, rfl⟩
  unfold F95 at h
  rcases bT_e h with ⟨r2, m2, e1, e2⟩ | ⟨r2, m2, e1, e2⟩
  · obtain ⟨r7, m7, a1, ⟨-, a2⟩ | ⟨a2, v, m8, m9, a3, a4, a5, a6⟩⟩ := main _ e1
    · cases a2
    · cases a3
      cases e2
      exact ⟨r7, m7, a1, Or.inr ⟨a2, m8, _, _, a4, a5, rfl, rfl, _, a6, rfl⟩⟩
  · obtain ⟨r7, m7, a1, ⟨a0, a2⟩ | ⟨a2, v, m8, m9, a3, a4, a5, a6⟩⟩ := main _ e1
    · cases a2
      rw [if_pos rfl] at e2
      cases e2
      exact ⟨r7, m7, a1, Or.inl ⟨a0, rfl, rfl⟩⟩
    · cases a3
/-- the model, behind the reading, with its analysis -/
theorem J132_q {x b : Int} (h : J152_132 g x m = some (b, m2)) : (0 ≤ m 376 8 ∧ ∃ c, m2 = yup (yup m 376 2 (m 376 8)) 376 57 c ∧ c = 1) ∨ (m 376 8 < 0 ∧ ∃ X1 c, (∀ a q, a ≠ 408 → X1 a q = yup (yup (yup (yup (yup m 376 2 (m 376 8)) 376 57 c) 376 18 x) 376 19 1) 376 51 0 a q) ∧ F151 g X1 = some m2 ∧ c = 0 ∧ b = (fS m2 576 : Nat) ∧ ∀ i, i < 576 → X1 408 i = 0) := by
  unfold J152_132 at h
  have key : ∀ {y : Int}, J152_153 g x y (yup m 376 2 (m 376 8)) = some (b, m2) → (y = 0 → ∃ c, m2 = yup (yup m 376 2 (m 376 8)) 376 57 c ∧ c = 1) ∧ (y ≠ 0 → ∃ X1 c, (∀ a q, a ≠ 408 → X1 a q = yup (yup (yup (yup (yup m 376 2 (m 376 8)) 376 57 c) 376 18 x) 376 19 1) 376 51 0 a q) ∧ F151 g X1 = some m2 ∧ c = 0 ∧ b = (fS m2 576 : Nat) ∧ ∀ i, i < 576 → X1 408 i = 0) := by
    intro y e
    unfold J152_153 at e
    replace e := bI_e e
    obtain ⟨r1, n1, e1, e⟩ := e
    obtain ⟨rfl, c, rfl, hc1, hc0⟩ := F23_x e1
    refine ⟨fun z => ?_, fun z => ?_⟩
    · rw [if_pos z] at e
      cases e
      exact ⟨c, rfl, hc1 z⟩
    · rw [if_neg z] at e
      have hcz := hc0 z
      have g1 : ∀ {r}, yloop (fun (l : Int) ml => B152_179 g l ml) g 0 (yup (yup (yup (yup (yup m 376 2 (m 376 8)) 376 57 c) 376 18 x) 376 19 1) 376 51 0) = some r → ∃ l X1, r = .inl (l, X1) ∧ (∀ j, j < 576 → X1 408 (0 + j) = 0) ∧ (∀ a q, ¬ (a = 408 ∧ 0 ≤ q ∧ q < 0 + 576) → X1 a q = yup (yup (yup (yup (yup m 376 2 (m 376 8)) 376 57 c) 376 18 x) 376 19 1) 376 51 0 a q) := fun e => fill_r (fun j m y hj _ e => by
        unfold B152_179 at e
        rw [k1w (by omega), Int.toNat_natCast] at e
        rcases ite1 e with ⟨q, e⟩ | ⟨q, e⟩
        · injection e with e
          exact Or.inr ⟨by omega, by rw [← e, Nat.zero_add]⟩
        · injection e with e
          exact Or.inl ⟨by omega, e.symm⟩) e
      obtain ⟨l, X1, a1, e⟩ := bL_m e (fun r er => by obtain ⟨l, X1, z, -⟩ := g1 er; exact ⟨l, X1, z⟩)
      obtain ⟨_, _, z2, h408, hX'⟩ := g1 a1
      cases z2
      have hX : ∀ a q, a ≠ 408 → X1 a q = yup (yup (yup (yup (yup m 376 2 (m 376 8)) 376 57 c) 376 18 x) 376 19 1) 376 51 0 a q := fun a q ha => hX' a q (fun w => ha w.1)
      replace e := bU_e e
      obtain ⟨X2, e3, e⟩ := e
      refine ⟨X1, c, hX, ?_⟩
      have st2 : ∀ (l : Int × Int) (mi : yM) y, (mi = X2 ∧ ∃ i : Nat, l.1 = ((fS X2 i : Nat) : Int) ∧ l.2 = i ∧ i ≤ 576) → B152_207 g l.1 l.2 mi = some y → (∃ l' : Int × Int, y = .inl (l', X2) ∧ ∃ i : Nat, l'.1 = ((fS X2 i : Nat) : Int) ∧ l'.2 = i ∧ i ≤ 576) ∨ (∃ l' : Int × Int, y = .inr (.inl (l', X2)) ∧ l'.1 = ((fS X2 576 : Nat) : Int)) := by
        intro l mi y ⟨hI, i, i1, i2, i3⟩ e
        unfold B152_207 J152_226 at e
        rw [hI, i1, i2, Int.toNat_natCast] at e
        rcases ite1 e with ⟨q, e⟩ | ⟨q, e⟩
        · have sc := fS_s (mm := X2) i
          have le := fS_le (mm := X2) i
          rw [wr_i (x := (i : Int) + 1) (by omega) (by omega), wr_i (x := ((fS X2 i : Nat) : Int) + 1) (by omega) (by omega)] at e
          rcases ite1 e with ⟨q2, e⟩ | ⟨q2, e⟩
          · rw [if_neg (by omega)] at sc
            cases e
            exact Or.inl ⟨_, rfl, i + 1, by show ((fS X2 i : Nat) : Int) = _; rw [sc]; rfl, by show (i : Int) + 1 = _; omega, by omega⟩
          · rw [if_pos (by omega)] at sc
            cases e
            exact Or.inl ⟨_, rfl, i + 1, by show ((fS X2 i : Nat) : Int) + 1 = _; rw [sc]; omega, by show (i : Int) + 1 = _; omega, by omega⟩
        · cases e
          obtain rfl : i = 576 := by omega
          exact Or.inr ⟨_, rfl, rfl⟩
      have inv2 : ∀ (l : Int × Int) (mi : yM) (l' : Int × Int) (mi' : yM), (mi = X2 ∧ ∃ i : Nat, l.1 = ((fS X2 i : Nat) : Int) ∧ l.2 = i ∧ i ≤ 576) → B152_207 g l.1 l.2 mi = some (.inl (l', mi')) → (mi' = X2 ∧ ∃ i : Nat, l'.1 = ((fS X2 i : Nat) : Int) ∧ l'.2 = i ∧ i ≤ 576) := by
        intro l mi l' mi' hI hB
        rcases st2 l mi _ hI hB with ⟨l2, w, w2⟩ | ⟨l2, w, -⟩
        · injection w with w
          injection w with w w'
          rw [w, w']
          exact ⟨rfl, w2⟩
        · cases w
      rcases bL_e e with ⟨l3, m3, d1, d2⟩ | ⟨l3, m3, d1, d2⟩
      · obtain ⟨l', m', hI, e4⟩ := yloop_inv _ inv2 _ _ _ _ ⟨rfl, 0, rfl, rfl, by omega⟩ d1
        rcases st2 l' m' _ hI e4 with ⟨l2, w, -⟩ | ⟨l2, w, w2⟩
        · cases w
        · injection w with w
          injection w with w
          injection w with w w'
          injection d2 with d2
          injection d2 with d2 d2'
          rw [← d2', ← d2, w, w']
          exact ⟨e3, hcz, w2, fun i hi => by have := h408 i hi; rw [Nat.zero_add] at this; exact this⟩
      · obtain ⟨l', m', hI, e4⟩ := yloop_inv _ inv2 _ _ _ _ ⟨rfl, 0, rfl, rfl, by omega⟩ d1
        rcases st2 l' m' _ hI e4 with ⟨l2, w, -⟩ | ⟨l2, w, w2⟩
        · cases w
        · cases w
  rcases ite1 h with ⟨q, h⟩ | ⟨q, h⟩
  · exact Or.inr ⟨q, (key h).2 (by decide)⟩
  · exact Or.inl ⟨by omega, (key h).1 rfl⟩
/-- read, and what it answers -/
theorem readR2 {r b : Int} (hI : IQ m) (h1 : F95 f m = some (r, m1)) (h2 : F152 g m1 = some (b, m2)) : IQ m2 ∧ m2 376 57 = r ∧ (r = 0 → m2 413 0 = b ∧ rg b) ∧ (SN m → SN m2) := by
  obtain ⟨⟨t1, t2, t3, t4⟩, hK, ⟨h4, h18⟩, h80, hc⟩ := hI
  obtain ⟨r7, m7, e7, c7⟩ := F95_q h1
  have hA := pA_is (m 0 4)
  have hB := pA_is (m 0 5)
  have hd := pA_d h4
  have f7 := F74_fr hB e7
  obtain ⟨p, hp, hp18⟩ : ∃ p : Nat, p ≤ 1 ∧ m 376 18 = 1 - (p : Int) := ⟨(1 - m 376 18).toNat, by omega, by omega⟩
  have g4 : m7 0 4 = m 0 4 := f7 0 4 (by omega) (by omega) (by omega) (by omega) (by omega) (by omega)
  have g5 : m7 0 5 = m 0 5 := f7 0 5 (by omega) (by omega) (by omega) (by omega) (by omega) (by omega)
  -- what the class leaves
  have fr : ∀ a q, (a = 0 ∧ q = 6) ∨ a = 1 ∨ a = 4 ∨ (376 ≤ a ∧ a ≠ 413) ∨ (256 ≤ a ∧ a < 376 ∧ ¬ (pA (m 0 5) ≤ a ∧ a < pA (m 0 5) + 60)) → m1 a q = m a q := by
    intro a q ha
    have f7' := f7 a q (by omega) (by omega) (by omega) (by omega) (by omega) (by omega)
    rcases c7 with ⟨-, rfl, -⟩ | ⟨-, m8, m9, v, c1, c2, rfl, -⟩
    · rw [yup_ne (by omega)]; exact f7'
    · have k8 := kan_F91 (P := fun a _ => a < 8 ∨ 256 ≤ a) (fun a q h => by omega) KP.rf _ c1
      have k9 : KP (fun a _ => a < 8 ∨ 256 ≤ a) _ m9 := ksn_F92 (P := fun a _ => a < 8 ∨ 256 ≤ a) (fun a q h => by omega) k8 _ c2
      rw [yup_ne (by omega), k9 a q (show a < 8 ∨ 256 ≤ a by omega), yup_ne (by omega), yup_ne (by omega), yup_ne (by omega)]; exact f7'
  have x6 := fr 0 6 (by omega)
  have x1 := fr 376 1 (by omega)
  have x18 := fr 376 18 (by omega)
  obtain ⟨-, mm', k1, k2, hR⟩ := parse_r ⟨t2, t3⟩ hB hp (by omega) hK (fun t z1 z2 => by
    rw [fr 377 _ (by omega)]
    have := t4 t z1 z2
    exact ⟨this.1.symm, this.2⟩) (by omega) e7 h2
  have y : ∀ a q, (a < 376) ∨ (a = 376 ∧ (q = 1 ∨ q = 18 ∨ q = 19 ∨ q = 47)) ∨ a = 377 ∨ (404 ≤ a ∧ a ≤ 407) → mm' a q = m1 a q := fun a q ha => k2 a q (by unfold arM; omega) (by omega) (by omega) (by omega)
  have fin : m2 0 6 = m1 0 6 → m2 376 1 = m1 376 1 → (∀ q, m2 1 q = m1 1 q) → (∀ q, m2 377 q = m1 377 q) → (∀ q, m2 4 q = m1 4 q) → GQ2 m2 → (m2 264 0 = 0 ∧ m2 324 0 = 0) → CQ (pA (m2 0 4)) (m2 376 18).toNat m2 → IQ m2 := by
    intro a1 a3 a6 a7 a8 a9 a9' a10
    refine ⟨⟨by omega, by omega, by omega, fun t z1 z2 => ?_⟩, fun j j1 j2 => ?_, a9, a9', a10⟩
    · rw [a6, a7, fr 1 _ (by omega), fr 377 _ (by omega)]
      exact t4 t z1 (by omega)
    · rw [a8, fr 4 _ (by omega)]
      exact hK j j1 j2
  have hB8 : m (pA (m 0 5) + 8) 0 = 0 := by
    rcases hd with ⟨-, z⟩ | ⟨-, z⟩
    · rw [z]; exact h80.2
    · rw [z]; exact h80.1
  have hA8 : m (pA (m 0 4) + 8) 0 = 0 := by
    rcases hd with ⟨z, -⟩ | ⟨z, -⟩
    · rw [z]; exact h80.1
    · rw [z]; exact h80.2
  have two8 : m2 (pA (m 0 4) + 8) 0 = 0 → m2 (pA (m 0 5) + 8) 0 = 0 → m2 264 0 = 0 ∧ m2 324 0 = 0 := by
    intro z1 z2
    rcases hd with ⟨w1, w2⟩ | ⟨w1, w2⟩
    · rw [w1] at z1; rw [w2] at z2; exact ⟨z1, z2⟩
    · rw [w1] at z1; rw [w2] at z2; exact ⟨z2, z1⟩
  rcases J132_q k1 with ⟨q, c, rfl, hc1⟩ | ⟨q, X1, c, hX, e151, hc0, hb, h408⟩
  · rcases hR with ⟨q1, q2, hR⟩ | ⟨-, q2, -⟩
    · rcases c7 with ⟨c8, rfl, hr⟩ | ⟨c8, -⟩
      · have u : ∀ a q, a ≠ 376 → yup (yup mm' 376 2 (mm' 376 8)) 376 57 c a q = mm' a q := fun a q ha => by rw [yup_na ha, yup_na ha]
        have u6 : ∀ q, q ≠ 2 → q ≠ 57 → yup (yup mm' 376 2 (mm' 376 8)) 376 57 c 376 q = mm' 376 q := fun q z1 z2 => by rw [yup_nk z2, yup_nk z1]
        have v4 : yup (yup mm' 376 2 (mm' 376 8)) 376 57 c 0 4 = m 0 4 := by rw [u _ _ (by decide), y 0 4 (by omega), yup_nk (by decide), g4]
        have v5 : yup (yup mm' 376 2 (mm' 376 8)) 376 57 c 0 5 = m 0 5 := by rw [u _ _ (by decide), y 0 5 (by omega), yup_nk (by decide), g5]
        have v18 : yup (yup mm' 376 2 (mm' 376 8)) 376 57 c 376 18 = m 376 18 := by rw [u6 _ (by decide) (by decide), y 376 18 (by omega)]; exact x18
        -- the rows of the other program
        have rows : m7 (pA (m 0 5) + 8) 0 = 0 ∧ (∀ b q, arP (m 376 18).toNat b q → mm' b q = yup m7 0 7 r7 b q) := by
          have dis : ∀ b q, arP (m 376 18).toNat b q → ¬ arM p b q ∧ ¬ (b = 376 ∧ q = 8) := fun b q hb => by
            have e18 : (m 376 18).toNat = 1 - p := by omega
            rw [e18] at hb
            unfold arP at hb
            unfold arM
            omega
          rcases hR with ⟨w1, w2⟩ | ⟨k, s, o, a, M, N, hPR, w1, w2, w3, w4⟩
          · exact ⟨by rw [w1]; exact hB8, fun b q hb => w2 b q (dis b q hb).1⟩
          · have e8 := F73_8 hPR w2
            obtain ⟨p1, p2, p3, p4, p5, p6, p7, ⟨q1', q2', q3', q4', q5', q6', q7', q8'⟩, p8⟩ := hPR
            have hco := p5
            unfold rCo at hco
            have kb : k ≤ 10 := by have := p4.2.2.1; omega
            have hf := F141_f hp (by rw [← p1.1]; exact ⟨p1.2.1, p1.2.2.1⟩) (by rw [← p2.1]; exact ⟨p2.2.1, p2.2.2.1⟩) (by omega) (by omega) (by omega) w3 (by omega)
            exact ⟨by rw [e8, w1]; exact hB8, fun b q hb => by rw [hf b q (dis b q hb).2]; exact w4 b q (dis b q hb).1⟩
        refine ⟨fin ?_ ?_ (fun q => ?_) (fun q => ?_) (fun q => ?_) ⟨by rw [v4, v5]; exact h4, by rw [v18]; exact h18⟩ (two8 ?_ ?_) ?_, by rw [yup_eq, hc1, hr], fun e => by rw [hr] at e; exact absurd e (by decide), fun hS v j hv hj => ?_⟩
        · rw [u _ _ (by decide)]; exact y 0 6 (by omega)
        · rw [u6 _ (by decide) (by decide)]; exact y 376 1 (by omega)
        · rw [u _ _ (by decide)]; exact y 1 q (by omega)
        · rw [u _ _ (by decide)]; exact y 377 q (by omega)
        · rw [u _ _ (by decide)]; exact y 4 q (by omega)
        · rw [u _ _ (by omega), y _ _ (by omega), fr _ _ (by omega)]; exact hA8
        · rw [u _ _ (by omega), y _ _ (by omega), yup_na (by omega)]; exact rows.1
        · rw [v4, v18]
          refine hc.fr hA (by omega) ?_ ?_ (fun a q ha => ?_) (fun b q hb => ?_)
          · rw [u6 _ (by decide) (by decide), y 376 19 (by omega)]; exact fr _ _ (by omega)
          · rw [u6 _ (by decide) (by decide), y 376 47 (by omega)]; exact fr _ _ (by omega)
          · rw [u _ _ (by omega), y _ _ (by omega), yup_na (by omega)]
            exact f7 a q (by omega) (by omega) (by omega) (by omega) (by omega) (by omega)
          · rcases hb with hb | hb
            · rw [u b q (by unfold arP at hb; omega), rows.2 b q hb]
              exact fr _ _ (by unfold arP at hb; omega)
            · rw [u b q (by omega), y b q (by omega)]
              exact fr _ _ (by omega)
        · rw [u _ _ (by omega), u _ _ (by omega), y (171 + v) j (by omega), k2 408 _ (by unfold arM; omega) (by omega) (by omega) (by omega), yup_na (by omega), yup_na (by omega), f7 _ _ (by omega) (by omega) (by omega) (by omega) (by omega) (by omega), f7 408 _ (by omega) (by omega) (by omega) (by omega) (by omega) (by omega)]
          exact hS v j hv hj
      · omega
    · omega
  · rcases hR with ⟨q1, q2, -⟩ | ⟨q1, q2, k, s, o, a, M, N, hPR, hM9, hN8, e73, e141, hM8⟩
    · omega
    · rcases c7 with ⟨c8, -⟩ | ⟨-, m8, m9, v, e91, e92, rfl, hr, cn, hcn, hvc⟩
      · omega
      · rw [g5] at e91
        rw [g4] at e91
        obtain ⟨hRP, fc, hSm, h8z, mF, e72, fF⟩ := hPR.rpg hp hM9 (by rw [hM8]; exact hB8) e73 e141 q2
        have XP : ∀ b q, b ≠ 376 → b ≠ 408 → X1 b q = mm' b q := fun b q z1 z2 => by rw [hX b q z2, yup_na z1, yup_na z1, yup_na z1, yup_na z1, yup_na z1]
        have X18 : X1 376 18 = p := by rw [hX 376 18 (by decide), yup_nk (by decide), yup_nk (by decide), yup_eq]
        have X19 : X1 376 19 = 1 := by rw [hX 376 19 (by decide), yup_nk (by decide), yup_eq]
        have X01 : X1 376 1 = mm' 376 1 := by rw [hX 376 1 (by decide), yup_nk (by decide), yup_nk (by decide), yup_nk (by decide), yup_nk (by decide), yup_nk (by decide)]
        have hRX : RPG (pA (m 0 5)) p s o (yup (yup (yup m7 0 7 r7) 0 4 (pX (pA (m 0 5)))) 0 5 (pX (pA (m 0 4)))) X1 := hRP.fr hB (fun a q ha => by rw [yup_na (by omega), yup_na (by omega), yup_na (by omega)]) (fun a q z1 z2 => XP a q (by omega) (by omega))
        obtain ⟨w1, w2, w3, w4, w5⟩ := facts_r hB hp hRX X18 ⟨f, mF, by rw [yup_na (by omega), yup_na (by omega), yup_na (by omega)]; exact e72, fun a q ha => by rw [yup_na (by omega), yup_na (by omega), yup_na (by omega), fF a q (by omega) (by omega) (by omega), fc a q (by omega) (by omega) (by omega)]⟩ e91 e151
        have k9 : ∀ a q, a < 169 ∨ 256 ≤ a → m9 a q = m8 a q := ksn_F92 (P := fun a _ => a < 169 ∨ 256 ≤ a) (fun a q h => h) KP.rf _ e92
        -- the last memory, by its cells
        have cM : ∀ b q, b < 376 → m2 b q = yup m9 413 0 v b q := fun b q hb => by
          rw [w5 b q (by omega) (by omega), XP b q (by omega) (by omega), y b q (by omega)]
        have c8 : ∀ b q, b < 169 ∨ (256 ≤ b ∧ b < 376) → m2 b q = m8 b q := fun b q hb => by
          rw [cM b q (by omega), yup_na (by omega), k9 b q (by omega)]
        have cP : ∀ b q, 256 ≤ b → b < 376 → m2 b q = m7 b q := fun b q z1 z2 => by
          rw [c8 b q (by omega), w4 b q (by omega), yup_na (by omega), yup_na (by omega), yup_na (by omega)]
        have cL : ∀ q, m2 0 q = yup (yup (yup m7 0 7 r7) 0 4 (pX (pA (m 0 5)))) 0 5 (pX (pA (m 0 4))) 0 q := fun q => by
          have k8 := kan_F91 (P := fun a _ => a < 8 ∨ 256 ≤ a) (fun a q h => by omega) KP.rf _ e91
          have k8' : ∀ a q, a < 8 ∨ 256 ≤ a → m8 a q = yup (yup (yup m7 0 7 r7) 0 4 (pX (pA (m 0 5)))) 0 5 (pX (pA (m 0 4))) a q := k8
          rw [c8 0 q (by omega), k8' 0 q (by omega)]
        have v4 : m2 0 4 = pX (pA (m 0 5)) := by rw [cL, yup_nk (by decide), yup_eq]
        have v5 : m2 0 5 = pX (pA (m 0 4)) := by rw [cL, yup_eq]
        have mA : ∀ b q, 383 ≤ b → b < 404 → m2 b q = mm' b q := fun b q z1 z2 => by rw [w5 b q z2 (by omega), XP b q (by omega) (by omega)]
        have m18 : m2 376 18 = p := by rw [w5 376 18 (by decide) (by decide)]; exact X18
        refine ⟨fin ?_ ?_ (fun q => ?_) (fun q => ?_) (fun q => ?_) ⟨?_, ?_⟩ (two8 ?_ ?_) ?_, by rw [w5 376 57 (by decide) (by decide), hX 376 57 (by decide), yup_nk (by decide), yup_nk (by decide), yup_nk (by decide), yup_eq, hc0, hr], fun _ => ?_, fun _ v' j hv hj => ?_⟩
        · rw [cM 0 6 (by decide)]
        · rw [w5 376 1 (by decide) (by decide), X01]; exact y 376 1 (by omega)
        · rw [cM 1 q (by decide)]
        · rw [w5 377 q (by decide) (by omega), XP 377 q (by decide) (by decide)]; exact y 377 q (by omega)
        · rw [cM 4 q (by decide)]
        · rw [v4, v5]
          rcases hd with ⟨z1, z2⟩ | ⟨z1, z2⟩
          · rw [z1, z2]; exact Or.inr ⟨rfl, rfl⟩
          · rw [z1, z2]; exact Or.inl ⟨rfl, rfl⟩
        · rw [m18]; omega
        · rw [cP _ _ (by omega) (by omega), f7 _ _ (by omega) (by omega) (by omega) (by omega) (by omega) (by omega)]; exact hA8
        · rw [cP _ _ (by omega) (by omega)]; exact h8z
        · rw [v4, pA_pX hB, m18, Int.toNat_natCast]
          refine Or.inr ⟨?_, ?_, s, o, ?_, ?_, ?_, ?_⟩
          · rw [w5 376 19 (by decide) (by decide)]; exact X19
          · rw [c8 8 4 (by omega)]; exact w3
          · exact hRP.frp hB hp (fun a q z1 z2 => cP a q (by omega) (by omega)) (fun b q hb => mA b q (by unfold arP at hb; omega) (by unfold arP at hb; omega))
          · exact w1.fr (by rw [cP _ _ (by omega) (by omega), yup_na (by omega), yup_na (by omega), yup_na (by omega)]) (fun x hx => hx.fr hB hRX.2.2.2.2.2.1.2.1 (fun a q z1 z2 => by rw [cP a q (by omega) (by omega), yup_na (by omega), yup_na (by omega), yup_na (by omega)])) (fun a q z1 z2 => c8 a q (by omega)) (fun _ _ _ _ => rfl)
          · rw [w2, c8 8 6 (by omega)]
          · exact ⟨f, mF, by rw [cP _ _ (by omega) (by omega)]; exact e72, fun a q ha => by rw [cP _ _ (by omega) (by omega), fF a q (by omega) (by omega) (by omega), fc a q (by omega) (by omega) (by omega)]⟩
        · have z413 : m2 413 0 = v := by
            have k := kma_F151 (P := fun a _ => a = 413) (fun a q h => by omega) KP.rf _ e151
            have k' : ∀ a q, a = 413 → m2 a q = X1 a q := k
            rw [k' 413 0 rfl, XP 413 0 (by decide) (by decide), k2 413 0 (by unfold arM; omega) (by omega) (by omega) (by omega), yup_eq]
          have hco := hRX.2.2.1
          unfold rCo at hco
          have h15 := hRX.2.2.2.2.1
          rw [g5] at hcn
          have q14 : m9 (pA (m 0 5)) 14 = yup (yup (yup m7 0 7 r7) 0 4 (pX (pA (m 0 5)))) 0 5 (pX (pA (m 0 4))) (pA (m 0 5)) 14 := by rw [k9 _ _ (by omega), w4 _ _ (by omega)]
          have q15 : m9 (pA (m 0 5)) 15 = yup (yup (yup m7 0 7 r7) 0 4 (pX (pA (m 0 5)))) 0 5 (pX (pA (m 0 4))) (pA (m 0 5)) 15 := by rw [k9 _ _ (by omega), w4 _ _ (by omega)]
          obtain ⟨n, hn⟩ : ∃ n : Nat, m9 (pA (m 0 5)) 14 = n := ⟨(m9 (pA (m 0 5)) 14).toNat, by omega⟩
          obtain ⟨nv, hnv⟩ : ∃ nv : Nat, m9 (pA (m 0 5)) 15 = nv := ⟨(m9 (pA (m 0 5)) 15).toNat, by have := h15.2.1; omega⟩
          have ec := F93_r (mm := m2) hn (by omega) hnv (by have := h15.2.2.1; omega) (fun x j x1 j1 => by
            obtain ⟨u1, u2, u3, u4⟩ := w1 0 x j (by decide) (by show x < 48; exact x1) (by show j < 12; exact j1)
            have e9 : m9 (10 + x) j = m8 (10 + x) j := k9 _ _ (by omega)
            rw [e9]
            refine ⟨u1, u2.1, fun z => ⟨?_, ?_⟩⟩
            · have := (GEN.lt hRX (u3 (by decide) z)).2
              omega
            · have := u4 rfl z
              omega) hcn
          have le := fS_le (mm := m2) 576
          have hrg : rg b := by rw [hb]; exact ⟨by omega, by omega⟩
          refine ⟨?_, hrg⟩
          rw [z413, hvc, ec, ← hb]
          exact i2l_i hrg
        · have k := kma_F151 (P := fun a _ => a = 408) (fun a q h => by omega) KP.rf _ e151
          have k' : ∀ a q, a = 408 → m2 a q = X1 a q := k
          rw [cM (171 + v') j (by omega), yup_na (by omega), (F92_r e92).1 v' j hv hj, k' 408 _ rfl, h408 _ (by omega)]
          omega
theorem readR {r b : Int} (hI : IQ m) (h1 : F95 f m = some (r, m1)) (h2 : F152 g m1 = some (b, m2)) : IQ m2 ∧ m2 376 57 = r ∧ (r = 0 → m2 413 0 = b ∧ rg b) := by
  obtain ⟨a1, a2, a3, -⟩ := readR2 hI h1 h2
  exact ⟨a1, a2, a3⟩
theorem readQ {r b : Int} (hI : IQ m) (h1 : F95 f m = some (r, m1)) (h2 : F152 g m1 = some (b, m2)) : IQ m2 := (readR hI h1 h2).1
end RQ

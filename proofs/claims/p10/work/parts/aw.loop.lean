/-! A BODY'S STATEMENTS, ONE AFTER ANOTHER -/
def smT (f : Nat) (r1 : Int) (M1 : yM) (x : Int) (M : yM) : Prop := (r1 = 0 → x = 0 ∧ M = M1) ∧ (r1 ≠ 0 → ∃ r2, F37 f 59 M1 = some (r2, M) ∧ ((r2 = 0 ∧ x = 0) ∨ (r2 ≠ 0 ∧ x = 1)))
def StC (f A s : Nat) (rc : Int → yM → Option (Int × yM)) (d t : Int) (mc1 : yM) (x : Int) (M : yM) : Prop := ((t = 6 ∨ t = 8) ∧ F59 f rc A (A + 20 + s) d mc1 = some (x, M)) ∨ (t = 9 ∧ ∃ r1 M1, F60 f A (A + 20 + s) mc1 = some (r1, M1) ∧ smT f r1 M1 x M) ∨ (t ≠ 6 ∧ t ≠ 8 ∧ t ≠ 9 ∧ ∃ r1 M1, F68 f A (A + 20 + s) mc1 = some (r1, M1) ∧ smT f r1 M1 x M)
section LO
variable {tx : Int → Int} {len : Int} {n : Nat} {en tk tp tn : Nat → Int} {A p k res s o a d : Nat} {mc mm mc' mm' M N M' N' : yM} {cs st : Int}
theorem B69_st {f : Nat} {rc : Int → yM → Option (Int × yM)} {dd t x3 : Int} {mc1 : yM} {y : ((Int × Int) × yM) ⊕ (((Int × Int) × yM) ⊕ (Int × yM))} (h3 : ¬ 40 < x3) (h0 : F38 mc = t) (h1 : F38 mc1 = t) (t1 : t ≠ 125) (h16 : mc A 16 ≠ 40) (e56 : F56 f A mc = some (A + 20 + s, mc1)) (h : B69_19 f rc A dd 1 x3 mc = some y) : ∃ x M, y = .inl ((x, wr (x3 + 1)), yup M (A + 20 + s) 12 (M A 16)) ∧ StC f A s rc dd t mc1 x M := by
  unfold B69_19 at h
  rw [if_neg h3, if_neg (by decide), h0, if_neg t1, if_neg h16, bI_s e56, h1] at h
  have sm : ∀ {r1 : Int} {M1 : yM} {y : ((Int × Int) × yM) ⊕ (((Int × Int) × yM) ⊕ (Int × yM))}, (if r1 = 0 then (J69_160 f rc A dd x3 (A + 20 + s) M1) else (bI (F37 f 59 M1) (fun r1815 m1817 => (if r1815 = 0 then (J69_160 f rc A dd x3 (A + 20 + s) m1817) else (J69_161 f rc A dd x3 (A + 20 + s) 1 m1817))))) = some y → ∃ x M, y = .inl ((x, wr (x3 + 1)), yup M (A + 20 + s) 12 (M A 16)) ∧ smT f r1 M1 x M := by
    intro r1 M1 y e
    rcases ite1 e with ⟨q, e⟩ | ⟨q, e⟩
    · cases e
      exact ⟨0, M1, rfl, fun _ => ⟨rfl, rfl⟩, fun z => absurd q z⟩
    · replace e := bI_e e
      obtain ⟨r2, m2, e1, e⟩ := e
      rcases ite1 e with ⟨q2, e⟩ | ⟨q2, e⟩
      · cases e
        exact ⟨0, m2, rfl, fun z => absurd z q, fun _ => ⟨r2, e1, Or.inl ⟨q2, rfl⟩⟩⟩
      · cases e
        exact ⟨1, m2, rfl, fun z => absurd z q, fun _ => ⟨r2, e1, Or.inr ⟨q2, rfl⟩⟩⟩
  rcases ite1 h with ⟨t6, h⟩ | ⟨t6, h⟩
  · replace h := bI_e h
    obtain ⟨x, M, e1, h⟩ := h
    cases h
    exact ⟨x, M, rfl, Or.inl ⟨Or.inl t6, e1⟩⟩
  rcases ite1 h with ⟨t7, h⟩ | ⟨t7, h⟩
  · replace h := bI_e h
    obtain ⟨r1, M1, e1, h⟩ := h
    obtain ⟨x, M, e2, e3⟩ := sm h
    exact ⟨x, M, e2, Or.inr (Or.inr ⟨t6, by omega, by omega, r1, M1, e1, e3⟩)⟩
  rcases ite1 h with ⟨t8, h⟩ | ⟨t8, h⟩
  · replace h := bI_e h
    obtain ⟨x, M, e1, h⟩ := h
    cases h
    exact ⟨x, M, rfl, Or.inl ⟨Or.inr t8, e1⟩⟩
  rcases ite1 h with ⟨t9, h⟩ | ⟨t9, h⟩
  · replace h := bI_e h
    obtain ⟨r1, M1, e1, h⟩ := h
    obtain ⟨x, M, e2, e3⟩ := sm h
    exact ⟨x, M, e2, Or.inr (Or.inl ⟨t9, r1, M1, e1, e3⟩)⟩
  · replace h := bI_e h
    obtain ⟨r1, M1, e1, h⟩ := h
    obtain ⟨x, M, e2, e3⟩ := sm h
    exact ⟨x, M, e2, Or.inr (Or.inr ⟨t6, t8, t9, r1, M1, e1, e3⟩)⟩
/-- the model's side of a statement -/
theorem ML.stp {g G i : Nat} {rr : (Unit × yM) ⊕ (Unit × yM)} (T : TOK tx len n en tk tp tn) (hM : MT tx len n en tk tp tn p i mm) (t1 : tk i ≠ 125) (h9 : mm 376 9 = (s : Int)) (hs : s < 40) (h : ML g G mm = some rr) : ((tk i = 6 ∨ tk i = 8) ∧ ∃ G' n1, F131 g (yup mm 376 9 ((s : Int) + 1)) = some n1 ∧ ML g G' n1 = some rr) ∨ ((tk i = 9 ∨ tk i = 10 ∨ tk i = 11) ∧ ∃ G' n1, F138 g (yup mm 376 9 ((s : Int) + 1)) = some n1 ∧ ML g G' n1 = some rr) ∨ ((tk i ≠ 6 ∧ tk i ≠ 8 ∧ tk i ≠ 9 ∧ tk i ≠ 10 ∧ tk i ≠ 11) ∧ ∃ G' n1, F104 g mm = some n1 ∧ ML g G' n1 = some rr) := by
  have K := hM.2.2.2.2
  have hM1 : MT tx len n en tk tp tn p i (yup mm 376 9 ((s : Int) + 1)) := hM.fr (fun q hq => yup_nk (by omega)) (fun q => yup_na (by decide))
  have K1 := hM1.2.2.2.2
  have key : ∀ {y : (Unit × yM) ⊕ ((Unit × yM) ⊕ (Unit × yM))}, B139_5 g mm = some y → ∃ n1, y = .inl ((), n1) ∧ (((tk i = 6 ∨ tk i = 8) ∧ F131 g (yup mm 376 9 ((s : Int) + 1)) = some n1) ∨ ((tk i = 9 ∨ tk i = 10 ∨ tk i = 11) ∧ F138 g (yup mm 376 9 ((s : Int) + 1)) = some n1) ∨ ((tk i ≠ 6 ∧ tk i ≠ 8 ∧ tk i ≠ 9 ∧ tk i ≠ 10 ∧ tk i ≠ 11) ∧ F104 g mm = some n1)) := by
    intro y e
    unfold B139_5 at e
    rw [if_pos (by rw [hM.2.2.2.1]; decide), K.mark T (by unfold sgn; omega), if_neg t1, if_pos rfl, if_neg (by omega), K.isName T, K.isThis T, K.isIf T, K.isWhile T, K.isReturn T] at e
    have e101 : ∀ {y : (Unit × yM) ⊕ ((Unit × yM) ⊕ (Unit × yM))}, J139_101 g mm = some y → (tk i = 6 ∨ tk i = 8 ∨ tk i = 9 ∨ tk i = 10 ∨ tk i = 11) → ∃ n1, y = .inl ((), n1) ∧ (((tk i = 6 ∨ tk i = 8) ∧ F131 g (yup mm 376 9 ((s : Int) + 1)) = some n1) ∨ ((tk i = 9 ∨ tk i = 10 ∨ tk i = 11) ∧ F138 g (yup mm 376 9 ((s : Int) + 1)) = some n1) ∨ ((tk i ≠ 6 ∧ tk i ≠ 8 ∧ tk i ≠ 9 ∧ tk i ≠ 10 ∧ tk i ≠ 11) ∧ F104 g mm = some n1)) := by
      intro y e z
      unfold J139_101 J139_125 at e
      rw [h9, wr_i (by omega) (by omega), K1.isIf T, K1.isWhile T] at e
      rcases ite1 e with ⟨q, e⟩ | ⟨q, e⟩
      · rw [ite10] at q
        rcases ite1 e with ⟨q2, e⟩ | ⟨q2, e⟩
        · rw [ite10] at q2
          replace e := bU_e e
          obtain ⟨n1, e1, e⟩ := e
          cases e
          exact ⟨n1, rfl, Or.inr (Or.inl ⟨by omega, e1⟩)⟩
        · rw [ite10] at q2
          replace e := bU_e e
          obtain ⟨n1, e1, e⟩ := e
          cases e
          exact ⟨n1, rfl, Or.inl ⟨by omega, e1⟩⟩
      · rw [ite10] at q
        replace e := bU_e e
        obtain ⟨n1, e1, e⟩ := e
        cases e
        exact ⟨n1, rfl, Or.inl ⟨by omega, e1⟩⟩
    simp only [ite10] at e
    rcases ite1 e with ⟨q1, e⟩ | ⟨q1, e⟩
    · rcases ite1 e with ⟨q2, e⟩ | ⟨q2, e⟩
      · rcases ite1 e with ⟨q3, e⟩ | ⟨q3, e⟩
        · rcases ite1 e with ⟨q4, e⟩ | ⟨q4, e⟩
          · rcases ite1 e with ⟨q5, e⟩ | ⟨q5, e⟩
            · unfold J139_94 at e
              replace e := bU_e e
              obtain ⟨n1, e1, e⟩ := e
              cases e
              exact ⟨n1, rfl, Or.inr (Or.inr ⟨by omega, e1⟩)⟩
            · exact e101 e (by omega)
          · exact e101 e (by omega)
        · exact e101 e (by omega)
      · exact e101 e (by omega)
    · exact e101 e (by omega)
  obtain ⟨f', -, ⟨l', m', e3, e4⟩ | e3⟩ := yloop_s h
  · obtain ⟨n1, y1, y2⟩ := key e3
    cases y1
    rcases y2 with ⟨z1, z2⟩ | ⟨z1, z2⟩ | ⟨z1, z2⟩
    · exact Or.inl ⟨z1, f', _, z2, e4⟩
    · exact Or.inr (Or.inl ⟨z1, f', _, z2, e4⟩)
    · exact Or.inr (Or.inr ⟨z1, f', _, z2, e4⟩)
  · obtain ⟨n1, y1, y2⟩ := key e3
    cases y1
end LO

section
/-! A BODY'S STATEMENTS, ONE AFTER ANOTHER -/
def smT (f : Nat) (r1 : Int) (M1 : yM) (x : Int) (M : yM) : Prop := (r1 = 0 → x = 0 ∧ M = M1) ∧ (r1 ≠ 0 → ∃ r2, F37 f 59 M1 = some (r2, M) ∧ ((r2 = 0 ∧ x = 0) ∨ (r2 ≠ 0 ∧ x = 1)))
def StC (f A s : Nat) (rc : Int → yM → Option (Int × yM)) (d t : Int) (mc1 : yM) (x : Int) (M : yM) : Prop := ((t = 6 ∨ t = 8) ∧ F59 f rc A (A + 20 + s) d mc1 = some (x, M)) ∨ (t = 9 ∧ ∃ r1 M1, F60 f A (A + 20 + s) mc1 = some (r1, M1) ∧ smT f r1 M1 x M) ∨ (t ≠ 6 ∧ t ≠ 8 ∧ t ≠ 9 ∧ ∃ r1 M1, F68 f A (A + 20 + s) mc1 = some (r1, M1) ∧ smT f r1 M1 x M)
section LO
variable {tx : Int → Int} {len : Int} {n : Nat} {en tk tp tn : Nat → Int} {A p k res s o a d : Nat} {mc mm mc' mm' M N M' N' : yM} {cs st : Int}
theorem B69_st {f : Nat} {rc : Int → yM → Option (Int × yM)} {dd t x3 : Int} {mc1 : yM} {y : ((Int × Int) × yM) ⊕ (((Int × Int) × yM) ⊕ (Int × yM))} (h3 : ¬ 40 < x3) (h0 : F38 mc = t) (h1 : F38 mc1 = t) (t1 : t ≠ 125) (h16 : mc A 16 ≠ 40) (e56 : F56 f A mc = some (A + 20 + s, mc1)) (h : B69_19 f rc A dd 1 x3 mc = some y) : ∃ x M, y = .inl ((x, wr (x3 + 1)), yup M (A + 20 + s) 12 (M A 16)) ∧ StC f A s rc dd t mc1 x M := by
  unfold B69_19 at h
  rw [if_neg h3, if_neg (by decide), h0, if_neg t1, if_neg h16, bI_s e56, h1] at h
  have sm : ∀ {r1 : Int} {M1 : yM} {y : ((Int × Int) × yM) ⊕ (((Int × Int) × yM) ⊕ (Int × yM))}, (if r1 = 0 then (J69_160 f rc A dd x3 (A + 20 + s) M1) else (bI (F37 f 59 M1) (fun r1815 m1817 => (if r1815 = 0 then (J69_160 f rc A dd x3 (A + 20 + s) m1817) else (J69_161 f rc A dd x3 (A + 20 + s) 1 m1817))))) = some y → ∃ x M, y = .inl ((x, wr (x3 + 1)), yup M (A + 20 + s) 12 (M A 16)) ∧ smT f r1 M1 x M := by
    intro r1 M1 y e
    rcases ite1 e with ⟨q, e⟩ | ⟨q, e⟩
    · cases e
      exact ⟨0, M1, rfl, fun _ => ⟨rfl, rfl⟩, fun z => absurd q z⟩
    · replace e := bI_e e
      obtain ⟨r2, m2, e1, e⟩ := e
      rcases ite1 e with ⟨q2, e⟩ | ⟨q2, e⟩
      · cases e
        exact ⟨0, m2, rfl, fun z => absurd z q, fun _ => ⟨r2, e1, Or.inl ⟨q2, rfl⟩⟩⟩
      · cases e
        exact ⟨1, m2, rfl, fun z => absurd z q, fun _ => ⟨r2, e1, Or.inr ⟨q2, rfl⟩⟩⟩
  rcases ite1 h with ⟨t6, h⟩ | ⟨t6, h⟩
  · replace h := bI_e h
    obtain ⟨x, M, e1, h⟩ := h
    cases h
    exact ⟨x, M, rfl, Or.inl ⟨Or.inl t6, e1⟩⟩
  rcases ite1 h with ⟨t7, h⟩ | ⟨t7, h⟩
  · replace h := bI_e h
    obtain ⟨r1, M1, e1, h⟩ := h
    obtain ⟨x, M, e2, e3⟩ := sm h
    exact ⟨x, M, e2, Or.inr (Or.inr ⟨t6, by omega, by omega, r1, M1, e1, e3⟩)⟩
  rcases ite1 h with ⟨t8, h⟩ | ⟨t8, h⟩
  · replace h := bI_e h
    obtain ⟨x, M, e1, h⟩ := h
    cases h
    exact ⟨x, M, rfl, Or.inl ⟨Or.inr t8, e1⟩⟩
  rcases ite1 h with ⟨t9, h⟩ | ⟨t9, h⟩
  · replace h := bI_e h
    obtain ⟨r1, M1, e1, h⟩ := h
    obtain ⟨x, M, e2, e3⟩ := sm h
    exact ⟨x, M, e2, Or.inr (Or.inl ⟨t9, r1, M1, e1, e3⟩)⟩
  · replace h := bI_e h
    obtain ⟨r1, M1, e1, h⟩ := h
    obtain ⟨x, M, e2, e3⟩ := sm h
    exact ⟨x, M, e2, Or.inr (Or.inr ⟨t6, t8, t9, r1, M1, e1, e3⟩)⟩
/-- the model's side of a statement -/
theorem ML.stp {g G i : Nat} {rr : (Unit × yM) ⊕ (Unit × yM)} (T : TOK tx len n en tk tp tn) (hM : MT tx len n en tk tp tn p i mm) (t1 : tk i ≠ 125) (h9 : mm 376 9 = (s : Int)) (hs : s < 40) (h : ML g G mm = some rr) : ((tk i = 6 ∨ tk i = 8) ∧ ∃ G' n1, F131 g (yup mm 376 9 ((s : Int) + 1)) = some n1 ∧ ML g G' n1 = some rr) ∨ ((tk i = 9 ∨ tk i = 10 ∨ tk i = 11) ∧ ∃ G' n1, F138 g (yup mm 376 9 ((s : Int) + 1)) = some n1 ∧ ML g G' n1 = some rr) ∨ ((tk i ≠ 6 ∧ tk i ≠ 8 ∧ tk i ≠ 9 ∧ tk i ≠ 10 ∧ tk i ≠ 11) ∧ ∃ G' n1, F104 g mm = some n1 ∧ ML g G' n1 = some rr) := by
  have K := hM.2.2.2.2
  have hM1 : MT tx len n en tk tp tn p i (yup mm 376 9 ((s : Int) + 1)) := hM.fr (fun q hq => yup_nk (by omega)) (fun q => yup_na (by decide))
  have K1 := hM1.2.2.2.2
  have key : ∀ {y : (Unit × yM) ⊕ ((Unit × yM) ⊕ (Unit × yM))}, B139_5 g mm = some y → ∃ n1, y = .inl ((), n1) ∧ (((tk i = 6 ∨ tk i = 8) ∧ F131 g (yup mm 376 9 ((s : Int) + 1)) = some n1) ∨ ((tk i = 9 ∨ tk i = 10 ∨ tk i = 11) ∧ F138 g (yup mm 376 9 ((s : Int) + 1)) = some n1) ∨ ((tk i ≠ 6 ∧ tk i ≠ 8 ∧ tk i ≠ 9 ∧ tk i ≠ 10 ∧ tk i ≠ 11) ∧ F104 g mm = some n1)) := by
    intro y e
    unfold B139_5 at e
    rw [if_pos (by rw [hM.2.2.2.1]; decide), K.mark T (by unfold sgn; omega), if_neg t1, if_pos rfl, if_neg (by omega), K.isName T, K.isThis T, K.isIf T, K.isWhile T, K.isReturn T] at e
    have e101 : ∀ {y : (Unit × yM) ⊕ ((Unit × yM) ⊕ (Unit × yM))}, J139_101 g mm = some y → (tk i = 6 ∨ tk i = 8 ∨ tk i = 9 ∨ tk i = 10 ∨ tk i = 11) → ∃ n1, y = .inl ((), n1) ∧ (((tk i = 6 ∨ tk i = 8) ∧ F131 g (yup mm 376 9 ((s : Int) + 1)) = some n1) ∨ ((tk i = 9 ∨ tk i = 10 ∨ tk i = 11) ∧ F138 g (yup mm 376 9 ((s : Int) + 1)) = some n1) ∨ ((tk i ≠ 6 ∧ tk i ≠ 8 ∧ tk i ≠ 9 ∧ tk i ≠ 10 ∧ tk i ≠ 11) ∧ F104 g mm = some n1)) := by
      intro y e z
      unfold J139_101 J139_125 at e
      rw [h9, wr_i (by omega) (by omega), K1.isIf T, K1.isWhile T] at e
      rcases ite1 e with ⟨q, e⟩ | ⟨q, e⟩
      · rw [ite10] at q
        rcases ite1 e with ⟨q2, e⟩ | ⟨q2, e⟩
        · rw [ite10] at q2
          replace e := bU_e e
          obtain ⟨n1, e1, e⟩ := e
          cases e
          exact ⟨n1, rfl, Or.inr (Or.inl ⟨by omega, e1⟩)⟩
        · rw [ite10] at q2
          replace e := bU_e e
          obtain ⟨n1, e1, e⟩ := e
          cases e
          exact ⟨n1, rfl, Or.inl ⟨by omega, e1⟩⟩
      · rw [ite10] at q
        replace e := bU_e e
        obtain ⟨n1, e1, e⟩ := e
        cases e
        exact ⟨n1, rfl, Or.inl ⟨by omega, e1⟩⟩
    simp only [ite10] at e
    rcases ite1 e with ⟨q1, e⟩ | ⟨q1, e⟩
    · rcases ite1 e with ⟨q2, e⟩ | ⟨q2, e⟩
      · rcases ite1 e with ⟨q3, e⟩ | ⟨q3, e⟩
        · rcases ite1 e with ⟨q4, e⟩ | ⟨q4, e⟩
          · rcases ite1 e with ⟨q5, e⟩ | ⟨q5, e⟩
            · unfold J139_94 at e
              replace e := bU_e e
              obtain ⟨n1, e1, e⟩ := e
              cases e
              exact ⟨n1, rfl, Or.inr (Or.inr ⟨by omega, e1⟩)⟩
            · exact e101 e (by omega)
          · exact e101 e (by omega)
        · exact e101 e (by omega)
      · exact e101 e (by omega)
    · exact e101 e (by omega)
  obtain ⟨f', -, ⟨l', m', e3, e4⟩ | e3⟩ := yloop_s h
  · obtain ⟨n1, y1, y2⟩ := key e3
    cases y1
    rcases y2 with ⟨z1, z2⟩ | ⟨z1, z2⟩ | ⟨z1, z2⟩
    · exact Or.inl ⟨z1, f', _, z2, e4⟩
    · exact Or.inr (Or.inl ⟨z1, f', _, z2, e4⟩)
    · exact Or.inr (Or.inr ⟨z1, f', _, z2, e4⟩)
  · obtain ⟨n1, y1, y2⟩ := key e3
    cases y1
end LO
end
section
/-! BODIES, WHOLE -/
section LP
variable {tx : Int → Int} {len : Int} {n : Nat} {en tk tp tn : Nat → Int} {A p k res : Nat}
theorem loop_r {f g gr : Nat} (T : TOK tx len n en tk tp tn) (hl : len ≤ 320) (hA : A = 256 ∨ A = 316) (hp : p ≤ 1) (hB : PB tx len n en tk tp tn A p k res f g gr) : ∀ (F s o a d i G : Nat) (x3 r : Int) (mc mm mc' : yM) (rr : (Unit × yM) ⊕ (Unit × yM)), d ≤ 3 → BS tx len n en tk tp tn A p k res s o a d i i mc mm → 0 ≤ x3 → x3 ≤ s → CLo f A (F69 f A gr) (d : Int) F (1, x3) mc = some (r, mc') → ML g G mm = some rr → BO tx len n en tk tp tn A p k res s o a d mc mm g rr r mc' := by
  intro F
  induction F with
  | zero =>
    intro s o a d i G x3 r mc mm mc' rr hd h h0 h3 hc hL
    cases hc
  | succ F ih =>
    intro s o a d i G x3 r mc mm mc' rr hd h h0 h3 hc hL
    have hco := h.co
    have h' := h
    obtain ⟨b1, b2, b3, b4, b5, b6, b7, b8, b9, b10⟩ := h
    have hi := b2.le T hl
    have stp : ∀ {y : ((Int × Int) × yM) ⊕ (((Int × Int) × yM) ⊕ (Int × yM))}, B69_19 f (F69 f A gr) A (d : Int) 1 x3 mc = some y → (∀ l m, y = .inl (l, m) → CLo f A (F69 f A gr) (d : Int) F l m = some (r, mc')) ∧ (∀ l m, y = .inr (.inl (l, m)) → J69_180 f (F69 f A gr) A l.1 m = some (r, mc')) ∧ (∀ q m, y = .inr (.inr (q, m)) → r = q ∧ mc' = m) := by
      intro y e
      unfold CLo yloop at hc
      simp only [e] at hc
      refine ⟨fun l m z => ?_, fun l m z => ?_, fun q m z => ?_⟩
      · subst z; exact hc
      · subst z; exact hc
      · subst z
        cases hc
        exact ⟨rfl, rfl⟩
    by_cases t1 : tk i = 125
    · have e : B69_19 f (F69 f A gr) A (d : Int) 1 x3 mc = some (.inr (.inl ((1, x3), mc))) := by
        unfold B69_19
        rw [if_neg (by omega), if_neg (by decide), b1.kind, if_pos t1]
      have e2 : J69_180 f (F69 f A gr) A 1 mc = some (r, mc') := (stp e).2.1 _ _ rfl
      unfold J69_180 at e2
      rw [if_neg (by decide)] at e2
      replace e2 := bI_e e2
      obtain ⟨q, m2, e4, e2⟩ := e2
      rcases b1.take (by omega) e4 with ⟨-, rfl, rfl⟩ | ⟨z, -⟩
      · rw [if_neg (by decide)] at e2
        cases e2
        exact Or.inr ⟨rfl, i, s, o, a, G, 0, mm, hL, t1, ⟨b1.at (by rw [yup_eq]; omega) (fun q c hq => yup_na (by omega)), b2, b3.fr hA (fun q q1 q2 => yup_na (by omega)) (yup_na (by omega)) (fun q => yup_na (by omega)) (fun _ _ _ => rfl), by rw [yup_na (by omega)]; exact b4, b5, b6, b7, b8, b9, b10⟩, by omega, SEG.ni, by omega, by omega, fBc.rf.up (by unfold arC; omega), fBm.rf, by rw [yup_na (by omega)]; omega, by rw [yup_na (by omega)]; omega, by rw [yup_eq, b1.1]; omega, by rw [yup_na (by omega)]; omega, fun z => z.fr (yup_na (by omega)) (fun q _ => yup_na (by omega)) (fun t _ => yup_na (by omega)), fun t t1 t2 => by omega⟩
      · exact absurd t1 z
    by_cases s40 : s = 40
    · have e : B69_19 f (F69 f A gr) A (d : Int) 1 x3 mc = some (.inr (.inr (0, yup mc 2 4 (tp i)))) := by
        unfold B69_19
        rw [if_neg (by omega), if_neg (by decide), b1.kind, if_neg t1, if_pos (by omega)]
        unfold F43
        rw [b1.plc]
        rfl
      obtain ⟨rfl, rfl⟩ := (stp e).2.2 _ _ rfl
      have hm : ∀ {y : (Unit × yM) ⊕ ((Unit × yM) ⊕ (Unit × yM))}, B139_5 g mm = some y → y = .inl ((), yup mm 376 8 (tp i)) := by
        intro y e
        unfold B139_5 at e
        rw [if_pos (by rw [b2.2.2.2.1]; decide), b2.2.2.2.2.mark T (by unfold sgn; omega), if_neg t1, if_pos rfl, if_pos (by omega)] at e
        unfold J139_94 at e
        replace e := bU_e e
        obtain ⟨n1, e1, e⟩ := e
        have := b2.stop T e1
        subst this
        cases e
        rfl
      obtain ⟨f', -, ⟨l', m', e3, e4⟩ | e3⟩ := yloop_s hL
      · cases hm e3
        exact Or.inl ⟨rfl, _, ML.w e4 (by rw [yup_eq]; exact b2.tp0 T), Flt.mk (b2.tp0 T), FrC.rf.u2, FrM.rf.w8⟩
      · cases hm e3
    have hs : s < 40 := by omega
    obtain ⟨e56, X, h16, s2, fc, eA⟩ := h'.cx (f := f) hA hs rfl rfl
    generalize yup (yup (yup (yup mc (A + 20 + s) 1 k) (A + 20 + s) 2 (-1)) (A + 20 + s) 8 0) A 16 ((s : Int) + 1) = mc1 at *
    obtain ⟨y, ey⟩ : ∃ y, B69_19 f (F69 f A gr) A (d : Int) 1 x3 mc = some y := by
      unfold CLo yloop at hc
      cases e : B69_19 f (F69 f A gr) A (d : Int) 1 x3 mc with
      | none => simp only [e] at hc; cases hc
      | some y => exact ⟨y, rfl⟩
    obtain ⟨x, M, rfl, hst⟩ := B69_st (by omega) b1.kind X.2.1.kind t1 (by omega) e56 ey
    have hc2 := (stp ey).1 _ _ rfl
    have fin : SO tx len n en tk tp tn A p k res s o a d mc mm g rr x M → BO tx len n en tk tp tn A p k res s o a d mc mm g rr r mc' := by
      intro hO
      rcases hO with ⟨rfl, mm', z1, z2, z3, z4⟩ | ⟨rfl, i', s', o', a', G', fu, N, z1, z2, z3, z4, z5, z6, z7, z8, z9, z10, z11, z12, z13, z14⟩
      · obtain ⟨rfl, rfl⟩ := CLo.z hc2
        exact Or.inl ⟨rfl, mm', z1, ⟨by rw [yup_na (by omega)]; exact z2.1, z2.2⟩, z3.up (by omega), z4⟩
      · have e16 : M A 16 = s' := z2.2.2.2.1
        rw [e16, wr_i (by omega) (by omega)] at hc2
        have B2 : BS tx len n en tk tp tn A p k res s' o' a' d i' i' (yup M (A + 20 + s) 12 (s' : Int)) N := by
          obtain ⟨y1, y2, y3, y4, y5, y6, y7, y8, y9, y10⟩ := z2
          have := hco.2.2.2.2
          exact ⟨y1.fr (yup_na (by omega)) (fun q c hq => yup_na (by omega)), y2, y3.fr hA (fun q q1 q2 => yup_na (by omega)) (yup_na (by omega)) (fun q => yup_na (by omega)) (fun _ _ _ => rfl), by rw [yup_na (by omega)]; exact y4, y5, y6, y7, y8, y9, y10⟩
        exact BO.cons hA (by omega) B2 (by omega) z4 z5 z6 (z7.up (by unfold arC; omega)) z8 (by rw [yup_na (by omega)]; exact z9) (by rw [yup_na (by omega)]; exact z10) (by rw [yup_na (by omega)]; exact z11) (by rw [yup_na (by omega)]; exact z12) (z13.fr (yup_na (by omega)) (fun q => yup_na (by omega)) (fun t ht => yup_ne (by omega))) (z14.fr (fun t q t1 t2 t3 => yup_ne (by omega))) (by omega) (ih s' o' a' d i' G' (x3 + 1) r _ N mc' rr hd B2 (by omega) (by omega) hc2 z1)
    rcases ML.stp T b2 t1 b5 hs hL with ⟨tt, G', n1, e1, e2⟩ | ⟨tt, G', n1, e1, e2⟩ | ⟨tt, G', n1, e1, e2⟩
    · rcases hst with ⟨-, w⟩ | ⟨z, -⟩ | ⟨z1, z2, -⟩
      · exact fin (branch_r T hl hA hp hs hd hB h' X h16 fc eA rfl tt w e1 e2)
      · omega
      · omega
    · rcases hst with ⟨z, -⟩ | ⟨z, r1, M1, w1, w2⟩ | ⟨-, -, z, r1, M1, w1, w2⟩
      · omega
      · exact fin ((return_r T hl hA hp hs (by omega) X (by rw [yup_na (by decide)]; exact b7) z w1 w2 e1).so hA h' hs X h16 fc eA rfl e2)
      · exact fin ((simple_r T hl hA hp hs (by omega) (by omega) h16 X s2 z w1 w2 e1).so hA h' hs X h16 fc eA rfl e2)
    · have e1' := b2.stop T e1
      subst e1'
      rcases hst with ⟨z, -⟩ | ⟨z, -⟩ | ⟨-, -, -, r1, M1, w1, w2⟩
      · omega
      · omega
      · unfold F68 at w1
        rw [X.2.1.kind, if_neg tt.2.2.2.2] at w1
        unfold J68_14 F58 at w1
        rw [X.2.1.kind, if_neg tt.2.2.2.1, if_neg tt.2.2.2.2] at w1
        unfold J58_56 F43 at w1
        rw [if_pos rfl, X.2.1.plc] at w1
        cases w1
        obtain ⟨rfl, rfl⟩ := w2.1 rfl
        exact fin (Or.inl ⟨rfl, _, ML.w e2 (by rw [yup_eq]; exact b2.tp0 T), Flt.mk (b2.tp0 T), fc.F.u2, FrM.rf.w8⟩)
theorem PB_all {f g : Nat} (T : TOK tx len n en tk tp tn) (hl : len ≤ 320) (hA : A = 256 ∨ A = 316) (hp : p ≤ 1) : ∀ gr, PB tx len n en tk tp tn A p k res f g gr := by
  intro gr
  induction gr with
  | zero => intro s o a d i G r mc mm mc' rr _ _ _ _ h; cases h
  | succ gr ih =>
    intro s o a d i G r mc mm mc' rr hd hC ht hS h hL
    have hi := hS.2.1.le T hl
    exact loop_r T hl hA hp ih f s o a d (i + 1) G 0 r _ mm mc' rr hd hS (by omega) (by omega) (F69_go (by omega) hC ht (by omega) h) hL
end LP
end
section
/-! METHODS, head and body: the program as far as it is read -/
def MCH (A p : Nat) (mc mm : yM) : Nat → Nat → Nat → Nat → Prop
  | 0, s, o, a => s = 0 ∧ o = 0 ∧ a = 0
  | k + 1, s, o, a => ∃ s0 o0 a0 o1 fu : Nat, MCH A p mc mm k s0 o0 a0 ∧ mc (A + 10 + k) 4 = s0 ∧ mc (A + 10 + k) 5 = s ∧ mm 399 (10 * p + k) = o0 ∧ o = o1 + 1 ∧ SEG A p mc mm fu s0 s o0 o1 a0 a ∧ mm 403 (1000 * p + 8 * o1) = 12 ∧ mm 403 (1000 * p + 8 * o1 + 1) = k
/-- the parameters of a method are variables that stand -/
def VM (A k : Nat) (mc : yM) : Prop := ∀ j : Nat, j < k → mc (A + 10 + j) 2 + 2 + mc (A + 10 + j) 3 ≤ mc A 15
/-- every statement of a method is its own -/
def OWM (A k s : Nat) (mc : yM) : Prop := ∀ j : Nat, j < k → mc (A + 10 + j) 5 ≤ s ∧ ∀ t : Nat, mc (A + 10 + j) 4 ≤ t → (t : Int) < mc (A + 10 + j) 5 → mc (A + 20 + t) 1 = j ∧ (4 ≤ mc (A + 20 + t) 0 → mc (A + 20 + t) 2 = -1 ∨ mc (A + 10 + j) 2 < mc (A + 20 + t) 2)
theorem OWM.fr {A k s : Nat} {mc mc' : yM} (h : OWM A k s mc) (e1 : ∀ j q : Nat, j < k → mc' (A + 10 + j) q = mc (A + 10 + j) q) (e2 : ∀ t q : Nat, t < s → q ≤ 2 → mc' (A + 20 + t) q = mc (A + 20 + t) q) : OWM A k s mc' := fun j hj => by
  obtain ⟨h1, h2⟩ := h j hj
  rw [e1 j 4 hj, e1 j 5 hj, e1 j 2 hj]
  refine ⟨h1, fun t t1 t2 => ?_⟩
  rw [e2 t 0 (by omega) (by omega), e2 t 1 (by omega) (by omega), e2 t 2 (by omega) (by omega)]
  exact h2 t t1 t2
/-- k methods, s statements, o ops, a names asked for -/
def PRG (A p k s o a : Nat) (mc mm : yM) : Prop := rCl A p mc mm ∧ rFd A p mc mm ∧ rFb A mc ∧ rMe A p mc mm ∧ rCo A p mc mm ∧ mc A 10 = k ∧ (mc A 15 = mm 389 p ∧ 0 ≤ mc A 15 ∧ mc A 15 ≤ 48) ∧ (mc A 16 = s ∧ mm 376 9 = s ∧ mm 390 p = o ∧ mm 376 17 = a ∧ s ≤ 40 ∧ o ≤ 2 * s + k ∧ a ≤ s ∧ mm 400 (12 * p) = 0 ∧ CAS A s mc ∧ VM A k mc ∧ OWM A k s mc) ∧ MCH A p mc mm k s o a
def arMc (A k s : Nat) (cs : Int) (b q : Nat) : Prop := (b = 2 ∧ (q = 2 ∨ q = 4)) ∨ (b = A ∧ (q = 10 ∨ (12 ≤ q ∧ q ≤ 16))) ∨ b = A + 5 ∨ b = A + 10 + k ∨ (b = A + 9 ∧ cs ≤ (q : Int)) ∨ (A + 20 + s ≤ b ∧ b < A + 60)
def arMm (p k o a : Nat) (st cs : Int) (b q : Nat) : Prop := (b = 376 ∧ ((3 ≤ q ∧ q ≤ 7) ∨ q = 9 ∨ q = 10 ∨ q = 14 ∨ q = 17)) ∨ ((b = 384 ∨ (386 ≤ b ∧ b ≤ 390)) ∧ q = p) ∨ b = 380 ∨ (395 ≤ b ∧ b ≤ 399 ∧ q = 10 * p + k) ∨ ((b = 381 ∨ b = 382) ∧ a ≤ q) ∨ (b = 400 ∧ 12 * (p : Int) + st ≤ q ∧ q < 12 * p + 12) ∨ ((b = 401 ∨ b = 402) ∧ 8 * (p : Int) + cs ≤ q ∧ q < 8 * p + 8) ∨ (b = 403 ∧ 1000 * p + 8 * o ≤ q ∧ q < 1000 * p + 1000) ∨ b = 378 ∨ b = 379
def fMc (A k s : Nat) (cs : Int) (mc mc' : yM) : Prop := ∀ b q, ¬ arMc A k s cs b q → mc' b q = mc b q
def fMm (p k o a : Nat) (st cs : Int) (mm mm' : yM) : Prop := ∀ b q : Nat, ¬ arMm p k o a st cs b q → mm' b q = mm b q
section MD
variable {tx : Int → Int} {len : Int} {n : Nat} {en tk tp tn : Nat → Int} {A p k res s o a d : Nat} {mc mm mc' mm' M N M' N' : yM} {cs st : Int}
theorem MCH.fr : ∀ {k s o a : Nat}, MCH A p mc mm k s o a → (∀ j q, j < k → q = 4 ∨ q = 5 → mc' (A + 10 + j) q = mc (A + 10 + j) q) → (∀ t q, t < s → mc' (A + 20 + t) q = mc (A + 20 + t) q) → mc A 13 ≤ mc' A 13 → mc A 14 ≤ mc' A 14 → mc A 15 ≤ mc' A 15 → mc A 10 ≤ mc' A 10 → (∀ q : Nat, (q : Int) < mc A 13 → mc' (A + 9) q = mc (A + 9) q) → (∀ q, 1000 * p ≤ q → q < 1000 * p + 8 * o → mm' 403 q = mm 403 q) → (∀ q : Nat, q < 12 * p + 12 → (q : Int) < 12 * p + mc A 14 → mm' 400 q = mm 400 q) → (∀ b q : Nat, b = 401 ∨ b = 402 → q < 8 * p + 8 → (q : Int) < 8 * p + mc A 13 → mm' b q = mm b q) → (∀ b q, b = 381 ∨ b = 382 → q < a → mm' b q = mm b q) → (∀ q : Nat, (q : Int) < 10 * p + mc A 10 → mm' 398 q = mm 398 q) → (∀ j, j < k → mm' 399 (10 * p + j) = mm 399 (10 * p + j)) → MCH A p mc' mm' k s o a := by
  intro k
  induction k with
  | zero => intro s o a h _ _ _ _ _ _ _ _ _ _ _ _ _; exact h
  | succ k ih =>
    intro s o a h e0 e1 e13 e14 e15 e10 e2 e3 e4 e5 e6 e7 e8
    obtain ⟨s0, o0, a0, o1, fu, h1, h2, h3, h4, h5, h6, h7, h8⟩ := h
    have l := h6.le
    refine ⟨s0, o0, a0, o1, fu, ih h1 (fun j q j1 j2 => e0 j q (by omega) j2) (fun t q t1 => e1 t q (by omega)) e13 e14 e15 e10 e2 (fun q q1 q2 => e3 q q1 (by omega)) e4 e5 (fun b q b1 b2 => e6 b q b1 (by omega)) e7 (fun j j1 => e8 j (by omega)), ?_, ?_, ?_, h5, ?_, ?_, ?_⟩
    · rw [e0 k 4 (by omega) (by omega)]; exact h2
    · rw [e0 k 5 (by omega) (by omega)]; exact h3
    · rw [e8 k (by omega)]; exact h4
    · exact h6.fr (fun t q t1 t2 => e1 t q t2) e13 e14 e15 e10 e2 (fun q q1 q2 => e3 q (by omega) (by omega)) e4 e5 e6 e7
    · rw [e3 _ (by omega) (by omega)]; exact h7
    · rw [e3 _ (by omega) (by omega)]; exact h8
theorem fMc.mk {v w : Int} (h1 : fHc A k mc M) (h2 : fBc A s cs (yup M 2 2 v) M') : fMc A k s cs mc (yup M' (A + 10 + k) 5 w) := fun b q hb => by
  rw [yup_na (fun e => hb (by unfold arMc; omega)), h2 b q (fun e => hb (by unfold arC at e; unfold arMc; omega)), yup_ne (fun e => hb (by unfold arMc; omega))]
  exact h1 b q (fun e => hb (by unfold arMc; omega)) (fun e => hb (by unfold arMc; omega)) (fun e => hb (by unfold arMc; omega)) (fun e => hb (by unfold arMc; omega))
theorem arB.toMm {b q : Nat} (h : arB p o a d st cs b q) : arMm p k o a st cs b q := by
  rcases h with e | e | e | e | e | e | e | e
  · exact Or.inl ⟨e.1, by omega⟩
  · exact Or.inr (Or.inl ⟨by omega, e.2.2⟩)
  · exact Or.inr (Or.inr (Or.inl e))
  · exact Or.inr (Or.inr (Or.inr (Or.inr (Or.inl e))))
  · exact Or.inr (Or.inr (Or.inr (Or.inr (Or.inr (Or.inl e)))))
  · exact Or.inr (Or.inr (Or.inr (Or.inr (Or.inr (Or.inr (Or.inl e))))))
  · exact Or.inr (Or.inr (Or.inr (Or.inr (Or.inr (Or.inr (Or.inr (Or.inl e)))))))
  · exact Or.inr (Or.inr (Or.inr (Or.inr (Or.inr (Or.inr (Or.inr (Or.inr (by omega))))))))
theorem fMm.mk {v : Int} {n1 : yM} {o' : Nat} {x1 x2 x3 x4 : Int} (h1 : fHm p k mm N) (h2 : fBm p o a d st cs (yup N 376 10 v) N') (h3 : ∀ b q, ¬ (b = 376 ∧ 3 ≤ q ∧ q ≤ 7) → n1 b q = N' b q) (ho : o ≤ o') (ho2 : o' ≤ 120) : fMm p k o a st cs mm (emM p o' k x1 x2 x3 x4 n1) := fun b q hb => by
  rw [em_o (fun e => hb (Or.inr (Or.inr (Or.inr (Or.inr (Or.inr (Or.inr (Or.inr (Or.inl ⟨e.1, by omega, by omega⟩)))))))) ) (fun e => hb (Or.inr (Or.inl ⟨by omega, e.2⟩))), h3 b q (fun e => hb (Or.inl ⟨e.1, by omega⟩)), h2 b q (fun e => hb e.toMm), yup_ne (fun e => hb (Or.inl ⟨e.1, by omega⟩))]
  exact h1 b q (fun e => hb (Or.inl ⟨e.1, by omega⟩)) (fun e => hb (Or.inr (Or.inl ⟨by omega, e.2⟩))) (fun e => hb (Or.inr (Or.inl ⟨by omega, e.2⟩))) (fun e => hb (Or.inr (Or.inr (Or.inl e)))) (fun e => hb (Or.inr (Or.inr (Or.inr (Or.inl e)))))
theorem fMc.F (h : fMc A k s cs mc mc') (hk : k < 10) : FrC A mc mc' := fun b q h1 h2 => h b q (fun e => by unfold arMc at e; omega)
theorem fMm.F (h : fMm p k o a st cs mm mm') (hk : k < 10) (h1 : 0 ≤ st) (h2 : 0 ≤ cs) : FrM p mm mm' := fun b q hb => h b q (fun e => hb (by
  rcases e with e | e | e | e | e | e | e | e | e
  · exact Or.inl ⟨e.1, by omega⟩
  · exact Or.inr (Or.inr (Or.inl ⟨by omega, by omega, e.2⟩))
  · exact Or.inr (Or.inl ⟨by omega, by omega⟩)
  · exact Or.inr (Or.inr (Or.inr (Or.inr (Or.inr (Or.inr (Or.inl ⟨e.1, e.2.1, by omega, by omega⟩))))))
  · exact Or.inr (Or.inl ⟨by omega, by omega⟩)
  · exact Or.inr (Or.inr (Or.inr (Or.inr (Or.inr (Or.inr (Or.inr (Or.inl ⟨e.1, by omega, by omega⟩)))))))
  · exact Or.inr (Or.inr (Or.inr (Or.inr (Or.inr (Or.inr (Or.inr (Or.inr (Or.inl ⟨e.1, by omega, by omega⟩))))))))
  · exact Or.inr (Or.inr (Or.inr (Or.inr (Or.inr (Or.inr (Or.inr (Or.inr (Or.inr (⟨e.1, by omega, by omega⟩)))))))))
  · exact Or.inr (Or.inl ⟨by omega, by omega⟩)))
/-- the model at the bracket of a method -/
theorem ML.fin {g G i : Nat} {rr : (Unit × yM) ⊕ (Unit × yM)} (T : TOK tx len n en tk tp tn) (hM : MT tx len n en tk tp tn p i N) (ht : tk i = 125) (hd : N 376 10 = 0) (h : ML g G N = some rr) : ∃ n1 n2 r, F99 g N = some n1 ∧ F127 g 12 0 0 0 n1 = some (r, n2) ∧ rr = .inr ((), n2) := by
  have key : ∀ {y : (Unit × yM) ⊕ ((Unit × yM) ⊕ (Unit × yM))}, B139_5 g N = some y → ∃ n1 n2 r, F99 g N = some n1 ∧ F127 g 12 0 0 0 n1 = some (r, n2) ∧ y = .inr (.inr ((), n2)) := by
    intro y h
    unfold B139_5 at h
    rw [if_pos (by rw [hM.2.2.2.1]; decide), hM.2.2.2.2.mark T (by unfold sgn; omega), if_pos ht, if_neg (by decide), if_pos hd] at h
    obtain ⟨n1, e1, h⟩ := bU_e h
    obtain ⟨r, n2, e2, h⟩ := bI_e h
    cases h
    exact ⟨n1, n2, r, e1, e2, rfl⟩
  obtain ⟨f', -, ⟨l', m', e3, -⟩ | e3⟩ := yloop_s h
  · obtain ⟨n1, n2, r, -, -, e⟩ := key e3
    cases e
  · obtain ⟨n1, n2, r, e1, e2, e⟩ := key e3
    cases e
    exact ⟨n1, n2, r, e1, e2, rfl⟩
/-- a method is read -/
theorem PRG.more {i' j o' a' s' fu : Nat} {m1 n1 m5 N5 n6 : yM} (hA : A = 256 ∨ A = 316) (hp : p ≤ 1) (hk : k < 10) (hP : PRG A p k s o a mc mm) (RM : rMe A p m1 n1) (h4 : m1 (A + 10 + k) 4 = mc A 16) (h399 : n1 399 (10 * p + k) = mm 390 p) (fc : fHc A k mc m1) (fm : fHm p k mm n1) (hS : BS tx len n en tk tp tn A p k res s' o' a' 0 (i' + 1) i' m5 N5) (hss : s ≤ s') (hG : SEG A p m5 N5 fu s s' o o' a a') (ho : o' ≤ o + 2 * (s' - s)) (ha : a' ≤ a + (s' - s)) (gc : fBc A s (mc A 13) (yup m1 2 2 ((j : Int) + 1)) m5) (gm : fBm p o a 0 (mm 388 p) (mm 387 p) (yup n1 376 10 0) N5) (m13 : mc A 13 ≤ m5 A 13) (m14 : mc A 14 ≤ m5 A 14) (m15 : mc A 15 ≤ m5 A 15) (hV : m1 (A + 10 + k) 2 + 2 + m1 (A + 10 + k) 3 ≤ m5 A 15) (hca : CAi A s s' mc m5) (hOw : OWN A k res s s' m5) (hres : m1 (A + 10 + k) 2 = res) (f6 : ∀ b q, ¬ (b = 376 ∧ 3 ≤ q ∧ q ≤ 7) → n6 b q = N5 b q) : PRG A p (k + 1) s' (o' + 1) a' (yup m5 (A + 10 + k) 5 (m5 A 16)) (emM p o' k 12 0 0 0 n6) ∧ fMc A k s (mc A 13) mc (yup m5 (A + 10 + k) 5 (m5 A 16)) ∧ fMm p k o a (mm 388 p) (mm 387 p) mm (emM p o' k 12 0 0 0 n6) := by
  have lG := hG.le
  obtain ⟨b1, b2, b3, b4, b5, b6, b7, b8, b9, b10⟩ := hS
  obtain ⟨c1, c2, c3, c4, c5⟩ := b3
  have ho2 : o' ≤ 120 := by omega
  have Ec : fMc A k s (mc A 13) mc (yup m5 (A + 10 + k) 5 (m5 A 16)) := fMc.mk fc gc
  have Em : fMm p k o a (mm 388 p) (mm 387 p) mm (emM p o' k 12 0 0 0 n6) := fMm.mk fm gm f6 lG.2.1 ho2
  refine ⟨?_, Ec, Em⟩
  obtain ⟨p1, p2, p3, p4, p5, p6, p7, ⟨q1, q2, q3, q4, q5, q6, q7, q8⟩, p8⟩ := hP
  have hco := p5
  unfold rCo at hco
  have e5A : ∀ q, yup m5 (A + 10 + k) 5 (m5 A 16) A q = m5 A q := fun q => yup_na (by omega)
  have em5 : ∀ b q, ¬ (b = 376 ∧ 3 ≤ q ∧ q ≤ 7) → ¬ (b = 403 ∧ 1000 * p + 8 * o' ≤ q ∧ q < 1000 * p + 8 * o' + 5) → ¬ (b = 390 ∧ q = p) → emM p o' k 12 0 0 0 n6 b q = N5 b q := fun b q z1 z2 z3 => by rw [em_o z2 z3, f6 b q z1]
  have e59 : m5 A 9 = mc A 9 := by rw [gc A 9 (by unfold arC; omega), yup_na (by omega), fc A 9 (by omega) (by omega) (by omega) (by omega)]
  refine ⟨?_, ?_, ?_, ?_, ?_, ?_, ⟨?_, ?_, ?_⟩, ⟨?_, ?_, ?_, ?_, ?_, ?_, ?_, ?_, ?_, ?_, ?_⟩, ?_⟩
  · exact p1.fr (Ec _ _ (by unfold arMc; omega)) (fun b q hb => Ec _ _ (by unfold arMc; omega)) (fun b q hb => Em _ _ (by unfold arMm; omega))
  · exact p2.fr (Ec _ _ (by unfold arMc; omega)) (fun q => Ec _ _ (by unfold arMc; omega)) (fun b q hb => Em _ _ (by unfold arMm; omega))
  · intro z hz w w1 w2
    rw [Ec A 9 (by unfold arMc; omega)] at hz
    rw [Ec A 11 (by unfold arMc; omega)] at w1
    rw [Ec (A + 3) z (by unfold arMc; omega)]
    exact p3 z hz w w1 w2
  · refine RM.fr (mc' := yup m5 (A + 10 + k) 5 (m5 A 16)) ?_ ?_ ?_ ?_
    · rw [e5A, gc A 10 (by unfold arC; omega), yup_na (by omega)]
    · have z := fc A 9 (by omega) (by omega) (by omega) (by omega)
      rw [e5A]; omega
    · intro z q hz hq
      rw [yup_ne (by omega), gc _ _ (by unfold arC; omega), yup_na (by omega)]
    · intro b q hb
      rw [em5 b q (by omega) (by omega) (by omega), gm b q (by unfold arB; omega), yup_na (by omega)]
  · exact c2.fr (fun q q1 q2 => e5A q) (fun b b1 b2 => em5 b p (by omega) (by omega) (by omega))
  · rw [e5A, c1.1]; omega
  · rw [e5A, em5 389 p (by omega) (by omega) (by omega)]; exact c1.2.2.2.2.1
  · rw [e5A]; have := c1.2.2.2.2.2.1; omega
  · rw [e5A]; exact c1.2.2.2.2.2.2.1
  · rw [e5A]; exact b4
  · rw [em5 376 9 (by omega) (by omega) (by omega)]; exact b5
  · exact em_n
  · rw [em5 376 17 (by omega) (by omega) (by omega)]; exact c4
  · exact b8
  · omega
  · exact b10
  · rw [Em 400 (12 * p) (by unfold arMm; omega)]; exact q8.1
  · exact (hca q8.2.1).fr (e5A 13) (fun q _ => yup_na (by omega)) (fun t _ => yup_na (by omega))
  · intro z hz
    rw [e5A]
    by_cases w : z = k
    · subst w
      rw [yup_nk (by decide), yup_nk (by decide), gc _ _ (by unfold arC; omega), gc _ _ (by unfold arC; omega), yup_na (by omega), yup_na (by omega)]
      exact hV
    · have z2 := q8.2.2.1 z (by omega)
      rw [Ec (A + 10 + z) 2 (by unfold arMc; omega), Ec (A + 10 + z) 3 (by unfold arMc; omega)]
      omega
  · intro z hz
    by_cases w : z = k
    · have r4 : yup m5 (A + 10 + k) 5 (m5 A 16) (A + 10 + k) 4 = s := by rw [yup_nk (by decide), gc _ _ (by unfold arC; omega), yup_na (by omega), h4]; exact q1
      have r2 : yup m5 (A + 10 + k) 5 (m5 A 16) (A + 10 + k) 2 = res := by rw [yup_nk (by decide), gc _ _ (by unfold arC; omega), yup_na (by omega)]; exact hres
      have r5 : yup m5 (A + 10 + k) 5 (m5 A 16) (A + 10 + k) 5 = s' := by rw [yup_eq]; exact b4
      rw [w, r5, r4, r2]
      refine ⟨by omega, fun t t1 t2 => ?_⟩
      rw [yup_na (by omega), yup_na (by omega), yup_na (by omega)]
      exact hOw t (by omega) (by omega)
    · obtain ⟨o1, o2⟩ := q8.2.2.2 z (by omega)
      rw [Ec (A + 10 + z) 2 (by unfold arMc; omega), Ec (A + 10 + z) 4 (by unfold arMc; omega), Ec (A + 10 + z) 5 (by unfold arMc; omega)]
      refine ⟨by omega, fun t t1 t2 => ?_⟩
      rw [Ec (A + 20 + t) 0 (by unfold arMc; omega), Ec (A + 20 + t) 1 (by unfold arMc; omega), Ec (A + 20 + t) 2 (by unfold arMc; omega)]
      exact o2 t t1 t2
  · have a10 : m5 A 10 = (k : Int) + 1 := c1.1
    refine ⟨s, o, a, o', fu, ?_, ?_, ?_, ?_, rfl, ?_, em_0, em_1⟩
    · refine p8.fr (fun z q z1 z2 => Ec _ _ (by unfold arMc; omega)) (fun t q t1 => Ec _ _ (by unfold arMc; omega)) (by rw [e5A]; exact m13) (by rw [e5A]; exact m14) (by rw [e5A]; exact m15) (by rw [e5A, a10]; omega) (fun q hq => Ec _ _ (by unfold arMc; omega)) (fun q q1 q2 => Em _ _ (by unfold arMm; omega)) (fun q q1 q2 => Em _ _ (by unfold arMm; omega)) (fun b q hb q1 q2 => Em _ _ (by unfold arMm; omega)) (fun b q hb q1 => Em _ _ (by unfold arMm; omega)) (fun q q1 => Em _ _ (by unfold arMm; omega)) (fun z z1 => Em _ _ (by unfold arMm; omega))
    · rw [yup_nk (by decide), gc _ _ (by unfold arC; omega), yup_na (by omega), h4]; exact q1
    · rw [yup_eq]; exact b4
    · rw [em5 399 _ (by omega) (by omega) (by omega), gm 399 _ (by unfold arB; omega), yup_na (by omega), h399]; exact q3
    · exact hG.fr (fun t q t1 t2 => yup_na (by omega)) (Int.le_of_eq (e5A _).symm) (Int.le_of_eq (e5A _).symm) (Int.le_of_eq (e5A _).symm) (Int.le_of_eq (e5A _).symm) (fun q hq => yup_na (by omega)) (fun q z1 z2 => em5 _ _ (by omega) (by omega) (by omega)) (fun q z1 z2 => em5 _ _ (by omega) (by omega) (by omega)) (fun b q hb z1 z2 => em5 _ _ (by omega) (by omega) (by omega)) (fun b q hb z1 => em5 _ _ (by omega) (by omega) (by omega)) (fun q _ => em5 _ _ (by omega) (by omega) (by omega))
theorem meth_r {f g i : Nat} {r : Int} {y : (Unit × yM) ⊕ ((Unit × yM) ⊕ (Unit × yM))} (T : TOK tx len n en tk tp tn) (hl : len ≤ 320) (hA : A = 256 ∨ A = 316) (hp : p ≤ 1) (hC : CT tk tp tn i mc) (hM : MT tx len n en tk tp tn p i mm) (hi : tk i ≠ 0) (hP : PRG A p k s o a mc mm) (h9 : 1 ≤ mc A 9) (h1 : F70 f A mc = some (r, mc')) (h2 : bU (F126 g mm) (fun m3769 => (if m3769 376 8 < 0 then (bU (F139 g m3769) (fun m4808 => (some (.inl ((), m4808))))) else (some (.inl ((), m3769))))) = some y) : ∃ mm', y = .inl ((), mm') ∧ FrC A mc mc' ∧ FrM p mm mm' ∧ ((r = 0 ∧ Flt mc' mm') ∨ (r = 1 ∧ ∃ i' k' s' o' a' : Nat, i < i' ∧ CT tk tp tn i' mc' ∧ MT tx len n en tk tp tn p i' mm' ∧ PRG A p k' s' o' a' mc' mm' ∧ mc' A 9 = mc A 9 ∧ mc' 2 3 = mc 2 3)) := by
  replace h2 := bU_e h2
  obtain ⟨n1, e1, h2⟩ := h2
  have hP0 := hP
  obtain ⟨p1, p2, p3, p4, p5, p6, p7, ⟨q1, q2, q3, q4, q5, q6, q7, q8⟩, p8⟩ := hP
  have hco := p5
  unfold rCo at hco
  rcases mhead_r T hl hA hp hC hM hi p1 p4 p7.1 p7.2 h9 h1 e1 with ⟨rfl, d1, d2, d3⟩ | ⟨k1, res, j, m1, r5, m5, d1, d2, d3, d4, d5, d6, d7, d8, d9, d10, d11, d12, d13, d14, d15, d16, d17⟩
  · rw [if_neg (by have := d1.2; omega)] at h2
    cases h2
    exact ⟨_, rfl, d2, d3, Or.inl ⟨rfl, d1⟩⟩
  · obtain rfl : k1 = k := by omega
    rw [if_pos (by rw [d7.2.2.2.1]; decide)] at h2
    replace h2 := bU_e h2
    obtain ⟨n2, e2, h2⟩ := h2
    cases h2
    refine ⟨n2, rfl, ?_⟩
    have key : ∃ rr, ML g g (yup n1 376 10 0) = some rr ∧ (rr = .inl ((), n2) ∨ rr = .inr ((), n2)) := by
      unfold F139 at e2
      rcases bL_e e2 with ⟨l, m, e3, e4⟩ | ⟨l, m, e3, e4⟩
      · cases e4
        exact ⟨_, e3, Or.inl rfl⟩
      · cases e4
        exact ⟨_, e3, Or.inr rfl⟩
    obtain ⟨rr, hL, hrr⟩ := key
    have hj := d7.le T hl
    have c0 : ∀ b q, b ≠ 2 → yup m1 2 2 ((j : Int) + 1) b q = m1 b q := fun b q hb => yup_na hb
    have x9 : ∀ q, q ≠ 10 → q ≠ 15 → m1 A q = mc A q := fun q z1 z2 => d15 A q (by omega) (by omega) (by omega) (by omega)
    have hS : BS tx len n en tk tp tn A p k1 res s o a 0 (j + 1) (j + 1) (yup m1 2 2 ((j : Int) + 1)) (yup n1 376 10 0) := by
      refine ⟨d6.at (by rw [yup_eq]; omega) (fun b q hb => yup_na (by omega)), d7.fr (fun q hq => yup_nk (by omega)) (fun q => yup_na (by omega)), ⟨?_, ?_, ?_, ?_, ?_⟩, ?_, ?_, ?_, ?_, q5, by omega, q7⟩
      · exact d12.fr hA (c0 _ _ (by omega)) (c0 _ _ (by omega)) (c0 _ _ (by omega)) (fun q => c0 _ _ (by omega)) (yup_nk (by omega)) (yup_na (by omega)) (fun q => yup_na (by omega))
      · refine p5.fr (fun q z1 z2 => ?_) (fun b z1 z2 => ?_)
        · rw [c0 _ _ (by omega), x9 q (by omega) (by omega)]
        · rw [yup_na (by omega), d16 b p (by omega) (by omega) (by omega) (by omega) (by omega)]
      · rw [yup_na (by omega), d16 390 p (by omega) (by omega) (by omega) (by omega) (by omega)]; exact q3
      · rw [yup_nk (by omega), d16 376 17 (by omega) (by omega) (by omega) (by omega) (by omega)]; exact q4
      · rw [yup_na (by omega), ← d11.1]; exact d12.1
      · rw [c0 _ _ (by omega), x9 16 (by omega) (by omega)]; exact q1
      · rw [yup_nk (by omega), d16 376 9 (by omega) (by omega) (by omega) (by omega) (by omega)]; exact q2
      · rw [yup_eq]; rfl
      · have z := (d11.2.2.2 k1 (by rw [d12.1]; omega)).2.2.2.1
        rw [yup_na (by omega), ← z]
        exact d12.2.2.1
    have hX := PB_all (f := f) (g := g) T hl hA hp f s o a 0 j g r5 m1 (yup n1 376 10 0) m5 rr (by omega) d6 d5 hS d8 hL
    subst d9
    rcases hX with ⟨rfl, mm2, z1, z2, z3, z4⟩ | ⟨rfl, i', s', o', a', G, fu, N, z1, z2, z3, z4, z5, z6, z7, z8, z9, z10, z11, z12, z13, z14, z15⟩
    · obtain rfl : n2 = mm2 := by
        rcases hrr with e | e
        · rw [z1] at e; cases e; rfl
        · rw [z1] at e; cases e
      refine ⟨((d15.fr d2).u2.tr z3).up (by omega), (FrM.tr (d16.fr d2) (FrM.tr ((FrM.rf).up (by unfold arM; omega)) z4)), Or.inl ⟨by omega, ?_, z2.2⟩⟩
      rw [yup_na (by omega)]; exact z2.1
    · obtain ⟨n6, n7, r7, w1, w2, w3⟩ := ML.fin T z3.2.1 z2 z3.2.2.2.2.2.1 z1
      obtain ⟨hM6, f6⟩ := z3.2.1.next T hl (by omega) w1
      have hB5 := z3.2.2.1
      have hs8 := z3.2.2.2.2.2.2.2
      obtain ⟨-, hn7⟩ := F127_r (o := o') (k := k1) hp hM6.2.2.1 (by rw [f6 390 p (by omega)]; exact hB5.2.2.1) (by omega) (by rw [f6 384 p (by omega)]; exact hB5.2.2.2.2) d2 w2
      obtain rfl : n2 = n7 := by
        rcases hrr with e | e
        · rw [w3] at e; cases e
        · rw [w3] at e; cases e; rfl
      subst hn7
      have u13 : yup m1 2 2 ((j : Int) + 1) A 13 = mc A 13 := by rw [c0 _ _ (by omega), x9 13 (by omega) (by omega)]
      have u14 : yup m1 2 2 ((j : Int) + 1) A 14 = mc A 14 := by rw [c0 _ _ (by omega), x9 14 (by omega) (by omega)]
      have v388 : yup n1 376 10 0 388 p = mm 388 p := by rw [yup_na (by omega), d16 388 p (by omega) (by omega) (by omega) (by omega) (by omega)]
      have v387 : yup n1 376 10 0 387 p = mm 387 p := by rw [yup_na (by omega), d16 387 p (by omega) (by omega) (by omega) (by omega) (by omega)]
      rw [u13] at z8 z10
      rw [u14] at z11
      rw [c0 A 15 (by omega)] at z13
      have v15 : mc A 15 ≤ m5 A 15 := by have w := d12.2.2.2.2.2.1; omega
      have hca : CAi A s s' mc m5 := fun z => z14 (z.fr u13 (fun q _ => by rw [c0 _ _ (by omega)]; exact d15 _ _ (by omega) (by omega) (by omega) (by omega)) (fun t _ => by rw [c0 _ _ (by omega)]; exact d15 _ _ (by omega) (by omega) (by omega) (by omega)))
      rw [v388, v387] at z9
      obtain ⟨K1, K2, K3⟩ := PRG.more hA hp d2 hP0 d11 d13 d14 d15 d16 z3 z4 z5 z6 z7 z8 z9 z10 z11 v15 (by omega) hca z15 d12.2.2.1 f6
      refine ⟨K2.F d2, K3.F d2 (by omega) (by omega), Or.inr ⟨by omega, i' + 1, k1 + 1, s', o' + 1, a', ?_, ?_, ?_, K1, ?_, ?_⟩⟩
      · rw [yup_eq, z3.1.1] at z12; omega
      · exact z3.1.fr (yup_na (by omega)) (fun b q hb => yup_na (by omega))
      · exact hM6.fr (fun q hq => em_o (by omega) (by omega)) (fun q => em_o (by omega) (by omega))
      · exact K2 _ _ (by unfold arMc; omega)
      · exact K2 _ _ (by unfold arMc; omega)
end MD
end
section
/-! CLASSES: the class's one loop over members, the model's two -/
def MRest (g : Nat) (x1 : Int) (G H : Nat) (mm fin : yM) : Prop := ∃ m1, bL (yloop (fun (_ : Unit) ml => B140_4 g ml) G () mm) (fun _ m => J140_66 g m) (fun (_ : Unit) mr => some mr) = some m1 ∧ yloop (fun (_ : Unit) ml => B152_99 g x1 ml) H () m1 = some (.inl ((), fin))
abbrev CLM (f A F : Nat) (l : Int × Int) (mc : yM) : Option (((Int × Int) × yM) ⊕ (Int × yM)) := yloop (fun (l : Int × Int) ml => B74_40 f A l.1 l.2 ml) F l mc
def CO (A p : Nat) (mc mm : yM) (rc : ((Int × Int) × yM) ⊕ (Int × yM)) (fin : yM) : Prop := ∃ (x4 x5 : Int) (mc' : yM), rc = .inl ((x4, x5), mc') ∧ FrC A mc mc' ∧ FrM p mm fin ∧ ((x4 = 0 ∧ Flt mc' fin) ∨ (x4 = 1 ∧ fin 376 8 = -1 ∧ 1 ≤ mc' A 9 ∧ ∃ k s o a : Nat, PRG A p k s o a mc' fin))
section CLS
variable {tx : Int → Int} {len : Int} {n : Nat} {en tk tp tn : Nat → Int} {A p k s o a : Nat} {mc mm mc' mm' fin : yM}
theorem MK.k3 {i : Nat} (T : TOK tx len n en tk tp tn) (h : MK n en tk tp tn i mm) : mm 376 3 = 0 ↔ tk i = 0 := by
  rw [(h.z T).2]
  rcases h with ⟨h1, h2, -⟩ | ⟨h1, h2, h3, h4⟩
  · exact ⟨fun _ => h1, fun _ => h2⟩
  · constructor
    · intro e
      rcases h4 with ⟨-, q, -⟩ | ⟨-, q⟩ | ⟨-, q, -⟩ <;> omega
    · intro e; omega
theorem PRG.fr (hP : PRG A p k s o a mc mm) (r1 : rCl A p mc' mm') (r2 : rFd A p mc' mm') (r3 : rFb A mc') (e9 : mc A 9 ≤ mc' A 9) (ec : ∀ b q, (b = A ∧ 10 ≤ q ∧ q ≠ 11) ∨ (A + 5 ≤ b ∧ b < A + 60) → mc' b q = mc b q) (em : ∀ b q, (b = 376 ∧ (q = 9 ∨ q = 17)) ∨ b = 381 ∨ b = 382 ∨ b = 384 ∨ (386 ≤ b ∧ b ≤ 390) ∨ (395 ≤ b ∧ b ≤ 403) → mm' b q = mm b q) : PRG A p k s o a mc' mm' := by
  obtain ⟨p1, p2, p3, p4, p5, p6, p7, ⟨q1, q2, q3, q4, q5, q6, q7, q8⟩, p8⟩ := hP
  have h10 := p4.2.2.1
  refine ⟨r1, r2, r3, p4.fr (ec _ _ (by omega)) e9 (fun z q z1 z2 => ec _ _ (by omega)) (fun b q hb => em _ _ (by omega)), p5.fr (fun q z1 z2 => ec _ _ (by omega)) (fun b z1 z2 => em _ _ (by omega)), ?_, ⟨?_, ?_, ?_⟩, ⟨?_, ?_, ?_, ?_, q5, q6, q7, by rw [em 400 _ (by omega)]; exact q8.1, q8.2.1.fr (ec _ _ (by omega)) (fun q _ => ec _ _ (by omega)) (fun t ht => ec _ _ (by omega)), fun z hz => by rw [ec A 15 (by omega), ec (A + 10 + z) 2 (by omega), ec (A + 10 + z) 3 (by omega)]; exact q8.2.2.1 z hz, q8.2.2.2.fr (fun j q hj => ec _ _ (by omega)) (fun t q ht hq => ec _ _ (by omega))⟩, ?_⟩
  · rw [ec A 10 (by omega)]; exact p6
  · rw [ec A 15 (by omega), em 389 p (by omega)]; exact p7.1
  · rw [ec A 15 (by omega)]; exact p7.2.1
  · rw [ec A 15 (by omega)]; exact p7.2.2
  · rw [ec A 16 (by omega)]; exact q1
  · rw [em 376 9 (by omega)]; exact q2
  · rw [em 390 p (by omega)]; exact q3
  · rw [em 376 17 (by omega)]; exact q4
  · exact p8.fr (fun z q z1 z2 => ec _ _ (by omega)) (fun t q t1 => ec _ _ (by omega)) (Int.le_of_eq (ec _ _ (by omega)).symm) (Int.le_of_eq (ec _ _ (by omega)).symm) (Int.le_of_eq (ec _ _ (by omega)).symm) (Int.le_of_eq (ec _ _ (by omega)).symm) (fun q hq => ec _ _ (by omega)) (fun q z1 z2 => em _ _ (by omega)) (fun q z1 z2 => em _ _ (by omega)) (fun b q hb z1 z2 => em _ _ (by omega)) (fun b q hb z1 => em _ _ (by omega)) (fun q _ => em _ _ (by omega)) (fun z z1 => em _ _ (by omega))
theorem MRest.stp {g G H : Nat} {x1 : Int} {P : yM → Prop} (h : MRest g x1 G H mm fin) (hB : ∀ y, B140_4 g mm = some y → ∃ m', y = .inl ((), m') ∧ P m') : ∃ G' m', P m' ∧ MRest g x1 G' H m' fin := by
  obtain ⟨m1, e1, e2⟩ := h
  rcases bL_e e1 with ⟨l, m, e3, e4⟩ | ⟨l, m, e3, e4⟩
  · obtain ⟨f', -, ⟨l', m', e5, e6⟩ | e5⟩ := yloop_s e3
    · obtain ⟨m2, e, hP⟩ := hB _ e5
      cases e
      exact ⟨f', _, hP, m1, by rw [e6]; exact e4, e2⟩
    · obtain ⟨m2, e, hP⟩ := hB _ e5
      cases e
  · obtain ⟨f', -, ⟨l', m', e5, e6⟩ | e5⟩ := yloop_s e3
    · obtain ⟨m2, e, hP⟩ := hB _ e5
      cases e
      exact ⟨f', _, hP, m1, by rw [e6]; exact e4, e2⟩
    · obtain ⟨m2, e, hP⟩ := hB _ e5
      cases e
theorem MRest.out {g G H : Nat} {x1 : Int} (h : MRest g x1 G H mm fin) (hB : B140_4 g mm = some (.inr (.inl ((), mm)))) : ∃ m1, J140_66 g mm = some m1 ∧ yloop (fun (_ : Unit) ml => B152_99 g x1 ml) H () m1 = some (.inl ((), fin)) := by
  obtain ⟨m1, e1, e2⟩ := h
  rcases bL_e e1 with ⟨l, m, e3, e4⟩ | ⟨l, m, e3, e4⟩
  · obtain ⟨f', -, ⟨l', m', e5, e6⟩ | e5⟩ := yloop_s e3
    · rw [hB] at e5; cases e5
    · rw [hB] at e5; cases e5
      exact ⟨m1, e4, e2⟩
  · obtain ⟨f', -, ⟨l', m', e5, e6⟩ | e5⟩ := yloop_s e3
    · rw [hB] at e5; cases e5
    · rw [hB] at e5; cases e5
theorem MRest.w {g G H : Nat} {x1 : Int} (h : MRest g x1 G H mm fin) (hw : 0 ≤ mm 376 8) : fin = mm := by
  obtain ⟨m1, e1, e2⟩ := h.out (by unfold B140_4; rw [if_neg (by omega)])
  unfold J140_66 at e1
  rw [if_neg (by omega)] at e1
  cases e1
  have hB : B152_99 g x1 mm = some (.inr (.inl ((), mm))) := by unfold B152_99; rw [if_neg (by omega)]
  obtain ⟨f', -, ⟨l', m', e5, e6⟩ | e5⟩ := yloop_s e2
  · rw [hB] at e5; cases e5
  · rw [hB] at e5; cases e5; rfl
theorem MRest.shut {g G H i : Nat} {x1 : Int} (T : TOK tx len n en tk tp tn) (hl : len ≤ 320) (hM : MT tx len n en tk tp tn p i mm) (ht : tk i = 125) (h : MRest g x1 G H mm fin) : ∃ m2, MT tx len n en tk tp tn p (i + 1) m2 ∧ (∀ a q, ¬ (a = 376 ∧ 3 ≤ q ∧ q ≤ 7) → m2 a q = mm a q) ∧ ((tk (i + 1) = 0 ∧ fin = m2) ∨ (tk (i + 1) ≠ 0 ∧ ∃ H' m3, F119 g m2 = some m3 ∧ MRest g x1 g H' m3 fin)) := by
  obtain ⟨m1, e1, e2⟩ := h.out (by unfold B140_4; rw [if_pos (by rw [hM.2.2.2.1]; decide), hM.2.2.2.2.mark T (by unfold sgn; omega), if_pos ht, if_neg (by decide)])
  unfold J140_66 at e1
  rw [if_pos (by rw [hM.2.2.2.1]; decide)] at e1
  replace e1 := bU_e e1
  obtain ⟨m2, e3, e1⟩ := e1
  cases e1
  obtain ⟨hM2, f2⟩ := hM.next T hl (by omega) e3
  refine ⟨m1, hM2, f2, ?_⟩
  have k3 := hM2.2.2.2.2.k3 T
  by_cases t : tk (i + 1) = 0
  · refine Or.inl ⟨t, ?_⟩
    have hB : B152_99 g x1 m1 = some (.inr (.inl ((), m1))) := by
      unfold B152_99
      rw [if_pos (by rw [hM2.2.2.2.1]; decide), if_pos (k3.mpr t)]
    obtain ⟨f', -, ⟨l', m', e5, e6⟩ | e5⟩ := yloop_s e2
    · rw [hB] at e5; cases e5
    · rw [hB] at e5; cases e5; rfl
  · refine Or.inr ⟨t, ?_⟩
    have key : ∀ y, B152_99 g x1 m1 = some y → ∃ m5, F140 g m1 = some m5 ∧ y = .inl ((), m5) := by
      intro y e
      unfold B152_99 at e
      rw [if_pos (by rw [hM2.2.2.2.1]; decide), if_neg (fun z => t (k3.mp z))] at e
      replace e := bU_e e
      obtain ⟨m5, e5, e⟩ := e
      cases e
      exact ⟨m5, e5, rfl⟩
    obtain ⟨f', -, ⟨l', m', e5, e6⟩ | e5⟩ := yloop_s e2
    · obtain ⟨m5, e7, e8⟩ := key _ e5
      cases e8
      unfold F140 at e7
      replace e7 := bU_e e7
      obtain ⟨m3, e8, e9⟩ := e7
      exact ⟨f', m3, e8, _, e9, e6⟩
    · obtain ⟨m5, e7, e8⟩ := key _ e5
      cases e8
theorem CLM.z {f F : Nat} {l : Int × Int} {rc : ((Int × Int) × yM) ⊕ (Int × yM)} (h0 : l.1 = 0 ∨ mc 2 3 ≠ 0) (h : CLM f A F l mc = some rc) : rc = .inl (l, mc) := by
  have hB : B74_40 f A l.1 l.2 mc = some (.inr (.inl (l, mc))) := by
    unfold B74_40
    by_cases q1 : l.2 < 320
    · rw [if_pos q1]
      by_cases q2 : l.1 = 0
      · rw [if_pos q2]
      · rw [if_neg q2, if_neg (by omega)]
    · rw [if_neg q1]
  obtain ⟨f', -, ⟨l', m', e5, e6⟩ | e5⟩ := yloop_s h
  · rw [hB] at e5; cases e5
  · rw [hB] at e5; cases e5; rfl
theorem CLM.stp {f F i : Nat} {x5 : Int} {rc : ((Int × Int) × yM) ⊕ (Int × yM)} (hC : CT tk tp tn i mc) (h3 : mc 2 3 = 0) (h5 : 0 ≤ x5 ∧ x5 < 320) (h : CLM f A (F + 1) (1, x5) mc = some rc) : ∃ (r : Int) (M : yM), CLM f A F (r, x5 + 1) M = some rc ∧ ((tk i = 2 ∧ F49 f A mc = some (r, M)) ∨ (tk i = 3 ∧ F70 f A mc = some (r, M)) ∨ (tk i = 125 ∧ F71 f A mc = some (r, M)) ∨ (tk i ≠ 2 ∧ tk i ≠ 3 ∧ tk i ≠ 125 ∧ F43 f mc = some (r, M))) := by
  have key : ∀ y, B74_40 f A 1 x5 mc = some y → ∃ (r : Int) (M : yM), y = .inl ((r, x5 + 1), M) ∧ ((tk i = 2 ∧ F49 f A mc = some (r, M)) ∨ (tk i = 3 ∧ F70 f A mc = some (r, M)) ∨ (tk i = 125 ∧ F71 f A mc = some (r, M)) ∨ (tk i ≠ 2 ∧ tk i ≠ 3 ∧ tk i ≠ 125 ∧ F43 f mc = some (r, M))) := by
    intro y e
    unfold B74_40 at e
    rw [if_pos h5.2, if_neg (by decide), if_pos h3, hC.kind] at e
    rcases ite1 e with ⟨q, e⟩ | ⟨q, e⟩
    · replace e := bI_e e
      obtain ⟨r, M, e1, e⟩ := e
      unfold J74_133 at e
      rw [wr_i (by omega) (by omega)] at e
      cases e
      exact ⟨r, M, rfl, Or.inl ⟨q, e1⟩⟩
    rcases ite1 e with ⟨q2, e⟩ | ⟨q2, e⟩
    · replace e := bI_e e
      obtain ⟨r, M, e1, e⟩ := e
      unfold J74_133 at e
      rw [wr_i (by omega) (by omega)] at e
      cases e
      exact ⟨r, M, rfl, Or.inr (Or.inl ⟨q2, e1⟩)⟩
    rcases ite1 e with ⟨q3, e⟩ | ⟨q3, e⟩
    · replace e := bI_e e
      obtain ⟨r, M, e1, e⟩ := e
      unfold J74_133 at e
      rw [wr_i (by omega) (by omega)] at e
      cases e
      exact ⟨r, M, rfl, Or.inr (Or.inr (Or.inl ⟨q3, e1⟩))⟩
    · replace e := bI_e e
      obtain ⟨r, M, e1, e⟩ := e
      unfold J74_133 at e
      rw [wr_i (by omega) (by omega)] at e
      cases e
      exact ⟨r, M, rfl, Or.inr (Or.inr (Or.inr ⟨q, q2, q3, e1⟩))⟩
  obtain ⟨f', hf, ⟨l', m', e5, e6⟩ | e5⟩ := yloop_s h
  · obtain ⟨r, M, e, hr⟩ := key _ e5
    cases e
    obtain rfl : F = f' := by omega
    exact ⟨_, _, e6, hr⟩
  · obtain ⟨r, M, e, hr⟩ := key _ e5
    cases e
theorem CO.tr {M N : yM} {rc : ((Int × Int) × yM) ⊕ (Int × yM)} (h : CO A p M N rc fin) (h1 : FrC A mc M) (h2 : FrM p mm N) : CO A p mc mm rc fin := by
  obtain ⟨x4, x5, mc', e1, e2, e3, e4⟩ := h
  exact ⟨x4, x5, mc', e1, h1.tr e2, h2.tr e3, e4⟩
theorem rFb.hd {M M' : yM} (h : rFb A M) (e : ∀ k : Nat, (k : Int) < M' A 9 → ∀ f : Nat, f < 8 → bt (M' (A + 3) k) f → ∃ j : Nat, (j : Int) < M A 9 ∧ bt (M (A + 3) j) f) (e11 : M' A 11 = M A 11) : rFb A M' := by
  intro z hz w w1 w2 hb
  obtain ⟨j, j1, j2⟩ := e z hz w w2 hb
  exact h j j1 w (by omega) w2 j2
theorem cls_r {f g : Nat} {x1 : Int} (T : TOK tx len n en tk tp tn) (hl : len ≤ 320) (hA : A = 256 ∨ A = 316) (hp : p ≤ 1) : ∀ (F i k s o a G H : Nat) (x5 : Int) (mc mm fin : yM) (rc : ((Int × Int) × yM) ⊕ (Int × yM)), CT tk tp tn i mc → MT tx len n en tk tp tn p i mm → PRG A p k s o a mc mm → 1 ≤ mc A 9 → mc 2 3 = 0 → 0 ≤ x5 → x5 < i → CLM f A F (1, x5) mc = some rc → MRest g x1 G H mm fin → CO A p mc mm rc fin := by
  intro F
  induction F with
  | zero => intro i k s o a G H x5 mc mm fin rc _ _ _ _ _ _ _ h; cases h
  | succ F ih =>
    intro i k s o a G H x5 mc mm fin rc hC hM hP h9 h23 h0 h5 hc hR
    have hi := hM.le T hl
    have hP0 := hP
    obtain ⟨p1, p2, p3, -⟩ := hP
    obtain ⟨r, M, hc2, hst⟩ := CLM.stp hC h23 (by omega) hc
    have w8 : mm 376 8 < 0 := by rw [hM.2.2.2.1]; decide
    rcases hst with ⟨t, e1⟩ | ⟨t, e1⟩ | ⟨t, e1⟩ | ⟨t1, t2, t3, e1⟩
    · -- a field
      obtain ⟨G', N, e2, hR2⟩ := hR.stp (P := fun m' => F122 g mm = some m') (fun y e => by
        unfold B140_4 at e
        have n1 : tk i ≠ 125 := by omega
        rw [if_pos w8, hM.2.2.2.2.mark T (by unfold sgn; omega), if_neg n1, if_pos rfl, hM.2.2.2.2.isField T, if_pos t, if_neg (by decide)] at e
        replace e := bU_e e
        obtain ⟨m5, e5, e⟩ := e
        cases e
        exact ⟨m5, rfl, e5⟩)
      obtain ⟨fc, fm, hr⟩ := field_r T hl hA hp hC hM (by omega) p1 p2 p3 h9 e1 e2
      rcases hr with ⟨rfl, hF⟩ | ⟨rfl, i', i1, c1, c2, c3, c4, c5, c6, c7, c8, c9⟩
      · have := hR2.w hF.2
        subst this
        exact ⟨0, _, M, CLM.z (Or.inl rfl) hc2, fc, fm, Or.inl ⟨rfl, hF⟩⟩
      · exact (ih i' k s o a G' H (x5 + 1) M N fin rc c1 c2 (hP0.fr c3 c4 c5 (by omega) (fun b q hb => c7 b q (by omega) (by omega) (by omega) (by omega)) (fun b q hb => c9 b q (by omega) (by omega) (by omega) (by omega))) (by omega) (by omega) (by omega) (by omega) hc2 hR2).tr fc fm
    · -- a method
      obtain ⟨G', N, e2, hR2⟩ := hR.stp (P := fun m' => bU (F126 g mm) (fun m3769 => (if m3769 376 8 < 0 then (bU (F139 g m3769) (fun m4808 => (some ((.inl ((), m4808) : (Unit × yM) ⊕ ((Unit × yM) ⊕ (Unit × yM))))))) else (some (.inl ((), m3769))))) = some (.inl ((), m'))) (fun y e => by
        unfold B140_4 at e
        have n1 : tk i ≠ 125 := by omega
        have n2 : tk i ≠ 2 := by omega
        rw [if_pos w8, hM.2.2.2.2.mark T (by unfold sgn; omega), if_neg n1, if_pos rfl, hM.2.2.2.2.isField T, if_neg n2, if_pos rfl, hM.2.2.2.2.isDef T, if_pos t, if_neg (by decide)] at e
        obtain ⟨m', e3, -⟩ := meth_r T hl hA hp hC hM (by omega) hP0 h9 e1 e
        subst e3
        exact ⟨m', rfl, e⟩)
      obtain ⟨N', e3, fc, fm, hr⟩ := meth_r T hl hA hp hC hM (by omega) hP0 h9 e1 e2
      cases e3
      rcases hr with ⟨rfl, hF⟩ | ⟨rfl, i', k', s', o', a', i1, c1, c2, c3, c4, c5⟩
      · have := hR2.w hF.2
        subst this
        exact ⟨0, _, M, CLM.z (Or.inl rfl) hc2, fc, fm, Or.inl ⟨rfl, hF⟩⟩
      · exact (ih i' k' s' o' a' G' H (x5 + 1) M N fin rc c1 c2 c3 (by omega) (by omega) (by omega) (by omega) hc2 hR2).tr fc fm
    · -- the end of a class
      obtain ⟨m2, hM2, f2, hR2⟩ := hR.shut T hl hM t
      have hi2 := hM2.le T hl
      unfold F71 at e1
      rw [hC.1, wr_i (x := (i : Int) + 1) (by omega) (by omega)] at e1
      have hC1 : CT tk tp tn (i + 1) (yup mc 2 2 ((i : Int) + 1)) := hC.at (by rw [yup_eq]; omega) (fun a q ha => yup_na (by omega))
      rw [hC1.kind] at e1
      rcases hR2 with ⟨t2, rfl⟩ | ⟨t2, H', m3, e3, hR3⟩
      · rw [if_pos t2] at e1
        unfold J71_23 at e1
        rw [if_neg (by decide)] at e1
        cases e1
        have q : CLM f A F (1, x5 + 1) (yup (yup mc 2 2 ((i : Int) + 1)) 2 3 1) = some rc := hc2
        have E : ∀ b q, b ≠ 2 → yup (yup mc 2 2 ((i : Int) + 1)) 2 3 1 b q = mc b q := fun b q hb => by rw [yup_na hb, yup_na hb]
        refine ⟨1, x5 + 1, _, CLM.z (Or.inr (by rw [yup_eq]; decide)) q, FrC.rf.u2.u2, FrM.rf.tk f2, Or.inr ⟨rfl, hM2.2.2.2.1, by rw [E _ _ (by omega)]; exact h9, k, s, o, a, ?_⟩⟩
        exact hP0.fr (p1.fr (E _ _ (by omega)) (fun b q hb => E _ _ (by omega)) (fun b q hb => f2 _ _ (by omega))) (p2.fr (E _ _ (by omega)) (fun q => E _ _ (by omega)) (fun b q hb => f2 _ _ (by omega))) (p3.hd (fun z hz w w1 hb => ⟨z, by rw [E _ _ (by omega)] at hz; exact hz, by rw [E _ _ (by omega)] at hb; exact hb⟩) (E _ _ (by omega))) (Int.le_of_eq (E _ _ (by omega)).symm) (fun b q hb => E _ _ (by omega)) (fun b q hb => f2 _ _ (by omega))
      · rw [if_neg t2] at e1
        unfold J71_23 at e1
        rw [if_pos rfl] at e1
        replace e1 := bI_e e1
        obtain ⟨r2, M2, e4, e1⟩ := e1
        have E : ∀ b q, b ≠ 2 → yup (yup mc 2 2 ((i : Int) + 1)) 2 3 0 b q = mc b q := fun b q hb => by rw [yup_na hb, yup_na hb]
        have hC2 : CT tk tp tn (i + 1) (yup (yup mc 2 2 ((i : Int) + 1)) 2 3 0) := hC1.fr (yup_nk (by decide)) (fun a q ha => yup_na (by omega))
        have r1 : rCl A p (yup (yup mc 2 2 ((i : Int) + 1)) 2 3 0) m2 := p1.fr (E _ _ (by omega)) (fun b q hb => E _ _ (by omega)) (fun b q hb => f2 _ _ (by omega))
        obtain ⟨fc, fm, hr⟩ := head_r T hl hA hp hC2 hM2 r1 e4 e3
        have fc' : FrC A mc M2 := FrC.rf.u2.u2.tr fc
        have fm' : FrM p mm m3 := (FrM.rf.tk f2).tr fm
        rcases hr with ⟨rfl, hF⟩ | ⟨rfl, -, i', i1, c1, c2, c3, c4, c5, c6, c7, c8⟩
        · rw [if_pos rfl] at e1
          cases e1
          have := hR3.w hF.2
          subst this
          exact ⟨0, _, M, CLM.z (Or.inl rfl) hc2, fc', fm', Or.inl ⟨rfl, hF⟩⟩
        · rw [if_neg (by decide)] at e1
          cases e1
          have E2 : ∀ b q, b ≠ 2 → ¬ (b = A ∧ q = 9) → b ≠ A + 1 → b ≠ A + 2 → b ≠ A + 3 → M b q = mc b q := fun b q b1 b2 b3 b4 b5 => by rw [c5 b q b1 b2 b3 b4 b5, E b q b1]
          have E3 : ∀ b q, ¬ (b = 376 ∧ 3 ≤ q ∧ q ≤ 7) → b ≠ 383 → b ≠ 391 → b ≠ 392 → b ≠ 393 → m3 b q = mm b q := fun b q b1 b2 b3 b4 b5 => by rw [c7 b q b1 b2 b3 b4 b5, f2 b q b1]
          have x9 : M A 9 = mc A 9 + 1 := by rw [c4, E _ _ (by omega)]
          refine (ih i' k s o a g H' (x5 + 1) M m3 fin rc c1 c2 ?_ (by omega) (by rw [c6, yup_eq]) (by omega) (by omega) hc2 hR3).tr fc' fm'
          refine hP0.fr c3 (p2.fr (E2 _ _ (by omega) (by omega) (by omega) (by omega) (by omega)) (fun q => E2 _ _ (by omega) (by omega) (by omega) (by omega) (by omega)) (fun b q hb => E3 _ _ (by omega) (by omega) (by omega) (by omega) (by omega))) ?_ (by omega) (fun b q hb => E2 _ _ (by omega) (by omega) (by omega) (by omega) (by omega)) (fun b q hb => E3 _ _ (by omega) (by omega) (by omega) (by omega) (by omega))
          refine p3.hd (fun z hz w w1 hb => ?_) (E2 _ _ (by omega) (by omega) (by omega) (by omega) (by omega))
          obtain ⟨j, j1, j2⟩ := c8 z hz w w1 hb
          rw [E _ _ (by omega)] at j1 j2
          exact ⟨j, j1, j2⟩
    · -- nothing of a class
      obtain ⟨G', N, e2, hR2⟩ := hR.stp (P := fun m' => F104 g mm = some m') (fun y e => by
        unfold B140_4 at e
        rw [if_pos w8, hM.2.2.2.2.mark T (by unfold sgn; omega), if_neg t3, if_pos rfl, hM.2.2.2.2.isField T, if_neg t1, if_pos rfl, hM.2.2.2.2.isDef T, if_neg t2, if_pos rfl] at e
        replace e := bU_e e
        obtain ⟨m5, e5, e⟩ := e
        cases e
        exact ⟨m5, rfl, e5⟩)
      have := hM.stop T e2
      subst this
      unfold F43 at e1
      rw [hC.plc] at e1
      cases e1
      have z := hR2.w (by rw [yup_eq]; exact hM.tp0 T)
      subst z
      exact ⟨0, _, _, CLM.z (Or.inl rfl) hc2, FrC.rf.u2, FrM.rf.w8, Or.inl ⟨rfl, Flt.mk (hM.tp0 T)⟩⟩
end CLS
end
section
/-! NAMES: the class names that new and cast ask for are looked up alike, in the same order -/
def NMS (A : Nat) (mc mm : yM) : Nat → Nat → Nat → Nat → Prop
  | 0, _, a0, a1 => a0 = a1
  | d + 1, s0, a0, a1 => (mc (A + 20 + s0) 0 ≠ 5 ∧ mc (A + 20 + s0) 0 ≠ 7 ∧ NMS A mc mm d (s0 + 1) a0 a1) ∨ ((mc (A + 20 + s0) 0 = 5 ∨ mc (A + 20 + s0) 0 = 7) ∧ Nm (mc (A + 20 + s0) 4) (mm 381 a0) ∧ mm 382 a0 = mc (A + 20 + s0) 5 ∧ 0 ≤ mc (A + 20 + s0) 5 ∧ NMS A mc mm d (s0 + 1) (a0 + 1) a1)
/-- what the lookups change -/
def fNc (A : Nat) (mc mc' : yM) : Prop := ∀ b q, ¬ (A + 20 ≤ b ∧ b < A + 60 ∧ (q = 6 ∨ q = 7)) → b ≠ A + 8 → ¬ (b = A ∧ q = 17) → mc' b q = mc b q
def fNm (mm mm' : yM) : Prop := ∀ b q, ¬ (b = 376 ∧ q = 8) → b ≠ 400 → b ≠ 402 → b ≠ 403 → mm' b q = mm b q
section NM
variable {A p k s o a : Nat} {mc mm mc' mm' M N : yM}
theorem NMS.le : ∀ {d s0 a0 a1 : Nat}, NMS A mc mm d s0 a0 a1 → a0 ≤ a1 := by
  intro d
  induction d with
  | zero => intro s0 a0 a1 h; exact Nat.le_of_eq h
  | succ d ih =>
    intro s0 a0 a1 h
    rcases h with ⟨-, -, h⟩ | ⟨-, -, -, -, h⟩
    · exact ih h
    · have := ih h; omega
theorem NMS.app : ∀ {d e s0 a0 a1 a2 : Nat}, NMS A mc mm d s0 a0 a1 → NMS A mc mm e (s0 + d) a1 a2 → NMS A mc mm (d + e) s0 a0 a2 := by
  intro d
  induction d with
  | zero =>
    intro e s0 a0 a1 a2 h h'
    have h0 : a0 = a1 := h
    subst h0
    rw [Nat.zero_add]
    exact h'
  | succ d ih =>
    intro e s0 a0 a1 a2 h h'
    rw [show d + 1 + e = (d + e) + 1 by omega]
    rw [show s0 + (d + 1) = s0 + 1 + d by omega] at h'
    rcases h with ⟨h1, h2, h⟩ | ⟨h1, h2, h3, h4, h⟩
    · exact Or.inl ⟨h1, h2, ih h h'⟩
    · exact Or.inr ⟨h1, h2, h3, h4, ih h h'⟩
theorem OPR.nms {a' : Nat} (h : OPR A p s o a a' mc mm) : NMS A mc mm 1 s a a' := by
  obtain ⟨-, -, -, h⟩ := h
  rcases h with h | h | h | h | h | h | h | h
  · exact Or.inl ⟨by omega, by omega, h.2.2.2.2.2.2.symm⟩
  · exact Or.inl ⟨by omega, by omega, h.2.2.2.2.2.2.2.symm⟩
  · exact Or.inl ⟨by omega, by omega, h.2.2.2.2.2.2.2.2.2.2.2.2.2.2.symm⟩
  · obtain ⟨g1, g2, g3, g4, g5, g6, g7, g8, g9, g10, g11, g12, g13⟩ := h
    exact Or.inr ⟨Or.inl g1, g10, g11, g12, g13.symm⟩
  · exact Or.inl ⟨by omega, by omega, h.2.2.2.2.symm⟩
  · obtain ⟨g1, g2, g3, g4, g5, g6, g7, g8, g9, g10, g11, g12, g13, g14, g15, g16⟩ := h
    exact Or.inr ⟨Or.inr g1, g13, g14, g15, g16.symm⟩
  · exact Or.inl ⟨by omega, by omega, h.2.2.2.2.2.2.symm⟩
  · exact Or.inl ⟨by omega, by omega, h.2.2.2.2.2.2.2.symm⟩
theorem NMS.br {d s0 a0 a1 : Nat} {b : Int} (h0 : mc (A + 20 + s0) 0 = b) (hb : b = 0 ∨ b = 1) (h : NMS A mc mm d (s0 + 1) a0 a1) : NMS A mc mm (d + 1) s0 a0 a1 := Or.inl ⟨by omega, by omega, h⟩
theorem SEG.nms : ∀ {f s0 s1 o0 o1 a0 a1 : Nat}, SEG A p mc mm f s0 s1 o0 o1 a0 a1 → NMS A mc mm (s1 - s0) s0 a0 a1 := by
  intro f
  induction f with
  | zero =>
    intro s0 s1 o0 o1 a0 a1 h
    obtain ⟨rfl, rfl, rfl⟩ := h
    rw [Nat.sub_self]
    rfl
  | succ f ih =>
    intro s0 s1 o0 o1 a0 a1 h
    rcases h with ⟨rfl, rfl, rfl⟩ | ⟨s2, o2, a2, h1, h2, h3, h4, h5, h6, h7, h8, h9⟩
    · rw [Nat.sub_self]
      rfl
    · have key : NMS A mc mm (s2 - s0) s0 a0 a2 := by
        rcases h9 with ⟨g1, g2, g3⟩ | ⟨g1, o3, g2, g2', g3, g4, g5, g6, g7⟩ | ⟨g1, g2, g3, g4⟩ | ⟨g1, s3, o3, a3, g2, g3, g4, g5, g6, g7, g8, g9, g10, g11, g12, g13⟩
        · rw [g1, show s0 + 1 - s0 = 1 by omega]
          exact g3.nms
        · rw [show s2 - s0 = (s2 - (s0 + 1)) + 1 by omega]
          exact NMS.br g1.1 (Or.inr rfl) (ih g7)
        · rw [show s2 - s0 = (s2 - (s0 + 1)) + 1 by omega]
          exact NMS.br g1.1 (Or.inl rfl) (ih g4)
        · have z1 := ih g12
          have z2 := ih g13
          have z3 : NMS A mc mm ((s3 - (s0 + 1)) + (s2 - s3)) (s0 + 1) a0 a2 := z1.app (by rw [show s0 + 1 + (s3 - (s0 + 1)) = s3 by omega]; exact z2)
          rw [show s2 - s0 = ((s3 - (s0 + 1)) + (s2 - s3)) + 1 by omega]
          exact NMS.br g1.1 (Or.inl rfl) z3
      have z := key.app (e := s1 - s2) (a2 := a1) (by rw [show s0 + (s2 - s0) = s2 by omega]; exact ih h8)
      rw [show s2 - s0 + (s1 - s2) = s1 - s0 by omega] at z
      exact z
theorem MCH.nms : ∀ {k s o a : Nat}, MCH A p mc mm k s o a → NMS A mc mm s 0 0 a := by
  intro k
  induction k with
  | zero =>
    intro s o a h
    obtain ⟨rfl, -, rfl⟩ := h
    rfl
  | succ k ih =>
    intro s o a h
    obtain ⟨s0, o0, a0, o1, fu, h1, h2, h3, h4, h5, h6, h7, h8⟩ := h
    have l := h6.le
    have z := (ih h1).app (e := s - s0) (a2 := a) (by rw [Nat.zero_add]; exact h6.nms)
    rw [show s0 + (s - s0) = s by omega] at z
    exact z
theorem fNc.rf : fNc A mc mc := fun _ _ _ _ _ => rfl
theorem fNm.rf : fNm mm mm := fun _ _ _ _ _ _ => rfl
theorem fNc.st {x : Nat} {q : Nat} {v : Int} (h : fNc A mc M) (hx : x < 40) (hq : q = 6 ∨ q = 7) : fNc A mc (yup M (A + 20 + x) q v) := fun b c h1 h2 h3 => by
  rw [yup_ne (by omega)]
  exact h b c h1 h2 h3
theorem fNc.a8 {q : Nat} {v : Int} (h : fNc A mc M) : fNc A mc (yup M (A + 8) q v) := fun b c h1 h2 h3 => by
  rw [yup_na h2]
  exact h b c h1 h2 h3
theorem fNm.w8 {v : Int} (h : fNm mm N) : fNm mm (yup N 376 8 v) := fun b c h1 h2 h3 h4 => by
  rw [yup_ne h1]
  exact h b c h1 h2 h3 h4
def NO (A : Nat) (mc mm : yM) (rc rm : (Int × yM) ⊕ (Int × yM)) : Prop := ∃ (xm : Int) (mm' : yM), rm = .inl (xm, mm') ∧ fNm mm mm' ∧ ((∃ (r : Int) (mc' : yM), rc = .inr (r, mc') ∧ fNc A mc mc' ∧ mm' 376 8 = r ∧ 0 ≤ r) ∨ (∃ (x : Int) (mc' : yM), rc = .inl (x, mc') ∧ fNc A mc mc' ∧ mm' 376 8 = -1))
abbrev NLc (f A F : Nat) (x : Int) (m : yM) : Option ((Int × yM) ⊕ (Int × yM)) := yloop (fun (l : Int) ml => B73_2 f A l ml) F x m
abbrev NLm (g : Nat) (p : Int) (G : Nat) (x : Int) (m : yM) : Option ((Int × yM) ⊕ (Unit × yM)) := yloop (fun (l : Int) ml => B141_2 g p l ml) G x m
theorem NLm.out {g p G : Nat} {x : Int} {rm : (Int × yM) ⊕ (Unit × yM)} (hx : ¬ x < N 376 17 ∨ 0 ≤ N 376 8) (h : NLm g p G x N = some rm) : rm = .inl (x, N) := by
  have hB : B141_2 g p x N = some (.inr (.inl (x, N))) := by
    unfold B141_2
    by_cases q1 : x < N 376 17
    · rw [if_pos q1, if_neg (by omega)]
    · rw [if_neg q1]
  obtain ⟨f', -, ⟨l', m', e5, e6⟩ | e5⟩ := yloop_s h
  · rw [hB] at e5; cases e5
  · rw [hB] at e5; cases e5; rfl
theorem names_l {f g : Nat} (hp : p ≤ 1) (hr : rCl A p mc mm) (h16 : mc A 16 = s) (h17 : mm 376 17 = a) (hs : s ≤ 40) (ha : a ≤ 40) : ∀ (d F G x a0 : Nat) (M N : yM) (rc : (Int × yM) ⊕ (Int × yM)) (rm : (Int × yM) ⊕ (Unit × yM)), NMS A mc mm d x a0 a → x + d = s → fNc A mc M → fNm mm N → N 376 8 = -1 → NLc f A F x M = some rc → NLm g p G a0 N = some rm → ∃ (xm : Int) (mm' : yM), rm = .inl (xm, mm') ∧ fNm mm mm' ∧ ((∃ (r : Int) (mc' : yM), rc = .inr (r, mc') ∧ fNc A mc mc' ∧ mm' 376 8 = r ∧ 0 ≤ r) ∨ (∃ (x : Int) (mc' : yM), rc = .inl (x, mc') ∧ fNc A mc mc' ∧ mm' 376 8 = -1)) := by
  intro d
  induction d with
  | zero =>
    intro F G x a0 M N rc rm hN hx fc fm w8 h1 h2
    have hN' : a0 = a := hN
    subst hN'
    have m16 : M A 16 = s := by rw [fc A 16 (by omega) (by omega) (by omega)]; exact h16
    have n17 : N 376 17 = a0 := by rw [fm 376 17 (by omega) (by omega) (by omega) (by omega)]; exact h17
    have e1 := NLm.out (Or.inl (by omega)) h2
    have hB : B73_2 f A (x : Int) M = some (.inr (.inl ((x : Int), M))) := by
      unfold B73_2
      rw [if_neg (by omega)]
    obtain ⟨f', -, ⟨l', m', e5, e6⟩ | e5⟩ := yloop_s h1
    · rw [hB] at e5; cases e5
    · rw [hB] at e5; cases e5
      exact ⟨_, _, e1, fm, Or.inr ⟨_, _, rfl, fc, w8⟩⟩
  | succ d ih =>
    intro F G x a0 M N rc rm hN hx fc fm w8 h1 h2
    have m16 : M A 16 = s := by rw [fc A 16 (by omega) (by omega) (by omega)]; exact h16
    have n17 : N 376 17 = a := by rw [fm 376 17 (by omega) (by omega) (by omega) (by omega)]; exact h17
    have c0 : ∀ q, q ≠ 6 → q ≠ 7 → M (A + 20 + x) q = mc (A + 20 + x) q := fun q z1 z2 => fc _ _ (by omega) (by omega) (by omega)
    have go : ∀ (P : (Int × yM) ⊕ ((Int × yM) ⊕ (Int × yM)) → Prop), (∀ y, B73_2 f A (x : Int) M = some y → P y) → ∃ F', (∃ l' m', P (.inl (l', m')) ∧ NLc f A F' l' m' = some rc) ∨ P (.inr rc) := by
      intro P hP
      obtain ⟨f', -, ⟨l', m', e5, e6⟩ | e5⟩ := yloop_s h1
      · exact ⟨f', Or.inl ⟨l', m', hP _ e5, e6⟩⟩
      · exact ⟨f', Or.inr (hP _ e5)⟩
    have x1 : wr ((x : Int) + 1) = ((x + 1 : Nat) : Int) := by rw [wr_i (by omega) (by omega)]; omega
    rcases hN with ⟨k1, k2, hN⟩ | ⟨k1, k2, k3, k4, hN⟩
    · obtain ⟨F', ⟨l', m', ⟨_, rfl, M', hm, fc'⟩, e⟩ | ⟨_, _, M', hm, _⟩⟩ := go (fun y => ∃ l', l' = ((x + 1 : Nat) : Int) ∧ ∃ M', y = .inl (l', M') ∧ fNc A mc M') (by
        intro y e
        refine ⟨_, rfl, ?_⟩
        unfold B73_2 at e
        rw [if_pos (by omega), Int.toNat_natCast, c0 0 (by decide) (by decide)] at e
        have s34 : ∀ {y}, J73_34 f A (x : Int) (A + 20 + x) M = some y → ∃ M', y = .inl (((x + 1 : Nat) : Int), M') ∧ fNc A mc M' := by
          intro y e
          unfold J73_34 J73_112 at e
          replace e := bP_e e
          obtain ⟨r, -, e⟩ := e
          rw [x1] at e
          cases e
          exact ⟨_, rfl, fc.st (by omega) (Or.inl rfl)⟩
        rcases ite1 e with ⟨-, e⟩ | ⟨-, e⟩
        · exact s34 e
        rcases ite1 e with ⟨-, e⟩ | ⟨-, e⟩
        · exact s34 e
        rw [if_neg k1, if_neg k2] at e
        unfold J73_112 at e
        rw [x1] at e
        cases e
        exact ⟨_, rfl, fc⟩)
      · cases hm
        exact ih F' G (x + 1) a0 _ N rc rm hN (by omega) fc' fm w8 e h2
      · cases hm
    · have la := hN.le
      have hr9 := hr.1
      have r0 := hr.2.1
      have r6 := hr.2.2.1
      have M9 : M A 9 = mc A 9 := fc A 9 (by omega) (by omega) (by omega)
      have N383 : N 383 p = mm 383 p := fm 383 p (by omega) (by omega) (by omega) (by omega)
      -- the model's answer
      have mod : ∀ r, IX (mc A 9) (fun z => mc (A + 1) z = mc (A + 20 + x) 4) r → (r = -1 → rm = .inl (((a0 + 1 : Nat) : Int), yup N 376 8 (mm 382 a0))) ∧ (r ≠ -1 → ∃ G', NLm g p G' ((a0 + 1 : Nat) : Int) N = some rm) := by
        intro r hI
        have key : ∀ y, B141_2 g p (a0 : Int) N = some y → y = .inl (((a0 + 1 : Nat) : Int), if r = -1 then yup N 376 8 (mm 382 a0) else N) := by
          intro y e
          unfold B141_2 at e
          rw [if_pos (by omega), if_pos (by omega), Int.toNat_natCast] at e
          replace e := bP_e e
          obtain ⟨r', e1, e⟩ := e
          have hI' := F116_r hp (by omega) (by omega) e1
          rw [N383, ← hr9, fm 381 a0 (by omega) (by omega) (by omega) (by omega)] at hI'
          have er : r = r' := hI.eq hI' (fun z hz => by
            have hz2 := (hr.2.2.2 z hz).1
            rw [fm 391 _ (by omega) (by omega) (by omega) (by omega)]
            exact hz2.eq k2)
          subst er
          have a1 : wr ((a0 : Int) + 1) = ((a0 + 1 : Nat) : Int) := by rw [wr_i (by omega) (by omega)]; omega
          have hl := hI.lt
          unfold J141_41 at e
          rw [a1, fm 382 a0 (by omega) (by omega) (by omega) (by omega)] at e
          by_cases z : r = -1
          · rw [if_pos (by omega)] at e
            cases e
            rw [if_pos z]
          · rw [if_neg (by omega)] at e
            cases e
            rw [if_neg z]
        obtain ⟨f', -, ⟨l', m', e5, e6⟩ | e5⟩ := yloop_s h2
        · have e7 := key _ e5
          cases e7
          refine ⟨fun z => ?_, fun z => ?_⟩
          · rw [if_pos z] at e6
            exact NLm.out (Or.inr (by rw [yup_eq, k3]; exact k4)) e6
          · rw [if_neg z] at e6
            exact ⟨f', e6⟩
        · have e7 := key _ e5
          cases e7
      obtain ⟨F', hgo⟩ := go (fun y => ∃ r, IX (mc A 9) (fun z => mc (A + 1) z = mc (A + 20 + x) 4) r ∧ ((r = -1 ∧ ∃ M', y = .inr (.inr (mc (A + 20 + x) 5, M')) ∧ fNc A mc M') ∨ (r ≠ -1 ∧ ∃ M', y = .inl (((x + 1 : Nat) : Int), M') ∧ fNc A mc M'))) (by
        intro y e
        unfold B73_2 at e
        rw [if_pos (by omega), Int.toNat_natCast, c0 0 (by decide) (by decide), if_neg (by omega), if_neg (by omega)] at e
        have s66 : ∀ {y}, J73_66 f A (x : Int) (A + 20 + x) M = some y → ∃ r, IX (mc A 9) (fun z => mc (A + 1) z = mc (A + 20 + x) 4) r ∧ ((r = -1 ∧ ∃ M', y = .inr (.inr (mc (A + 20 + x) 5, M')) ∧ fNc A mc M') ∨ (r ≠ -1 ∧ ∃ M', y = .inl (((x + 1 : Nat) : Int), M') ∧ fNc A mc M')) := by
          intro y e
          unfold J73_66 J73_112 at e
          replace e := bP_e e
          obtain ⟨r, e1, e⟩ := e
          have hI := F41_r (by omega) (by omega) e1
          rw [M9, c0 4 (by decide) (by decide)] at hI
          have hI2 : IX (mc A 9) (fun z => mc (A + 1) z = mc (A + 20 + x) 4) r := hI.mp (fun z hz => by rw [fc (A + 1) z (by omega) (by omega) (by omega)])
          refine ⟨r, hI2, ?_⟩
          rw [x1, c0 5 (by decide) (by decide)] at e
          rcases ite1 e with ⟨z, e⟩ | ⟨z, e⟩
          · cases e
            exact Or.inl ⟨z, _, rfl, fc.st (by omega) (Or.inr rfl)⟩
          · refine Or.inr ⟨z, ?_⟩
            rcases ite1 e with ⟨-, e⟩ | ⟨-, e⟩
            · cases e
              exact ⟨_, rfl, (fc.st (by omega) (Or.inr rfl)).a8⟩
            · cases e
              exact ⟨_, rfl, fc.st (by omega) (Or.inr rfl)⟩
        rcases k1 with k1 | k1
        · rw [if_pos k1] at e
          exact s66 e
        · rw [if_neg (by omega), if_pos k1] at e
          exact s66 e)
      rcases hgo with ⟨l', m', ⟨r, hI, ⟨-, M', e, -⟩ | ⟨z, M', e, fc'⟩⟩, e2⟩ | ⟨r, hI, ⟨z, M', e, fc'⟩ | ⟨-, M', e, -⟩⟩
      · cases e
      · cases e
        obtain ⟨G', h3⟩ := (mod r hI).2 z
        exact ih F' G' (x + 1) (a0 + 1) _ N rc rm hN (by omega) fc' fm w8 e2 h3
      · cases e
        exact ⟨_, _, (mod r hI).1 z, fm.w8, Or.inl ⟨_, _, rfl, fc', by rw [yup_eq]; exact k3, k4⟩⟩
      · cases e
theorem F73_r {f g : Nat} {r : Int} (hp : p ≤ 1) (hP : PRG A p k s o a mc mm) (hw : mm 376 8 = -1) (h1 : F73 f A mc = some (r, mc')) (h2 : F141 g p mm = some mm') : fNc A mc mc' ∧ fNm mm mm' ∧ ((0 ≤ r ∧ mm' 376 8 = r) ∨ (r = -1 ∧ mm' 376 8 = -1)) := by
  obtain ⟨p1, p2, p3, p4, p5, p6, p7, ⟨q1, q2, q3, q4, q5, q6, q7, q8⟩, p8⟩ := hP
  have hN := p8.nms
  have key : ∃ rc rm, NLc f A f ((0 : Nat) : Int) mc = some rc ∧ NLm g p g ((0 : Nat) : Int) mm = some rm ∧ (∀ x M, rc = .inr (x, M) → r = x ∧ mc' = M) ∧ (∀ x M, rc = .inl (x, M) → r = -1 ∧ ∃ v, mc' = yup M A 17 v) ∧ (∀ x N, rm = .inl (x, N) → J141_47 g p N = some mm') := by
    unfold F73 at h1
    unfold F141 at h2
    have a1 : ∃ rc, NLc f A f ((0 : Nat) : Int) mc = some rc ∧ (∀ x M, rc = .inr (x, M) → r = x ∧ mc' = M) ∧ (∀ x M, rc = .inl (x, M) → r = -1 ∧ ∃ v, mc' = yup M A 17 v) := by
      rcases bL_e h1 with ⟨l, m, e1, e2⟩ | ⟨l, m, e1, e2⟩
      · refine ⟨_, e1, fun x M e => (by cases e), fun x M e => ?_⟩
        cases e
        replace e2 := bP_e e2
        obtain ⟨v, -, e2⟩ := e2
        cases e2
        exact ⟨rfl, v, rfl⟩
      · refine ⟨_, e1, fun x M e => ?_, fun x M e => by cases e⟩
        cases e
        cases e2
        exact ⟨rfl, rfl⟩
    have a2 : ∃ rm, NLm g p g ((0 : Nat) : Int) mm = some rm ∧ (∀ x N, rm = .inl (x, N) → J141_47 g p N = some mm') := by
      rcases bL_e h2 with ⟨l, m, e1, e2⟩ | ⟨l, m, e1, e2⟩
      · refine ⟨_, e1, fun x N e => ?_⟩
        cases e
        exact e2
      · exact ⟨_, e1, fun x N e => by cases e⟩
    obtain ⟨rc, b1, b2, b3⟩ := a1
    obtain ⟨rm, b4, b5⟩ := a2
    exact ⟨rc, rm, b1, b4, b2, b3, b5⟩
  obtain ⟨rc, rm, b1, b2, b3, b4, b5⟩ := key
  obtain ⟨xm, N, c1, c2, c3⟩ := names_l hp p1 q1 q4 (by omega) (by omega) s f g 0 0 mc mm rc rm hN (by omega) fNc.rf fNm.rf hw b1 b2
  have e5 := b5 _ _ c1
  have fin : N 376 8 = -1 → mm' 376 8 = -1 ∧ fNm mm mm' := by
    intro w
    unfold J141_47 at e5
    rw [if_pos (by omega)] at e5
    have I0 : (fun (_ : Int) (m : yM) => fNm mm m ∧ m 376 8 = -1) 1 N := ⟨c2, w⟩
    rcases bL_e e5 with ⟨l, m, e1, e2⟩ | ⟨l, m, e1, e2⟩
    · obtain ⟨l', m', ⟨i1, i2⟩, i3⟩ := yloop_inv (fun _ m => fNm mm m ∧ m 376 8 = -1) (fun l m l' m' hI hB => by
        unfold B141_57 at hB
        rcases ite1 hB with ⟨-, hB⟩ | ⟨-, hB⟩
        · replace hB := bP_e hB
          obtain ⟨v, -, hB⟩ := hB
          cases hB
          exact ⟨fun b c z1 z2 z3 z4 => by rw [yup_na z2]; exact hI.1 b c z1 z2 z3 z4, by rw [yup_na (by decide)]; exact hI.2⟩
        · cases hB) _ _ _ _ I0 e1
      unfold B141_57 at i3
      rcases ite1 i3 with ⟨-, i3⟩ | ⟨-, i3⟩
      · replace i3 := bP_e i3
        obtain ⟨v, -, i3⟩ := i3
        cases i3
      cases i3
      rcases bL_e e2 with ⟨l, m, e1, e2⟩ | ⟨l, m, e1, e2⟩
      · obtain ⟨l', m', ⟨i1, i2⟩, i3⟩ := yloop_inv (fun _ m => fNm mm m ∧ m 376 8 = -1) (fun l m l' m' hI hB => by
          unfold B141_102 at hB
          rcases ite1 hB with ⟨-, hB⟩ | ⟨-, hB⟩
          · replace hB := bP_e hB
            obtain ⟨v, -, hB⟩ := hB
            cases hB
            exact ⟨fun b c z1 z2 z3 z4 => by rw [yup_na z3]; exact hI.1 b c z1 z2 z3 z4, by rw [yup_na (by decide)]; exact hI.2⟩
          · cases hB) _ _ _ _ ⟨i1, i2⟩ e1
        unfold B141_102 at i3
        rcases ite1 i3 with ⟨-, i3⟩ | ⟨-, i3⟩
        · replace i3 := bP_e i3
          obtain ⟨v, -, i3⟩ := i3
          cases i3
        cases i3
        have s188 : ∀ {l : Int} {m : yM} {y : (Int × yM) ⊕ ((Int × yM) ⊕ (Unit × yM))}, fNm mm m ∧ m 376 8 = -1 → B141_147 g p l m = some y → (∃ l' m', y = .inl (l', m') ∧ fNm mm m' ∧ m' 376 8 = -1) ∨ y = .inr (.inl (l, m)) := by
          intro l m y hI hB
          unfold B141_147 at hB
          have k : ∀ {x3 : Int}, J141_188 g p l x3 m = some y → (∃ l' m', y = .inl (l', m') ∧ fNm mm m' ∧ m' 376 8 = -1) := by
            intro x3 e
            unfold J141_188 J141_209 at e
            replace e := bP_e e
            obtain ⟨v, -, e⟩ := e
            cases e
            exact ⟨_, _, rfl, fun b c z1 z2 z3 z4 => by rw [yup_na z4]; exact hI.1 b c z1 z2 z3 z4, by rw [yup_na (by decide)]; exact hI.2⟩
          rcases ite1 hB with ⟨-, hB⟩ | ⟨-, hB⟩
          · rcases ite1 hB with ⟨-, hB⟩ | ⟨-, hB⟩
            · exact Or.inl (k hB)
            · rcases ite1 hB with ⟨-, hB⟩ | ⟨-, hB⟩
              · exact Or.inl (k hB)
              · unfold J141_209 at hB
                cases hB
                exact Or.inl ⟨_, _, rfl, hI⟩
          · cases hB
            exact Or.inr rfl
        rcases bL_e e2 with ⟨l, m, e1, e2⟩ | ⟨l, m, e1, e2⟩
        · obtain ⟨l', m', hI, i3⟩ := yloop_inv (fun _ m => fNm mm m ∧ m 376 8 = -1) (fun l m l' m' hI hB => by
            rcases s188 hI hB with ⟨l2, m2, e, e'⟩ | e
            · cases e; exact e'
            · cases e) _ _ _ _ ⟨i1, i2⟩ e1
          rcases s188 hI i3 with ⟨l2, m2, e, e'⟩ | e
          · cases e
          · cases e
            cases e2
            exact ⟨hI.2, hI.1⟩
        · obtain ⟨l', m', hI, i3⟩ := yloop_inv (fun _ m => fNm mm m ∧ m 376 8 = -1) (fun l m l' m' hI hB => by
            rcases s188 hI hB with ⟨l2, m2, e, e'⟩ | e
            · cases e; exact e'
            · cases e) _ _ _ _ ⟨i1, i2⟩ e1
          rcases s188 hI i3 with ⟨l2, m2, e, e'⟩ | e
          · cases e
          · cases e
      · exact absurd e1 (fun e => by
          obtain ⟨l', m', -, i3⟩ := yloop_inv (fun _ _ => True) (fun _ _ _ _ _ _ => trivial) _ _ _ _ trivial e
          unfold B141_102 at i3
          rcases ite1 i3 with ⟨-, i3⟩ | ⟨-, i3⟩
          · replace i3 := bP_e i3
            obtain ⟨v, -, i3⟩ := i3
            cases i3
          · cases i3)
    · exact absurd e1 (fun e => by
        obtain ⟨l', m', -, i3⟩ := yloop_inv (fun _ _ => True) (fun _ _ _ _ _ _ => trivial) _ _ _ _ trivial e
        unfold B141_57 at i3
        rcases ite1 i3 with ⟨-, i3⟩ | ⟨-, i3⟩
        · replace i3 := bP_e i3
          obtain ⟨v, -, i3⟩ := i3
          cases i3
        · cases i3)
  rcases c3 with ⟨r', M, d1, d2, d3, d4⟩ | ⟨x, M, d1, d2, d3⟩
  · obtain ⟨rfl, rfl⟩ := b3 _ _ d1
    unfold J141_47 at e5
    rw [if_neg (by omega)] at e5
    cases e5
    exact ⟨d2, c2, Or.inl ⟨d4, d3⟩⟩
  · obtain ⟨rfl, v, rfl⟩ := b4 _ _ d1
    obtain ⟨f1, f2⟩ := fin d3
    exact ⟨fun b c z1 z2 z3 => by rw [yup_ne z3]; exact d2 b c z1 z2 z3, f2, Or.inr ⟨rfl, f1⟩⟩
end NM
end
section
/-! THE TEXT: append and cut change both texts alike -/
def TXT (m : yM) : Prop := m 0 6 = m 376 1 ∧ 0 ≤ m 0 6 ∧ m 0 6 ≤ 320 ∧ ∀ t : Int, 0 ≤ t → t < m 0 6 → m 1 t.toNat = m 377 t.toNat ∧ 32 ≤ m 1 t.toNat ∧ m 1 t.toNat ≤ 126
def AOK (v : Int64) (n : Int) : Prop := 1 ≤ n ∧ n ≤ 8 ∧ ∀ k : Int, 0 ≤ k → k < n → 32 ≤ bC v k ∧ bC v k ≤ 126
/-- what append and cut may change -/
def fTx (m m' : yM) : Prop := ∀ a q, a ≠ 1 → ¬ (a = 0 ∧ q = 6) → a ≠ 413 → a ≠ 377 → ¬ (a = 376 ∧ (q = 1 ∨ q = 57)) → m' a q = m a q
section AP
variable {m m1 m2 : yM} {v : Int64} {n : Int}
theorem F18_b {k : Int} (h : 0 ≤ k ∧ k ≤ 7) : F18 v k = bC v k := by
  unfold F18
  rw [wr_i (by omega) (by omega)]
  rfl
theorem lsh_b {k : Int} (h : 0 ≤ k ∧ k ≤ 7) : iAnd (l2i (lShr v (wr (8 * k)))) 255 = bC v k := by
  rw [wr_i (by omega) (by omega)]
  exact rB_eq h
theorem nar_b {x : Int} (h : 0 ≤ x ∧ x ≤ 255) : nar 3 (i2c x) = x := by
  have : ∀ a : Fin 256, nar 3 (i2c ((a : Nat) : Int)) = ((a : Nat) : Int) := by decide +kernel
  have h2 := this ⟨x.toNat, by omega⟩
  have e : ((x.toNat : Nat) : Int) = x := by omega
  simp only [e] at h2
  exact h2
theorem F19_r {f : Nat} {r : Int} (hn : 1 ≤ n ∧ n ≤ 8) (h : F19 f v n m = some r) : (r ≠ 0 ∧ AOK v n) ∨ (r = 0 ∧ ¬ AOK v n) := by
  unfold F19 at h
  have inv : ∀ l l' : Int, (0 ≤ l ∧ l ≤ n ∧ ∀ k : Int, 0 ≤ k → k < l → 32 ≤ bC v k ∧ bC v k ≤ 126) → B19_2 f v n l m = some (.inl l') → (0 ≤ l' ∧ l' ≤ n ∧ ∀ k : Int, 0 ≤ k → k < l' → 32 ≤ bC v k ∧ bC v k ≤ 126) := by
    intro l l' ⟨h1, h2, h3⟩ e
    unfold B19_2 at e
    rcases ite1 e with ⟨q, e⟩ | ⟨q, e⟩
    · rw [F18_b (by omega)] at e
      rcases ite1 e with ⟨q1, e⟩ | ⟨q1, e⟩
      · cases e
      rcases ite1 e with ⟨q2, e⟩ | ⟨q2, e⟩
      · cases e
      rw [wr_i (by omega) (by omega)] at e
      cases e
      refine ⟨by omega, by omega, fun k k1 k2 => ?_⟩
      by_cases z : k = l
      · subst z; omega
      · exact h3 k k1 (by omega)
    · cases e
  rcases bQ_e h with ⟨l, e1, e2⟩ | ⟨r', e1, e2⟩
  · cases e2
    obtain ⟨l', ⟨i1, i2, i3⟩, e⟩ := ploop_inv _ inv _ _ _ ⟨by omega, by omega, fun k k1 k2 => by omega⟩ e1
    unfold B19_2 at e
    rcases ite1 e with ⟨q, e⟩ | ⟨q, e⟩
    · rcases ite1 e with ⟨q1, e⟩ | ⟨q1, e⟩
      · cases e
      rcases ite1 e with ⟨q2, e⟩ | ⟨q2, e⟩ <;> cases e
    · exact Or.inl ⟨by decide, hn.1, hn.2, fun k k1 k2 => i3 k k1 (by omega)⟩
  · cases e2
    obtain ⟨l', ⟨i1, i2, i3⟩, e⟩ := ploop_inv _ inv _ _ _ ⟨by omega, by omega, fun k k1 k2 => by omega⟩ e1
    unfold B19_2 at e
    rcases ite1 e with ⟨q, e⟩ | ⟨q, e⟩
    · rw [F18_b (by omega)] at e
      rcases ite1 e with ⟨q1, e⟩ | ⟨q1, e⟩
      · cases e
        refine Or.inr ⟨rfl, fun ⟨z1, z2, z3⟩ => ?_⟩
        have := z3 l' i1 q
        omega
      rcases ite1 e with ⟨q2, e⟩ | ⟨q2, e⟩
      · cases e
        refine Or.inr ⟨rfl, fun ⟨z1, z2, z3⟩ => ?_⟩
        have := z3 l' i1 q
        omega
      · cases e
    · cases e
/-- the class -/
theorem app_c {f : Nat} {r : Int} (h0 : 0 ≤ m 0 6 ∧ m 0 6 ≤ 320) (h : F21 f v n m = some (r, m1)) : (¬ (AOK v n ∧ m 0 6 + n ≤ 320) ∧ m1 = m) ∨ ((AOK v n ∧ m 0 6 + n ≤ 320) ∧ m1 0 6 = m 0 6 + n ∧ (∀ t : Int, 1 ≤ t → t ≤ n → m1 1 (m 0 6 + t - 1).toNat = bC v (n - t)) ∧ (∀ a q : Nat, a ≠ 413 → ¬ (a = 0 ∧ q = 6) → ¬ (a = 1 ∧ m 0 6 ≤ (q : Int)) → m1 a q = m a q)) := by
  unfold F21 at h
  have J : ∀ {z}, J20_19 f m = some z → z = (.inr 9, m) := by
    intro z e
    unfold J20_19 at e
    cases e
    rfl
  have thr : ∀ {e' : Nat} {m' : yM}, (e' = 9 ∨ e' = 10) → (if e' = 9 then (some ((1 : Int), m')) else (if e' = 10 then (some (2, m')) else none)) = some (r, m1) → m1 = m' := by
    intro e' m' hh e
    rcases hh with rfl | rfl
    · rw [if_pos rfl] at e; cases e; rfl
    · rw [if_neg (by decide), if_pos rfl] at e; cases e; rfl
  have main : ∀ z, F20 f v n m = some z → (¬ (AOK v n ∧ m 0 6 + n ≤ 320) ∧ (z = (.inr 9, m) ∨ z = (.inr 10, m))) ∨ ((AOK v n ∧ m 0 6 + n ≤ 320) ∧ ∃ r m', z = (.inl r, m') ∧ m' 0 6 = m 0 6 + n ∧ (∀ t : Int, 1 ≤ t → t ≤ n → m' 1 (m 0 6 + t - 1).toNat = bC v (n - t)) ∧ (∀ a q : Nat, ¬ (a = 0 ∧ q = 6) → ¬ (a = 1 ∧ m 0 6 ≤ (q : Int)) → m' a q = m a q)) := by
    intro z e
    unfold F20 at e
    rcases ite1 e with ⟨q1, e⟩ | ⟨q1, e⟩
    · exact Or.inl ⟨fun ⟨⟨z1, _⟩, _⟩ => (by omega), Or.inl (J e)⟩
    rcases ite1 e with ⟨q2, e⟩ | ⟨q2, e⟩
    · exact Or.inl ⟨fun ⟨⟨_, z1, _⟩, _⟩ => (by omega), Or.inl (J e)⟩
    replace e := bP_e e
    obtain ⟨r19, e19, e⟩ := e
    rcases F19_r (by omega) e19 with ⟨z1, hA⟩ | ⟨z1, hA⟩
    case inr =>
      rw [if_pos z1] at e
      exact Or.inl ⟨fun w => hA w.1, Or.inl (J e)⟩
    rw [if_neg z1, wr_i (by omega) (by omega)] at e
    rcases ite1 e with ⟨q3, e⟩ | ⟨q3, e⟩
    · cases e
      exact Or.inl ⟨fun w => (by omega), Or.inr rfl⟩
    refine Or.inr ⟨⟨hA, by omega⟩, ?_⟩
    have inv : ∀ (l : Int) (mi : yM) (l' : Int) (mi' : yM), (1 ≤ l ∧ l ≤ n + 1 ∧ mi 0 6 = m 0 6 + (l - 1) ∧ (∀ t : Int, 1 ≤ t → t < l → mi 1 (m 0 6 + t - 1).toNat = bC v (n - t)) ∧ (∀ a q : Nat, ¬ (a = 0 ∧ q = 6) → ¬ (a = 1 ∧ m 0 6 ≤ (q : Int)) → mi a q = m a q)) → B20_50 f v n l mi = some (.inl (l', mi')) → (1 ≤ l' ∧ l' ≤ n + 1 ∧ mi' 0 6 = m 0 6 + (l' - 1) ∧ (∀ t : Int, 1 ≤ t → t < l' → mi' 1 (m 0 6 + t - 1).toNat = bC v (n - t)) ∧ (∀ a q : Nat, ¬ (a = 0 ∧ q = 6) → ¬ (a = 1 ∧ m 0 6 ≤ (q : Int)) → mi' a q = m a q)) := by
      intro l mi l' mi' ⟨i1, i2, i3, i4, i5⟩ e
      unfold B20_50 at e
      rcases ite1 e with ⟨q, e⟩ | ⟨q, e⟩
      · cases e
      have hb := bC_rng v (n - l)
      rw [wr_i (x := n - l) (by omega) (by omega), F18_b (by omega), nar_b hb, i3, wr_i (x := l + 1) (by omega) (by omega), wr_i (by omega) (by omega)] at e
      cases e
      refine ⟨by omega, by omega, by rw [yup_eq]; omega, fun t t1 t2 => ?_, fun a q z1 z2 => ?_⟩
      · rw [yup_na (by decide)]
        by_cases z : t = l
        · subst z
          rw [show m 0 6 + t - 1 = m 0 6 + (t - 1) by omega, yup_eq]
        · rw [yup_nk (by omega)]
          exact i4 t t1 (by omega)
      · rw [yup_ne z1, yup_ne (by omega)]
        exact i5 a q z1 z2
    have fin : ∀ (l : Int) (mi : yM) {y}, B20_50 f v n l mi = some (.inr y) → n < l ∧ y = .inl (l, mi) := by
      intro l mi y e
      unfold B20_50 at e
      rcases ite1 e with ⟨q, e⟩ | ⟨q, e⟩
      · cases e
        exact ⟨q, rfl⟩
      · cases e
    have I0 : (1 ≤ (1 : Int) ∧ (1 : Int) ≤ n + 1 ∧ m 0 6 = m 0 6 + ((1 : Int) - 1) ∧ (∀ t : Int, 1 ≤ t → t < 1 → m 1 (m 0 6 + t - 1).toNat = bC v (n - t)) ∧ (∀ a q : Nat, ¬ (a = 0 ∧ q = 6) → ¬ (a = 1 ∧ m 0 6 ≤ (q : Int)) → m a q = m a q)) := ⟨by omega, by omega, by omega, fun t t1 t2 => by omega, fun _ _ _ _ => rfl⟩
    rcases bL_e e with ⟨l, mi, e1, e2⟩ | ⟨l, mi, e1, e2⟩
    · obtain ⟨l', mi', ⟨i1, i2, i3, i4, i5⟩, e3⟩ := yloop_inv (fun (l : Int) (mi : yM) => 1 ≤ l ∧ l ≤ n + 1 ∧ mi 0 6 = m 0 6 + (l - 1) ∧ (∀ t : Int, 1 ≤ t → t < l → mi 1 (m 0 6 + t - 1).toNat = bC v (n - t)) ∧ (∀ a q : Nat, ¬ (a = 0 ∧ q = 6) → ¬ (a = 1 ∧ m 0 6 ≤ (q : Int)) → mi a q = m a q)) inv _ _ _ _ I0 e1
      obtain ⟨q, e4⟩ := fin _ _ e3
      cases e4
      cases e2
      exact ⟨_, _, rfl, by omega, fun t t1 t2 => i4 t t1 (by omega), i5⟩
    · obtain ⟨l', mi', -, e3⟩ := yloop_inv (fun (l : Int) (mi : yM) => 1 ≤ l ∧ l ≤ n + 1 ∧ mi 0 6 = m 0 6 + (l - 1) ∧ (∀ t : Int, 1 ≤ t → t < l → mi 1 (m 0 6 + t - 1).toNat = bC v (n - t)) ∧ (∀ a q : Nat, ¬ (a = 0 ∧ q = 6) → ¬ (a = 1 ∧ m 0 6 ≤ (q : Int)) → mi a q = m a q)) inv _ _ _ _ I0 e1
      obtain ⟨q, e4⟩ := fin _ _ e3
      cases e4
  rcases bT_e h with ⟨r2, m', e1, e2⟩ | ⟨e', m', e1, e2⟩
  · rcases main _ e1 with ⟨-, z | z⟩ | ⟨hA, r3, m3, z, z1, z2, z3⟩
    · cases z
    · cases z
    · cases z
      cases e2
      refine Or.inr ⟨hA, ?_, fun t t1 t2 => ?_, fun a q a1 a2 a3 => ?_⟩
      · rw [yup_na (by decide)]; exact z1
      · rw [yup_na (by decide)]; exact z2 t t1 t2
      · rw [yup_na a1]; exact z3 a q a2 a3
  · rcases main _ e1 with ⟨hA, z | z⟩ | ⟨-, r3, m3, z, -⟩
    · cases z
      exact Or.inl ⟨hA, thr (Or.inl rfl) e2⟩
    · cases z
      exact Or.inl ⟨hA, thr (Or.inr rfl) e2⟩
    · cases z
theorem F22_0 {x a b : Int} : F22 x a b = 0 ↔ ¬ (a ≤ x ∧ x ≤ b) := by
  unfold F22
  split
  · simp; omega
  · split
    · simp; omega
    · simp; omega
theorem F23_r {f : Nat} {x y r : Int} (h : F23 f x y m = some (r, m1)) : r = x ∧ ∃ c, m1 = yup m 376 57 c := by
  unfold F23 J23_10 at h
  rcases ite1 h with ⟨-, h⟩ | ⟨-, h⟩
  · cases h; exact ⟨rfl, _, rfl⟩
  · cases h; exact ⟨rfl, _, rfl⟩
/-- the model -/
theorem app_m {f : Nat} {r : Int} (h0 : 0 ≤ m 376 1 ∧ m 376 1 ≤ 320) (h : F25 f v n m = some (r, m1)) : (¬ (AOK v n ∧ m 376 1 + n ≤ 320) ∧ (∀ a q : Nat, ¬ (a = 376 ∧ q = 57) → m1 a q = m a q)) ∨ ((AOK v n ∧ m 376 1 + n ≤ 320) ∧ m1 376 1 = m 376 1 + n ∧ (∀ t : Int, 1 ≤ t → t ≤ n → m1 377 (m 376 1 + t - 1).toNat = bC v (n - t)) ∧ (∀ a q : Nat, ¬ (a = 376 ∧ (q = 1 ∨ q = 57)) → ¬ (a = 377 ∧ m 376 1 ≤ (q : Int)) → m1 a q = m a q)) := by
  unfold F25 at h
  replace h := bI_e h
  obtain ⟨r1, n1, e1, h⟩ := h
  obtain ⟨rfl, c1, rfl⟩ := F23_r e1
  have fr1 : ∀ a q : Nat, ¬ (a = 376 ∧ q = 57) → yup m 376 57 c1 a q = m a q := fun a q ha => yup_ne ha
  generalize yup m 376 57 c1 = n1 at *
  clear e1
  rcases ite1 h with ⟨q1, h⟩ | ⟨q1, h⟩
  · cases h
    rw [F22_0] at q1
    exact Or.inl ⟨fun ⟨⟨z1, z2, _⟩, _⟩ => q1 ⟨z1, z2⟩, fr1⟩
  rw [F22_0] at q1
  have hn : 1 ≤ n ∧ n ≤ 8 := by omega
  have B1 : ∀ (l : Int) (mi : yM) y, 0 ≤ l → B25_20 f v n l mi = some y → (l < n ∧ ¬ (32 ≤ bC v l ∧ bC v l ≤ 126) ∧ y = .inr (.inr (0, yup mi 376 57 1))) ∨ (l < n ∧ (32 ≤ bC v l ∧ bC v l ≤ 126) ∧ y = .inl (l + 1, mi)) ∨ (n ≤ l ∧ y = .inr (.inl (l, mi))) := by
    intro l mi y hl e
    unfold B25_20 at e
    rcases ite1 e with ⟨q, e⟩ | ⟨q, e⟩
    · rw [lsh_b (by omega)] at e
      rcases ite1 e with ⟨z, e⟩ | ⟨z, e⟩
      · rw [F22_0] at z
        unfold F24 at e
        replace e := bI_e e
        obtain ⟨r2, n2, e2, e⟩ := e
        cases e2
        cases e
        exact Or.inl ⟨q, z, rfl⟩
      · rw [F22_0] at z
        rw [wr_i (by omega) (by omega)] at e
        cases e
        exact Or.inr (Or.inl ⟨q, by omega, rfl⟩)
    · cases e
      exact Or.inr (Or.inr ⟨by omega, rfl⟩)
  have inv1 : ∀ (l : Int) (mi : yM) (l' : Int) (mi' : yM), (0 ≤ l ∧ l ≤ n ∧ mi = n1 ∧ ∀ k : Int, 0 ≤ k → k < l → 32 ≤ bC v k ∧ bC v k ≤ 126) → B25_20 f v n l mi = some (.inl (l', mi')) → (0 ≤ l' ∧ l' ≤ n ∧ mi' = n1 ∧ ∀ k : Int, 0 ≤ k → k < l' → 32 ≤ bC v k ∧ bC v k ≤ 126) := by
    intro l mi l' mi' ⟨i1, i2, i3, i4⟩ e
    rcases B1 _ _ _ i1 e with ⟨-, -, z⟩ | ⟨z1, z2, z⟩ | ⟨-, z⟩
    · cases z
    · cases z
      refine ⟨by omega, by omega, i3, fun k k1 k2 => ?_⟩
      by_cases w : k = l
      · subst w; exact z2
      · exact i4 k k1 (by omega)
    · cases z
  have I0 : (0 ≤ (0 : Int) ∧ (0 : Int) ≤ n ∧ n1 = n1 ∧ ∀ k : Int, 0 ≤ k → k < 0 → 32 ≤ bC v k ∧ bC v k ≤ 126) := ⟨by omega, by omega, rfl, fun k k1 k2 => by omega⟩
  rcases bL_e h with ⟨l, mi, e1, e2⟩ | ⟨l, mi, e1, e2⟩
  case inr =>
    obtain ⟨l', mi', ⟨i1, i2, i3, i4⟩, e3⟩ := yloop_inv (fun (l : Int) (mi : yM) => 0 ≤ l ∧ l ≤ n ∧ mi = n1 ∧ ∀ k : Int, 0 ≤ k → k < l → 32 ≤ bC v k ∧ bC v k ≤ 126) inv1 _ _ _ _ I0 e1
    rcases B1 _ _ _ i1 e3 with ⟨z1, z2, z⟩ | ⟨-, -, z⟩ | ⟨-, z⟩
    · cases z
      cases e2
      subst i3
      exact Or.inl ⟨fun ⟨⟨_, _, z3⟩, _⟩ => z2 (z3 l' i1 z1), fun a q ha => by rw [yup_ne ha]; exact fr1 a q ha⟩
    · cases z
    · cases z
  obtain ⟨l', mi', ⟨i1, i2, i3, i4⟩, e3⟩ := yloop_inv (fun (l : Int) (mi : yM) => 0 ≤ l ∧ l ≤ n ∧ mi = n1 ∧ ∀ k : Int, 0 ≤ k → k < l → 32 ≤ bC v k ∧ bC v k ≤ 126) inv1 _ _ _ _ I0 e1
  rcases B1 _ _ _ i1 e3 with ⟨-, -, z⟩ | ⟨-, -, z⟩ | ⟨z1, z⟩
  · cases z
  · cases z
  cases z
  subst i3
  have hA : AOK v n := ⟨hn.1, hn.2, fun k k1 k2 => i4 k k1 (by omega)⟩
  have k1 : mi 376 1 = m 376 1 := fr1 _ _ (by omega)
  rw [k1, wr_i (by omega) (by omega)] at e2
  have J : ∀ {x : Int}, (x = 0 ∨ x = 1) → J25_78 f v n x mi = some (r, m1) → (x = 0 ∧ (∀ a q : Nat, ¬ (a = 376 ∧ q = 57) → m1 a q = m a q)) ∨ (x = 1 ∧ m1 376 1 = m 376 1 + n ∧ (∀ t : Int, 1 ≤ t → t ≤ n → m1 377 (m 376 1 + t - 1).toNat = bC v (n - t)) ∧ (∀ a q : Nat, ¬ (a = 376 ∧ (q = 1 ∨ q = 57)) → ¬ (a = 377 ∧ m 376 1 ≤ (q : Int)) → m1 a q = m a q)) := by
    intro x hx e
    unfold J25_78 at e
    replace e := bI_e e
    obtain ⟨r2, n2, e4, e⟩ := e
    obtain ⟨rfl, c2, rfl⟩ := F23_r e4
    rcases hx with rfl | rfl
    · rw [if_pos rfl] at e
      cases e
      exact Or.inl ⟨rfl, fun a q ha => by rw [yup_ne ha]; exact fr1 a q ha⟩
    rw [if_neg (by decide), wr_i (by omega) (by omega)] at e
    refine Or.inr ⟨rfl, ?_⟩
    have B2 : ∀ (l : Int) (mi : yM) y, l ≤ 7 → -1 ≤ l → (0 ≤ mi 376 1 ∧ mi 376 1 ≤ 400) → B25_92 f v l mi = some y → (l < 0 ∧ y = .inr (.inl (l, mi))) ∨ (0 ≤ l ∧ y = .inl (l - 1, yup (yup mi 377 (mi 376 1).toNat (bC v l)) 376 1 (mi 376 1 + 1))) := by
      intro l mi y h7 hl1 h1 e
      unfold B25_92 at e
      rcases ite1 e with ⟨q, e⟩ | ⟨q, e⟩
      · cases e
        exact Or.inl ⟨q, rfl⟩
      · rw [lsh_b (by omega), wr_i (x := l + -1) (by omega) (by omega), wr_i (by omega) (by omega)] at e
        cases e
        exact Or.inr ⟨by omega, rfl⟩
    have inv2 : ∀ (l : Int) (mi2 : yM) (l' : Int) (mi' : yM), (-1 ≤ l ∧ l ≤ n - 1 ∧ mi2 376 1 = m 376 1 + (n - 1 - l) ∧ (∀ t : Int, 1 ≤ t → t ≤ n - 1 - l → mi2 377 (m 376 1 + t - 1).toNat = bC v (n - t)) ∧ (∀ a q : Nat, ¬ (a = 376 ∧ (q = 1 ∨ q = 57)) → ¬ (a = 377 ∧ m 376 1 ≤ (q : Int)) → mi2 a q = m a q)) → B25_92 f v l mi2 = some (.inl (l', mi')) → (-1 ≤ l' ∧ l' ≤ n - 1 ∧ mi' 376 1 = m 376 1 + (n - 1 - l') ∧ (∀ t : Int, 1 ≤ t → t ≤ n - 1 - l' → mi' 377 (m 376 1 + t - 1).toNat = bC v (n - t)) ∧ (∀ a q : Nat, ¬ (a = 376 ∧ (q = 1 ∨ q = 57)) → ¬ (a = 377 ∧ m 376 1 ≤ (q : Int)) → mi' a q = m a q)) := by
      intro l mi2 l' mi' ⟨i1, i2, i3, i4, i5⟩ e
      rcases B2 _ _ _ (by omega) i1 (by omega) e with ⟨-, z⟩ | ⟨z1, z⟩
      · cases z
      cases z
      refine ⟨by omega, by omega, by rw [yup_eq]; omega, fun t t1 t2 => ?_, fun a q w1 w2 => ?_⟩
      · rw [yup_na (by decide), i3]
        by_cases z : t = n - l
        · subst z
          rw [show m 376 1 + (n - l) - 1 = m 376 1 + (n - 1 - l) by omega, yup_eq]
          congr 1
          omega
        · rw [yup_nk (by omega)]
          exact i4 t t1 (by omega)
      · rw [yup_ne (by omega), yup_ne (by omega)]
        exact i5 a q w1 w2
    have I2 : (-1 ≤ n - 1 ∧ n - 1 ≤ n - 1 ∧ (yup mi 376 57 c2) 376 1 = m 376 1 + (n - 1 - (n - 1)) ∧ (∀ t : Int, 1 ≤ t → t ≤ n - 1 - (n - 1) → (yup mi 376 57 c2) 377 (m 376 1 + t - 1).toNat = bC v (n - t)) ∧ (∀ a q : Nat, ¬ (a = 376 ∧ (q = 1 ∨ q = 57)) → ¬ (a = 377 ∧ m 376 1 ≤ (q : Int)) → (yup mi 376 57 c2) a q = m a q)) := ⟨by omega, by omega, by rw [yup_nk (by decide)]; omega, fun t t1 t2 => by omega, fun a q w1 w2 => by rw [yup_ne (by omega)]; exact fr1 a q (by omega)⟩
    rcases bL_e e with ⟨l2, mi2, e5, e6⟩ | ⟨l2, mi2, e5, e6⟩
    · obtain ⟨l3, mi3, ⟨i1, i2, i3, i4, i5⟩, e7⟩ := yloop_inv (fun (l : Int) (mi2 : yM) => -1 ≤ l ∧ l ≤ n - 1 ∧ mi2 376 1 = m 376 1 + (n - 1 - l) ∧ (∀ t : Int, 1 ≤ t → t ≤ n - 1 - l → mi2 377 (m 376 1 + t - 1).toNat = bC v (n - t)) ∧ (∀ a q : Nat, ¬ (a = 376 ∧ (q = 1 ∨ q = 57)) → ¬ (a = 377 ∧ m 376 1 ≤ (q : Int)) → mi2 a q = m a q)) inv2 _ _ _ _ I2 e5
      rcases B2 _ _ _ (by omega) i1 (by omega) e7 with ⟨z1, z⟩ | ⟨-, z⟩
      · cases z
        cases e6
        exact ⟨by omega, fun t t1 t2 => i4 t t1 (by omega), i5⟩
      · cases z
    · obtain ⟨l3, mi3, ⟨i1, i2, i3, i4, i5⟩, e7⟩ := yloop_inv (fun (l : Int) (mi2 : yM) => -1 ≤ l ∧ l ≤ n - 1 ∧ mi2 376 1 = m 376 1 + (n - 1 - l) ∧ (∀ t : Int, 1 ≤ t → t ≤ n - 1 - l → mi2 377 (m 376 1 + t - 1).toNat = bC v (n - t)) ∧ (∀ a q : Nat, ¬ (a = 376 ∧ (q = 1 ∨ q = 57)) → ¬ (a = 377 ∧ m 376 1 ≤ (q : Int)) → mi2 a q = m a q)) inv2 _ _ _ _ I2 e5
      rcases B2 _ _ _ (by omega) i1 (by omega) e7 with ⟨z1, z⟩ | ⟨-, z⟩ <;> cases z
  rcases ite1 e2 with ⟨q, e2⟩ | ⟨q, e2⟩
  · rcases J (Or.inl rfl) e2 with ⟨-, z⟩ | ⟨z, -⟩
    · exact Or.inl ⟨fun w => (by omega), z⟩
    · omega
  · rcases J (Or.inr rfl) e2 with ⟨z, -⟩ | ⟨-, z⟩
    · omega
    · exact Or.inr ⟨⟨hA, by omega⟩, z⟩
theorem append_r {f g : Nat} {r b : Int} (h : TXT m) (h1 : F21 f v n m = some (r, m1)) (h2 : F25 g v n m1 = some (b, m2)) : TXT m2 ∧ fTx m m2 := by
  obtain ⟨t1, t2, t3, t4⟩ := h
  rcases app_c ⟨t2, t3⟩ h1 with ⟨a1, rfl⟩ | ⟨⟨a1, a1'⟩, a2, a3, a4⟩
  · rcases app_m (by omega) h2 with ⟨b1, b2⟩ | ⟨⟨b1, b1'⟩, -⟩
    · refine ⟨⟨?_, ?_, ?_, fun t z1 z2 => ?_⟩, fun a q y1 y2 y3 y4 y5 => b2 a q (by omega)⟩
      · rw [b2 0 6 (by omega), b2 376 1 (by omega)]; exact t1
      · rw [b2 0 6 (by omega)]; exact t2
      · rw [b2 0 6 (by omega)]; exact t3
      · rw [b2 0 6 (by omega)] at z2
        rw [b2 1 _ (by omega), b2 377 _ (by omega)]
        exact t4 t z1 z2
    · exact absurd ⟨b1, by omega⟩ a1
  · have e1 : m1 376 1 = m 376 1 := a4 376 1 (by omega) (by omega) (by omega)
    rcases app_m (by omega) h2 with ⟨b1, -⟩ | ⟨-, b2, b3, b4⟩
    · exact absurd ⟨a1, by omega⟩ b1
    · rw [e1] at b2 b3 b4
      have n8 := a1.2.1
      have n1 := a1.1
      refine ⟨⟨?_, ?_, ?_, fun t z1 z2 => ?_⟩, fun a q y1 y2 y3 y4 y5 => ?_⟩
      · rw [b4 0 6 (by omega) (by omega)]; omega
      · rw [b4 0 6 (by omega) (by omega)]; omega
      · rw [b4 0 6 (by omega) (by omega)]; omega
      · rw [b4 0 6 (by omega) (by omega), a2] at z2
        by_cases w : t < m 0 6
        · rw [b4 1 _ (by omega) (by omega), b4 377 _ (by omega) (by omega), a4 1 _ (by omega) (by omega) (by omega), a4 377 _ (by omega) (by omega) (by omega)]
          exact t4 t z1 w
        · have c1 := a3 (t - m 0 6 + 1) (by omega) (by omega)
          have c2 := b3 (t - m 0 6 + 1) (by omega) (by omega)
          rw [show m 0 6 + (t - m 0 6 + 1) - 1 = t by omega] at c1
          rw [← t1, show m 0 6 + (t - m 0 6 + 1) - 1 = t by omega] at c2
          have c3 := a1.2.2 (n - (t - m 0 6 + 1)) (by omega) (by omega)
          rw [b4 1 _ (by omega) (by omega), c1, c2]
          exact ⟨rfl, c3⟩
      · rw [b4 a q (by omega) (by omega), a4 a q (by omega) (by omega) (by omega)]
theorem cut_r {f g : Nat} {x r b : Int} (h : TXT m) (h1 : F28 f x m = some (r, m1)) (h2 : F29 g x m1 = some (b, m2)) : TXT m2 ∧ fTx m m2 := by
  obtain ⟨t1, t2, t3, t4⟩ := h
  have c : (¬ (0 ≤ x ∧ x ≤ m 0 6) ∧ m1 = m) ∨ ((0 ≤ x ∧ x ≤ m 0 6) ∧ ∃ w, m1 = yup (yup m 0 6 (m 0 6 - x)) 413 0 w) := by
    unfold F28 F27 J27_12 at h1
    rcases bT_e h1 with ⟨r2, m', e1, e2⟩ | ⟨e', m', e1, e2⟩
    · rcases ite1 e1 with ⟨q, e1⟩ | ⟨q, e1⟩
      · cases e1
      rcases ite1 e1 with ⟨q2, e1⟩ | ⟨q2, e1⟩
      · cases e1
      rw [wr_i (by omega) (by omega)] at e1
      cases e1
      cases e2
      exact Or.inr ⟨by omega, _, rfl⟩
    · rcases ite1 e1 with ⟨q, e1⟩ | ⟨q, e1⟩
      · cases e1
        rw [if_pos rfl] at e2
        cases e2
        exact Or.inl ⟨by omega, rfl⟩
      rcases ite1 e1 with ⟨q2, e1⟩ | ⟨q2, e1⟩
      · cases e1
        rw [if_pos rfl] at e2
        cases e2
        exact Or.inl ⟨by omega, rfl⟩
      · cases e1
  have d : (¬ (0 ≤ x ∧ x ≤ m1 376 1) ∧ ∃ c, m2 = yup m1 376 57 c) ∨ ((0 ≤ x ∧ x ≤ m1 376 1) ∧ ∃ c, m2 = yup (yup m1 376 57 c) 376 1 (wr (m1 376 1 - x))) := by
    unfold F29 at h2
    replace h2 := bI_e h2
    obtain ⟨r2, n1, e1, h2⟩ := h2
    obtain ⟨rfl, c, rfl⟩ := F23_r e1
    rcases ite1 h2 with ⟨q, h2⟩ | ⟨q, h2⟩
    · cases h2
      rw [F22_0] at q
      exact Or.inl ⟨q, _, rfl⟩
    · rw [F22_0] at q
      cases h2
      refine Or.inr ⟨by omega, c, ?_⟩
      rw [yup_nk (by decide)]
  rcases c with ⟨c1, rfl⟩ | ⟨c1, w, rfl⟩
  · rcases d with ⟨d1, c, rfl⟩ | ⟨d1, -⟩
    · refine ⟨⟨?_, ?_, ?_, fun t z1 z2 => ?_⟩, fun a q y1 y2 y3 y4 y5 => yup_ne (by omega)⟩
      · rw [yup_na (by decide), yup_nk (by decide)]; exact t1
      · rw [yup_na (by decide)]; exact t2
      · rw [yup_na (by decide)]; exact t3
      · rw [yup_na (by decide)] at z2
        rw [yup_na (by decide), yup_na (by decide)]
        exact t4 t z1 z2
    · omega
  · have e1 : yup (yup m 0 6 (m 0 6 - x)) 413 0 w 376 1 = m 376 1 := by rw [yup_na (by decide), yup_na (by decide)]
    rw [e1] at d
    rcases d with ⟨d1, -⟩ | ⟨d1, c, rfl⟩
    · omega
    · rw [wr_i (by omega) (by omega)]
      have k : ∀ a q, a ≠ 413 → ¬ (a = 0 ∧ q = 6) → ¬ (a = 376 ∧ (q = 1 ∨ q = 57)) → yup (yup (yup (yup m 0 6 (m 0 6 - x)) 413 0 w) 376 57 c) 376 1 (m 376 1 - x) a q = m a q := fun a q y1 y2 y3 => by
        rw [yup_ne (by omega), yup_ne (by omega), yup_na y1, yup_ne y2]
      have k6 : yup (yup (yup (yup m 0 6 (m 0 6 - x)) 413 0 w) 376 57 c) 376 1 (m 376 1 - x) 0 6 = m 0 6 - x := by rw [yup_na (by decide), yup_na (by decide), yup_na (by decide), yup_eq]
      refine ⟨⟨?_, ?_, ?_, fun t z1 z2 => ?_⟩, fun a q y1 y2 y3 y4 y5 => k a q y3 y2 y5⟩
      · rw [k6, yup_eq]; omega
      · rw [k6]; omega
      · rw [k6]; omega
      · rw [k6] at z2
        rw [k 1 _ (by omega) (by omega) (by omega), k 377 _ (by omega) (by omega) (by omega)]
        exact t4 t z1 (by omega)
end AP
end

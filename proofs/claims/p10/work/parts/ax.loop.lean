/-! BODIES, WHOLE -/
section LP
variable {tx : Int → Int} {len : Int} {n : Nat} {en tk tp tn : Nat → Int} {A p k res : Nat}
theorem loop_r {f g gr : Nat} (T : TOK tx len n en tk tp tn) (hl : len ≤ 320) (hA : A = 256 ∨ A = 316) (hp : p ≤ 1) (hB : PB tx len n en tk tp tn A p k res f g gr) : ∀ (F s o a d i G : Nat) (x3 r : Int) (mc mm mc' : yM) (rr : (Unit × yM) ⊕ (Unit × yM)), d ≤ 3 → BS tx len n en tk tp tn A p k res s o a d i i mc mm → 0 ≤ x3 → x3 ≤ s → CLo f A (F69 f A gr) (d : Int) F (1, x3) mc = some (r, mc') → ML g G mm = some rr → BO tx len n en tk tp tn A p k res s o a d mc mm g rr r mc' := by
  intro F
  induction F with
  | zero =>
    intro s o a d i G x3 r mc mm mc' rr hd h h0 h3 hc hL
    cases hc
  | succ F ih =>
    intro s o a d i G x3 r mc mm mc' rr hd h h0 h3 hc hL
    have hco := h.co
    have h' := h
    obtain ⟨b1, b2, b3, b4, b5, b6, b7, b8, b9, b10⟩ := h
    have hi := b2.le T hl
    have stp : ∀ {y : ((Int × Int) × yM) ⊕ (((Int × Int) × yM) ⊕ (Int × yM))}, B69_19 f (F69 f A gr) A (d : Int) 1 x3 mc = some y → (∀ l m, y = .inl (l, m) → CLo f A (F69 f A gr) (d : Int) F l m = some (r, mc')) ∧ (∀ l m, y = .inr (.inl (l, m)) → J69_180 f (F69 f A gr) A l.1 m = some (r, mc')) ∧ (∀ q m, y = .inr (.inr (q, m)) → r = q ∧ mc' = m) := by
      intro y e
      unfold CLo yloop at hc
      simp only [e] at hc
      refine ⟨fun l m z => ?_, fun l m z => ?_, fun q m z => ?_⟩
      · subst z; exact hc
      · subst z; exact hc
      · subst z
        cases hc
        exact ⟨rfl, rfl⟩
    by_cases t1 : tk i = 125
    · have e : B69_19 f (F69 f A gr) A (d : Int) 1 x3 mc = some (.inr (.inl ((1, x3), mc))) := by
        unfold B69_19
        rw [if_neg (by omega), if_neg (by decide), b1.kind, if_pos t1]
      have e2 : J69_180 f (F69 f A gr) A 1 mc = some (r, mc') := (stp e).2.1 _ _ rfl
      unfold J69_180 at e2
      rw [if_neg (by decide)] at e2
      replace e2 := bI_e e2
      obtain ⟨q, m2, e4, e2⟩ := e2
      rcases b1.take (by omega) e4 with ⟨-, rfl, rfl⟩ | ⟨z, -⟩
      · rw [if_neg (by decide)] at e2
        cases e2
        exact Or.inr ⟨rfl, i, s, o, a, G, 0, mm, hL, t1, ⟨b1.at (by rw [yup_eq]; omega) (fun q c hq => yup_na (by omega)), b2, b3.fr hA (fun q q1 q2 => yup_na (by omega)) (yup_na (by omega)) (fun q => yup_na (by omega)) (fun _ _ _ => rfl), by rw [yup_na (by omega)]; exact b4, b5, b6, b7, b8, b9, b10⟩, by omega, SEG.ni, by omega, by omega, fBc.rf.up (by unfold arC; omega), fBm.rf, by rw [yup_na (by omega)]; omega, by rw [yup_na (by omega)]; omega, by rw [yup_eq, b1.1]; omega, by rw [yup_na (by omega)]; omega, fun z => z.fr (yup_na (by omega)) (fun q _ => yup_na (by omega)) (fun t _ => yup_na (by omega)), fun t t1 t2 => by omega⟩
      · exact absurd t1 z
    by_cases s40 : s = 40
    · have e : B69_19 f (F69 f A gr) A (d : Int) 1 x3 mc = some (.inr (.inr (0, yup mc 2 4 (tp i)))) := by
        unfold B69_19
        rw [if_neg (by omega), if_neg (by decide), b1.kind, if_neg t1, if_pos (by omega)]
        unfold F43
        rw [b1.plc]
        rfl
      obtain ⟨rfl, rfl⟩ := (stp e).2.2 _ _ rfl
      have hm : ∀ {y : (Unit × yM) ⊕ ((Unit × yM) ⊕ (Unit × yM))}, B139_5 g mm = some y → y = .inl ((), yup mm 376 8 (tp i)) := by
        intro y e
        unfold B139_5 at e
        rw [if_pos (by rw [b2.2.2.2.1]; decide), b2.2.2.2.2.mark T (by unfold sgn; omega), if_neg t1, if_pos rfl, if_pos (by omega)] at e
        unfold J139_94 at e
        replace e := bU_e e
        obtain ⟨n1, e1, e⟩ := e
        have := b2.stop T e1
        subst this
        cases e
        rfl
      obtain ⟨f', -, ⟨l', m', e3, e4⟩ | e3⟩ := yloop_s hL
      · cases hm e3
        exact Or.inl ⟨rfl, _, ML.w e4 (by rw [yup_eq]; exact b2.tp0 T), Flt.mk (b2.tp0 T), FrC.rf.u2, FrM.rf.w8⟩
      · cases hm e3
    have hs : s < 40 := by omega
    obtain ⟨e56, X, h16, s2, fc, eA⟩ := h'.cx (f := f) hA hs rfl rfl
    generalize yup (yup (yup (yup mc (A + 20 + s) 1 k) (A + 20 + s) 2 (-1)) (A + 20 + s) 8 0) A 16 ((s : Int) + 1) = mc1 at *
    obtain ⟨y, ey⟩ : ∃ y, B69_19 f (F69 f A gr) A (d : Int) 1 x3 mc = some y := by
      unfold CLo yloop at hc
      cases e : B69_19 f (F69 f A gr) A (d : Int) 1 x3 mc with
      | none => simp only [e] at hc; cases hc
      | some y => exact ⟨y, rfl⟩
    obtain ⟨x, M, rfl, hst⟩ := B69_st (by omega) b1.kind X.2.1.kind t1 (by omega) e56 ey
    have hc2 := (stp ey).1 _ _ rfl
    have fin : SO tx len n en tk tp tn A p k res s o a d mc mm g rr x M → BO tx len n en tk tp tn A p k res s o a d mc mm g rr r mc' := by
      intro hO
      rcases hO with ⟨rfl, mm', z1, z2, z3, z4⟩ | ⟨rfl, i', s', o', a', G', fu, N, z1, z2, z3, z4, z5, z6, z7, z8, z9, z10, z11, z12, z13, z14⟩
      · obtain ⟨rfl, rfl⟩ := CLo.z hc2
        exact Or.inl ⟨rfl, mm', z1, ⟨by rw [yup_na (by omega)]; exact z2.1, z2.2⟩, z3.up (by omega), z4⟩
      · have e16 : M A 16 = s' := z2.2.2.2.1
        rw [e16, wr_i (by omega) (by omega)] at hc2
        have B2 : BS tx len n en tk tp tn A p k res s' o' a' d i' i' (yup M (A + 20 + s) 12 (s' : Int)) N := by
          obtain ⟨y1, y2, y3, y4, y5, y6, y7, y8, y9, y10⟩ := z2
          have := hco.2.2.2.2
          exact ⟨y1.fr (yup_na (by omega)) (fun q c hq => yup_na (by omega)), y2, y3.fr hA (fun q q1 q2 => yup_na (by omega)) (yup_na (by omega)) (fun q => yup_na (by omega)) (fun _ _ _ => rfl), by rw [yup_na (by omega)]; exact y4, y5, y6, y7, y8, y9, y10⟩
        exact BO.cons hA (by omega) B2 (by omega) z4 z5 z6 (z7.up (by unfold arC; omega)) z8 (by rw [yup_na (by omega)]; exact z9) (by rw [yup_na (by omega)]; exact z10) (by rw [yup_na (by omega)]; exact z11) (by rw [yup_na (by omega)]; exact z12) (z13.fr (yup_na (by omega)) (fun q => yup_na (by omega)) (fun t ht => yup_ne (by omega))) (z14.fr (fun t q t1 t2 t3 => yup_ne (by omega))) (by omega) (ih s' o' a' d i' G' (x3 + 1) r _ N mc' rr hd B2 (by omega) (by omega) hc2 z1)
    rcases ML.stp T b2 t1 b5 hs hL with ⟨tt, G', n1, e1, e2⟩ | ⟨tt, G', n1, e1, e2⟩ | ⟨tt, G', n1, e1, e2⟩
    · rcases hst with ⟨-, w⟩ | ⟨z, -⟩ | ⟨z1, z2, -⟩
      · exact fin (branch_r T hl hA hp hs hd hB h' X h16 fc eA rfl tt w e1 e2)
      · omega
      · omega
    · rcases hst with ⟨z, -⟩ | ⟨z, r1, M1, w1, w2⟩ | ⟨-, -, z, r1, M1, w1, w2⟩
      · omega
      · exact fin ((return_r T hl hA hp hs (by omega) X (by rw [yup_na (by decide)]; exact b7) z w1 w2 e1).so hA h' hs X h16 fc eA rfl e2)
      · exact fin ((simple_r T hl hA hp hs (by omega) (by omega) h16 X s2 z w1 w2 e1).so hA h' hs X h16 fc eA rfl e2)
    · have e1' := b2.stop T e1
      subst e1'
      rcases hst with ⟨z, -⟩ | ⟨z, -⟩ | ⟨-, -, -, r1, M1, w1, w2⟩
      · omega
      · omega
      · unfold F68 at w1
        rw [X.2.1.kind, if_neg tt.2.2.2.2] at w1
        unfold J68_14 F58 at w1
        rw [X.2.1.kind, if_neg tt.2.2.2.1, if_neg tt.2.2.2.2] at w1
        unfold J58_56 F43 at w1
        rw [if_pos rfl, X.2.1.plc] at w1
        cases w1
        obtain ⟨rfl, rfl⟩ := w2.1 rfl
        exact fin (Or.inl ⟨rfl, _, ML.w e2 (by rw [yup_eq]; exact b2.tp0 T), Flt.mk (b2.tp0 T), fc.F.u2, FrM.rf.w8⟩)
theorem PB_all {f g : Nat} (T : TOK tx len n en tk tp tn) (hl : len ≤ 320) (hA : A = 256 ∨ A = 316) (hp : p ≤ 1) : ∀ gr, PB tx len n en tk tp tn A p k res f g gr := by
  intro gr
  induction gr with
  | zero => intro s o a d i G r mc mm mc' rr _ _ _ _ h; cases h
  | succ gr ih =>
    intro s o a d i G r mc mm mc' rr hd hC ht hS h hL
    have hi := hS.2.1.le T hl
    exact loop_r T hl hA hp ih f s o a d (i + 1) G 0 r _ mm mc' rr hd hS (by omega) (by omega) (F69_go (by omega) hC ht (by omega) h) hL
end LP

/-! IF AND WHILE WITHIN A BODY -/
section BN
variable {tx : Int → Int} {len : Int} {n : Nat} {en tk tp tn : Nat → Int} {A p k res s o a d : Nat} {mc mm mc' mm' M N M' N' : yM} {cs st : Int}
/-- the statement's own head, once its block is read -/
theorem br_h {b x : Int} (h0 : M (A + 20 + s) 0 = b) (h1 : M (A + 20 + s) 1 = k) (h3 : M (A + 20 + s) 3 = x) (hk : k < 10) (hx : vC x) (g0 : N 403 (1000 * p + 8 * o) = 9 + b) (g1 : N 403 (1000 * p + 8 * o + 1) = k) (g2 : N 403 (1000 * p + 8 * o + 2) = x) : BRH A p s o b (9 + b) M N := ⟨h0, g0, by rw [g1, h1], by omega, by omega, by rw [g2, h3], by rw [h3]; exact hx⟩
theorem branch_r {f g gr i G : Nat} {x : Int} {rr : (Unit × yM) ⊕ (Unit × yM)} {mc1 mm1 n1 : yM} (T : TOK tx len n en tk tp tn) (hl : len ≤ 320) (hA : A = 256 ∨ A = 316) (hp : p ≤ 1) (hs : s < 40) (hd : d ≤ 3) (hB : PB tx len n en tk tp tn A p k res f g gr) (h : BS tx len n en tk tp tn A p k res s o a d i i mc mm) (hX : CX tx len n en tk tp tn A p k res s o a i mc1 mm1 i mc1 mm1) (h16 : mc1 A 16 = (s : Int) + 1) (fc : fBc A s (mc A 13) mc mc1) (eA : ∀ q, q ≠ 16 → mc1 A q = mc A q) (e2 : mm1 = yup mm 376 9 ((s : Int) + 1)) (ht : tk i = 6 ∨ tk i = 8) (h1 : F59 f (F69 f A gr) A (A + 20 + s) (d : Int) mc1 = some (x, M)) (h2 : F131 g mm1 = some n1) (hL : ML g G n1 = some rr) : SO tx len n en tk tp tn A p k res s o a d mc mm g rr x M := by
  have hc := h.co
  obtain ⟨b1, b2, b3, b4, b5, b6, b7, b8, b9, b10⟩ := h
  have hX0 := hX
  obtain ⟨c1, c2, c3, c4, c5, c6, c7, c8, c9, c10, c11, c12, c13⟩ := hX
  have hi := c3.le T hl
  have hk := hc.2.2.2.2
  have m0 : ∀ b q, ¬ (b = 376 ∧ q = 9) → mm1 b q = mm b q := fun b q z => by
    rw [e2, yup_ne z]
  have fm : fBm p o a d (mm 388 p) (mm 387 p) mm mm1 := fun b q hb => m0 b q (fun e => hb (by unfold arB; omega))
  have fMm : FrM p mm mm1 := fm.F (by omega) (by omega)
  obtain ⟨b, hw, hb⟩ : ∃ b : Int, F112 mm1 = b ∧ ((b = 0 ∧ tk i = 6) ∨ (b = 1 ∧ tk i = 8)) := by
    rw [c3.2.2.2.2.isWhile T]
    rcases ht with z | z
    · exact ⟨0, by rw [if_neg (by omega)], Or.inl ⟨rfl, z⟩⟩
    · exact ⟨1, by rw [if_pos z], Or.inr ⟨rfl, z⟩⟩
  replace h1 : J59_15 f (F69 f A gr) A (A + 20 + s) (d : Int) (A + 20 + s) b mc1 = some (x, M) := by
    unfold F59 at h1
    rw [c2.kind] at h1
    rcases hb with ⟨z, z'⟩ | ⟨z, z'⟩
    · rw [if_pos z'] at h1; rw [z]; exact h1
    · rw [if_neg (by omega)] at h1; rw [z]; exact h1
  unfold J59_15 at h1
  rw [c2.1, wr_i (by omega) (by omega)] at h1
  replace h1 := bI_e h1
  obtain ⟨v, m2, e1, h1⟩ := h1
  unfold F131 at h2
  rw [hw] at h2
  replace h2 := bU_e h2
  obtain ⟨n2, e3, h2⟩ := h2
  obtain ⟨hM2, f2⟩ := c3.next T hl (by omega) e3
  replace h2 := bI_e h2
  obtain ⟨w, n3, e4, h2⟩ := h2
  have X1 := (hX0.set hA hs (q := 0) (v := b) (by decide)).next hA hs hM2 f2
  rcases X1.var T hl hA hp hs e1 e4 with ⟨rfl, rfl, hF, hF'⟩ | ⟨y, rfl, rfl, vy0, X2, hS, tt, e15, -⟩
  · rw [if_pos rfl] at h1
    cases h1
    rw [if_neg (by omega)] at h2
    cases h2
    rcases hF.up hA hs (q := 3) (v := -1) with ⟨-, z1, z2, z3⟩ | ⟨z, -⟩
    · exact Or.inl ⟨rfl, _, ML.w hL hF', z1, fc.F.tr z2, fMm.tr z3⟩
    · omega
  rw [if_neg (by omega)] at h1
  rw [if_pos (by rw [X2.2.2.1.2.2.2.1]; decide)] at h2
  replace h1 := bI_e h1
  obtain ⟨r1, m4, e5, h1⟩ := h1
  rw [wr_i (by omega) (by omega)] at e5
  have vy := vy0.c
  clear vy0 e15
  have X3 := X2.set hA hs (q := 3) (v := (y : Int)) (by decide)
  have fc3 : fSc A s (mc1 A 13) mc1 (yup m2 (A + 20 + s) 3 y) := X3.2.2.2.2.2.2.1
  have fm3 : fSm p o a (mm1 388 p) (mm1 387 p) mm1 n3 := X3.2.2.2.2.2.2.2.1
  have w16 : yup m2 (A + 20 + s) 3 y A 16 = (s : Int) + 1 := by rw [fc3 A 16 (by omega) (by omega) (by omega) (by omega) (by omega)]; exact h16
  have w9 : n3 376 9 = (s : Int) + 1 := by rw [fm3 376 9 (by omega) (by omega) (by omega) (by omega) (by omega) (by omega) (by omega), e2, yup_eq]
  have w10 : n3 376 10 = d := by rw [fm3 376 10 (by omega) (by omega) (by omega) (by omega) (by omega) (by omega) (by omega), m0 376 10 (by omega)]; exact b6
  have w398 : n3 398 (10 * p + k) = res := by rw [fm3 398 _ (by omega) (by omega) (by omega) (by omega) (by omega) (by omega) (by omega), m0 398 _ (by omega)]; exact b7
  have fC3 : fBc A s (mc A 13) mc (yup m2 (A + 20 + s) 3 y) := fc.tr (fc3.b hs) (by omega) (by rw [eA 13 (by decide)]; omega)
  have fM3 : fBm p o a d (mm 388 p) (mm 387 p) mm n3 := fm.tr (fm3.b (d := d)) (by omega) (by omega) (by omega) (by rw [m0 388 p (by omega)]; omega) (by rw [m0 387 p (by omega)]; omega)
  have c13' : mc A 13 ≤ yup m2 (A + 20 + s) 3 y A 13 := by have := X3.2.2.2.2.2.2.2.2.2.2.2.1; rw [eA 13 (by decide)] at this; omega
  have e13' : yup m2 (A + 20 + s) 3 y A 13 = mc A 13 := by have := X3.2.2.2.2.2.2.2.2.2.2.2.1; rw [eA 13 (by decide)] at this; exact this
  have c15' : mc A 15 ≤ yup m2 (A + 20 + s) 3 y A 15 := by have := X3.2.2.2.2.2.2.2.2.2.2.2.2; rw [eA 15 (by decide)] at this; exact this
  have c14' : mc A 14 ≤ yup m2 (A + 20 + s) 3 y A 14 := by have := X3.2.2.2.2.2.2.2.2.2.2.1; rw [eA 14 (by decide)] at this; exact this
  have k0 : yup m2 (A + 20 + s) 3 y (A + 20 + s) 0 = b := by rw [yup_nk (by decide), hS, yup_na (by omega), yup_eq]
  have k1 : yup m2 (A + 20 + s) 3 y (A + 20 + s) 1 = k := X3.2.2.2.2.1
  have k3 : yup m2 (A + 20 + s) 3 y (A + 20 + s) 3 = y := by rw [yup_eq]
  generalize yup m2 (A + 20 + s) 3 (y : Int) = m3 at *
  have hca3 : CAi A s (s + 1) mc m3 := fun z => z.st (fun t ht => fC3 _ _ (by unfold arC; omega)) (fun q hq => fC3 _ _ (by unfold arC; omega)) (Or.inl e13')
  rcases open_r (b := b) T hl hA hp hs hd b9 b10 hB X3 w16 w9 w10 w398 e5 (by omega) h2 hL with ⟨rfl, mm', z1, z2, z3, z4⟩ | ⟨hd3, N3, hN3, z⟩
  · rw [if_pos rfl] at h1
    cases h1
    exact Or.inl ⟨rfl, mm', z1, z2, fC3.F.tr z3, (fM3.F (by omega) (by omega)).tr z4⟩
  have oN : ∀ q c, ¬ (q = 376 ∧ 3 ≤ c ∧ c ≤ 7) → ¬ (q = 376 ∧ c = 10) → ¬ (q = 379 ∧ c = d) → ¬ (q = 378 ∧ c = d) → ¬ (q = 403 ∧ 1000 * p + 8 * o ≤ c ∧ c < 1000 * p + 8 * o + 5) → ¬ (q = 390 ∧ c = p) → N3 q c = n3 q c := fun q c y0 y1 y2 y3 y4 y5 => by
    rw [hN3 q c y0, yup_ne y1, yup_ne y2, em_o y4 y5, yup_ne y3]
  have n378 : N3 378 d = 1 + 2 * b := by rw [hN3 _ _ (by omega), yup_na (by decide), yup_na (by decide), em_o (by omega) (by omega), yup_eq]
  have n379 : N3 379 d = o := by rw [hN3 _ _ (by omega), yup_na (by decide), yup_eq]
  have n0 : N3 403 (1000 * p + 8 * o) = 9 + b := by rw [hN3 _ _ (by omega), yup_na (by decide), yup_na (by decide), em_0]
  have n1' : N3 403 (1000 * p + 8 * o + 1) = k := by rw [hN3 _ _ (by omega), yup_na (by decide), yup_na (by decide), em_1]
  have n2' : N3 403 (1000 * p + 8 * o + 2) = y := by rw [hN3 _ _ (by omega), yup_na (by decide), yup_na (by decide), em_2]
  have fMN : fBm p o a d (mm 388 p) (mm 387 p) mm N3 := fM3.tr (o' := o) (a' := a) (d' := d) (st' := mm 388 p) (cs' := mm 387 p) (fun q c hq => oN q c (fun e => hq (by unfold arB; omega)) (fun e => hq (by unfold arB; omega)) (fun e => hq (by unfold arB; omega)) (fun e => hq (by unfold arB; omega)) (fun e => hq (by unfold arB; omega)) (fun e => hq (by unfold arB; omega))) (by omega) (by omega) (by omega) (by omega) (by omega)
  have x9 := X3.2.2.2.2.2.2.2.2
  have q388 : N3 388 p = m3 A 14 ∧ N3 387 p = m3 A 13 ∧ mc A 14 ≤ m3 A 14 ∧ mc A 13 ≤ m3 A 13 := by
    have := X3.2.2.2.1.2.1
    unfold rCo at this
    rw [oN 388 p (by omega) (by omega) (by omega) (by omega) (by omega) (by omega), oN 387 p (by omega) (by omega) (by omega) (by omega) (by omega) (by omega)]
    omega
  rcases z with ⟨rfl, mm', z1, z2, z3, z4⟩ | ⟨rfl, i', s', o', a', G', fu, mm', z1, z2, z3, z4, z5, z6, z7, z8, z9, z10, z11, z12, z13, z14, z15⟩
  · rw [if_pos rfl] at h1
    cases h1
    exact Or.inl ⟨rfl, mm', z1, z2, (fC3.F.u2).tr z3, (fMN.F (by omega) (by omega)).tr z4⟩
  rw [if_neg (by decide)] at h1
  rw [yup_na (by omega)] at z8 z10 z11 z13
  have hca4 : CAi A s s' mc m4 := (hca3.fr (yup_na (by omega)) (fun q => yup_na (by omega)) (fun t _ => yup_na (by omega))).tr z14
  obtain ⟨y1, y2, y3, y4, y5, y6, y7, y8, y9, y10⟩ := z3
  rw [yup_eq, y1.1] at z12
  have l5 := z5.le
  have hi' := y2.le T hl
  have j0 : m4 (A + 20 + s) 0 = b := by rw [z8 _ _ (by unfold arC; omega), yup_na (by omega)]; exact k0
  have j1 : m4 (A + 20 + s) 1 = k := by rw [z8 _ _ (by unfold arC; omega), yup_na (by omega)]; exact k1
  have j3 : m4 (A + 20 + s) 3 = y := by rw [z8 _ _ (by unfold arC; omega), yup_na (by omega)]; exact k3
  have o0 : mm' 403 (1000 * p + 8 * o) = 9 + b := by rw [z9 _ _ (by unfold arB; omega)]; exact n0
  have o1 : mm' 403 (1000 * p + 8 * o + 1) = k := by rw [z9 _ _ (by unfold arB; omega)]; exact n1'
  have o2 : mm' 403 (1000 * p + 8 * o + 2) = y := by rw [z9 _ _ (by unfold arB; omega)]; exact n2'
  have o378 : mm' 378 d = 1 + 2 * b := by rw [z9 _ _ (by unfold arB; omega)]; exact n378
  have o379 : mm' 379 d = o := by rw [z9 _ _ (by unfold arB; omega)]; exact n379
  have fC4 : fBc A s (mc A 13) mc m4 := (fC3.up (b := 2) (q := 2) (by unfold arC; omega)).tr z8 (by omega) c13'
  have fM4 : fBm p o a d (mm 388 p) (mm 387 p) mm mm' := fMN.tr z9 (by omega) (by omega) (by omega) (by omega) (by omega)
  have rc4 := y3.2.1
  unfold rCo at rc4
  have y10' : mm' 376 10 = (d : Int) + 1 := by rw [y6]; omega
  obtain ⟨G2, n5, e6, hL2⟩ := ML.shut T y2 z2 y10' z1
  have hOw4 : OWN A k res s s' m4 := fun t t1 t2 => by
    by_cases w : t = s
    · subst w
      exact ⟨j1, fun z => by rw [j0] at z; omega⟩
    · exact z15 t (by omega) t2
  have fin : ∀ {i2 s2 o2 a2 G3 fu2 : Nat} {M5 N5 : yM}, ML g G3 N5 = some rr → CT tk tp tn i2 M5 → MT tx len n en tk tp tn p i2 N5 → rBd A p k res o2 a2 M5 N5 → M5 A 16 = s2 → N5 376 9 = s2 → N5 376 10 = d → s2 ≤ 40 → o2 ≤ o + 2 * (s2 - s) → a2 ≤ a + (s2 - s) → s < s2 → fBc A s (mc A 13) mc M5 → fBm p o a d (mm 388 p) (mm 387 p) mm N5 → mc A 13 ≤ M5 A 13 → mc A 14 ≤ M5 A 14 → mc A 15 ≤ M5 A 15 → CAi A s s2 mc M5 → OWN A k res s s2 M5 → SEG A p (yup M5 (A + 20 + s) 12 s2) N5 fu2 s s2 o o2 a a2 → i ≤ i2 → SO tx len n en tk tp tn A p k res s o a d mc mm g rr 1 M5 := by
    intro i2 s2 o2 a2 G3 fu2 M5 N5 g1 g2 g3 g4 g5 g6 g7 g8 g9 g10 g11 g12 g13 g14 g15 g18 g19 g20 g16 g17
    exact Or.inr ⟨rfl, i2, s2, o2, a2, G3, fu2, N5, g1, ⟨g2, g3, g4, g5, g6, g7, by rw [g13 _ _ (by unfold arB; omega)]; exact b7, g8, by omega, by omega⟩, g11, g16, g9, g10, g12, g13, g14, g15, by rw [b1.1, g2.1]; omega, g18, g19, g20⟩
  rw [j0, y4] at h1
  rcases hb with ⟨rfl, -⟩ | ⟨rfl, -⟩
  · rw [if_neg (by decide), show F38 (yup m4 (A + 20 + s) 11 (s' : Int)) = tk (i' + 1) from (y1.fr (yup_na (by omega)) (fun q c hq => yup_na (by omega)) : CT tk tp tn (i' + 1) (yup m4 (A + 20 + s) 11 (s' : Int))).kind] at h1
    rcases ite1 h1 with ⟨t7, h1⟩ | ⟨t7, h1⟩
    · -- with else
      have CT7 : CT tk tp tn (i' + 2) (yup (yup m4 (A + 20 + s) 11 (s' : Int)) 2 2 ((i' : Int) + 2)) := y1.at (by rw [yup_eq]; omega) (fun q c hq => by rw [yup_na (by omega), yup_na (by omega)])
      replace h1 := bI_e h1
      obtain ⟨r2, m6, e7, h1⟩ := h1
      cases h1
      rw [y1.1, wr_i (by omega) (by omega), wr_i (by omega) (by omega), show ((i' + 1 : Nat) : Int) + 1 = (i' : Int) + 2 by omega] at e7
      obtain ⟨n6, r6, hM6, f6, e8⟩ := shutE (k := k) T hl hp hd (by omega) (by omega) hk y2 z2 y10' (by omega) t7 o379 y3.2.2.1 y3.2.2.2.2 e6
      have hi6 := hM6.le T hl
      generalize eN : yup (yup (yup (emM p o' k 11 0 0 0 n6) 403 (1000 * p + 8 * o + 3) ((o' : Int) + 1)) 378 d 2) 379 d (o' : Int) = n7 at e8
      have o3 : ∀ q c, ¬ (q = 376 ∧ 3 ≤ c ∧ c ≤ 7) → ¬ (q = 378 ∧ c = d) → ¬ (q = 379 ∧ c = d) → ¬ (q = 403 ∧ c = 1000 * p + 8 * o + 3) → ¬ (q = 403 ∧ 1000 * p + 8 * o' ≤ c ∧ c < 1000 * p + 8 * o' + 5) → ¬ (q = 390 ∧ c = p) → n7 q c = mm' q c := fun q c q0 q1 q2 q3 q4 q5 => by
        rw [← eN, yup_ne q2, yup_ne q1, yup_ne q3, em_o q4 q5, f6 _ _ q0]
      have hM7 : MT tx len n en tk tp tn p (i' + 2) n7 := hM6.fr (fun q hq => by rw [← eN, yup_na (by decide), yup_na (by decide), yup_na (by decide), em_o (by omega) (by omega)]) (fun q => by rw [← eN, yup_na (by decide), yup_na (by decide), yup_na (by decide), em_o (by omega) (by omega)])
      have u378 : n7 378 d = 2 := by rw [← eN, yup_na (by decide), yup_eq]
      have u379 : n7 379 d = o' := by rw [← eN, yup_eq]
      have u3 : n7 403 (1000 * p + 8 * o + 3) = (o' : Int) + 1 := by rw [← eN, yup_na (by decide), yup_na (by decide), yup_eq]
      have u11 : n7 403 (1000 * p + 8 * o') = 11 := by rw [← eN, yup_na (by decide), yup_na (by decide), yup_nk (by omega), em_0]
      have fM7 : fBm p o a d (mm 388 p) (mm 387 p) mm n7 := by
        rw [← eN]
        exact ((((fM4.tok f6).em (by omega) (by omega)).up (by unfold arB; omega)).up (by unfold arB; omega)).up (by unfold arB; omega)
      have B7 : rBd A p k res (o' + 1) a' (yup (yup m4 (A + 20 + s) 11 (s' : Int)) 2 2 ((i' : Int) + 2)) n7 := by
        have B0 : rBd A p k res o' a' (yup (yup m4 (A + 20 + s) 11 (s' : Int)) 2 2 ((i' : Int) + 2)) n6 := y3.fr hA (fun q q1 q2 => by rw [yup_na (by omega), yup_na (by omega)]) (by rw [yup_na (by omega), yup_na (by omega)]) (fun q => by rw [yup_na (by omega), yup_na (by omega)]) (fun b q hb => f6 _ _ (by omega))
        rw [← eN]
        exact (B0.em (x1 := 11) (x2 := 0) (x3 := 0) (x4 := 0)).fr hA (fun q q1 q2 => rfl) rfl (fun q => rfl) (fun b q hb => by rw [yup_na (by omega), yup_na (by omega), yup_na (by omega)])
      have fC7 : fBc A s (mc A 13) mc (yup (yup m4 (A + 20 + s) 11 (s' : Int)) 2 2 ((i' : Int) + 2)) := (fC4.up (by unfold arC; omega)).up (by unfold arC; omega)
      clear eN
      rcases hM7.mark T hl (by unfold sgn; omega) e8 with ⟨t8, -, hM8, f8⟩ | ⟨t8, -, rfl⟩
      · have B8 : BS tx len n en tk tp tn A p k res s' (o' + 1) a' (d + 1) (i' + 2 + 1) (i' + 2 + 1) (yup (yup (yup m4 (A + 20 + s) 11 (s' : Int)) 2 2 ((i' : Int) + 2)) 2 2 (((i' + 2 : Nat) : Int) + 1)) n5 := by
          refine ⟨CT7.at (by rw [yup_eq]; omega) (fun q c hq => yup_na (by omega)), hM8, B7.fr hA (fun q q1 q2 => yup_na (by omega)) (yup_na (by omega)) (fun q => yup_na (by omega)) (fun b q hb => f8 _ _ (by omega)), ?_, ?_, ?_, ?_, y8, by omega, y10⟩
          · rw [yup_na (by omega), yup_na (by omega), yup_na (by omega)]; exact y4
          · rw [f8 _ _ (by omega), o3 _ _ (by omega) (by omega) (by omega) (by omega) (by omega) (by omega)]; exact y5
          · rw [f8 _ _ (by omega), o3 _ _ (by omega) (by omega) (by omega) (by omega) (by omega) (by omega)]; exact y6
          · rw [f8 _ _ (by omega), o3 _ _ (by omega) (by omega) (by omega) (by omega) (by omega) (by omega)]; exact y7
        have hO := hB s' (o' + 1) a' (d + 1) (i' + 2) G2 x _ n5 M rr (by omega) CT7 t8 B8 (by rw [Int.natCast_add]; exact e7) hL2
        have fM8 := fM7.tok f8
        have q8 : n5 388 p = m4 A 14 ∧ n5 387 p = m4 A 13 := by
          rw [f8 _ _ (by omega), f8 _ _ (by omega), o3 _ _ (by omega) (by omega) (by omega) (by omega) (by omega) (by omega), o3 _ _ (by omega) (by omega) (by omega) (by omega) (by omega) (by omega)]
          omega
        rcases hO with ⟨rfl, mm8, v1, v2, v3, v4⟩ | ⟨rfl, i2, s2, o2', a2, G8, fu8, mm8, v1, v2, v3, v4, v5, v6, v7, v8, v9, v10, v11, v12, v13, v14, v15⟩
        · exact Or.inl ⟨rfl, mm8, v1, v2, (fC7.F.u2).tr v3, (fM8.F (by omega) (by omega)).tr v4⟩
        · rw [yup_na (by omega), yup_na (by omega), yup_na (by omega)] at v8 v10 v11 v13
          have hca8 : CAi A s s2 mc M := (hca4.fr (by rw [yup_na (by omega), yup_na (by omega), yup_na (by omega)]) (fun q => by rw [yup_na (by omega), yup_na (by omega), yup_na (by omega)]) (fun t ht => by rw [yup_na (by omega), yup_na (by omega), yup_ne (by omega)])).tr v14
          obtain ⟨d1, d2, d3, d4, d5, d6, d7, d8, d9, d10⟩ := v3
          rw [yup_eq, d1.1] at v12
          have l8 := v5.le
          have d10' : mm8 376 10 = (d : Int) + 1 := by rw [d6]; omega
          obtain ⟨G9, n9, e9, hL9⟩ := ML.shut T d2 v2 d10' v1
          have t378 : mm8 378 d = 2 := by rw [v9 _ _ (by unfold arB; omega), f8 _ _ (by omega)]; exact u378
          have t379 : mm8 379 d = o' := by rw [v9 _ _ (by unfold arB; omega), f8 _ _ (by omega)]; exact u379
          obtain ⟨n10, hM10, f10, rfl⟩ := shutP T hl hp hd (by omega) d2 v2 d10' (by omega) (by omega) t379 d3.2.2.1 e9
          have rc8 := d3.2.1
          unfold rCo at rc8
          have o4 : ∀ q c, ¬ (q = 376 ∧ 3 ≤ c ∧ c ≤ 7) → ¬ (q = 376 ∧ c = 10) → ¬ (q = 403 ∧ c = 1000 * p + 8 * o' + 3) → yup (yup n10 403 (1000 * p + 8 * o' + 3) (o2' : Int)) 376 10 d q c = mm8 q c := fun q c q0 q1 q2 => by
            rw [yup_ne q1, yup_ne q2, f10 _ _ q0]
          have fcM : fBc A s (mc A 13) mc M := (fC7.up (b := 2) (q := 2) (by unfold arC; omega)).tr v8 (by omega) (by omega)
          have kS : ∀ q, q ≠ 11 → M (A + 20 + s) q = m4 (A + 20 + s) q := fun q hq => by
            rw [v8 _ _ (by unfold arC; omega), yup_na (by omega), yup_na (by omega), yup_nk hq]
          have kS11 : M (A + 20 + s) 11 = s' := by
            rw [v8 _ _ (by unfold arC; omega), yup_na (by omega), yup_na (by omega), yup_eq]
          have k403 : ∀ c, c < 1000 * p + 8 * (o' + 1) → c ≠ 1000 * p + 8 * o' + 3 → yup (yup n10 403 (1000 * p + 8 * o' + 3) (o2' : Int)) 376 10 d 403 c = n7 403 c := fun c q1 q2 => by
            rw [o4 _ _ (by omega) (by omega) (by omega), v9 _ _ (by unfold arB; omega), f8 _ _ (by omega)]
          refine fin (i2 := i2 + 1) (s2 := s2) (o2 := o2') (a2 := a2) (fu2 := fu + fu8 + 1) hL9 d1 (hM10.fr (fun q hq => by rw [yup_nk (by omega), yup_na (by decide)]) (fun q => by rw [yup_na (by decide), yup_na (by decide)])) (d3.fr hA (fun q q1 q2 => rfl) rfl (fun q => rfl) (fun b q hb => o4 _ _ (by omega) (by omega) (by omega))) d4 (by rw [o4 _ _ (by omega) (by omega) (by omega)]; exact d5) (by rw [yup_eq]) d8 (by omega) (by omega) (by omega) fcM ((((fM8.tr v9 (by omega) (by omega) (by omega) (by omega) (by omega)).tok f10).up (by unfold arB; omega)).up (by unfold arB; omega)) (by omega) (by omega) (by omega) hca8 ((hOw4.fr (fun t q t1 t2 t3 => by rw [v8 _ _ (by unfold arC; omega), yup_na (by omega), yup_na (by omega), yup_ne (by omega)])).app v15) ?_ (by omega)
          refine Or.inr ⟨s2, o2', a2, by omega, by omega, by omega, by omega, by omega, by omega, by rw [yup_eq], SEG.ni, Or.inr (Or.inr (Or.inr ⟨?_, s', o', a', by omega, by omega, by omega, by omega, by omega, by omega, by rw [yup_nk (by decide)]; exact kS11, ?_, ?_, ?_, ?_, ?_⟩))⟩
          · exact br_h (by rw [yup_nk (by decide), kS _ (by decide)]; exact j0) (by rw [yup_nk (by decide), kS _ (by decide)]; exact j1) (by rw [yup_nk (by decide), kS _ (by decide)]; exact j3) hk vy (by rw [k403 _ (by omega) (by omega), o3 _ _ (by omega) (by omega) (by omega) (by omega) (by omega) (by omega)]; exact o0) (by rw [k403 _ (by omega) (by omega), o3 _ _ (by omega) (by omega) (by omega) (by omega) (by omega) (by omega)]; exact o1) (by rw [k403 _ (by omega) (by omega), o3 _ _ (by omega) (by omega) (by omega) (by omega) (by omega) (by omega)]; exact o2)
          · rw [k403 _ (by omega) (by omega)]; exact u3
          · rw [k403 _ (by omega) (by omega)]; exact u11
          · rw [yup_na (by decide), yup_eq]
          · refine SEG.mn (SEG.fr z5 (fun t q t1 t2 => ?_) ?_ ?_ ?_ ?_ (fun q hq => ?_) (fun q q1 q2 => ?_) (fun q q1 q2 => ?_) (fun b q hb q1 q2 => ?_) (fun b q hb q1 => ?_) (fun q _ => ?_))
            · rw [yup_na (by omega), v8 _ _ (by unfold arC; omega), yup_na (by omega), yup_na (by omega), yup_na (by omega)]
            · rw [yup_na (by omega)]; omega
            · rw [yup_na (by omega)]; omega
            · rw [yup_na (by omega)]; omega
            · refine Int.le_of_eq ?_
              rw [yup_na (by omega), v8 _ _ (by unfold arC; omega), yup_na (by omega), yup_na (by omega), yup_na (by omega)]
            · rw [yup_na (by omega), v8 _ _ (by unfold arC; omega), yup_na (by omega), yup_na (by omega), yup_na (by omega)]
            · rw [k403 _ (by omega) (by omega), o3 _ _ (by omega) (by omega) (by omega) (by omega) (by omega) (by omega)]
            · rw [o4 _ _ (by omega) (by omega) (by omega), v9 _ _ (by unfold arB; omega), f8 _ _ (by omega), o3 _ _ (by omega) (by omega) (by omega) (by omega) (by omega) (by omega)]
            · rw [o4 _ _ (by omega) (by omega) (by omega), v9 _ _ (by unfold arB; omega), f8 _ _ (by omega), o3 _ _ (by omega) (by omega) (by omega) (by omega) (by omega) (by omega)]
            · rw [o4 _ _ (by omega) (by omega) (by omega), v9 _ _ (by unfold arB; omega), f8 _ _ (by omega), o3 _ _ (by omega) (by omega) (by omega) (by omega) (by omega) (by omega)]
            · rw [o4 _ _ (by omega) (by omega) (by omega), v9 _ _ (by unfold arB; omega), f8 _ _ (by omega), o3 _ _ (by omega) (by omega) (by omega) (by omega) (by omega) (by omega)]
          · rw [Nat.add_comm fu fu8]
            exact SEG.mn (SEG.fr v5 (fun t q t1 t2 => yup_na (by omega)) (by rw [yup_na (by omega)]; omega) (by rw [yup_na (by omega)]; omega) (by rw [yup_na (by omega)]; omega) (by rw [yup_na (by omega)]; omega) (fun q hq => yup_na (by omega)) (fun q q1 q2 => o4 _ _ (by omega) (by omega) (by omega)) (fun q q1 q2 => o4 _ _ (by omega) (by omega) (by omega)) (fun b q hb q1 q2 => o4 _ _ (by omega) (by omega) (by omega)) (fun b q hb q1 => o4 _ _ (by omega) (by omega) (by omega)) (fun q _ => o4 _ _ (by omega) (by omega) (by omega)))
      · obtain ⟨rfl, rfl⟩ := F69_no (by omega) CT7 (Or.inl t8) e7
        exact Or.inl ⟨rfl, _, ML.w hL2 (by rw [yup_eq]; exact hM7.tp0 T), Flt.mk (hM7.tp0 T), fC7.F.u2, (fM7.F (by omega) (by omega)).w8⟩
    · -- without
      cases h1
      obtain ⟨n6, hM6, f6, rfl⟩ := shutP T hl hp hd (by omega) y2 z2 y10' (by omega) (Or.inr t7) o379 y3.2.2.1 e6
      have o3 : ∀ q c, ¬ (q = 376 ∧ 3 ≤ c ∧ c ≤ 7) → ¬ (q = 376 ∧ c = 10) → ¬ (q = 403 ∧ c = 1000 * p + 8 * o + 3) → yup (yup n6 403 (1000 * p + 8 * o + 3) (o' : Int)) 376 10 d q c = mm' q c := fun q c q0 q1 q2 => by
        rw [yup_ne q1, yup_ne q2, f6 _ _ q0]
      refine fin (i2 := i' + 1) (s2 := s') (o2 := o') (a2 := a') (fu2 := fu + 1) hL2 (y1.fr (yup_na (by omega)) (fun q c hq => yup_na (by omega))) (hM6.fr (fun q hq => by rw [yup_nk (by omega), yup_na (by decide)]) (fun q => by rw [yup_na (by decide), yup_na (by decide)])) (y3.fr hA (fun q q1 q2 => yup_na (by omega)) (yup_na (by omega)) (fun q => yup_na (by omega)) (fun b q hb => o3 _ _ (by omega) (by omega) (by omega))) (by rw [yup_na (by omega)]; exact y4) (by rw [o3 _ _ (by omega) (by omega) (by omega)]; exact y5) (by rw [yup_eq]) y8 (by omega) (by omega) (by omega) (fC4.up (by unfold arC; omega)) (((fM4.tok f6).up (by unfold arB; omega)).up (by unfold arB; omega)) (by rw [yup_na (by omega)]; omega) (by rw [yup_na (by omega)]; omega) (by rw [yup_na (by omega)]; omega) (hca4.fr (yup_na (by omega)) (fun q => yup_na (by omega)) (fun t ht => yup_ne (by omega))) (hOw4.fr (fun t q t1 t2 t3 => yup_ne (by omega))) ?_ (by omega)
      refine Or.inr ⟨s', o', a', by omega, by omega, by omega, by omega, by omega, by omega, by rw [yup_eq], SEG.ni, Or.inr (Or.inr (Or.inl ⟨?_, by rw [yup_nk (by decide), yup_eq], by rw [yup_na (by decide), yup_eq], ?_⟩))⟩
      · exact br_h (by rw [yup_nk (by decide), yup_nk (by decide)]; exact j0) (by rw [yup_nk (by decide), yup_nk (by decide)]; exact j1) (by rw [yup_nk (by decide), yup_nk (by decide)]; exact j3) hk vy (by rw [o3 _ _ (by omega) (by omega) (by omega)]; exact o0) (by rw [o3 _ _ (by omega) (by omega) (by omega)]; exact o1) (by rw [o3 _ _ (by omega) (by omega) (by omega)]; exact o2)
      · exact z5.fr (fun t q t1 t2 => by rw [yup_na (by omega), yup_na (by omega)]) (by rw [yup_na (by omega), yup_na (by omega)]; omega) (by rw [yup_na (by omega), yup_na (by omega)]; omega) (by rw [yup_na (by omega), yup_na (by omega)]; omega) (by rw [yup_na (by omega), yup_na (by omega)]; omega) (fun q hq => by rw [yup_na (by omega), yup_na (by omega)]) (fun q q1 q2 => o3 _ _ (by omega) (by omega) (by omega)) (fun q q1 q2 => o3 _ _ (by omega) (by omega) (by omega)) (fun b q hb q1 q2 => o3 _ _ (by omega) (by omega) (by omega)) (fun b q hb q1 => o3 _ _ (by omega) (by omega) (by omega)) (fun q _ => o3 _ _ (by omega) (by omega) (by omega))
  · rw [if_pos rfl] at h1
    cases h1
    obtain ⟨n6, hM6, f6, rfl⟩ := shutW (k := k) T hl hp hd (by omega) (by omega) hk y2 z2 y10' o378 o379 y3.2.2.1 y3.2.2.2.2 e6
    have o3 : ∀ q c, ¬ (q = 376 ∧ 3 ≤ c ∧ c ≤ 7) → ¬ (q = 376 ∧ c = 10) → ¬ (q = 403 ∧ c = 1000 * p + 8 * o + 3) → ¬ (q = 403 ∧ 1000 * p + 8 * o' ≤ c ∧ c < 1000 * p + 8 * o' + 5) → ¬ (q = 390 ∧ c = p) → yup (yup (emM p o' k 11 0 o 0 n6) 403 (1000 * p + 8 * o + 3) ((o' : Int) + 1)) 376 10 d q c = mm' q c := fun q c q0 q1 q2 q3 q4 => by
      rw [yup_ne q1, yup_ne q2, em_o q3 q4, f6 _ _ q0]
    have B1 : rBd A p k res (o' + 1) a' (yup m4 (A + 20 + s) 11 (s' : Int)) (yup (yup (emM p o' k 11 0 o 0 n6) 403 (1000 * p + 8 * o + 3) ((o' : Int) + 1)) 376 10 d) := by
      have B0 : rBd A p k res o' a' (yup m4 (A + 20 + s) 11 (s' : Int)) n6 := y3.fr hA (fun q q1 q2 => yup_na (by omega)) (yup_na (by omega)) (fun q => yup_na (by omega)) (fun b q hb => f6 _ _ (by omega))
      exact (B0.em (x1 := 11) (x2 := 0) (x3 := o) (x4 := 0)).fr hA (fun q q1 q2 => rfl) rfl (fun q => rfl) (fun b q hb => by rw [yup_ne (by omega), yup_na (by omega)])
    refine fin (i2 := i' + 1) (s2 := s') (o2 := o' + 1) (a2 := a') (fu2 := fu + 1) hL2 (y1.fr (yup_na (by omega)) (fun q c hq => yup_na (by omega))) (hM6.fr (fun q hq => by rw [yup_nk (by omega), yup_na (by decide), em_o (by omega) (by omega)]) (fun q => by rw [yup_na (by decide), yup_na (by decide), em_o (by omega) (by omega)])) B1 (by rw [yup_na (by omega)]; exact y4) (by rw [o3 _ _ (by omega) (by omega) (by omega) (by omega) (by omega)]; exact y5) (by rw [yup_eq]) y8 (by omega) (by omega) (by omega) (fC4.up (by unfold arC; omega)) ((((fM4.tok f6).em (by omega) (by omega)).up (by unfold arB; omega)).up (by unfold arB; omega)) (by rw [yup_na (by omega)]; omega) (by rw [yup_na (by omega)]; omega) (by rw [yup_na (by omega)]; omega) (hca4.fr (yup_na (by omega)) (fun q => yup_na (by omega)) (fun t ht => yup_ne (by omega))) (hOw4.fr (fun t q t1 t2 t3 => yup_ne (by omega))) ?_ (by omega)
    refine Or.inr ⟨s', o' + 1, a', by omega, by omega, by omega, by omega, by omega, by omega, by rw [yup_eq], SEG.ni, Or.inr (Or.inl ⟨?_, o', rfl, by omega, by rw [yup_nk (by decide), yup_eq], by rw [yup_na (by decide), yup_eq]; omega, ?_, ?_, ?_⟩)⟩
    · exact br_h (by rw [yup_nk (by decide), yup_nk (by decide)]; exact j0) (by rw [yup_nk (by decide), yup_nk (by decide)]; exact j1) (by rw [yup_nk (by decide), yup_nk (by decide)]; exact j3) hk vy (by rw [o3 _ _ (by omega) (by omega) (by omega) (by omega) (by omega)]; exact o0) (by rw [o3 _ _ (by omega) (by omega) (by omega) (by omega) (by omega)]; exact o1) (by rw [o3 _ _ (by omega) (by omega) (by omega) (by omega) (by omega)]; exact o2)
    · rw [yup_na (by decide), yup_nk (by omega), em_0]
    · rw [yup_na (by decide), yup_nk (by omega), em_3]
    · exact z5.fr (fun t q t1 t2 => by rw [yup_na (by omega), yup_na (by omega)]) (by rw [yup_na (by omega), yup_na (by omega)]; omega) (by rw [yup_na (by omega), yup_na (by omega)]; omega) (by rw [yup_na (by omega), yup_na (by omega)]; omega) (by rw [yup_na (by omega), yup_na (by omega)]; omega) (fun q hq => by rw [yup_na (by omega), yup_na (by omega)]) (fun q q1 q2 => o3 _ _ (by omega) (by omega) (by omega) (by omega) (by omega)) (fun q q1 q2 => o3 _ _ (by omega) (by omega) (by omega) (by omega) (by omega)) (fun b q hb q1 q2 => o3 _ _ (by omega) (by omega) (by omega) (by omega) (by omega)) (fun b q hb q1 => o3 _ _ (by omega) (by omega) (by omega) (by omega) (by omega)) (fun q _ => o3 _ _ (by omega) (by omega) (by omega) (by omega) (by omega))
end BN

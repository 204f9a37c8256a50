section
/-! SIMPLE STATEMENTS -/
section ST
variable {tx : Int → Int} {len : Int} {n : Nat} {en tk tp tn : Nat → Int} {A p k res s o a i0 j : Nat} {mc mm M N M' N' : yM}
theorem STO.w {r : Int} (h : STO tx len n en tk tp tn A p k res s o a i0 mc mm r M' N') : (r = 1 ∧ N' 376 8 = -1) ∨ (r = 0 ∧ 0 ≤ N' 376 8) := by
  rcases h with ⟨h1, h2, -⟩ | ⟨h1, i', a', -, -, -, -, h2, -⟩
  · exact Or.inr ⟨h1, h2.2⟩
  · exact Or.inl ⟨h1, h2.2.2.2.1⟩
/-- a refusal whose class memory has been written to in the statement's own row -/
theorem STO.up {v : Int} {q : Nat} (hA : A = 256 ∨ A = 316) (hs : s < 40) (h : STO tx len n en tk tp tn A p k res s o a i0 mc mm 0 M' N') : STO tx len n en tk tp tn A p k res s o a i0 mc mm 0 (yup M' (A + 20 + s) q v) N' := by
  rcases h with ⟨h1, ⟨h2, h2'⟩, h3, h4⟩ | ⟨h1, -⟩
  · exact Or.inl ⟨rfl, ⟨by rw [yup_na (by omega)]; exact h2, h2'⟩, h3.up (by omega), h4⟩
  · omega
theorem J68_124_1 {f : Nat} {r : Int} (h : J68_124 f A (A + 20 + s) 1 M = some (r, M')) : r = 1 ∧ M' = M := by
  unfold J68_124 at h
  rw [if_neg (by decide)] at h
  cases h
  exact ⟨rfl, rfl⟩
theorem J68_100_1 {f : Nat} {r : Int} (h9 : M (A + 20 + s) 0 ≠ 9 ∨ F38 M ≠ 40) (h : J68_100 f A (A + 20 + s) 1 M = some (r, M')) : r = 1 ∧ M' = M := by
  unfold J68_100 at h
  rcases ite1 h with ⟨q, h⟩ | ⟨q, h⟩
  · rcases ite1 h with ⟨q2, h⟩ | ⟨q2, h⟩
    · rcases h9 with z | z
      · exact absurd q z
      · exact absurd q2 z
    · exact J68_124_1 h
  · exact J68_124_1 h
/-- what stands behind = -/
theorem right_r {f g : Nat} {v r r1 : Int} {M1 : yM} (T : TOK tx len n en tk tp tn) (hl : len ≤ 320) (hA : A = 256 ∨ A = 316) (hp : p ≤ 1) (hs : s < 40) (ho : o ≤ 120) (ha : a ≤ 100) (h16 : mc A 16 = (s : Int) + 1) (h : CX tx len n en tk tp tn A p k res s o a i0 mc mm j M N) (hij : i0 < j) (s2 : M (A + 20 + s) 2 = v) (hv : vB (M A 15) v) (hvr : (res : Int) < v) (h1 : F64 f A (A + 20 + s) M = some (r1, M1)) (h1' : (r1 = 0 → r = 0 ∧ M' = M1) ∧ (r1 ≠ 0 → J68_100 f A (A + 20 + s) 1 M1 = some (r, M'))) (h2 : F137 g v N = some N') : STO tx len n en tk tp tn A p k res s o a i0 mc mm r M' N' := by
  have h0 := h
  obtain ⟨c1, c2, c3, c4, c5, c6, c7, c8, c9, c10, c11, c12, c13⟩ := h
  have hj := c3.le T hl
  unfold F64 at h1
  rw [c2.kind] at h1
  unfold F137 at h2
  rw [c3.2.2.2.2.isNew T, c3.2.2.2.2.isNull T, c3.2.2.2.2.mark T (by unfold sgn; omega)] at h2
  by_cases t4 : tk j = 4
  · rw [if_pos t4] at h1
    rw [if_pos t4, if_neg (by decide)] at h2
    replace h2 := bU_e h2
    obtain ⟨n1, e2, h2⟩ := h2
    cases h2
    replace h1 := bI_e h1
    obtain ⟨r2, m2, e1, h1⟩ := h1
    have K := new_r (r := r1) (M' := M1) T hl hA hp hs ho ha h0 t4 s2 hv hvr e1 ⟨fun z => by
      rw [if_pos z] at h1
      obtain ⟨r3, m3, e3, h1⟩ := bI_e h1
      cases h1
      exact ⟨r1, M1, e3, rfl, rfl⟩, fun z => by
      rw [if_neg z] at h1
      obtain ⟨r3, m3, e3, h1⟩ := bI_e h1
      cases h1
      exact e3⟩ e2
    obtain ⟨K1, K2, K3⟩ := K
    by_cases q : r1 = 1
    · subst q
      obtain ⟨rfl, rfl⟩ := J68_100_1 (Or.inl (by rw [(K2 rfl).2]; decide)) (h1'.2 (by decide))
      exact K1
    · obtain ⟨-, rfl⟩ := K3 q
      obtain ⟨rfl, rfl⟩ := h1'.1 rfl
      exact K1
  rw [if_neg t4] at h1
  rw [if_neg t4, if_pos rfl] at h2
  by_cases t5 : tk j = 5
  · rw [if_pos t5] at h1
    rw [if_pos t5, if_neg (by decide)] at h2
    replace h1 := bI_e h1
    obtain ⟨r2, m2, e1, h1⟩ := h1
    cases h1
    have hC1 : CT tk tp tn j (yup M (A + 20 + s) 0 6) := c2.fr (yup_na (by omega)) (fun b q hb => yup_na (by omega))
    rcases hC1.take (by omega) e1 with ⟨-, rfl, rfl⟩ | ⟨z, -⟩
    case inr => exact absurd t5 z
    obtain ⟨rfl, rfl⟩ := J68_100_1 (Or.inl (by rw [yup_na (by omega), yup_eq]; decide)) (h1'.2 (by decide))
    replace h2 := bU_e h2
    obtain ⟨n1, e2, h2⟩ := h2
    obtain ⟨hM1, f1⟩ := c3.next T hl (by omega) e2
    replace h2 := bI_e h2
    obtain ⟨r3, n2, e3, h2⟩ := h2
    cases h2
    have X : CX tx len n en tk tp tn A p k res s o a i0 mc mm (j + 1) (yup (yup M (A + 20 + s) 0 6) 2 2 ((j : Int) + 1)) n1 := (h0.set hA hs (q := 0) (v := 6) (by decide)).next hA hs hM1 f1
    refine (X.fin hp hs ho (by omega) e3 (Or.inr (Or.inr (Or.inr (Or.inr (Or.inl ?_))))) (fun _ => Or.inr (by rw [yup_na (by omega), yup_nk (by decide), s2]; exact hvr))).1
    rw [em_0, em_2, yup_na (by omega), yup_eq, yup_na (by omega), yup_nk (by decide), s2]
    exact ⟨rfl, rfl, rfl, by rw [yup_na (by omega), yup_na (by omega)]; exact hv, rfl⟩
  rw [if_neg t5] at h1
  rw [if_neg t5, if_pos rfl] at h2
  by_cases t40 : tk j = 40
  · rw [if_pos t40] at h1
    rw [if_pos t40, if_neg (by decide)] at h2
    replace h2 := bU_e h2
    obtain ⟨n1, e2, h2⟩ := h2
    cases h2
    replace h1 := bI_e h1
    obtain ⟨r2, m2, e1, h1⟩ := h1
    have K := cast_r (r := r1) (M' := M1) T hl hA hp hs ho ha h16 h0 t40 s2 hv hvr e1 ⟨fun z => by
      rw [if_pos z] at h1
      obtain ⟨r3, m3, e3, h1⟩ := bI_e h1
      cases h1
      exact ⟨r1, M1, e3, rfl, rfl⟩, fun z => by
      rw [if_neg z] at h1
      obtain ⟨r3, m3, e3, h1⟩ := bI_e h1
      refine ⟨r3, m3, e3, ?_⟩
      rcases ite1 h1 with ⟨z2, h1⟩ | ⟨z2, h1⟩
      · cases h1
        exact Or.inl ⟨z2, rfl, rfl⟩
      · obtain ⟨r4, m4, e4, h1⟩ := bI_e h1
        refine Or.inr ⟨z2, r4, m4, e4, ?_⟩
        rcases ite1 h1 with ⟨z3, h1⟩ | ⟨z3, h1⟩
        · cases h1
          exact Or.inl ⟨z3, rfl, rfl⟩
        · obtain ⟨r5, m5, e5, h1⟩ := bI_e h1
          refine Or.inr ⟨z3, r5, m5, e5, ?_⟩
          rcases ite1 h1 with ⟨z4, h1⟩ | ⟨z4, h1⟩
          · cases h1
            exact ⟨rfl, Or.inl ⟨z4, rfl⟩⟩
          · cases h1
            exact ⟨rfl, Or.inr ⟨z4, rfl⟩⟩⟩ e2
    obtain ⟨K1, K2, K3⟩ := K
    by_cases q : r1 = 1
    · subst q
      obtain ⟨rfl, rfl⟩ := J68_100_1 (Or.inl (by rw [(K2 rfl).2]; decide)) (h1'.2 (by decide))
      exact K1
    · obtain ⟨-, rfl⟩ := K3 q
      obtain ⟨rfl, rfl⟩ := h1'.1 rfl
      exact K1
  rw [if_neg t40] at h1
  rw [if_neg t40, if_pos rfl] at h2
  replace h1 := bI_e h1
  obtain ⟨w, m2, e1, h1⟩ := h1
  replace h2 := bI_e h2
  obtain ⟨w', n1, e2, h2⟩ := h2
  rcases h0.var T hl hA hp hs e1 e2 with ⟨rfl, rfl, hF, hF'⟩ | ⟨x, rfl, rfl, vx, X, hS, tt, e15, -⟩
  · rw [if_neg (by omega)] at h2
    cases h2
    have key : ∀ xs1, J64_161 f A (A + 20 + s) (A + 20 + s) xs1 (yup m2 (A + 20 + s) 3 (-1)) = some (r1, M1) → r1 = 0 ∧ M1 = yup (yup m2 (A + 20 + s) 3 (-1)) (A + 20 + s) 0 xs1 := by
      intro xs1 b
      unfold J64_161 at b
      rw [if_pos (by rw [yup_nk (by decide), yup_eq])] at b
      cases b
      exact ⟨rfl, rfl⟩
    obtain ⟨xs1, rfl, rfl⟩ : ∃ xs1, r1 = 0 ∧ M1 = yup (yup m2 (A + 20 + s) 3 (-1)) (A + 20 + s) 0 xs1 := by
      rcases ite1 h1 with ⟨-, h1⟩ | ⟨-, h1⟩
      · exact ⟨9, key _ h1⟩
      · exact ⟨8, key _ h1⟩
    obtain ⟨rfl, rfl⟩ := h1'.1 rfl
    exact (hF.up hA hs).up hA hs
  obtain ⟨x1, x2, x3, x4, x5, x6, x7, x8, x9, x10, x11, x12, x13⟩ := X
  have X0 : CX tx len n en tk tp tn A p k res s o a i0 mc mm (j + 1) m2 n1 := ⟨x1, x2, x3, x4, x5, x6, x7, x8, x9, x10, x11, x12, x13⟩
  rw [if_pos (by rw [x3.2.2.2.1]; decide), x3.2.2.2.2.mark T (by unfold sgn; omega)] at h2
  have hC2 : CT tk tp tn (j + 1) (yup m2 (A + 20 + s) 3 (x : Int)) := x2.fr (yup_na (by omega)) (fun b q hb => yup_na (by omega))
  rw [hC2.kind] at h1
  have hj1 := x3.le T hl
  by_cases t46 : tk (j + 1) = 46
  case neg =>
    rw [if_neg t46] at h1
    rw [if_neg t46, if_pos rfl] at h2
    unfold J64_161 at h1
    rw [if_neg (by rw [yup_nk (by decide), yup_eq]; omega), if_pos (yup_eq _ _ _ _)] at h1
    cases h1
    obtain ⟨rfl, rfl⟩ := J68_100_1 (Or.inl (by rw [yup_eq]; decide)) (h1'.2 (by decide))
    replace h2 := bI_e h2
    obtain ⟨r3, n2, e3, h2⟩ := h2
    cases h2
    refine (((X0.set hA hs (q := 3) (v := (x : Int)) (by decide)).set hA hs (q := 0) (v := 8) (by decide)).fin hp hs ho (by omega) e3 (Or.inr (Or.inr (Or.inr (Or.inr (Or.inr (Or.inr (Or.inl ?_))))))) (fun _ => Or.inr (by rw [yup_nk (by decide), yup_nk (by decide), hS, s2]; exact hvr))).1
    rw [em_0, em_2, em_3, yup_eq, yup_nk (by decide), yup_nk (by decide), yup_nk (by decide), yup_eq, hS, s2]
    exact ⟨rfl, rfl, rfl, rfl, by rw [yup_na (by omega), yup_na (by omega)]; exact hv.mono e15, by rw [yup_na (by omega), yup_na (by omega)]; exact vx, rfl⟩
  rw [if_pos t46] at h1
  rw [if_pos t46, if_neg (by decide)] at h2
  unfold J64_161 at h1
  rw [if_neg (by rw [yup_nk (by decide), yup_eq]; omega), if_neg (by rw [yup_eq]; decide)] at h1
  replace h1 := bI_e h1
  obtain ⟨r3, m3, e3, h1⟩ := h1
  have X9 := (X0.set hA hs (q := 3) (v := (x : Int)) (by decide)).set hA hs (q := 0) (v := 9) (by decide)
  replace h2 := bU_e h2
  obtain ⟨n2, e4, h2⟩ := h2
  obtain ⟨hM2, f2⟩ := x3.next T hl (by omega) e4
  rw [hM2.2.2.2.2.isName T] at h2
  have hj2 := hM2.le T hl
  have Xn := X9.next hA hs hM2 f2
  replace h2 := bI_e h2
  obtain ⟨q5, n3, e5, h2⟩ := h2
  rcases F62_r (by omega) hA X9.2.1 e3 with ⟨z, -⟩ | ⟨-, t11, rfl, rfl⟩ | ⟨-, t11, rfl, rfl⟩
  · exact absurd t46 z
  · rw [if_pos rfl] at h1
    cases h1
    obtain ⟨rfl, rfl⟩ := h1'.1 rfl
    rcases hM2.goOnP T hl (fun z => by omega) e5 with ⟨z, -⟩ | ⟨-, rfl, rfl⟩
    · exact absurd z t11
    · rw [if_pos rfl] at h2
      cases h2
      have X10 := (Xn.set hA hs (q := 4) (v := tn (j + 1 + 1)) (by decide)).set hA hs (q := 5) (v := tp (j + 1 + 1)) (by decide)
      have := X10.flt T hs
      exact this
  · rw [if_neg (by decide)] at h1
    cases h1
    replace h1' := h1'.2 (by decide)
    rcases hM2.goOnP T hl (fun z => by omega) e5 with ⟨-, rfl, hM3, f3⟩ | ⟨z, -⟩
    case inr => exact absurd t11 z
    rw [if_neg (by decide), hM3.2.2.2.2.mark T (by unfold sgn; omega)] at h2
    have hN := hM2.2.2.2.2.name (by omega) T.2.2.1
    have hP := hM2.plc T (by omega)
    have X10 := (Xn.set hA hs (q := 4) (v := tn (j + 1 + 1)) (by decide)).set hA hs (q := 5) (v := tp (j + 1 + 1)) (by decide)
    have X11 := X10.next hA hs hM3 f3
    rw [show ((j + 1 + 1 : Nat) : Int) + 1 = ((j + 1 : Nat) : Int) + 1 + 1 by omega] at X11
    obtain ⟨M5, hM5⟩ : ∃ M5, M5 = yup (yup (yup (yup (yup (yup m2 (A + 20 + s) 3 (x : Int)) (A + 20 + s) 0 9) 2 2 (((j + 1 : Nat) : Int) + 1)) (A + 20 + s) 4 (tn (j + 1 + 1))) (A + 20 + s) 5 (tp (j + 1 + 1))) 2 2 (((j + 1 : Nat) : Int) + 1 + 1) := ⟨_, rfl⟩
    rw [← hM5] at h1' X11
    have q0 : M5 (A + 20 + s) 0 = 9 := by rw [hM5, yup_na (by omega), yup_nk (by decide), yup_nk (by decide), yup_na (by omega), yup_eq]
    have q2 : M5 (A + 20 + s) 2 = v := by rw [hM5, yup_na (by omega), yup_nk (by decide), yup_nk (by decide), yup_na (by omega), yup_nk (by decide), yup_nk (by decide), hS]; exact s2
    have q3 : M5 (A + 20 + s) 3 = x := by rw [hM5, yup_na (by omega), yup_nk (by decide), yup_nk (by decide), yup_na (by omega), yup_nk (by decide), yup_eq]
    have q4 : M5 (A + 20 + s) 4 = tn (j + 1 + 1) := by rw [hM5, yup_na (by omega), yup_nk (by decide), yup_eq]
    have q5 : M5 (A + 20 + s) 5 = tp (j + 1 + 1) := by rw [hM5, yup_na (by omega), yup_eq]
    have q15 : M5 A 15 = m2 A 15 := by rw [hM5, yup_na (by omega), yup_na (by omega), yup_na (by omega), yup_na (by omega), yup_na (by omega), yup_na (by omega)]
    clear hM5
    obtain ⟨y1, y2, y3, y4, y5, y6, y7, y8, y9, y10, y11, y12, y13⟩ := X11
    have X12 : CX tx len n en tk tp tn A p k res s o a i0 mc mm (j + 1 + 1 + 1) M5 n3 := ⟨y1, y2, y3, y4, y5, y6, y7, y8, y9, y10, y11, y12, y13⟩
    by_cases tc : tk (j + 1 + 1 + 1) = 40
    · rw [if_pos tc, if_neg (by decide)] at h2
      replace h2 := bU_e h2
      obtain ⟨n4, e6, h2⟩ := h2
      cases h2
      unfold J68_100 at h1'
      rw [if_pos q0, y2.kind, if_pos tc] at h1'
      replace h1' := bI_e h1'
      obtain ⟨r6, m6, e7, h1'⟩ := h1'
      cases h1'
      exact call_r T hl hA hp hs ho (by omega) y2 y3 tc y4 y5 q2 q3 (by rw [q4]; exact hN) (by rw [q5, hP]) (by rw [hP]; exact hM2.tp0 T) y6 (Or.inr (by rw [q15]; exact hv.mono e15)) (by rw [q15]; exact vx) y12 (Or.inr hvr) y7 y8 (by omega) (by omega) y11 (by omega) y13 e7 e6
    · rw [if_neg tc, if_pos rfl] at h2
      obtain ⟨rfl, rfl⟩ := J68_100_1 (Or.inr (by rw [y2.kind]; exact tc)) h1'
      replace h2 := bI_e h2
      obtain ⟨r6, n4, e6, h2⟩ := h2
      cases h2
      refine (X12.fin hp hs ho (by omega) e6 (Or.inr (Or.inr (Or.inr (Or.inr (Or.inr (Or.inr (Or.inr ?_))))))) (fun _ => Or.inr (by rw [q2]; exact hvr))).1
      rw [em_0, em_2, em_3, em_4, q0, q2, q3, q4]
      exact ⟨rfl, rfl, rfl, rfl, by rw [q15]; exact hv.mono e15, by rw [q15]; exact vx, hN, rfl⟩
/-- the semicolon -/
theorem semi_r {f g : Nat} {r r1 : Int} {M1 N1 : yM} (T : TOK tx len n en tk tp tn) (hl : len ≤ 320) (hA : A = 256 ∨ A = 316) (hs : s < 40) (hc : 0 ≤ mm 388 p ∧ 0 ≤ mm 387 p) (h : STO tx len n en tk tp tn A p k res s o a i0 mc mm r1 M1 N1) (h1 : (r1 = 0 → r = 0 ∧ M' = M1) ∧ (r1 ≠ 0 → ∃ r2, F37 f 59 M1 = some (r2, M') ∧ ((r2 = 0 ∧ r = 0) ∨ (r2 ≠ 0 ∧ r = 1)))) (h2 : J138_101 g N1 = some N') : STO tx len n en tk tp tn A p k res s o a i0 mc mm r M' N' := by
  unfold J138_101 at h2
  rcases h with ⟨rfl, h3, h4, h5⟩ | ⟨rfl, i', a', k1, k2, k3, k4, k5, k6, k7, k8, k9, k10, k11, k12, k13, k14, k15⟩
  · obtain ⟨rfl, rfl⟩ := h1.1 rfl
    rw [if_neg (by have := h3.2; omega)] at h2
    cases h2
    exact Or.inl ⟨rfl, h3, h4, h5⟩
  · obtain ⟨r2, e1, hr⟩ := h1.2 (by decide)
    rw [if_pos (by rw [k5.2.2.2.1]; decide)] at h2
    replace h2 := bI_e h2
    obtain ⟨q1, n1, e2, h2⟩ := h2
    have hn : N' = n1 := by
      rcases ite1 h2 with ⟨-, h2⟩ | ⟨-, h2⟩ <;> (cases h2; rfl)
    subst hn
    have hi := k5.le T hl
    rcases k4.take (by omega) e1 with ⟨t1, rfl, rfl⟩ | ⟨t1, rfl, rfl⟩
    · obtain rfl : r = 1 := by
        rcases hr with ⟨z, -⟩ | ⟨-, z⟩
        · omega
        · exact z
      rcases k5.mark T hl (by unfold sgn; omega) e2 with ⟨-, -, hM1, f1⟩ | ⟨z, -⟩
      · refine Or.inr ⟨rfl, i' + 1, a', by omega, k2, k3, k4.at (by rw [yup_eq]; omega) (fun b q hb => yup_na (by omega)), hM1, k6.tok (s := s) hA (fun b q b1 b2 => yup_ne b1) hs f1, ?_, k8.u2, k9.tok f1, ?_, ?_, ?_, ?_, by rw [yup_na (by omega)]; exact k14, fun z => by rw [yup_na (by omega)] at z ⊢; exact k15 z⟩
        · exact k7.fr (fun q => yup_na (by omega)) (by rw [yup_na (by omega)]; omega) (by rw [yup_na (by omega)]; omega) (by rw [yup_na (by omega)]; omega) (by rw [yup_na (by omega)]; omega) (fun q _ => yup_na (by omega)) (fun q _ _ => f1 _ _ (by omega)) (fun q _ _ => f1 _ _ (by omega)) (fun b q hb _ _ => f1 _ _ (by omega)) (fun b q hb _ => f1 _ _ (by omega)) (fun q _ => f1 _ _ (by omega))
        · rw [yup_na (by omega)]; exact k10
        · rw [yup_na (by omega)]; exact k11
        · rw [yup_na (by omega)]; exact k12
        · rw [yup_na (by omega), yup_na (by omega)]; exact k13
      · exact absurd t1 z
    · obtain rfl : r = 0 := by
        rcases hr with ⟨-, z⟩ | ⟨z, -⟩
        · exact z
        · exact absurd rfl z
      rcases k5.mark T hl (by unfold sgn; omega) e2 with ⟨z, -⟩ | ⟨-, -, rfl⟩
      · exact absurd z t1
      · exact Or.inl ⟨rfl, Flt.mk (k5.tp0 T), (k8.fr hs).u2, (k9.fr hc.1 hc.2).w8⟩
end ST
end
section
/-! SIMPLE STATEMENTS, whole -/
section SW
variable {tx : Int → Int} {len : Int} {n : Nat} {en tk tp tn : Nat → Int} {A p k res s o a i0 j : Nat} {mc mm M N M' N' : yM}
/-- a store or a call behind a variable and its dot -/
theorem member_r {f g x : Nat} {r : Int} (T : TOK tx len n en tk tp tn) (hl : len ≤ 320) (hA : A = 256 ∨ A = 316) (hp : p ≤ 1) (hs : s < 40) (ho : o ≤ 120) (h : CX tx len n en tk tp tn A p k res s o a i0 mc mm j M N) (hij : i0 < j) (s2 : M (A + 20 + s) 2 = -1) (vx : vB (M A 15) (x : Int)) (t46 : tk j = 46) (h1 : J68_45 f A (A + 20 + s) (x : Int) 0 M = some (r, M')) (h2 : F133 g (x : Int) N = some N') : STO tx len n en tk tp tn A p k res s o a i0 mc mm r M' N' := by
  have hj := h.2.2.1.le T hl
  unfold J68_45 at h1
  rw [if_pos rfl] at h1
  replace h1 := bI_e h1
  obtain ⟨r3, m3, e3, h1⟩ := h1
  have X9 := (h.set hA hs (q := 3) (v := (x : Int)) (by decide)).set hA hs (q := 0) (v := 9) (by decide)
  unfold F133 at h2
  replace h2 := bU_e h2
  obtain ⟨n2, e4, h2⟩ := h2
  obtain ⟨hM2, f2⟩ := h.2.2.1.next T hl (by omega) e4
  rw [hM2.2.2.2.2.isName T] at h2
  have hj2 := hM2.le T hl
  have Xn := X9.next hA hs hM2 f2
  replace h2 := bI_e h2
  obtain ⟨q5, n3, e5, h2⟩ := h2
  rcases F62_r (by omega) hA X9.2.1 e3 with ⟨z, -⟩ | ⟨-, t11, rfl, rfl⟩ | ⟨-, t11, rfl, rfl⟩
  · exact absurd t46 z
  · rw [if_pos rfl] at h1
    cases h1
    rcases hM2.goOnP T hl (fun z => by omega) e5 with ⟨z, -⟩ | ⟨-, rfl, rfl⟩
    · exact absurd z t11
    · rw [if_pos rfl] at h2
      cases h2
      have X10 := (Xn.set hA hs (q := 4) (v := tn (j + 1)) (by decide)).set hA hs (q := 5) (v := tp (j + 1)) (by decide)
      exact X10.flt T hs
  · rw [if_neg (by decide)] at h1
    rcases hM2.goOnP T hl (fun z => by omega) e5 with ⟨-, rfl, hM3, f3⟩ | ⟨z, -⟩
    case inr => exact absurd t11 z
    rw [if_neg (by decide), hM3.2.2.2.2.mark T (by unfold sgn; omega)] at h2
    have hN := hM2.2.2.2.2.name (by omega) T.2.2.1
    have hP := hM2.plc T (by omega)
    have X10 := (Xn.set hA hs (q := 4) (v := tn (j + 1)) (by decide)).set hA hs (q := 5) (v := tp (j + 1)) (by decide)
    have X11 := X10.next hA hs hM3 f3
    rw [show ((j + 1 : Nat) : Int) + 1 = (j : Int) + 1 + 1 by omega] at X11
    obtain ⟨M5, hM5⟩ : ∃ M5, M5 = yup (yup (yup (yup (yup (yup M (A + 20 + s) 3 (x : Int)) (A + 20 + s) 0 9) 2 2 ((j : Int) + 1)) (A + 20 + s) 4 (tn (j + 1))) (A + 20 + s) 5 (tp (j + 1))) 2 2 ((j : Int) + 1 + 1) := ⟨_, rfl⟩
    rw [← hM5] at h1 X11
    have q0 : M5 (A + 20 + s) 0 = 9 := by rw [hM5, yup_na (by omega), yup_nk (by decide), yup_nk (by decide), yup_na (by omega), yup_eq]
    have q2 : M5 (A + 20 + s) 2 = -1 := by rw [hM5, yup_na (by omega), yup_nk (by decide), yup_nk (by decide), yup_na (by omega), yup_nk (by decide), yup_nk (by decide)]; exact s2
    have q3 : M5 (A + 20 + s) 3 = x := by rw [hM5, yup_na (by omega), yup_nk (by decide), yup_nk (by decide), yup_na (by omega), yup_nk (by decide), yup_eq]
    have q4 : M5 (A + 20 + s) 4 = tn (j + 1) := by rw [hM5, yup_na (by omega), yup_nk (by decide), yup_eq]
    have q5 : M5 (A + 20 + s) 5 = tp (j + 1) := by rw [hM5, yup_na (by omega), yup_eq]
    have q15 : M5 A 15 = M A 15 := by rw [hM5, yup_na (by omega), yup_na (by omega), yup_na (by omega), yup_na (by omega), yup_na (by omega), yup_na (by omega)]
    clear hM5
    have X12 := X11
    obtain ⟨y1, y2, y3, y4, y5, y6, y7, y8, y9, y10, y11, y12, y13⟩ := X11
    have hj3 := y3.le T hl
    unfold J68_100 at h1
    rw [if_pos q0, y2.kind] at h1
    by_cases tc : tk (j + 1 + 1) = 40
    · rw [if_pos tc, if_neg (by decide)] at h2
      rw [if_pos tc] at h1
      replace h2 := bU_e h2
      obtain ⟨n4, e6, h2⟩ := h2
      cases h2
      replace h1 := bI_e h1
      obtain ⟨r6, m6, e7, h1⟩ := h1
      cases h1
      exact call_r T hl hA hp hs ho (by omega) y2 y3 tc y4 y5 q2 q3 (by rw [q4]; exact hN) (by rw [q5, hP]) (by rw [hP]; exact hM2.tp0 T) y6 (Or.inl rfl) (by rw [q15]; exact vx) y12 (Or.inl rfl) y7 y8 (by omega) (by omega) y11 (by omega) y13 e7 e6
    · rw [if_neg tc, if_pos rfl] at h2
      rw [if_neg tc] at h1
      unfold J68_124 at h1
      rw [if_pos rfl] at h1
      replace h1 := bI_e h1
      obtain ⟨r6, m6, e7, h1⟩ := h1
      have hr : M' = m6 ∧ ((r6 = 0 ∧ r = 0) ∨ (r6 ≠ 0 ∧ r = 1)) := by
        rcases ite1 h1 with ⟨z, h1⟩ | ⟨z, h1⟩
        · cases h1
          exact ⟨rfl, Or.inl ⟨z, rfl⟩⟩
        · cases h1
          exact ⟨rfl, Or.inr ⟨z, rfl⟩⟩
      obtain ⟨rfl, hr⟩ := hr
      clear h1
      unfold F67 at e7
      rw [q3] at e7
      replace e7 := bI_e e7
      obtain ⟨r7, m7, e8, e7⟩ := e7
      have X13 := (X12.set hA hs (q := 0) (v := 3) (by decide)).set hA hs (q := 2) (v := (x : Int)) (by decide)
      replace h2 := bI_e h2
      obtain ⟨q7, n4, e9, h2⟩ := h2
      rcases X13.2.1.take (by omega) e8 with ⟨t61, rfl, rfl⟩ | ⟨t61, rfl, rfl⟩
      case inr =>
        rw [if_pos rfl] at e7
        cases e7
        obtain rfl : r = 0 := by
          rcases hr with ⟨-, z⟩ | ⟨z, -⟩
          · exact z
          · exact absurd rfl z
        rcases y3.mark T hl (by unfold sgn; omega) e9 with ⟨z, -⟩ | ⟨-, rfl, rfl⟩
        · exact absurd z t61
        · rw [if_pos rfl] at h2
          cases h2
          exact X13.flt T hs
      rw [if_neg (by decide)] at e7
      rcases y3.mark T hl (by unfold sgn; omega) e9 with ⟨-, rfl, hM4, f4⟩ | ⟨z, -⟩
      case inr => exact absurd t61 z
      rw [if_neg (by decide)] at h2
      have X14 := X13.next hA hs hM4 f4
      replace e7 := bI_e e7
      obtain ⟨w, m8, e10, e7⟩ := e7
      replace h2 := bI_e h2
      obtain ⟨w', n5, e11, h2⟩ := h2
      rcases X14.var T hl hA hp hs e10 e11 with ⟨rfl, rfl, hF, hF'⟩ | ⟨y, rfl, rfl, vy, X15, hS, -, e15, -⟩
      · rw [if_pos rfl] at e7
        cases e7
        obtain rfl : r = 0 := by
          rcases hr with ⟨-, z⟩ | ⟨z, -⟩
          · exact z
          · exact absurd rfl z
        rw [if_neg (by omega)] at h2
        cases h2
        exact hF.up hA hs
      · rw [if_neg (by omega)] at e7
        cases e7
        obtain rfl : r = 1 := by
          rcases hr with ⟨z, -⟩ | ⟨-, z⟩
          · omega
          · exact z
        rw [if_pos (by rw [X15.2.2.1.2.2.2.1]; decide)] at h2
        replace h2 := bI_e h2
        obtain ⟨q8, n6, e12, h2⟩ := h2
        cases h2
        refine ((X15.set hA hs (q := 3) (v := (y : Int)) (by decide)).fin hp hs ho (by omega) e12 (Or.inr (Or.inl ?_)) (fun z => by rw [yup_nk (by decide), hS, yup_na (by omega), yup_nk (by decide), yup_eq] at z; omega)).1
        have u0 : yup m8 (A + 20 + s) 3 (y : Int) (A + 20 + s) 0 = 3 := by rw [yup_nk (by decide), hS, yup_na (by omega), yup_nk (by decide), yup_eq]
        have u2 : yup m8 (A + 20 + s) 3 (y : Int) (A + 20 + s) 2 = x := by rw [yup_nk (by decide), hS, yup_na (by omega), yup_eq]
        have u3 : yup m8 (A + 20 + s) 3 (y : Int) (A + 20 + s) 3 = y := yup_eq _ _ _ _
        have u4 : yup m8 (A + 20 + s) 3 (y : Int) (A + 20 + s) 4 = M5 (A + 20 + s) 4 := by rw [yup_nk (by decide), hS, yup_na (by omega), yup_nk (by decide), yup_nk (by decide)]
        rw [em_0, em_2, em_3, em_4, u0, u2, u3, u4, q4]
        rw [yup_na (by omega), yup_na (by omega), yup_na (by omega), q15] at e15
        exact ⟨rfl, rfl, rfl, rfl, by rw [yup_na (by omega)]; exact vx.mono e15, by rw [yup_na (by omega)]; exact vy, hN, rfl⟩
/-- an assignment, a store or a call, with its semicolon -/
theorem simple_r {f g i : Nat} {r1 r : Int} {M1 : yM} (T : TOK tx len n en tk tp tn) (hl : len ≤ 320) (hA : A = 256 ∨ A = 316) (hp : p ≤ 1) (hs : s < 40) (ho : o ≤ 120) (ha : a ≤ 100) (h16 : mc A 16 = (s : Int) + 1) (h : CX tx len n en tk tp tn A p k res s o a i mc mm i mc mm) (s2 : mc (A + 20 + s) 2 = -1) (t9 : tk i ≠ 9) (h1 : F68 f A (A + 20 + s) mc = some (r1, M1)) (h1' : (r1 = 0 → r = 0 ∧ M' = M1) ∧ (r1 ≠ 0 → ∃ r2, F37 f 59 M1 = some (r2, M') ∧ ((r2 = 0 ∧ r = 0) ∨ (r2 ≠ 0 ∧ r = 1)))) (h2 : F138 g mm = some N') : STO tx len n en tk tp tn A p k res s o a i mc mm r M' N' := by
  have h0 := h
  obtain ⟨c1, c2, c3, c4, c5, c6, c7, c8, c9, c10, c11, c12, c13⟩ := h
  have hj := c3.le T hl
  unfold F138 at h2
  rw [c3.2.2.2.2.isReturn T, if_neg t9, if_pos rfl, c3.2.2.2.2.isName T] at h2
  replace h2 := bI_e h2
  obtain ⟨w, n1, e2, h2⟩ := h2
  unfold F68 at h1
  rw [c2.kind] at h1
  obtain ⟨pl, hpl, h1⟩ : ∃ pl : Int, ((pl = 1 ∧ tk i = 11) ∨ (pl = 0 ∧ tk i ≠ 11)) ∧ J68_14 f A (A + 20 + s) pl mc = some (r1, M1) := by
    rcases ite1 h1 with ⟨z, h1⟩ | ⟨z, h1⟩
    · exact ⟨1, Or.inl ⟨rfl, z⟩, h1⟩
    · exact ⟨0, Or.inr ⟨rfl, z⟩, h1⟩
  unfold J68_14 at h1
  replace h1 := bI_e h1
  obtain ⟨v, m1, e1, h1⟩ := h1
  rcases h0.var T hl hA hp hs e1 e2 with ⟨rfl, rfl, hF, hF'⟩ | ⟨x, rfl, rfl, vx, X, hS, tt, e15, xr⟩
  · rw [if_pos rfl] at h1
    cases h1
    obtain ⟨rfl, rfl⟩ := h1'.1 rfl
    rw [if_neg (by omega)] at h2
    cases h2
    exact hF
  rw [if_neg (by omega)] at h1
  have X0 := X
  obtain ⟨x1, x2, x3, x4, x5, x6, x7, x8, x9, x10, x11, x12, x13⟩ := X
  have hj1 := x3.le T hl
  rw [if_pos (by rw [x3.2.2.2.1]; decide), x3.2.2.2.2.mark T (by unfold sgn; omega), x3.2.2.2.2.mark T (by unfold sgn; omega)] at h2
  rw [x2.kind] at h1
  have hm1 : m1 (A + 20 + s) 2 = -1 := by rw [hS]; exact s2
  by_cases t46 : tk (i + 1) = 46
  · rw [if_pos t46, if_neg (by decide)] at h2
    replace h2 := bU_e h2
    obtain ⟨n2, e3, h2⟩ := h2
    have h1 : J68_45 f A (A + 20 + s) (x : Int) 0 m1 = some (r1, M1) := by
      rcases ite1 h1 with ⟨z, h1⟩ | ⟨z, h1⟩
      · exact h1
      · rw [if_neg (by omega)] at h1
        exact h1
    have K := member_r T hl hA hp hs ho X0 (by omega) hm1 vx t46 h1 e3
    exact semi_r T hl hA hs (by omega) K h1' h2
  rw [if_neg t46, if_pos rfl] at h2
  by_cases t61 : pl = 1 ∧ tk (i + 1) = 61
  · obtain ⟨rfl, t61⟩ := t61
    rw [if_neg (by decide), if_pos t61] at h1
    have t11 : tk i = 11 := by
      rcases hpl with ⟨-, z⟩ | ⟨z, -⟩
      · exact z
      · omega
    rw [if_pos t11, if_neg (by decide), if_pos t61, if_neg (by decide)] at h2
    unfold J138_90 at h2
    replace h2 := bI_e h2
    obtain ⟨q3, n2, e3, h2⟩ := h2
    obtain ⟨rfl, hM2, f2⟩ := goOn1 T hl x3 (by omega) e3
    rw [if_neg (by decide)] at h2
    replace h2 := bU_e h2
    obtain ⟨n3, e4, h2⟩ := h2
    unfold J68_45 at h1
    rw [if_neg (by decide), x2.1, wr_i (by omega) (by omega)] at h1
    replace h1 := bI_e h1
    obtain ⟨r4, m4, e5, h1⟩ := h1
    have X2 := (X0.set hA hs (q := 2) (v := (x : Int)) (by decide)).next hA hs hM2 f2
    have K := right_r (r := r1) (M' := M1) T hl hA hp hs ho ha h16 X2 (by omega) (by rw [yup_na (by omega), yup_eq]) (by rw [yup_na (by omega), yup_na (by omega)]; exact vx) xr e5 ⟨fun z => by
      rw [if_pos z] at h1
      cases h1
      exact ⟨rfl, rfl⟩, fun z => by
      rw [if_neg z] at h1
      exact h1⟩ e4
    exact semi_r T hl hA hs (by omega) K h1' h2
  · have h1 : J68_45 f A (A + 20 + s) (x : Int) 0 m1 = some (r1, M1) := by
      rcases ite1 h1 with ⟨z, h1⟩ | ⟨z, h1⟩
      · exact h1
      · rw [if_neg (by omega)] at h1
        exact h1
    have h2 : J138_90 g (x : Int) 0 n1 = some N' := by
      by_cases t11 : tk i = 11
      · have p1 : pl = 1 := by
          rcases hpl with ⟨z1, -⟩ | ⟨-, z1⟩
          · exact z1
          · exact absurd t11 z1
        rw [if_pos t11, if_neg (by decide), if_neg (fun z => t61 ⟨p1, z⟩), if_pos rfl] at h2
        exact h2
      · rw [if_neg t11, if_pos rfl] at h2
        exact h2
    unfold J68_45 at h1
    rw [if_pos rfl] at h1
    replace h1 := bI_e h1
    obtain ⟨r4, m4, e5, h1⟩ := h1
    have X9 := (X0.set hA hs (q := 3) (v := (x : Int)) (by decide)).set hA hs (q := 0) (v := 9) (by decide)
    rcases F62_r (by omega) hA X9.2.1 e5 with ⟨-, rfl, rfl⟩ | ⟨z, -⟩ | ⟨z, -⟩
    · rw [if_pos rfl] at h1
      cases h1
      obtain ⟨rfl, rfl⟩ := h1'.1 rfl
      unfold J138_90 at h2
      replace h2 := bI_e h2
      obtain ⟨q3, n2, e3, h2⟩ := h2
      obtain ⟨rfl, rfl⟩ := goOn0 T hl x3 e3
      rw [if_pos rfl] at h2
      unfold J138_101 at h2
      rw [yup_eq, if_neg (by have := x3.tp0 T; omega)] at h2
      cases h2
      exact X9.flt T hs
    · exact absurd z t46
    · exact absurd z t46
/-- return -/
theorem return_r {f g i : Nat} {r1 r : Int} {M1 : yM} (T : TOK tx len n en tk tp tn) (hl : len ≤ 320) (hA : A = 256 ∨ A = 316) (hp : p ≤ 1) (hs : s < 40) (ho : o ≤ 120) (h : CX tx len n en tk tp tn A p k res s o a i mc mm i mc mm) (h398 : mm 398 (10 * p + k) = res) (t9 : tk i = 9) (h1 : F60 f A (A + 20 + s) mc = some (r1, M1)) (h1' : (r1 = 0 → r = 0 ∧ M' = M1) ∧ (r1 ≠ 0 → ∃ r2, F37 f 59 M1 = some (r2, M') ∧ ((r2 = 0 ∧ r = 0) ∨ (r2 ≠ 0 ∧ r = 1)))) (h2 : F138 g mm = some N') : STO tx len n en tk tp tn A p k res s o a i mc mm r M' N' := by
  have h0 := h
  obtain ⟨c1, c2, c3, c4, c5, c6, c7, c8, c9, c10, c11, c12, c13⟩ := h
  have hj := c3.le T hl
  have hk := c4.1.2.1
  unfold F138 at h2
  rw [c3.2.2.2.2.isReturn T, if_pos t9, if_neg (by decide)] at h2
  replace h2 := bU_e h2
  obtain ⟨n1, e2, h2⟩ := h2
  obtain ⟨hM1, f1⟩ := c3.next T hl (by omega) e2
  unfold F60 at h1
  rw [c5, Int.toNat_natCast, c4.1.2.2.1, c2.1, wr_i (by omega) (by omega)] at h1
  have X1 := ((h0.set hA hs (q := 0) (v := 2) (by decide)).set hA hs (q := 2) (v := (res : Int)) (by decide)).next hA hs hM1 f1
  replace h1 := bI_e h1
  obtain ⟨v, m1, e1, h1⟩ := h1
  replace h2 := bI_e h2
  obtain ⟨w, n2, e3, h2⟩ := h2
  rcases X1.var T hl hA hp hs e1 e3 with ⟨rfl, rfl, hF, hF'⟩ | ⟨x, rfl, rfl, vx, X, hS, tt, e15, xr⟩
  · rw [if_pos rfl] at h1
    cases h1
    obtain ⟨rfl, rfl⟩ := h1'.1 rfl
    rw [if_neg (by omega)] at h2
    unfold J138_38 J138_101 at h2
    rw [if_neg (by omega)] at h2
    cases h2
    exact hF.up hA hs
  · rw [if_neg (by omega)] at h1
    cases h1
    rw [if_pos (by rw [X.2.2.1.2.2.2.1]; decide)] at h2
    replace h2 := bI_e h2
    obtain ⟨q3, n3, e4, h2⟩ := h2
    have K := ((X.set hA hs (q := 3) (v := (x : Int)) (by decide)).fin hp hs ho (by omega) e4 (Or.inl (by
      have u0 : yup m1 (A + 20 + s) 3 (x : Int) (A + 20 + s) 0 = 2 := by rw [yup_nk (by decide), hS, yup_na (by omega), yup_nk (by decide), yup_eq]
      have u1 : yup m1 (A + 20 + s) 3 (x : Int) (A + 20 + s) 1 = k := by rw [yup_nk (by decide), hS, yup_na (by omega), yup_nk (by decide), yup_nk (by decide), c5]
      have u2 : yup m1 (A + 20 + s) 3 (x : Int) (A + 20 + s) 2 = res := by rw [yup_nk (by decide), hS, yup_na (by omega), yup_eq]
      have u3 : yup m1 (A + 20 + s) 3 (x : Int) (A + 20 + s) 3 = x := yup_eq _ _ _ _
      rw [em_0, em_2, u0, u1, u2, u3, Int.toNat_natCast, em_o (by omega) (by omega)]
      have u10 : yup m1 (A + 20 + s) 3 (x : Int) A 10 = (k : Int) + 1 := by rw [yup_na (by omega)]; exact X.2.2.2.1.1.1
      rw [u10]
      refine ⟨rfl, rfl, rfl, by rw [yup_na (by omega)]; exact vx, ?_, by omega, rfl⟩
      have e398 : n2 398 (10 * p + k) = mm 398 (10 * p + k) := X.2.2.2.2.2.2.2.1 398 (10 * p + k) (by omega) (by omega) (by omega) (by omega) (by omega) (by omega) (by omega)
      rw [e398]
      exact h398.symm)) (fun z => by rw [yup_nk (by decide), hS, yup_na (by omega), yup_nk (by decide), yup_eq] at z; omega)).1
    exact semi_r T hl hA hs (by omega) K h1' h2
end SW
end
section
/-! BODIES: how statements lie at ops -/
def BRH (A p s o : Nat) (kc ko : Int) (mc mm : yM) : Prop := mc (A + 20 + s) 0 = kc ∧ mm 403 (1000 * p + 8 * o) = ko ∧ mm 403 (1000 * p + 8 * o + 1) = mc (A + 20 + s) 1 ∧ 0 ≤ mc (A + 20 + s) 1 ∧ mc (A + 20 + s) 1 < 10 ∧ mm 403 (1000 * p + 8 * o + 2) = mc (A + 20 + s) 3 ∧ vC (mc (A + 20 + s) 3)
/-- the statements s0 to s1 lie at the ops o0 to o1; the names asked for go from a0 to a1 -/
def SEG (A p : Nat) (mc mm : yM) : Nat → Nat → Nat → Nat → Nat → Nat → Nat → Prop
  | 0, s0, s1, o0, o1, a0, a1 => s0 = s1 ∧ o0 = o1 ∧ a0 = a1
  | f + 1, s0, s1, o0, o1, a0, a1 => (s0 = s1 ∧ o0 = o1 ∧ a0 = a1) ∨ ∃ s2 o2 a2 : Nat, s0 < s2 ∧ s2 ≤ s1 ∧ o0 < o2 ∧ o2 ≤ o1 ∧ a0 ≤ a2 ∧ a2 ≤ a1 ∧ mc (A + 20 + s0) 12 = s2 ∧ SEG A p mc mm f s2 s1 o2 o1 a2 a1 ∧ ((s2 = s0 + 1 ∧ o2 = o0 + 1 ∧ OPR A p s0 o0 a0 a2 mc mm) ∨ (BRH A p s0 o0 1 10 mc mm ∧ ∃ o3 : Nat, o2 = o3 + 1 ∧ o0 < o3 ∧ mc (A + 20 + s0) 11 = s2 ∧ mm 403 (1000 * p + 8 * o0 + 3) = o2 ∧ mm 403 (1000 * p + 8 * o3) = 11 ∧ mm 403 (1000 * p + 8 * o3 + 3) = o0 ∧ SEG A p mc mm f (s0 + 1) s2 (o0 + 1) o3 a0 a2) ∨ (BRH A p s0 o0 0 9 mc mm ∧ mc (A + 20 + s0) 11 = s2 ∧ mm 403 (1000 * p + 8 * o0 + 3) = o2 ∧ SEG A p mc mm f (s0 + 1) s2 (o0 + 1) o2 a0 a2) ∨ (BRH A p s0 o0 0 9 mc mm ∧ ∃ s3 o3 a3 : Nat, s0 < s3 ∧ s3 ≤ s2 ∧ o0 < o3 ∧ o3 < o2 ∧ a0 ≤ a3 ∧ a3 ≤ a2 ∧ mc (A + 20 + s0) 11 = s3 ∧ mm 403 (1000 * p + 8 * o0 + 3) = (o3 : Int) + 1 ∧ mm 403 (1000 * p + 8 * o3) = 11 ∧ mm 403 (1000 * p + 8 * o3 + 3) = o2 ∧ SEG A p mc mm f (s0 + 1) s3 (o0 + 1) o3 a0 a3 ∧ SEG A p mc mm f s3 s2 (o3 + 1) o2 a3 a2))
section SG
variable {A p : Nat} {mc mm mc' mm' : yM}
theorem SEG.ni {f s o a : Nat} : SEG A p mc mm f s s o o a a := by
  cases f with
  | zero => exact ⟨rfl, rfl, rfl⟩
  | succ f => exact Or.inl ⟨rfl, rfl, rfl⟩
theorem SEG.le : ∀ {f s0 s1 o0 o1 a0 a1 : Nat}, SEG A p mc mm f s0 s1 o0 o1 a0 a1 → s0 ≤ s1 ∧ o0 ≤ o1 ∧ a0 ≤ a1 := by
  intro f
  cases f with
  | zero => intro s0 s1 o0 o1 a0 a1 h; obtain ⟨rfl, rfl, rfl⟩ := h; omega
  | succ f =>
    intro s0 s1 o0 o1 a0 a1 h
    rcases h with ⟨rfl, rfl, rfl⟩ | ⟨s2, o2, a2, h1, h2, h3, h4, h5, h6, -⟩ <;> omega
theorem SEG.mo : ∀ {f s0 s1 o0 o1 a0 a1 : Nat}, SEG A p mc mm f s0 s1 o0 o1 a0 a1 → SEG A p mc mm (f + 1) s0 s1 o0 o1 a0 a1 := by
  intro f
  induction f with
  | zero =>
    intro s0 s1 o0 o1 a0 a1 h
    obtain ⟨rfl, rfl, rfl⟩ := h
    exact SEG.ni
  | succ f ih =>
    intro s0 s1 o0 o1 a0 a1 h
    rcases h with h | ⟨s2, o2, a2, h1, h2, h3, h4, h5, h6, h7, h8, h9⟩
    · exact Or.inl h
    · refine Or.inr ⟨s2, o2, a2, h1, h2, h3, h4, h5, h6, h7, ih h8, ?_⟩
      rcases h9 with h | ⟨g1, o3, g2, g2', g3, g4, g5, g6, g7⟩ | ⟨g1, g2, g3, g4⟩ | ⟨g1, s3, o3, a3, g2, g3, g4, g5, g6, g7, g8, g9, g10, g11, g12, g13⟩
      · exact Or.inl h
      · exact Or.inr (Or.inl ⟨g1, o3, g2, g2', g3, g4, g5, g6, ih g7⟩)
      · exact Or.inr (Or.inr (Or.inl ⟨g1, g2, g3, ih g4⟩))
      · exact Or.inr (Or.inr (Or.inr ⟨g1, s3, o3, a3, g2, g3, g4, g5, g6, g7, g8, g9, g10, g11, ih g12, ih g13⟩))
theorem SEG.mn {f g s0 s1 o0 o1 a0 a1 : Nat} (h : SEG A p mc mm f s0 s1 o0 o1 a0 a1) : SEG A p mc mm (f + g) s0 s1 o0 o1 a0 a1 := by
  induction g with
  | zero => exact h
  | succ g ih => exact ih.mo
theorem SEG.app : ∀ {f g s0 s1 s2 o0 o1 o2 a0 a1 a2 : Nat}, SEG A p mc mm f s0 s1 o0 o1 a0 a1 → SEG A p mc mm g s1 s2 o1 o2 a1 a2 → SEG A p mc mm (f + g) s0 s2 o0 o2 a0 a2 := by
  intro f
  induction f with
  | zero =>
    intro g s0 s1 s2 o0 o1 o2 a0 a1 a2 h h'
    obtain ⟨rfl, rfl, rfl⟩ := h
    rw [Nat.zero_add]
    exact h'
  | succ f ih =>
    intro g s0 s1 s2 o0 o1 o2 a0 a1 a2 h h'
    rcases h with ⟨rfl, rfl, rfl⟩ | ⟨s3, o3, a3, h1, h2, h3, h4, h5, h6, h7, h8, h9⟩
    · rw [Nat.add_comm]
      exact h'.mn
    · have l := h'.le
      rw [show f + 1 + g = (f + g) + 1 by omega]
      refine Or.inr ⟨s3, o3, a3, h1, by omega, h3, by omega, h5, by omega, h7, ih h8 h', ?_⟩
      rcases h9 with h | ⟨g1, o3, g2, g2', g3, g4, g5, g6, g7⟩ | ⟨g1, g2, g3, g4⟩ | ⟨g1, s3, o3, a3, g2, g3, g4, g5, g6, g7, g8, g9, g10, g11, g12, g13⟩
      · exact Or.inl h
      · exact Or.inr (Or.inl ⟨g1, o3, g2, g2', g3, g4, g5, g6, g7.mn⟩)
      · exact Or.inr (Or.inr (Or.inl ⟨g1, g2, g3, g4.mn⟩))
      · exact Or.inr (Or.inr (Or.inr ⟨g1, s3, o3, a3, g2, g3, g4, g5, g6, g7, g8, g9, g10, g11, g12.mn, g13.mn⟩))
theorem BRH.fr {s o : Nat} {kc ko : Int} (h : BRH A p s o kc ko mc mm) (e1 : ∀ q, mc' (A + 20 + s) q = mc (A + 20 + s) q) (e3 : ∀ q, 1000 * p + 8 * o ≤ q → q < 1000 * p + 8 * o + 3 → mm' 403 q = mm 403 q) : BRH A p s o kc ko mc' mm' := by
  unfold BRH at h ⊢
  rw [e1, e1, e1, e3 _ (by omega) (by omega), e3 _ (by omega) (by omega), e3 _ (by omega) (by omega)]
  exact h
theorem SEG.fr : ∀ {f s0 s1 o0 o1 a0 a1 : Nat}, SEG A p mc mm f s0 s1 o0 o1 a0 a1 → (∀ t q, s0 ≤ t → t < s1 → mc' (A + 20 + t) q = mc (A + 20 + t) q) → mc A 13 ≤ mc' A 13 → mc A 14 ≤ mc' A 14 → mc A 15 ≤ mc' A 15 → mc A 10 ≤ mc' A 10 → (∀ q : Nat, (q : Int) < mc A 13 → mc' (A + 9) q = mc (A + 9) q) → (∀ q, 1000 * p + 8 * o0 ≤ q → q < 1000 * p + 8 * o1 → mm' 403 q = mm 403 q) → (∀ q : Nat, q < 12 * p + 12 → (q : Int) < 12 * p + mc A 14 → mm' 400 q = mm 400 q) → (∀ b q : Nat, b = 401 ∨ b = 402 → q < 8 * p + 8 → (q : Int) < 8 * p + mc A 13 → mm' b q = mm b q) → (∀ b q, b = 381 ∨ b = 382 → q < a1 → mm' b q = mm b q) → (∀ q : Nat, (q : Int) < 10 * p + mc A 10 → mm' 398 q = mm 398 q) → SEG A p mc' mm' f s0 s1 o0 o1 a0 a1 := by
  intro f
  induction f with
  | zero => intro s0 s1 o0 o1 a0 a1 h _ _ _ _ _ _ _ _ _ _ _; exact h
  | succ f ih =>
    intro s0 s1 o0 o1 a0 a1 h e1 e13 e14 e15 e10 e2 e3 e4 e5 e6 e7
    rcases h with h | ⟨s2, o2, a2, h1, h2, h3, h4, h5, h6, h7, h8, h9⟩
    · exact Or.inl h
    · have e1' : ∀ q, mc' (A + 20 + s0) q = mc (A + 20 + s0) q := fun q => e1 s0 q (by omega) (by omega)
      have l8 := h8.le
      refine Or.inr ⟨s2, o2, a2, h1, h2, h3, h4, h5, h6, by rw [e1']; exact h7, ih h8 (fun t q t1 t2 => e1 t q (by omega) t2) e13 e14 e15 e10 e2 (fun q q1 q2 => e3 q (by omega) q2) e4 e5 e6 e7, ?_⟩
      rcases h9 with ⟨g1, g2, g3⟩ | ⟨g1, o3, g2, g2', g3, g4, g5, g6, g7⟩ | ⟨g1, g2, g3, g4⟩ | ⟨g1, s3, o3, a3, g2, g3, g4, g5, g6, g7, g8, g9, g10, g11, g12, g13⟩
      · exact Or.inl ⟨g1, g2, g3.fr e1' e13 e14 e15 e10 e2 (fun q q1 q2 => e3 q (by omega) (by omega)) e4 e5 (fun b q hb hq => e6 b q hb (by omega)) e7⟩
      · refine Or.inr (Or.inl ⟨g1.fr e1' (fun q q1 q2 => e3 q (by omega) (by omega)), o3, g2, g2', by rw [e1']; exact g3, by rw [e3 _ (by omega) (by omega)]; exact g4, by rw [e3 _ (by omega) (by omega)]; exact g5, by rw [e3 _ (by omega) (by omega)]; exact g6, ?_⟩)
        exact ih g7 (fun t q t1 t2 => e1 t q (by omega) (by omega)) e13 e14 e15 e10 e2 (fun q q1 q2 => e3 q (by omega) (by omega)) e4 e5 (fun b q hb hq => e6 b q hb (by omega)) e7
      · refine Or.inr (Or.inr (Or.inl ⟨g1.fr e1' (fun q q1 q2 => e3 q (by omega) (by omega)), by rw [e1']; exact g2, by rw [e3 _ (by omega) (by omega)]; exact g3, ?_⟩))
        exact ih g4 (fun t q t1 t2 => e1 t q (by omega) (by omega)) e13 e14 e15 e10 e2 (fun q q1 q2 => e3 q (by omega) (by omega)) e4 e5 (fun b q hb hq => e6 b q hb (by omega)) e7
      · refine Or.inr (Or.inr (Or.inr ⟨g1.fr e1' (fun q q1 q2 => e3 q (by omega) (by omega)), s3, o3, a3, g2, g3, g4, g5, g6, g7, by rw [e1']; exact g8, by rw [e3 _ (by omega) (by omega)]; exact g9, by rw [e3 _ (by omega) (by omega)]; exact g10, by rw [e3 _ (by omega) (by omega)]; exact g11, ?_, ?_⟩))
        · exact ih g12 (fun t q t1 t2 => e1 t q (by omega) (by omega)) e13 e14 e15 e10 e2 (fun q q1 q2 => e3 q (by omega) (by omega)) e4 e5 (fun b q hb hq => e6 b q hb (by omega)) e7
        · exact ih g13 (fun t q t1 t2 => e1 t q (by omega) (by omega)) e13 e14 e15 e10 e2 (fun q q1 q2 => e3 q (by omega) (by omega)) e4 e5 (fun b q hb hq => e6 b q hb (by omega)) e7
end SG
end
section
/-! BODIES: what a body's reading changes, what it leaves -/
def arC (A s : Nat) (cs : Int) (a q : Nat) : Prop := (a = 2 ∧ q = 2) ∨ (a = A ∧ 12 ≤ q ∧ q ≤ 16) ∨ a = A + 5 ∨ (a = A + 9 ∧ cs ≤ (q : Int)) ∨ (A + 20 + s ≤ a ∧ a < A + 60)
def arB (p o a d : Nat) (st cs : Int) (b q : Nat) : Prop := (b = 376 ∧ ((3 ≤ q ∧ q ≤ 7) ∨ q = 9 ∨ q = 10 ∨ q = 17)) ∨ (386 ≤ b ∧ b ≤ 390 ∧ q = p) ∨ b = 380 ∨ ((b = 381 ∨ b = 382) ∧ a ≤ q) ∨ (b = 400 ∧ 12 * (p : Int) + st ≤ q ∧ q < 12 * p + 12) ∨ ((b = 401 ∨ b = 402) ∧ 8 * (p : Int) + cs ≤ q ∧ q < 8 * p + 8) ∨ (b = 403 ∧ 1000 * p + 8 * o ≤ q ∧ q < 1000 * p + 1000) ∨ ((b = 378 ∨ b = 379) ∧ d ≤ q)
def fBc (A s : Nat) (cs : Int) (mc mc' : yM) : Prop := ∀ a q, ¬ arC A s cs a q → mc' a q = mc a q
def fBm (p o a d : Nat) (st cs : Int) (mm mm' : yM) : Prop := ∀ b q : Nat, ¬ arB p o a d st cs b q → mm' b q = mm b q
/-- between two statements of a body: the class at the token ic, the model at im -/
def BS (tx : Int → Int) (len : Int) (n : Nat) (en tk tp tn : Nat → Int) (A p k res s o a d ic im : Nat) (mc mm : yM) : Prop := CT tk tp tn ic mc ∧ MT tx len n en tk tp tn p im mm ∧ rBd A p k res o a mc mm ∧ mc A 16 = s ∧ mm 376 9 = s ∧ mm 376 10 = d ∧ mm 398 (10 * p + k) = res ∧ s ≤ 40 ∧ o ≤ 2 * s + k + 3 ∧ a ≤ s
abbrev ML (g G : Nat) (mm : yM) : Option ((Unit × yM) ⊕ (Unit × yM)) := yloop (fun (_ : Unit) ml => B139_5 g ml) G () mm
def CLo (f A : Nat) (rc : Int → yM → Option (Int × yM)) (d : Int) (F : Nat) (l : Int × Int) (m : yM) : Option (Int × yM) := bL (yloop (fun (l : Int × Int) ml => B69_19 f rc A d l.1 l.2 ml) F l m) (fun l m => J69_180 f rc A l.1 m) (fun r mr => some (r, mr))
/-- every cast that is counted has its statement, of the kind 7, below s -/
def CAS (A s : Nat) (mc : yM) : Prop := ∀ c : Nat, (c : Int) < mc A 13 → (∃ t : Nat, t < s ∧ mc (A + 9) c = t ∧ mc (A + 20 + t) 0 = 7) ∧ ∀ c2 : Nat, (c2 : Int) < mc A 13 → mc (A + 9) c2 = mc (A + 9) c → c2 = c
def CAi (A s s' : Nat) (mc mc' : yM) : Prop := CAS A s mc → CAS A s' mc'
theorem CAS.fr {A s : Nat} {mc mc' : yM} (h : CAS A s mc) (e13 : mc' A 13 = mc A 13) (e9 : ∀ q : Nat, (q : Int) < mc A 13 → mc' (A + 9) q = mc (A + 9) q) (e0 : ∀ t, t < s → mc' (A + 20 + t) 0 = mc (A + 20 + t) 0) : CAS A s mc' := by
  intro c hc
  rw [e13] at hc
  obtain ⟨⟨t, t1, t2, t3⟩, h2⟩ := h c hc
  refine ⟨⟨t, t1, by rw [e9 c hc]; exact t2, by rw [e0 t t1]; exact t3⟩, fun c2 hc2 h3 => ?_⟩
  rw [e13] at hc2
  rw [e9 c hc, e9 c2 hc2] at h3
  exact h2 c2 hc2 h3
theorem CAi.tr {A s s' s2 : Nat} {mc mc' m2 : yM} (h : CAi A s s' mc mc') (h' : CAi A s' s2 mc' m2) : CAi A s s2 mc m2 := fun z => h' (h z)
theorem CAi.fr {A s s' : Nat} {mc mc' m2 : yM} (h : CAi A s s' mc mc') (e13 : m2 A 13 = mc' A 13) (e9 : ∀ q : Nat, m2 (A + 9) q = mc' (A + 9) q) (e0 : ∀ t, t < s' → m2 (A + 20 + t) 0 = mc' (A + 20 + t) 0) : CAi A s s' mc m2 := fun z => (h z).fr e13 (fun q _ => e9 q) e0
theorem CAS.st {A s : Nat} {mc M : yM} (h : CAS A s mc) (e0 : ∀ t, t < s → M (A + 20 + t) 0 = mc (A + 20 + t) 0) (e9 : ∀ q : Nat, (q : Int) < mc A 13 → M (A + 9) q = mc (A + 9) q) (hm : M A 13 = mc A 13 ∨ (M A 13 = mc A 13 + 1 ∧ ∃ c0 : Nat, (c0 : Int) < M A 13 ∧ M (A + 9) c0 = s ∧ M (A + 20 + s) 0 = 7)) : CAS A (s + 1) M := by
  have old : ∀ c : Nat, (c : Int) < mc A 13 → ∃ t : Nat, t < s ∧ M (A + 9) c = t ∧ M (A + 20 + t) 0 = 7 := fun c hc => by
    obtain ⟨⟨t, t1, t2, t3⟩, -⟩ := h c hc
    exact ⟨t, t1, by rw [e9 c hc]; exact t2, by rw [e0 t t1]; exact t3⟩
  have inj : ∀ c c2 : Nat, (c : Int) < mc A 13 → (c2 : Int) < mc A 13 → M (A + 9) c2 = M (A + 9) c → c2 = c := fun c c2 hc hc2 h3 => by
    rw [e9 c hc, e9 c2 hc2] at h3
    exact (h c hc).2 c2 hc2 h3
  rcases hm with hm | ⟨hm, c0, k1, k2, k3⟩
  · intro c hc
    rw [hm] at hc
    obtain ⟨t, t1, t2, t3⟩ := old c hc
    refine ⟨⟨t, by omega, t2, t3⟩, fun c2 hc2 h3 => ?_⟩
    rw [hm] at hc2
    exact inj c c2 hc hc2 h3
  · have k4 : ¬ (c0 : Int) < mc A 13 := fun z => by
      obtain ⟨t, t1, t2, -⟩ := old c0 z
      omega
    intro c hc
    by_cases w : (c : Int) < mc A 13
    · obtain ⟨t, t1, t2, t3⟩ := old c w
      refine ⟨⟨t, by omega, t2, t3⟩, fun c2 hc2 h3 => ?_⟩
      by_cases w2 : (c2 : Int) < mc A 13
      · exact inj c c2 w w2 h3
      · have e : c2 = c0 := by omega
        subst e
        omega
    · have e : c = c0 := by omega
      subst e
      refine ⟨⟨s, by omega, k2, k3⟩, fun c2 hc2 h3 => ?_⟩
      by_cases w2 : (c2 : Int) < mc A 13
      · obtain ⟨t, t1, t2, t3⟩ := old c2 w2
        omega
      · omega
/-- the statements s to s' are of the method k: none of them sets its result but return -/
def OWN (A k res s s' : Nat) (mc : yM) : Prop := ∀ t : Nat, s ≤ t → t < s' → mc (A + 20 + t) 1 = k ∧ (4 ≤ mc (A + 20 + t) 0 → mc (A + 20 + t) 2 = -1 ∨ (res : Int) < mc (A + 20 + t) 2)
theorem OWN.fr {A k res s s' : Nat} {mc mc' : yM} (h : OWN A k res s s' mc) (e : ∀ t q : Nat, s ≤ t → t < s' → q ≤ 2 → mc' (A + 20 + t) q = mc (A + 20 + t) q) : OWN A k res s s' mc' := fun t t1 t2 => by
  rw [e t 0 t1 t2 (by omega), e t 1 t1 t2 (by omega), e t 2 t1 t2 (by omega)]
  exact h t t1 t2
theorem OWN.app {A k res s s' s2 : Nat} {mc : yM} (h : OWN A k res s s' mc) (h' : OWN A k res s' s2 mc) : OWN A k res s s2 mc := fun t t1 t2 => by
  by_cases z : t < s'
  · exact h t t1 z
  · exact h' t (by omega) t2
/-- a body is read: refused at the same place, or the model stands at its } -/
def BO (tx : Int → Int) (len : Int) (n : Nat) (en tk tp tn : Nat → Int) (A p k res s o a d : Nat) (mc mm : yM) (g : Nat) (rr : (Unit × yM) ⊕ (Unit × yM)) (r : Int) (mc' : yM) : Prop :=
  (r = 0 ∧ ∃ mm' : yM, rr = Sum.inl ((), mm') ∧ Flt mc' mm' ∧ FrC A mc mc' ∧ FrM p mm mm') ∨ (r = 1 ∧ ∃ (i' s' o' a' G fu : Nat) (mm' : yM), ML g G mm' = some rr ∧ tk i' = 125 ∧ BS tx len n en tk tp tn A p k res s' o' a' d (i' + 1) i' mc' mm' ∧ s ≤ s' ∧ SEG A p mc' mm' fu s s' o o' a a' ∧ o' ≤ o + 2 * (s' - s) ∧ a' ≤ a + (s' - s) ∧ fBc A s (mc A 13) mc mc' ∧ fBm p o a d (mm 388 p) (mm 387 p) mm mm' ∧ mc A 13 ≤ mc' A 13 ∧ mc A 14 ≤ mc' A 14 ∧ mc 2 2 ≤ mc' 2 2 ∧ mc A 15 ≤ mc' A 15 ∧ CAi A s s' mc mc' ∧ OWN A k res s s' mc')
/-- a statement of a body is read -/
def SO (tx : Int → Int) (len : Int) (n : Nat) (en tk tp tn : Nat → Int) (A p k res s o a d : Nat) (mc mm : yM) (g : Nat) (rr : (Unit × yM) ⊕ (Unit × yM)) (x : Int) (M : yM) : Prop :=
  (x = 0 ∧ ∃ mm' : yM, rr = Sum.inl ((), mm') ∧ Flt M mm' ∧ FrC A mc M ∧ FrM p mm mm') ∨ (x = 1 ∧ ∃ (i' s' o' a' G fu : Nat) (N : yM), ML g G N = some rr ∧ BS tx len n en tk tp tn A p k res s' o' a' d i' i' M N ∧ s < s' ∧ SEG A p (yup M (A + 20 + s) 12 s') N fu s s' o o' a a' ∧ o' ≤ o + 2 * (s' - s) ∧ a' ≤ a + (s' - s) ∧ fBc A s (mc A 13) mc M ∧ fBm p o a d (mm 388 p) (mm 387 p) mm N ∧ mc A 13 ≤ M A 13 ∧ mc A 14 ≤ M A 14 ∧ mc 2 2 ≤ M 2 2 ∧ mc A 15 ≤ M A 15 ∧ CAi A s s' mc M ∧ OWN A k res s s' M)
theorem yloop_s {α γ : Type} {B : α → yM → Option ((α × yM) ⊕ ((α × yM) ⊕ (γ × yM)))} {f : Nat} {l : α} {m : yM} {r : (α × yM) ⊕ (γ × yM)} (h : yloop B f l m = some r) : ∃ f', f = f' + 1 ∧ ((∃ l' m', B l m = some (.inl (l', m')) ∧ yloop B f' l' m' = some r) ∨ B l m = some (.inr r)) := by
  cases f with
  | zero => exact absurd h (by simp [yloop])
  | succ f =>
    refine ⟨f, rfl, ?_⟩
    unfold yloop at h
    split at h
    · cases h
    · exact Or.inl ⟨_, _, by assumption, h⟩
    · cases h
      exact Or.inr (by assumption)
section BD
variable {tx : Int → Int} {len : Int} {n : Nat} {en tk tp tn : Nat → Int} {A p k res s o a d : Nat} {mc mm mc' mm' M N M' N' : yM} {cs st : Int}
theorem arC.mono {s' b q : Nat} {cs' : Int} (h : arC A s' cs' b q) (h1 : s ≤ s') (h2 : cs ≤ cs') : arC A s cs b q := by
  rcases h with e | e | e | e | e
  · exact Or.inl e
  · exact Or.inr (Or.inl e)
  · exact Or.inr (Or.inr (Or.inl e))
  · exact Or.inr (Or.inr (Or.inr (Or.inl ⟨e.1, by omega⟩)))
  · exact Or.inr (Or.inr (Or.inr (Or.inr (⟨by omega, e.2⟩))))
theorem arB.mono {o' a' d' b q : Nat} {st' cs' : Int} (h : arB p o' a' d' st' cs' b q) (h1 : o ≤ o') (h2 : a ≤ a') (h3 : d ≤ d') (h4 : st ≤ st') (h5 : cs ≤ cs') : arB p o a d st cs b q := by
  rcases h with e | e | e | e | e | e | e | e
  · exact Or.inl e
  · exact Or.inr (Or.inl e)
  · exact Or.inr (Or.inr (Or.inl e))
  · exact Or.inr (Or.inr (Or.inr (Or.inl ⟨e.1, by omega⟩)))
  · exact Or.inr (Or.inr (Or.inr (Or.inr (Or.inl ⟨e.1, by omega, e.2.2⟩))))
  · exact Or.inr (Or.inr (Or.inr (Or.inr (Or.inr (Or.inl ⟨e.1, by omega, e.2.2⟩)))))
  · exact Or.inr (Or.inr (Or.inr (Or.inr (Or.inr (Or.inr (Or.inl ⟨e.1, by omega, e.2.2⟩))))))
  · exact Or.inr (Or.inr (Or.inr (Or.inr (Or.inr (Or.inr (Or.inr (⟨e.1, by omega⟩)))))))
theorem arB.toM {b q : Nat} (h : arB p o a d st cs b q) (h1 : 0 ≤ st) (h2 : 0 ≤ cs) : arM p b q := by
  rcases h with e | e | e | e | e | e | e | e
  · exact Or.inl ⟨e.1, by omega⟩
  · exact Or.inr (Or.inr (Or.inl ⟨by omega, by omega, e.2.2⟩))
  · exact Or.inr (Or.inl ⟨by omega, by omega⟩)
  · exact Or.inr (Or.inl ⟨by omega, by omega⟩)
  · exact Or.inr (Or.inr (Or.inr (Or.inr (Or.inr (Or.inr (Or.inr (Or.inl ⟨e.1, by omega, by omega⟩)))))))
  · exact Or.inr (Or.inr (Or.inr (Or.inr (Or.inr (Or.inr (Or.inr (Or.inr (Or.inl ⟨e.1, by omega, by omega⟩))))))))
  · exact Or.inr (Or.inr (Or.inr (Or.inr (Or.inr (Or.inr (Or.inr (Or.inr (Or.inr (⟨e.1, by omega, by omega⟩)))))))))
  · exact Or.inr (Or.inl ⟨by omega, by omega⟩)
theorem fBc.rf : fBc A s cs mc mc := fun _ _ _ => rfl
theorem fBm.rf : fBm p o a d st cs mm mm := fun _ _ _ => rfl
theorem fBc.tr {s' : Nat} {cs' : Int} (h : fBc A s cs mc M) (h' : fBc A s' cs' M M') (h1 : s ≤ s') (h2 : cs ≤ cs') : fBc A s cs mc M' := fun b q hb => (h' b q (fun e => hb (e.mono h1 h2))).trans (h b q hb)
theorem fBm.tr {o' a' d' : Nat} {st' cs' : Int} (h : fBm p o a d st cs mm N) (h' : fBm p o' a' d' st' cs' N N') (h1 : o ≤ o') (h2 : a ≤ a') (h3 : d ≤ d') (h4 : st ≤ st') (h5 : cs ≤ cs') : fBm p o a d st cs mm N' := fun b q hb => (h' b q (fun e => hb (e.mono h1 h2 h3 h4 h5))).trans (h b q hb)
theorem fBc.up {b q : Nat} {v : Int} (h : fBc A s cs mc M) (hq : arC A s cs b q) : fBc A s cs mc (yup M b q v) := fun b' q' hb => by
  rw [yup_ne (by rintro ⟨rfl, rfl⟩; exact hb hq)]
  exact h b' q' hb
theorem fBm.up {b q : Nat} {v : Int} (h : fBm p o a d st cs mm N) (hq : arB p o a d st cs b q) : fBm p o a d st cs mm (yup N b q v) := fun b' q' hb => by
  rw [yup_ne (by rintro ⟨rfl, rfl⟩; exact hb hq)]
  exact h b' q' hb
theorem fBm.tok (h : fBm p o a d st cs mm N) (f : ∀ b q, ¬ (b = 376 ∧ 3 ≤ q ∧ q ≤ 7) → N' b q = N b q) : fBm p o a d st cs mm N' := fun b q hb => by
  rw [f b q (fun e => hb (by unfold arB; omega))]
  exact h b q hb
theorem fBm.em {o1 : Nat} {x1 x2 x3 x4 : Int} (h : fBm p o a d st cs mm N) (h1 : o ≤ o1) (h2 : o1 ≤ 120) : fBm p o a d st cs mm (emM p o1 k x1 x2 x3 x4 N) := fun b q hb => by
  rw [em_o (fun e => hb (by unfold arB; omega)) (fun e => hb (by unfold arB; omega))]
  exact h b q hb
theorem fSc.b (h : fSc A s cs mc M) (hs : s < 40) : fBc A s cs mc M := fun b q hb => h b q (fun e => hb (by unfold arC; omega)) (fun e => hb (by unfold arC; omega)) (fun e => hb (by unfold arC; omega)) (fun e => hb (by unfold arC; omega)) (fun e => hb (by unfold arC; omega))
theorem fSm.b (h : fSm p o a st cs mm N) : fBm p o a d st cs mm N := fun b q hb => h b q (fun e => hb (Or.inl ⟨e.1, by omega⟩)) (fun e => hb (Or.inr (Or.inl e))) (fun e => hb (Or.inr (Or.inr (Or.inl e)))) (fun e => hb (Or.inr (Or.inr (Or.inr (Or.inl e))))) (fun e => hb (Or.inr (Or.inr (Or.inr (Or.inr (Or.inl e)))))) (fun e => hb (Or.inr (Or.inr (Or.inr (Or.inr (Or.inr (Or.inl e))))))) (fun e => hb (Or.inr (Or.inr (Or.inr (Or.inr (Or.inr (Or.inr (Or.inl e))))))))
theorem fBc.F (h : fBc A s cs mc M) : FrC A mc M := fun b q h1 h2 => h b q (fun e => by unfold arC at e; omega)
theorem fBm.F (h : fBm p o a d st cs mm N) (h1 : 0 ≤ st) (h2 : 0 ≤ cs) : FrM p mm N := fun b q hb => h b q (fun e => hb (e.toM h1 h2))
/-- what lies before is kept by what is read behind it -/
theorem SEG.kp {fu s0 s1 o0 o1 a0 a1 : Nat} (hA : A = 256 ∨ A = 316) (h : SEG A p mc mm fu s0 s1 o0 o1 a0 a1) (hB : s1 ≤ 40) (fc : fBc A s1 (mc A 13) mc mc') (fm : fBm p o1 a1 d (mm 388 p) (mm 387 p) mm mm') (e1 : mm 388 p = mc A 14) (e2 : mm 387 p = mc A 13) (m13 : mc A 13 ≤ mc' A 13) (m14 : mc A 14 ≤ mc' A 14) (m15 : mc A 15 ≤ mc' A 15) : SEG A p mc' mm' fu s0 s1 o0 o1 a0 a1 :=
  h.fr (fun t q t1 t2 => fc _ _ (by unfold arC; omega)) m13 m14 m15 (Int.le_of_eq (fc A 10 (by unfold arC; omega)).symm) (fun q hq => fc _ _ (by unfold arC; omega)) (fun q q1 q2 => fm _ _ (by unfold arB; omega)) (fun q q1 q2 => fm _ _ (by unfold arB; omega)) (fun b q hb q1 q2 => fm _ _ (by unfold arB; omega)) (fun b q hb q1 => fm _ _ (by unfold arB; omega)) (fun q _ => fm _ _ (by unfold arB; omega))
theorem BS.co {ic im : Nat} (h : BS tx len n en tk tp tn A p k res s o a d ic im mc mm) : mm 388 p = mc A 14 ∧ mm 387 p = mc A 13 ∧ 0 ≤ mc A 13 ∧ 0 ≤ mc A 14 ∧ k < 10 := by
  have h1 := h.2.2.1.2.1
  have h2 := h.2.2.1.1.2.1
  unfold rCo at h1
  omega
/-- a statement, and the body behind it -/
theorem BO.cons {g s' o' a' fu i' : Nat} {rr : (Unit × yM) ⊕ (Unit × yM)} {r : Int} (hA : A = 256 ∨ A = 316) (h0 : 0 ≤ mm 388 p ∧ 0 ≤ mm 387 p) (hS : BS tx len n en tk tp tn A p k res s' o' a' d i' i' M N) (hs : s ≤ s') (hG : SEG A p M N fu s s' o o' a a') (ho : o' ≤ o + 2 * (s' - s)) (ha : a' ≤ a + (s' - s)) (fc : fBc A s (mc A 13) mc M) (fm : fBm p o a d (mm 388 p) (mm 387 p) mm N) (m13 : mc A 13 ≤ M A 13) (m14 : mc A 14 ≤ M A 14) (m22 : mc 2 2 ≤ M 2 2) (m15 : mc A 15 ≤ M A 15) (hca : CAi A s s' mc M) (hOw : OWN A k res s s' M) (e0 : mm 388 p = mc A 14 ∧ mm 387 p = mc A 13) (h : BO tx len n en tk tp tn A p k res s' o' a' d M N g rr r mc') : BO tx len n en tk tp tn A p k res s o a d mc mm g rr r mc' := by
  have l := hG.le
  have hc := hS.co
  rcases h with ⟨h1, mm', h2, h3, h4, h5⟩ | ⟨h1, i2, s2, o2, a2, G, fu2, mm', h2, h3, h4, h5, h6, h7, h8, h9, h10, h11, h12, h13, h14, h15, h16⟩
  · exact Or.inl ⟨h1, mm', h2, h3, fc.F.tr h4, (fm.F h0.1 h0.2).tr h5⟩
  · have hs40 : s' ≤ 40 := hS.2.2.2.2.2.2.2.1
    refine Or.inr ⟨h1, i2, s2, o2, a2, G, fu + fu2, mm', h2, h3, h4, by omega, (hG.kp hA hs40 h9 h10 hc.1 hc.2.1 h11 h12 h14).app h6, by omega, by omega, fc.tr h9 hs m13, fm.tr h10 l.2.1 l.2.2 (by omega) (by omega) (by omega), by omega, by omega, by omega, by omega, hca.tr h15, (hOw.fr (fun t q _ t2 _ => h9 _ _ (by unfold arC; omega))).app h16⟩
theorem CLo.z {f F : Nat} {rc : Int → yM → Option (Int × yM)} {x r dd : Int} (h : CLo f A rc dd F (0, x) M = some (r, mc')) : r = 0 ∧ mc' = M := by
  unfold CLo at h
  have hB : B69_19 f rc A dd 0 x M = some (.inr (.inl ((0, x), M))) := by
    unfold B69_19
    split
    · rfl
    · rw [if_pos rfl]
  rcases bL_e h with ⟨l, m1, e1, e2⟩ | ⟨r1, m1, e1, e2⟩
  · obtain ⟨f', -, ⟨l', m', e3, -⟩ | e3⟩ := yloop_s e1
    · rw [hB] at e3; cases e3
    · rw [hB] at e3; cases e3
      unfold J69_180 at e2
      rw [if_pos rfl] at e2
      cases e2
      exact ⟨rfl, rfl⟩
  · obtain ⟨f', -, ⟨l', m', e3, -⟩ | e3⟩ := yloop_s e1
    · rw [hB] at e3; cases e3
    · rw [hB] at e3; cases e3
theorem ML.w {g G : Nat} {rr : (Unit × yM) ⊕ (Unit × yM)} (h : ML g G mm = some rr) (hw : 0 ≤ mm 376 8) : rr = .inl ((), mm) := by
  have hB : B139_5 g mm = some (.inr (.inl ((), mm))) := by
    unfold B139_5
    rw [if_neg (by omega)]
  obtain ⟨f', -, ⟨l', m', e3, -⟩ | e3⟩ := yloop_s h
  · rw [hB] at e3; cases e3
  · rw [hB] at e3; cases e3
    rfl
theorem OPR.s12 {a' : Nat} {v : Int} (hs : s < 40) (h : OPR A p s o a a' M N) : OPR A p s o a a' (yup M (A + 20 + s) 12 v) N := by
  have e : ∀ q, q ≠ 12 → yup M (A + 20 + s) 12 v (A + 20 + s) q = M (A + 20 + s) q := fun q hq => yup_nk hq
  have e9 : ∀ q, yup M (A + 20 + s) 12 v (A + 9) q = M (A + 9) q := fun q => yup_na (by omega)
  have eA : ∀ q, yup M (A + 20 + s) 12 v A q = M A q := fun q => yup_na (by omega)
  unfold OPR OPK at h ⊢
  rw [e 0 (by decide), e 1 (by decide), e 2 (by decide), e 3 (by decide), e 4 (by decide), e 5 (by decide), e 6 (by decide), e 8 (by decide), e 9 (by decide), e 10 (by decide), e9, eA 10, eA 13, eA 14, eA 15]
  exact h
/-- the class takes a row for the statement, the model counts it -/
theorem BS.cx {f i : Nat} (hA : A = 256 ∨ A = 316) (h : BS tx len n en tk tp tn A p k res s o a d i i mc mm) (hs : s < 40) {mc1 mm1 : yM} (e1 : mc1 = yup (yup (yup (yup mc (A + 20 + s) 1 k) (A + 20 + s) 2 (-1)) (A + 20 + s) 8 0) A 16 ((s : Int) + 1)) (e2 : mm1 = yup mm 376 9 ((s : Int) + 1)) : F56 f A mc = some (A + 20 + s, mc1) ∧ CX tx len n en tk tp tn A p k res s o a i mc1 mm1 i mc1 mm1 ∧ mc1 A 16 = (s : Int) + 1 ∧ mc1 (A + 20 + s) 2 = -1 ∧ fBc A s (mc A 13) mc mc1 ∧ (∀ q, q ≠ 16 → mc1 A q = mc A q) := by
  have hc := h.co
  obtain ⟨h1, h2, h3, h4, h5, h6, h7, h8, h9, h10⟩ := h
  have k1 : mc A 10 = (k : Int) + 1 := h3.1.1
  have c0 : ∀ b q, b ≠ A + 20 + s → ¬ (b = A ∧ q = 16) → mc1 b q = mc b q := fun b q b1 b2 => by
    rw [e1, yup_ne b2, yup_na b1, yup_na b1, yup_na b1]
  have m0 : ∀ b q, ¬ (b = 376 ∧ q = 9) → mm1 b q = mm b q := fun b q b1 => by
    rw [e2, yup_ne b1]
  have hB1 : rBd A p k res o a mc1 mm1 := h3.fr hA (fun q q1 q2 => c0 _ _ (by omega) (by omega)) (c0 _ _ (by omega) (by omega)) (fun q => c0 _ _ (by omega) (by omega)) (fun b q hb => m0 _ _ (by omega))
  refine ⟨?_, ⟨by omega, h1.fr (c0 _ _ (by omega) (by omega)) (fun b q hb => c0 _ _ (by omega) (by omega)), h2.fr (fun q hq => m0 _ _ (by omega)) (fun q => m0 _ _ (by omega)), hB1, ?_, ?_, fSc.rf, fSm.rf, ?_, ?_, by omega, by omega, by omega⟩, ?_, ?_, ?_, fun q hq => c0 _ _ (by omega) (by omega)⟩
  · unfold F56
    rw [h4, k1, Int.toNat_natCast, wr_i (x := (k : Int) + 1 - 1) (by omega) (by omega), wr_i (x := (s : Int) + 1) (by omega) (by omega), show (k : Int) + 1 - 1 = k by omega, e1]
  · rw [e1, yup_na (by omega), yup_nk (by decide), yup_nk (by decide), yup_eq]
  · rw [e1, yup_na (by omega), yup_eq]
  · rw [m0 388 p (by omega), c0 A 14 (by omega) (by omega)]; omega
  · rw [m0 387 p (by omega), c0 A 13 (by omega) (by omega)]; omega
  · rw [e1, yup_eq]
  · rw [e1, yup_na (by omega), yup_nk (by decide), yup_eq]
  · exact fun b q hb => c0 b q (fun e => hb (by unfold arC; omega)) (fun e => hb (by unfold arC; omega))
/-- a simple statement within its body -/
theorem STO.so {g G i : Nat} {rr : (Unit × yM) ⊕ (Unit × yM)} {r : Int} (hA : A = 256 ∨ A = 316) (h : BS tx len n en tk tp tn A p k res s o a d i i mc mm) (hs : s < 40) {mc1 mm1 : yM} (hX : CX tx len n en tk tp tn A p k res s o a i mc1 mm1 i mc1 mm1) (h16 : mc1 A 16 = (s : Int) + 1) (fc : fBc A s (mc A 13) mc mc1) (eA : ∀ q, q ≠ 16 → mc1 A q = mc A q) (e2 : mm1 = yup mm 376 9 ((s : Int) + 1)) (hO : STO tx len n en tk tp tn A p k res s o a i mc1 mm1 r M N) (hL : ML g G N = some rr) : SO tx len n en tk tp tn A p k res s o a d mc mm g rr r M := by
  have hc := h.co
  obtain ⟨h1, h2, h3, h4, h5, h6, h7, h8, h9, h10⟩ := h
  have m0 : ∀ b q, ¬ (b = 376 ∧ q = 9) → mm1 b q = mm b q := fun b q b1 => by
    rw [e2, yup_ne b1]
  have fm : fBm p o a d (mm 388 p) (mm 387 p) mm mm1 := fun b q hb => m0 b q (fun e => hb (by unfold arB; omega))
  rcases hO with ⟨r0, hF, f1, f2⟩ | ⟨r1, i', a', i1, a1, a2, hC, hM, hB, hP, f1, f2, m14, m13, m15, m7, mo1, mo2⟩
  · exact Or.inl ⟨r0, N, ML.w hL hF.2, hF, fc.F.tr f1, (fm.F (by omega) (by omega)).tr f2⟩
  · rw [eA 13 (by decide)] at f1 m13
    rw [eA 14 (by decide)] at m14
    rw [eA 15 (by decide)] at m15
    rw [eA 13 (by decide)] at m7
    have hca : CAi A s (s + 1) mc M := fun z => z.st (fun t ht => by rw [f1 _ _ (by omega) (by omega) (by omega) (by omega) (by omega)]; exact fc _ _ (by unfold arC; omega)) (fun q hq => by rw [f1 _ _ (by omega) (by omega) (by omega) (by omega) (by omega)]; exact fc _ _ (by unfold arC; omega)) (m7.imp id (fun y => ⟨y.1, by
      have hK := hP.2.2.2
      have y2 := y.2
      unfold OPK at hK
      rcases hK with h | h | h | h | h | h | h | h
      case inr.inr.inr.inr.inr.inl =>
        obtain ⟨-, -, -, -, -, -, w1, -, w2, w3, -⟩ := h
        exact ⟨(N 403 (1000 * p + 8 * o + 4)).toNat, by omega, w3, y2⟩
      all_goals (have := h.1; omega)⟩))
    rw [m0 388 p (by omega), m0 387 p (by omega)] at f2
    have hOw : OWN A k res s (s + 1) M := fun t t1 t2 => by
      have e : t = s := by omega
      rw [e]
      exact ⟨mo1, mo2⟩
    have e16 : M A 16 = (s : Int) + 1 := by rw [f1 A 16 (by omega) (by omega) (by omega) (by omega) (by omega)]; exact h16
    have q9 : N 376 9 = (s : Int) + 1 := by rw [f2 376 9 (by omega) (by omega) (by omega) (by omega) (by omega) (by omega) (by omega), e2, yup_eq]
    have q10 : N 376 10 = d := by rw [f2 376 10 (by omega) (by omega) (by omega) (by omega) (by omega) (by omega) (by omega), m0 376 10 (by omega)]; exact h6
    have q398 : N 398 (10 * p + k) = res := by rw [f2 398 (10 * p + k) (by omega) (by omega) (by omega) (by omega) (by omega) (by omega) (by omega), m0 398 _ (by omega)]; exact h7
    refine Or.inr ⟨r1, i', s + 1, o + 1, a', G, 1, N, hL, ⟨hC, hM, hB, by rw [e16]; omega, by rw [q9]; omega, q10, q398, by omega, by omega, by omega⟩, by omega, ?_, by omega, by omega, fc.tr (f1.b hs) (by omega) (by omega), fm.tr (f2.b (d := d)) (by omega) (by omega) (by omega) (by omega) (by omega), m13, m14, by rw [h1.1, hC.1]; omega, m15, hca, hOw⟩
    exact Or.inr ⟨s + 1, o + 1, a', by omega, by omega, by omega, by omega, by omega, by omega, by rw [yup_eq], SEG.ni, Or.inl ⟨rfl, rfl, hP.s12 hs⟩⟩
end BD
end
section
/-! BRANCHES -/
section BR
variable {tx : Int → Int} {len : Int} {n : Nat} {en tk tp tn : Nat → Int} {A p k res s o a d : Nat} {mc mm mc' mm' M N M' N' : yM} {cs st : Int}
def PB (tx : Int → Int) (len : Int) (n : Nat) (en tk tp tn : Nat → Int) (A p k res f g gr : Nat) : Prop := ∀ (s o a d i G : Nat) (r : Int) (mc mm mc' : yM) (rr : (Unit × yM) ⊕ (Unit × yM)), d ≤ 3 → CT tk tp tn i mc → tk i = 123 → BS tx len n en tk tp tn A p k res s o a d (i + 1) (i + 1) (yup mc 2 2 ((i : Int) + 1)) mm → F69 f A gr (d : Int) mc = some (r, mc') → ML g G mm = some rr → BO tx len n en tk tp tn A p k res s o a d (yup mc 2 2 ((i : Int) + 1)) mm g rr r mc'
theorem F69_no {f gr i : Nat} {r dd : Int} (hi : (i : Int) ≤ 400) (hC : CT tk tp tn i mc) (hb : tk i ≠ 123 ∨ 3 < dd) (h : F69 f A gr dd mc = some (r, mc')) : r = 0 ∧ mc' = yup mc 2 4 (tp i) := by
  cases gr with
  | zero => cases h
  | succ gr =>
    change G69 f (F69 f A gr) A dd mc = some (r, mc') at h
    unfold G69 at h
    rcases ite1 h with ⟨q, h⟩ | ⟨q, h⟩
    · replace h := bI_e h
      obtain ⟨r1, m1, e1, h⟩ := h
      unfold F43 at e1
      rw [hC.plc] at e1
      cases e1
      cases h
      exact ⟨rfl, rfl⟩
    · replace h := bI_e h
      obtain ⟨r1, m1, e1, h⟩ := h
      rcases hC.take hi e1 with ⟨t1, -, -⟩ | ⟨t1, rfl, rfl⟩
      · rcases hb with z | z
        · exact absurd t1 z
        · exact absurd z q
      · exact CLo.z (F := f) (x := 0) h
theorem F69_go {f gr i : Nat} {r dd : Int} (hi : (i : Int) ≤ 400) (hC : CT tk tp tn i mc) (ht : tk i = 123) (hd : dd ≤ 3) (h : F69 f A (gr + 1) dd mc = some (r, mc')) : CLo f A (F69 f A gr) dd f (1, 0) (yup mc 2 2 ((i : Int) + 1)) = some (r, mc') := by
  change G69 f (F69 f A gr) A dd mc = some (r, mc') at h
  unfold G69 at h
  rw [if_neg (by omega)] at h
  replace h := bI_e h
  obtain ⟨r1, m1, e1, h⟩ := h
  rcases hC.take hi e1 with ⟨-, rfl, rfl⟩ | ⟨t1, -, -⟩
  · exact h
  · exact absurd ht t1
theorem F128_r {g o1 : Nat} (hp : p ≤ 1) (h18 : N 376 18 = 1 - (p : Int)) (ho : o1 ≤ 120) (h : F128 g (o1 : Int) N = some N') : N' = yup N 403 (1000 * p + 8 * o1 + 3) (N 390 p) := by
  unfold F128 at h
  have hF : F96 N = p := by unfold F96; rw [h18, wr_i (by omega) (by omega)]; omega
  rw [hF, Int.toNat_natCast, wr_i (x := 1000 * (p : Int)) (by omega) (by omega), wr_i (x := 8 * (o1 : Int)) (by omega) (by omega), wr_i (x := 1000 * (p : Int) + 8 * o1) (by omega) (by omega), wr_i (x := 1000 * (p : Int) + 8 * o1 + 3) (by omega) (by omega), show (1000 * (p : Int) + 8 * o1 + 3).toNat = 1000 * p + 8 * o1 + 3 by omega] at h
  cases h
  rfl
/-- the model at a block's end -/
theorem ML.shut {g G i : Nat} {rr : (Unit × yM) ⊕ (Unit × yM)} (T : TOK tx len n en tk tp tn) (hM : MT tx len n en tk tp tn p i N) (ht : tk i = 125) (hd : N 376 10 = (d : Int) + 1) (h : ML g G N = some rr) : ∃ G' n1, F129 g N = some n1 ∧ ML g G' n1 = some rr := by
  obtain ⟨f', -, ⟨l', m', e3, e4⟩ | e3⟩ := yloop_s h
  · refine ⟨f', m', ?_, e4⟩
    have e3 : B139_5 g N = some (.inl (l', m')) := e3
    unfold B139_5 at e3
    rw [if_pos (by rw [hM.2.2.2.1]; decide), hM.2.2.2.2.mark T (by unfold sgn; omega), if_pos ht, if_neg (by decide), if_neg (by omega)] at e3
    replace e3 := bU_e e3
    obtain ⟨n1, e5, e6⟩ := e3
    cases e6
    exact e5
  · exfalso
    have e3 : B139_5 g N = some (.inr rr) := e3
    unfold B139_5 at e3
    rw [if_pos (by rw [hM.2.2.2.1]; decide), hM.2.2.2.2.mark T (by unfold sgn; omega), if_pos ht, if_neg (by decide), if_neg (by omega)] at e3
    replace e3 := bU_e e3
    obtain ⟨n1, e5, e6⟩ := e3
    cases e6
/-- a block is opened on both sides, or refused at the same place. b: its kind, w: its op -/
theorem open_r {f g gr j G : Nat} {x : Nat} {r w b : Int} {rr : (Unit × yM) ⊕ (Unit × yM)} {mc1 mm1 n1 : yM} (T : TOK tx len n en tk tp tn) (hl : len ≤ 320) (hA : A = 256 ∨ A = 316) (hp : p ≤ 1) (hs : s < 40) (hd : d ≤ 3) (ho : o ≤ 2 * s + k + 3) (ha : a ≤ s) (hB : PB tx len n en tk tp tn A p k res f g gr) {i0 : Nat} (hX : CX tx len n en tk tp tn A p k res s o a i0 mc1 mm1 j M N) (h16 : M A 16 = (s : Int) + 1) (h9 : N 376 9 = (s : Int) + 1) (h10 : N 376 10 = d) (h398 : N 398 (10 * p + k) = res) (h1 : F69 f A gr ((d : Int) + 1) M = some (r, M')) (hw : (w = 0 ∧ b = 0) ∨ (w = 1 ∧ b = 1)) (h2 : (if F117 123 N = 0 then J131_43 g w (x : Int) N else if N 376 10 < 3 then J131_44 g w (x : Int) 1 N else J131_43 g w (x : Int) N) = some n1) (hL : ML g G n1 = some rr) :
    (r = 0 ∧ ∃ mm' : yM, rr = Sum.inl ((), mm') ∧ Flt M' mm' ∧ FrC A M M' ∧ FrM p N mm') ∨ (d < 3 ∧ ∃ N3 : yM, (∀ q c, ¬ (q = 376 ∧ 3 ≤ c ∧ c ≤ 7) → N3 q c = yup (yup (emM p o k (9 + b) x 0 0 (yup N 378 d (1 + 2 * b))) 379 d o) 376 10 ((d : Int) + 1) q c) ∧ BO tx len n en tk tp tn A p k res (s + 1) (o + 1) a (d + 1) (yup M 2 2 ((j : Int) + 1)) N3 g rr r M') := by
  obtain ⟨c1, c2, c3, c4, c5, c6, c7, c8, c9, c10, c11, c12, c13⟩ := hX
  have hj := c3.le T hl
  have hk := c4.1.2.1
  have hbad : ∀ {n2 : yM}, J131_43 g w (x : Int) N = some n2 → n2 = yup N 376 8 (tp j) := by
    intro n2 e
    unfold J131_43 J131_44 at e
    replace e := bI_e e
    obtain ⟨r1, m1, e1, e⟩ := e
    rcases c3.goOn T hl (fun z => absurd rfl z) e1 with ⟨z, -⟩ | ⟨-, rfl, rfl⟩
    · exact absurd rfl z
    · rw [if_pos rfl] at e
      cases e
      rfl
  have hflt : J131_43 g w (x : Int) N = some n1 → (tk j ≠ 123 ∨ (3 : Int) < (d : Int) + 1) → (r = 0 ∧ ∃ mm' : yM, rr = Sum.inl ((), mm') ∧ Flt M' mm' ∧ FrC A M M' ∧ FrM p N mm') := by
    intro e z
    have e' := hbad e
    subst e'
    obtain ⟨rfl, rfl⟩ := F69_no (by omega) c2 z h1
    exact ⟨rfl, _, ML.w hL (by rw [yup_eq]; exact c3.tp0 T), Flt.mk (c3.tp0 T), FrC.rf.u2, FrM.rf.w8⟩
  rw [c3.2.2.2.2.mark T (by unfold sgn; omega), h10] at h2
  by_cases ht : tk j = 123
  · rw [if_pos ht, if_neg (by decide)] at h2
    rcases ite1 h2 with ⟨q, h2⟩ | ⟨q, h2⟩
    · refine Or.inr ⟨by omega, ?_⟩
      unfold J131_44 at h2
      replace h2 := bI_e h2
      obtain ⟨r1, n2, e1, h2⟩ := h2
      rcases c3.goOn T hl (fun z => by omega) e1 with ⟨-, rfl, hM2, f2⟩ | ⟨z, -⟩
      · rw [if_neg (by decide)] at h2
        have g10 : n2 376 10 = d := by rw [f2 _ _ (by omega)]; exact h10
        have key : ∀ (b' : Int), J131_89 g (x : Int) (n2 376 10) (9 + b') (yup n2 378 (n2 376 10).toNat (1 + 2 * b')) = some n1 → n1 = yup (yup (emM p o k (9 + b') x 0 0 (yup n2 378 d (1 + 2 * b'))) 379 d o) 376 10 ((d : Int) + 1) := by
          intro b' e
          rw [g10, Int.toNat_natCast] at e
          unfold J131_89 at e
          replace e := bI_e e
          obtain ⟨r3, n3, e3, e⟩ := e
          obtain ⟨rfl, rfl⟩ := F127_r (p := p) (o := o) (k := k) hp (by rw [yup_na (by decide)]; exact hM2.2.2.1) (by rw [yup_na (by decide), f2 _ _ (by omega)]; exact c4.2.2.1) (by omega) (by rw [yup_na (by decide), f2 _ _ (by omega)]; exact c4.2.2.2.2) hk e3
          rw [em_o (a := 376) (by omega) (by omega), yup_na (by decide), g10, wr_i (by omega) (by omega), Int.toNat_natCast] at e
          cases e
          rfl
        have e5 : n1 = yup (yup (emM p o k (9 + b) x 0 0 (yup n2 378 d (1 + 2 * b))) 379 d o) 376 10 ((d : Int) + 1) := by
          rcases hw with ⟨rfl, rfl⟩ | ⟨rfl, rfl⟩
          · rw [if_pos rfl] at h2
            unfold J131_68 at h2
            rw [if_pos rfl] at h2
            refine key 0 ?_
            exact h2
          · rw [if_neg (by decide)] at h2
            unfold J131_68 at h2
            rw [if_neg (by decide)] at h2
            refine key 1 ?_
            exact h2
        have o1 : ∀ q c, ¬ (q = 376 ∧ c = 10) → ¬ (q = 379 ∧ c = d) → ¬ (q = 378 ∧ c = d) → ¬ (q = 403 ∧ 1000 * p + 8 * o ≤ c ∧ c < 1000 * p + 8 * o + 5) → ¬ (q = 390 ∧ c = p) → n1 q c = n2 q c := fun q c z1 z2 z3 z4 z5 => by
          rw [e5, yup_ne z1, yup_ne z2, em_o z4 z5, yup_ne z3]
        have o2 : ∀ q c, ¬ (q = 376 ∧ 3 ≤ c ∧ c ≤ 7) → n1 q c = yup (yup (emM p o k (9 + b) x 0 0 (yup N 378 d (1 + 2 * b))) 379 d o) 376 10 ((d : Int) + 1) q c := by
          intro q c z
          rw [e5]
          have : ∀ q c, ¬ (q = 376 ∧ 3 ≤ c ∧ c ≤ 7) → yup n2 378 d (1 + 2 * b) q c = yup N 378 d (1 + 2 * b) q c := fun q c z => by
            unfold yup
            split
            · rfl
            · exact f2 q c z
          have t2 : ∀ (y1 y2 : yM) (q c : Nat) (u : Nat) (v : Nat) (t : Int), (y1 q c = y2 q c) → yup y1 u v t q c = yup y2 u v t q c := fun y1 y2 q c u v t e => by
            unfold yup
            split
            · rfl
            · exact e
          unfold emM
          exact t2 _ _ _ _ _ _ _ (t2 _ _ _ _ _ _ _ (t2 _ _ _ _ _ _ _ (t2 _ _ _ _ _ _ _ (t2 _ _ _ _ _ _ _ (t2 _ _ _ _ _ _ _ (t2 _ _ _ _ _ _ _ (t2 _ _ _ _ _ _ _ (this q c z))))))))
        refine ⟨n1, o2, ?_⟩
        refine hB (s + 1) (o + 1) a (d + 1) j G r M n1 M' rr (by omega) c2 ht ?_ (by rw [Int.natCast_add]; exact h1) hL
        have B1 : rBd A p k res (o + 1) a (yup M 2 2 ((j : Int) + 1)) n1 := by
          have B0 : rBd A p k res o a (yup M 2 2 ((j : Int) + 1)) (yup n2 378 d (1 + 2 * b)) := c4.fr hA (fun q q1 q2 => yup_na (by omega)) (yup_na (by omega)) (fun q => yup_na (by omega)) (fun b q hb => by rw [yup_na (by omega), f2 _ _ (by omega)])
          have B2 := B0.em (x1 := 9 + b) (x2 := x) (x3 := 0) (x4 := 0)
          rw [e5]
          exact B2.fr hA (fun q q1 q2 => rfl) rfl (fun q => rfl) (fun b q hb => by rw [yup_ne (by omega), yup_ne (by omega)])
        refine ⟨c2.at (by rw [yup_eq]; omega) (fun q c hq => yup_na (by omega)), hM2.fr (fun q hq => o1 _ _ (by omega) (by omega) (by omega) (by omega) (by omega)) (fun q => o1 _ _ (by omega) (by omega) (by omega) (by omega) (by omega)), B1, ?_, ?_, ?_, ?_, by omega, by omega, by omega⟩
        · rw [yup_na (by omega), h16]; omega
        · rw [o1 _ _ (by omega) (by omega) (by omega) (by omega) (by omega), f2 _ _ (by omega), h9]; omega
        · rw [e5, yup_eq]; omega
        · rw [o1 _ _ (by omega) (by omega) (by omega) (by omega) (by omega), f2 _ _ (by omega), h398]
      · exact absurd z (by decide)
    · exact Or.inl (hflt h2 (by omega))
  · rw [if_neg ht, if_pos rfl] at h2
    exact Or.inl (hflt h2 (Or.inl ht))
end BR
end
section
/-! A BLOCK IS SHUT -/
section SH
variable {tx : Int → Int} {len : Int} {n : Nat} {en tk tp tn : Nat → Int} {A p k res s o a d : Nat} {mc mm mc' mm' M N M' N' : yM} {cs st : Int}
theorem shutW {g i o' : Nat} {n1 : yM} (T : TOK tx len n en tk tp tn) (hl : len ≤ 320) (hp : p ≤ 1) (hd : d ≤ 3) (ho : o ≤ 120) (ho' : o' ≤ 120) (hk : k < 10) (hM : MT tx len n en tk tp tn p i N) (ht : tk i = 125) (h10 : N 376 10 = (d : Int) + 1) (h378 : N 378 d = 3) (h379 : N 379 d = o) (h390 : N 390 p = o') (h384 : N 384 p = (k : Int) + 1) (h : F129 g N = some n1) : ∃ n4, MT tx len n en tk tp tn p (i + 1) n4 ∧ (∀ b q, ¬ (b = 376 ∧ 3 ≤ q ∧ q ≤ 7) → n4 b q = N b q) ∧ n1 = yup (yup (emM p o' k 11 0 o 0 n4) 403 (1000 * p + 8 * o + 3) ((o' : Int) + 1)) 376 10 d := by
  unfold F129 at h
  replace h := bU_e h
  obtain ⟨n4, e1, h⟩ := h
  obtain ⟨hM4, f4⟩ := hM.next T hl (by omega) e1
  have g10 : n4 376 10 = (d : Int) + 1 := by rw [f4 _ _ (by omega)]; exact h10
  refine ⟨n4, hM4, f4, ?_⟩
  have w1 : (wr ((d : Int) + 1 - 1)).toNat = d := by rw [wr_i (by omega) (by omega)]; omega
  rw [g10, w1, f4 378 d (by omega), h378, if_pos rfl, f4 379 d (by omega), h379] at h
  replace h := bI_e h
  obtain ⟨r1, n5, e2, h⟩ := h
  obtain ⟨-, rfl⟩ := F127_r (p := p) (o := o') (k := k) hp hM4.2.2.1 (by rw [f4 _ _ (by omega)]; exact h390) ho' (by rw [f4 _ _ (by omega)]; exact h384) hk e2
  have e10 : emM p o' k 11 0 o 0 n4 376 10 = (d : Int) + 1 := by rw [em_o (by omega) (by omega)]; exact g10
  have e378 : emM p o' k 11 0 o 0 n4 378 d = 3 := by rw [em_o (by omega) (by omega), f4 _ _ (by omega)]; exact h378
  unfold J129_41 at h
  rw [e10, w1, e378, if_neg (by decide)] at h
  unfold J129_119 at h
  replace h := bU_e h
  obtain ⟨n6, e3, h⟩ := h
  have e18 : emM p o' k 11 0 o 0 n4 376 18 = 1 - (p : Int) := by rw [em_o (by omega) (by omega)]; exact hM4.2.2.1
  have e6 := F128_r hp e18 ho e3
  subst e6
  rw [yup_na (by decide), e10, em_n, wr_i (by omega) (by omega), show (d : Int) + 1 - 1 = d by omega] at h
  cases h
  rfl
theorem shutP {g i o' x : Nat} {n1 : yM} (T : TOK tx len n en tk tp tn) (hl : len ≤ 320) (hp : p ≤ 1) (hd : d ≤ 3) (hx : x ≤ 120) (hM : MT tx len n en tk tp tn p i N) (ht : tk i = 125) (h10 : N 376 10 = (d : Int) + 1) (h378 : N 378 d ≠ 3) (h7 : N 378 d ≠ 1 ∨ tk (i + 1) ≠ 7) (h379 : N 379 d = x) (h390 : N 390 p = o') (h : F129 g N = some n1) : ∃ n4, MT tx len n en tk tp tn p (i + 1) n4 ∧ (∀ b q, ¬ (b = 376 ∧ 3 ≤ q ∧ q ≤ 7) → n4 b q = N b q) ∧ n1 = yup (yup n4 403 (1000 * p + 8 * x + 3) (o' : Int)) 376 10 d := by
  unfold F129 at h
  replace h := bU_e h
  obtain ⟨n4, e1, h⟩ := h
  obtain ⟨hM4, f4⟩ := hM.next T hl (by omega) e1
  have g10 : n4 376 10 = (d : Int) + 1 := by rw [f4 _ _ (by omega)]; exact h10
  refine ⟨n4, hM4, f4, ?_⟩
  have w1 : (wr ((d : Int) + 1 - 1)).toNat = d := by rw [wr_i (by omega) (by omega)]; omega
  rw [g10, w1, f4 378 d (by omega), if_neg h378, f4 379 d (by omega), h379] at h
  have hh : J129_119 g (x : Int) n4 = some n1 := by
    unfold J129_41 at h
    rcases ite1 h with ⟨q, h⟩ | ⟨q, h⟩
    · rw [g10, w1, f4 378 d (by omega)] at q
      rcases h7 with z | z
      · exact absurd q z
      · rw [hM4.2.2.2.2.isElse T, if_neg z, if_pos rfl] at h
        exact h
    · exact h
  unfold J129_119 at hh
  replace hh := bU_e hh
  obtain ⟨n6, e3, hh⟩ := hh
  have e6 := F128_r hp hM4.2.2.1 hx e3
  subst e6
  rw [yup_na (by decide), g10, f4 390 p (by omega), h390, wr_i (by omega) (by omega), show (d : Int) + 1 - 1 = d by omega] at hh
  cases hh
  rfl
theorem shutE {g i o' : Nat} {n1 : yM} (T : TOK tx len n en tk tp tn) (hl : len ≤ 320) (hp : p ≤ 1) (hd : d ≤ 3) (ho : o ≤ 120) (ho' : o' ≤ 120) (hk : k < 10) (hM : MT tx len n en tk tp tn p i N) (ht : tk i = 125) (h10 : N 376 10 = (d : Int) + 1) (h378 : N 378 d = 1) (h7 : tk (i + 1) = 7) (h379 : N 379 d = o) (h390 : N 390 p = o') (h384 : N 384 p = (k : Int) + 1) (h : F129 g N = some n1) : ∃ n4 r, MT tx len n en tk tp tn p (i + 2) n4 ∧ (∀ b q, ¬ (b = 376 ∧ 3 ≤ q ∧ q ≤ 7) → n4 b q = N b q) ∧ F118 g 123 (yup (yup (yup (emM p o' k 11 0 0 0 n4) 403 (1000 * p + 8 * o + 3) ((o' : Int) + 1)) 378 d 2) 379 d o') = some (r, n1) := by
  unfold F129 at h
  replace h := bU_e h
  obtain ⟨n3, e1, h⟩ := h
  obtain ⟨hM3, f3⟩ := hM.next T hl (by omega) e1
  have g10 : n3 376 10 = (d : Int) + 1 := by rw [f3 _ _ (by omega)]; exact h10
  have w1 : (wr ((d : Int) + 1 - 1)).toNat = d := by rw [wr_i (by omega) (by omega)]; omega
  rw [g10, w1, f3 378 d (by omega), h378, if_neg (by decide), f3 379 d (by omega), h379] at h
  unfold J129_41 at h
  rw [g10, w1, f3 378 d (by omega), h378, if_pos rfl, hM3.2.2.2.2.isElse T, if_pos h7, if_neg (by decide)] at h
  replace h := bU_e h
  obtain ⟨n4, e2, h⟩ := h
  obtain ⟨hM4, f4⟩ := hM3.next T hl (by omega) e2
  have f4' : ∀ b q, ¬ (b = 376 ∧ 3 ≤ q ∧ q ≤ 7) → n4 b q = N b q := fun b q z => (f4 b q z).trans (f3 b q z)
  replace h := bI_e h
  obtain ⟨r1, n5, e3, h⟩ := h
  obtain ⟨rfl, rfl⟩ := F127_r (p := p) (o := o') (k := k) hp hM4.2.2.1 (by rw [f4' _ _ (by omega)]; exact h390) ho' (by rw [f4' _ _ (by omega)]; exact h384) hk e3
  replace h := bU_e h
  obtain ⟨n6, e4, h⟩ := h
  have e18 : emM p o' k 11 0 0 0 n4 376 18 = 1 - (p : Int) := by rw [em_o (by omega) (by omega)]; exact hM4.2.2.1
  have e6 := F128_r hp e18 ho e4
  subst e6
  have e10 : (yup (emM p o' k 11 0 0 0 n4) 403 (1000 * p + 8 * o + 3) (emM p o' k 11 0 0 0 n4 390 p)) 376 10 = (d : Int) + 1 := by rw [yup_na (by decide), em_o (by omega) (by omega), f4' _ _ (by omega)]; exact h10
  rw [e10, w1, em_n] at h
  replace h := bI_e h
  obtain ⟨r7, n7, e7, h⟩ := h
  refine ⟨n4, r7, hM4, f4', ?_⟩
  rcases ite1 h with ⟨q, h⟩ | ⟨q, h⟩
  · cases h; exact e7
  · cases h; exact e7
end SH
end

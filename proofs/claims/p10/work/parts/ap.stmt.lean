/-! SIMPLE STATEMENTS -/
section ST
variable {tx : Int → Int} {len : Int} {n : Nat} {en tk tp tn : Nat → Int} {A p k res s o a i0 j : Nat} {mc mm M N M' N' : yM}
theorem STO.w {r : Int} (h : STO tx len n en tk tp tn A p k res s o a i0 mc mm r M' N') : (r = 1 ∧ N' 376 8 = -1) ∨ (r = 0 ∧ 0 ≤ N' 376 8) := by
  rcases h with ⟨h1, h2, -⟩ | ⟨h1, i', a', -, -, -, -, h2, -⟩
  · exact Or.inr ⟨h1, h2.2⟩
  · exact Or.inl ⟨h1, h2.2.2.2.1⟩
/-- a refusal whose class memory has been written to in the statement's own row -/
theorem STO.up {v : Int} {q : Nat} (hA : A = 256 ∨ A = 316) (hs : s < 40) (h : STO tx len n en tk tp tn A p k res s o a i0 mc mm 0 M' N') : STO tx len n en tk tp tn A p k res s o a i0 mc mm 0 (yup M' (A + 20 + s) q v) N' := by
  rcases h with ⟨h1, ⟨h2, h2'⟩, h3, h4⟩ | ⟨h1, -⟩
  · exact Or.inl ⟨rfl, ⟨by rw [yup_na (by omega)]; exact h2, h2'⟩, h3.up (by omega), h4⟩
  · omega
theorem J68_124_1 {f : Nat} {r : Int} (h : J68_124 f A (A + 20 + s) 1 M = some (r, M')) : r = 1 ∧ M' = M := by
  unfold J68_124 at h
  rw [if_neg (by decide)] at h
  cases h
  exact ⟨rfl, rfl⟩
theorem J68_100_1 {f : Nat} {r : Int} (h9 : M (A + 20 + s) 0 ≠ 9 ∨ F38 M ≠ 40) (h : J68_100 f A (A + 20 + s) 1 M = some (r, M')) : r = 1 ∧ M' = M := by
  unfold J68_100 at h
  rcases ite1 h with ⟨q, h⟩ | ⟨q, h⟩
  · rcases ite1 h with ⟨q2, h⟩ | ⟨q2, h⟩
    · rcases h9 with z | z
      · exact absurd q z
      · exact absurd q2 z
    · exact J68_124_1 h
  · exact J68_124_1 h
/-- what stands behind = -/
theorem right_r {f g : Nat} {v r r1 : Int} {M1 : yM} (T : TOK tx len n en tk tp tn) (hl : len ≤ 320) (hA : A = 256 ∨ A = 316) (hp : p ≤ 1) (hs : s < 40) (ho : o ≤ 120) (ha : a ≤ 100) (h16 : mc A 16 = (s : Int) + 1) (h : CX tx len n en tk tp tn A p k res s o a i0 mc mm j M N) (hij : i0 < j) (s2 : M (A + 20 + s) 2 = v) (hv : vB (M A 15) v) (hvr : (res : Int) < v) (h1 : F64 f A (A + 20 + s) M = some (r1, M1)) (h1' : (r1 = 0 → r = 0 ∧ M' = M1) ∧ (r1 ≠ 0 → J68_100 f A (A + 20 + s) 1 M1 = some (r, M'))) (h2 : F137 g v N = some N') : STO tx len n en tk tp tn A p k res s o a i0 mc mm r M' N' := by
  have h0 := h
  obtain ⟨c1, c2, c3, c4, c5, c6, c7, c8, c9, c10, c11, c12, c13⟩ := h
  have hj := c3.le T hl
  unfold F64 at h1
  rw [c2.kind] at h1
  unfold F137 at h2
  rw [c3.2.2.2.2.isNew T, c3.2.2.2.2.isNull T, c3.2.2.2.2.mark T (by unfold sgn; omega)] at h2
  by_cases t4 : tk j = 4
  · rw [if_pos t4] at h1
    rw [if_pos t4, if_neg (by decide)] at h2
    replace h2 := bU_e h2
    obtain ⟨n1, e2, h2⟩ := h2
    cases h2
    replace h1 := bI_e h1
    obtain ⟨r2, m2, e1, h1⟩ := h1
    have K := new_r (r := r1) (M' := M1) T hl hA hp hs ho ha h0 t4 s2 hv hvr e1 ⟨fun z => by
      rw [if_pos z] at h1
      obtain ⟨r3, m3, e3, h1⟩ := bI_e h1
      cases h1
      exact ⟨r1, M1, e3, rfl, rfl⟩, fun z => by
      rw [if_neg z] at h1
      obtain ⟨r3, m3, e3, h1⟩ := bI_e h1
      cases h1
      exact e3⟩ e2
    obtain ⟨K1, K2, K3⟩ := K
    by_cases q : r1 = 1
    · subst q
      obtain ⟨rfl, rfl⟩ := J68_100_1 (Or.inl (by rw [(K2 rfl).2]; decide)) (h1'.2 (by decide))
      exact K1
    · obtain ⟨-, rfl⟩ := K3 q
      obtain ⟨rfl, rfl⟩ := h1'.1 rfl
      exact K1
  rw [if_neg t4] at h1
  rw [if_neg t4, if_pos rfl] at h2
  by_cases t5 : tk j = 5
  · rw [if_pos t5] at h1
    rw [if_pos t5, if_neg (by decide)] at h2
    replace h1 := bI_e h1
    obtain ⟨r2, m2, e1, h1⟩ := h1
    cases h1
    have hC1 : CT tk tp tn j (yup M (A + 20 + s) 0 6) := c2.fr (yup_na (by omega)) (fun b q hb => yup_na (by omega))
    rcases hC1.take (by omega) e1 with ⟨-, rfl, rfl⟩ | ⟨z, -⟩
    case inr => exact absurd t5 z
    obtain ⟨rfl, rfl⟩ := J68_100_1 (Or.inl (by rw [yup_na (by omega), yup_eq]; decide)) (h1'.2 (by decide))
    replace h2 := bU_e h2
    obtain ⟨n1, e2, h2⟩ := h2
    obtain ⟨hM1, f1⟩ := c3.next T hl (by omega) e2
    replace h2 := bI_e h2
    obtain ⟨r3, n2, e3, h2⟩ := h2
    cases h2
    have X : CX tx len n en tk tp tn A p k res s o a i0 mc mm (j + 1) (yup (yup M (A + 20 + s) 0 6) 2 2 ((j : Int) + 1)) n1 := (h0.set hA hs (q := 0) (v := 6) (by decide)).next hA hs hM1 f1
    refine (X.fin hp hs ho (by omega) e3 (Or.inr (Or.inr (Or.inr (Or.inr (Or.inl ?_))))) (fun _ => Or.inr (by rw [yup_na (by omega), yup_nk (by decide), s2]; exact hvr))).1
    rw [em_0, em_2, yup_na (by omega), yup_eq, yup_na (by omega), yup_nk (by decide), s2]
    exact ⟨rfl, rfl, rfl, by rw [yup_na (by omega), yup_na (by omega)]; exact hv, rfl⟩
  rw [if_neg t5] at h1
  rw [if_neg t5, if_pos rfl] at h2
  by_cases t40 : tk j = 40
  · rw [if_pos t40] at h1
    rw [if_pos t40, if_neg (by decide)] at h2
    replace h2 := bU_e h2
    obtain ⟨n1, e2, h2⟩ := h2
    cases h2
    replace h1 := bI_e h1
    obtain ⟨r2, m2, e1, h1⟩ := h1
    have K := cast_r (r := r1) (M' := M1) T hl hA hp hs ho ha h16 h0 t40 s2 hv hvr e1 ⟨fun z => by
      rw [if_pos z] at h1
      obtain ⟨r3, m3, e3, h1⟩ := bI_e h1
      cases h1
      exact ⟨r1, M1, e3, rfl, rfl⟩, fun z => by
      rw [if_neg z] at h1
      obtain ⟨r3, m3, e3, h1⟩ := bI_e h1
      refine ⟨r3, m3, e3, ?_⟩
      rcases ite1 h1 with ⟨z2, h1⟩ | ⟨z2, h1⟩
      · cases h1
        exact Or.inl ⟨z2, rfl, rfl⟩
      · obtain ⟨r4, m4, e4, h1⟩ := bI_e h1
        refine Or.inr ⟨z2, r4, m4, e4, ?_⟩
        rcases ite1 h1 with ⟨z3, h1⟩ | ⟨z3, h1⟩
        · cases h1
          exact Or.inl ⟨z3, rfl, rfl⟩
        · obtain ⟨r5, m5, e5, h1⟩ := bI_e h1
          refine Or.inr ⟨z3, r5, m5, e5, ?_⟩
          rcases ite1 h1 with ⟨z4, h1⟩ | ⟨z4, h1⟩
          · cases h1
            exact ⟨rfl, Or.inl ⟨z4, rfl⟩⟩
          · cases h1
            exact ⟨rfl, Or.inr ⟨z4, rfl⟩⟩⟩ e2
    obtain ⟨K1, K2, K3⟩ := K
    by_cases q : r1 = 1
    · subst q
      obtain ⟨rfl, rfl⟩ := J68_100_1 (Or.inl (by rw [(K2 rfl).2]; decide)) (h1'.2 (by decide))
      exact K1
    · obtain ⟨-, rfl⟩ := K3 q
      obtain ⟨rfl, rfl⟩ := h1'.1 rfl
      exact K1
  rw [if_neg t40] at h1
  rw [if_neg t40, if_pos rfl] at h2
  replace h1 := bI_e h1
  obtain ⟨w, m2, e1, h1⟩ := h1
  replace h2 := bI_e h2
  obtain ⟨w', n1, e2, h2⟩ := h2
  rcases h0.var T hl hA hp hs e1 e2 with ⟨rfl, rfl, hF, hF'⟩ | ⟨x, rfl, rfl, vx, X, hS, tt, e15, -⟩
  · rw [if_neg (by omega)] at h2
    cases h2
    have key : ∀ xs1, J64_161 f A (A + 20 + s) (A + 20 + s) xs1 (yup m2 (A + 20 + s) 3 (-1)) = some (r1, M1) → r1 = 0 ∧ M1 = yup (yup m2 (A + 20 + s) 3 (-1)) (A + 20 + s) 0 xs1 := by
      intro xs1 b
      unfold J64_161 at b
      rw [if_pos (by rw [yup_nk (by decide), yup_eq])] at b
      cases b
      exact ⟨rfl, rfl⟩
    obtain ⟨xs1, rfl, rfl⟩ : ∃ xs1, r1 = 0 ∧ M1 = yup (yup m2 (A + 20 + s) 3 (-1)) (A + 20 + s) 0 xs1 := by
      rcases ite1 h1 with ⟨-, h1⟩ | ⟨-, h1⟩
      · exact ⟨9, key _ h1⟩
      · exact ⟨8, key _ h1⟩
    obtain ⟨rfl, rfl⟩ := h1'.1 rfl
    exact (hF.up hA hs).up hA hs
  obtain ⟨x1, x2, x3, x4, x5, x6, x7, x8, x9, x10, x11, x12, x13⟩ := X
  have X0 : CX tx len n en tk tp tn A p k res s o a i0 mc mm (j + 1) m2 n1 := ⟨x1, x2, x3, x4, x5, x6, x7, x8, x9, x10, x11, x12, x13⟩
  rw [if_pos (by rw [x3.2.2.2.1]; decide), x3.2.2.2.2.mark T (by unfold sgn; omega)] at h2
  have hC2 : CT tk tp tn (j + 1) (yup m2 (A + 20 + s) 3 (x : Int)) := x2.fr (yup_na (by omega)) (fun b q hb => yup_na (by omega))
  rw [hC2.kind] at h1
  have hj1 := x3.le T hl
  by_cases t46 : tk (j + 1) = 46
  case neg =>
    rw [if_neg t46] at h1
    rw [if_neg t46, if_pos rfl] at h2
    unfold J64_161 at h1
    rw [if_neg (by rw [yup_nk (by decide), yup_eq]; omega), if_pos (yup_eq _ _ _ _)] at h1
    cases h1
    obtain ⟨rfl, rfl⟩ := J68_100_1 (Or.inl (by rw [yup_eq]; decide)) (h1'.2 (by decide))
    replace h2 := bI_e h2
    obtain ⟨r3, n2, e3, h2⟩ := h2
    cases h2
    refine (((X0.set hA hs (q := 3) (v := (x : Int)) (by decide)).set hA hs (q := 0) (v := 8) (by decide)).fin hp hs ho (by omega) e3 (Or.inr (Or.inr (Or.inr (Or.inr (Or.inr (Or.inr (Or.inl ?_))))))) (fun _ => Or.inr (by rw [yup_nk (by decide), yup_nk (by decide), hS, s2]; exact hvr))).1
    rw [em_0, em_2, em_3, yup_eq, yup_nk (by decide), yup_nk (by decide), yup_nk (by decide), yup_eq, hS, s2]
    exact ⟨rfl, rfl, rfl, rfl, by rw [yup_na (by omega), yup_na (by omega)]; exact hv.mono e15, by rw [yup_na (by omega), yup_na (by omega)]; exact vx, rfl⟩
  rw [if_pos t46] at h1
  rw [if_pos t46, if_neg (by decide)] at h2
  unfold J64_161 at h1
  rw [if_neg (by rw [yup_nk (by decide), yup_eq]; omega), if_neg (by rw [yup_eq]; decide)] at h1
  replace h1 := bI_e h1
  obtain ⟨r3, m3, e3, h1⟩ := h1
  have X9 := (X0.set hA hs (q := 3) (v := (x : Int)) (by decide)).set hA hs (q := 0) (v := 9) (by decide)
  replace h2 := bU_e h2
  obtain ⟨n2, e4, h2⟩ := h2
  obtain ⟨hM2, f2⟩ := x3.next T hl (by omega) e4
  rw [hM2.2.2.2.2.isName T] at h2
  have hj2 := hM2.le T hl
  have Xn := X9.next hA hs hM2 f2
  replace h2 := bI_e h2
  obtain ⟨q5, n3, e5, h2⟩ := h2
  rcases F62_r (by omega) hA X9.2.1 e3 with ⟨z, -⟩ | ⟨-, t11, rfl, rfl⟩ | ⟨-, t11, rfl, rfl⟩
  · exact absurd t46 z
  · rw [if_pos rfl] at h1
    cases h1
    obtain ⟨rfl, rfl⟩ := h1'.1 rfl
    rcases hM2.goOnP T hl (fun z => by omega) e5 with ⟨z, -⟩ | ⟨-, rfl, rfl⟩
    · exact absurd z t11
    · rw [if_pos rfl] at h2
      cases h2
      have X10 := (Xn.set hA hs (q := 4) (v := tn (j + 1 + 1)) (by decide)).set hA hs (q := 5) (v := tp (j + 1 + 1)) (by decide)
      have := X10.flt T hs
      exact this
  · rw [if_neg (by decide)] at h1
    cases h1
    replace h1' := h1'.2 (by decide)
    rcases hM2.goOnP T hl (fun z => by omega) e5 with ⟨-, rfl, hM3, f3⟩ | ⟨z, -⟩
    case inr => exact absurd t11 z
    rw [if_neg (by decide), hM3.2.2.2.2.mark T (by unfold sgn; omega)] at h2
    have hN := hM2.2.2.2.2.name (by omega) T.2.2.1
    have hP := hM2.plc T (by omega)
    have X10 := (Xn.set hA hs (q := 4) (v := tn (j + 1 + 1)) (by decide)).set hA hs (q := 5) (v := tp (j + 1 + 1)) (by decide)
    have X11 := X10.next hA hs hM3 f3
    rw [show ((j + 1 + 1 : Nat) : Int) + 1 = ((j + 1 : Nat) : Int) + 1 + 1 by omega] at X11
    obtain ⟨M5, hM5⟩ : ∃ M5, M5 = yup (yup (yup (yup (yup (yup m2 (A + 20 + s) 3 (x : Int)) (A + 20 + s) 0 9) 2 2 (((j + 1 : Nat) : Int) + 1)) (A + 20 + s) 4 (tn (j + 1 + 1))) (A + 20 + s) 5 (tp (j + 1 + 1))) 2 2 (((j + 1 : Nat) : Int) + 1 + 1) := ⟨_, rfl⟩
    rw [← hM5] at h1' X11
    have q0 : M5 (A + 20 + s) 0 = 9 := by rw [hM5, yup_na (by omega), yup_nk (by decide), yup_nk (by decide), yup_na (by omega), yup_eq]
    have q2 : M5 (A + 20 + s) 2 = v := by rw [hM5, yup_na (by omega), yup_nk (by decide), yup_nk (by decide), yup_na (by omega), yup_nk (by decide), yup_nk (by decide), hS]; exact s2
    have q3 : M5 (A + 20 + s) 3 = x := by rw [hM5, yup_na (by omega), yup_nk (by decide), yup_nk (by decide), yup_na (by omega), yup_nk (by decide), yup_eq]
    have q4 : M5 (A + 20 + s) 4 = tn (j + 1 + 1) := by rw [hM5, yup_na (by omega), yup_nk (by decide), yup_eq]
    have q5 : M5 (A + 20 + s) 5 = tp (j + 1 + 1) := by rw [hM5, yup_na (by omega), yup_eq]
    have q15 : M5 A 15 = m2 A 15 := by rw [hM5, yup_na (by omega), yup_na (by omega), yup_na (by omega), yup_na (by omega), yup_na (by omega), yup_na (by omega)]
    clear hM5
    obtain ⟨y1, y2, y3, y4, y5, y6, y7, y8, y9, y10, y11, y12, y13⟩ := X11
    have X12 : CX tx len n en tk tp tn A p k res s o a i0 mc mm (j + 1 + 1 + 1) M5 n3 := ⟨y1, y2, y3, y4, y5, y6, y7, y8, y9, y10, y11, y12, y13⟩
    by_cases tc : tk (j + 1 + 1 + 1) = 40
    · rw [if_pos tc, if_neg (by decide)] at h2
      replace h2 := bU_e h2
      obtain ⟨n4, e6, h2⟩ := h2
      cases h2
      unfold J68_100 at h1'
      rw [if_pos q0, y2.kind, if_pos tc] at h1'
      replace h1' := bI_e h1'
      obtain ⟨r6, m6, e7, h1'⟩ := h1'
      cases h1'
      exact call_r T hl hA hp hs ho (by omega) y2 y3 tc y4 y5 q2 q3 (by rw [q4]; exact hN) (by rw [q5, hP]) (by rw [hP]; exact hM2.tp0 T) y6 (Or.inr (by rw [q15]; exact hv.mono e15)) (by rw [q15]; exact vx) y12 (Or.inr hvr) y7 y8 (by omega) (by omega) y11 (by omega) y13 e7 e6
    · rw [if_neg tc, if_pos rfl] at h2
      obtain ⟨rfl, rfl⟩ := J68_100_1 (Or.inr (by rw [y2.kind]; exact tc)) h1'
      replace h2 := bI_e h2
      obtain ⟨r6, n4, e6, h2⟩ := h2
      cases h2
      refine (X12.fin hp hs ho (by omega) e6 (Or.inr (Or.inr (Or.inr (Or.inr (Or.inr (Or.inr (Or.inr ?_))))))) (fun _ => Or.inr (by rw [q2]; exact hvr))).1
      rw [em_0, em_2, em_3, em_4, q0, q2, q3, q4]
      exact ⟨rfl, rfl, rfl, rfl, by rw [q15]; exact hv.mono e15, by rw [q15]; exact vx, hN, rfl⟩
/-- the semicolon -/
theorem semi_r {f g : Nat} {r r1 : Int} {M1 N1 : yM} (T : TOK tx len n en tk tp tn) (hl : len ≤ 320) (hA : A = 256 ∨ A = 316) (hs : s < 40) (hc : 0 ≤ mm 388 p ∧ 0 ≤ mm 387 p) (h : STO tx len n en tk tp tn A p k res s o a i0 mc mm r1 M1 N1) (h1 : (r1 = 0 → r = 0 ∧ M' = M1) ∧ (r1 ≠ 0 → ∃ r2, F37 f 59 M1 = some (r2, M') ∧ ((r2 = 0 ∧ r = 0) ∨ (r2 ≠ 0 ∧ r = 1)))) (h2 : J138_101 g N1 = some N') : STO tx len n en tk tp tn A p k res s o a i0 mc mm r M' N' := by
  unfold J138_101 at h2
  rcases h with ⟨rfl, h3, h4, h5⟩ | ⟨rfl, i', a', k1, k2, k3, k4, k5, k6, k7, k8, k9, k10, k11, k12, k13, k14, k15⟩
  · obtain ⟨rfl, rfl⟩ := h1.1 rfl
    rw [if_neg (by have := h3.2; omega)] at h2
    cases h2
    exact Or.inl ⟨rfl, h3, h4, h5⟩
  · obtain ⟨r2, e1, hr⟩ := h1.2 (by decide)
    rw [if_pos (by rw [k5.2.2.2.1]; decide)] at h2
    replace h2 := bI_e h2
    obtain ⟨q1, n1, e2, h2⟩ := h2
    have hn : N' = n1 := by
      rcases ite1 h2 with ⟨-, h2⟩ | ⟨-, h2⟩ <;> (cases h2; rfl)
    subst hn
    have hi := k5.le T hl
    rcases k4.take (by omega) e1 with ⟨t1, rfl, rfl⟩ | ⟨t1, rfl, rfl⟩
    · obtain rfl : r = 1 := by
        rcases hr with ⟨z, -⟩ | ⟨-, z⟩
        · omega
        · exact z
      rcases k5.mark T hl (by unfold sgn; omega) e2 with ⟨-, -, hM1, f1⟩ | ⟨z, -⟩
      · refine Or.inr ⟨rfl, i' + 1, a', by omega, k2, k3, k4.at (by rw [yup_eq]; omega) (fun b q hb => yup_na (by omega)), hM1, k6.tok (s := s) hA (fun b q b1 b2 => yup_ne b1) hs f1, ?_, k8.u2, k9.tok f1, ?_, ?_, ?_, ?_, by rw [yup_na (by omega)]; exact k14, fun z => by rw [yup_na (by omega)] at z ⊢; exact k15 z⟩
        · exact k7.fr (fun q => yup_na (by omega)) (by rw [yup_na (by omega)]; omega) (by rw [yup_na (by omega)]; omega) (by rw [yup_na (by omega)]; omega) (by rw [yup_na (by omega)]; omega) (fun q _ => yup_na (by omega)) (fun q _ _ => f1 _ _ (by omega)) (fun q _ _ => f1 _ _ (by omega)) (fun b q hb _ _ => f1 _ _ (by omega)) (fun b q hb _ => f1 _ _ (by omega)) (fun q _ => f1 _ _ (by omega))
        · rw [yup_na (by omega)]; exact k10
        · rw [yup_na (by omega)]; exact k11
        · rw [yup_na (by omega)]; exact k12
        · rw [yup_na (by omega), yup_na (by omega)]; exact k13
      · exact absurd t1 z
    · obtain rfl : r = 0 := by
        rcases hr with ⟨-, z⟩ | ⟨z, -⟩
        · exact z
        · exact absurd rfl z
      rcases k5.mark T hl (by unfold sgn; omega) e2 with ⟨z, -⟩ | ⟨-, -, rfl⟩
      · exact absurd z t1
      · exact Or.inl ⟨rfl, Flt.mk (k5.tp0 T), (k8.fr hs).u2, (k9.fr hc.1 hc.2).w8⟩
end ST

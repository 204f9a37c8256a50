/-! SIMPLE STATEMENTS, whole -/
section SW
variable {tx : Int → Int} {len : Int} {n : Nat} {en tk tp tn : Nat → Int} {A p k res s o a i0 j : Nat} {mc mm M N M' N' : yM}
/-- a store or a call behind a variable and its dot -/
theorem member_r {f g x : Nat} {r : Int} (T : TOK tx len n en tk tp tn) (hl : len ≤ 320) (hA : A = 256 ∨ A = 316) (hp : p ≤ 1) (hs : s < 40) (ho : o ≤ 120) (h : CX tx len n en tk tp tn A p k res s o a i0 mc mm j M N) (hij : i0 < j) (s2 : M (A + 20 + s) 2 = -1) (vx : vB (M A 15) (x : Int)) (t46 : tk j = 46) (h1 : J68_45 f A (A + 20 + s) (x : Int) 0 M = some (r, M')) (h2 : F133 g (x : Int) N = some N') : STO tx len n en tk tp tn A p k res s o a i0 mc mm r M' N' := by
  have hj := h.2.2.1.le T hl
  unfold J68_45 at h1
  rw [if_pos rfl] at h1
  replace h1 := bI_e h1
  obtain ⟨r3, m3, e3, h1⟩ := h1
  have X9 := (h.set hA hs (q := 3) (v := (x : Int)) (by decide)).set hA hs (q := 0) (v := 9) (by decide)
  unfold F133 at h2
  replace h2 := bU_e h2
  obtain ⟨n2, e4, h2⟩ := h2
  obtain ⟨hM2, f2⟩ := h.2.2.1.next T hl (by omega) e4
  rw [hM2.2.2.2.2.isName T] at h2
  have hj2 := hM2.le T hl
  have Xn := X9.next hA hs hM2 f2
  replace h2 := bI_e h2
  obtain ⟨q5, n3, e5, h2⟩ := h2
  rcases F62_r (by omega) hA X9.2.1 e3 with ⟨z, -⟩ | ⟨-, t11, rfl, rfl⟩ | ⟨-, t11, rfl, rfl⟩
  · exact absurd t46 z
  · rw [if_pos rfl] at h1
    cases h1
    rcases hM2.goOnP T hl (fun z => by omega) e5 with ⟨z, -⟩ | ⟨-, rfl, rfl⟩
    · exact absurd z t11
    · rw [if_pos rfl] at h2
      cases h2
      have X10 := (Xn.set hA hs (q := 4) (v := tn (j + 1)) (by decide)).set hA hs (q := 5) (v := tp (j + 1)) (by decide)
      exact X10.flt T hs
  · rw [if_neg (by decide)] at h1
    rcases hM2.goOnP T hl (fun z => by omega) e5 with ⟨-, rfl, hM3, f3⟩ | ⟨z, -⟩
    case inr => exact absurd t11 z
    rw [if_neg (by decide), hM3.2.2.2.2.mark T (by unfold sgn; omega)] at h2
    have hN := hM2.2.2.2.2.name (by omega) T.2.2.1
    have hP := hM2.plc T (by omega)
    have X10 := (Xn.set hA hs (q := 4) (v := tn (j + 1)) (by decide)).set hA hs (q := 5) (v := tp (j + 1)) (by decide)
    have X11 := X10.next hA hs hM3 f3
    rw [show ((j + 1 : Nat) : Int) + 1 = (j : Int) + 1 + 1 by omega] at X11
    obtain ⟨M5, hM5⟩ : ∃ M5, M5 = yup (yup (yup (yup (yup (yup M (A + 20 + s) 3 (x : Int)) (A + 20 + s) 0 9) 2 2 ((j : Int) + 1)) (A + 20 + s) 4 (tn (j + 1))) (A + 20 + s) 5 (tp (j + 1))) 2 2 ((j : Int) + 1 + 1) := ⟨_, rfl⟩
    rw [← hM5] at h1 X11
    have q0 : M5 (A + 20 + s) 0 = 9 := by rw [hM5, yup_na (by omega), yup_nk (by decide), yup_nk (by decide), yup_na (by omega), yup_eq]
    have q2 : M5 (A + 20 + s) 2 = -1 := by rw [hM5, yup_na (by omega), yup_nk (by decide), yup_nk (by decide), yup_na (by omega), yup_nk (by decide), yup_nk (by decide)]; exact s2
    have q3 : M5 (A + 20 + s) 3 = x := by rw [hM5, yup_na (by omega), yup_nk (by decide), yup_nk (by decide), yup_na (by omega), yup_nk (by decide), yup_eq]
    have q4 : M5 (A + 20 + s) 4 = tn (j + 1) := by rw [hM5, yup_na (by omega), yup_nk (by decide), yup_eq]
    have q5 : M5 (A + 20 + s) 5 = tp (j + 1) := by rw [hM5, yup_na (by omega), yup_eq]
    have q15 : M5 A 15 = M A 15 := by rw [hM5, yup_na (by omega), yup_na (by omega), yup_na (by omega), yup_na (by omega), yup_na (by omega), yup_na (by omega)]
    clear hM5
    have X12 := X11
    obtain ⟨y1, y2, y3, y4, y5, y6, y7, y8, y9, y10, y11, y12, y13⟩ := X11
    have hj3 := y3.le T hl
    unfold J68_100 at h1
    rw [if_pos q0, y2.kind] at h1
    by_cases tc : tk (j + 1 + 1) = 40
    · rw [if_pos tc, if_neg (by decide)] at h2
      rw [if_pos tc] at h1
      replace h2 := bU_e h2
      obtain ⟨n4, e6, h2⟩ := h2
      cases h2
      replace h1 := bI_e h1
      obtain ⟨r6, m6, e7, h1⟩ := h1
      cases h1
      exact call_r T hl hA hp hs ho (by omega) y2 y3 tc y4 y5 q2 q3 (by rw [q4]; exact hN) (by rw [q5, hP]) (by rw [hP]; exact hM2.tp0 T) y6 (Or.inl rfl) (by rw [q15]; exact vx) y12 (Or.inl rfl) y7 y8 (by omega) (by omega) y11 (by omega) y13 e7 e6
    · rw [if_neg tc, if_pos rfl] at h2
      rw [if_neg tc] at h1
      unfold J68_124 at h1
      rw [if_pos rfl] at h1
      replace h1 := bI_e h1
      obtain ⟨r6, m6, e7, h1⟩ := h1
      have hr : M' = m6 ∧ ((r6 = 0 ∧ r = 0) ∨ (r6 ≠ 0 ∧ r = 1)) := by
        rcases ite1 h1 with ⟨z, h1⟩ | ⟨z, h1⟩
        · cases h1
          exact ⟨rfl, Or.inl ⟨z, rfl⟩⟩
        · cases h1
          exact ⟨rfl, Or.inr ⟨z, rfl⟩⟩
      obtain ⟨rfl, hr⟩ := hr
      clear h1
      unfold F67 at e7
      rw [q3] at e7
      replace e7 := bI_e e7
      obtain ⟨r7, m7, e8, e7⟩ := e7
      have X13 := (X12.set hA hs (q := 0) (v := 3) (by decide)).set hA hs (q := 2) (v := (x : Int)) (by decide)
      replace h2 := bI_e h2
      obtain ⟨q7, n4, e9, h2⟩ := h2
      rcases X13.2.1.take (by omega) e8 with ⟨t61, rfl, rfl⟩ | ⟨t61, rfl, rfl⟩
      case inr =>
        rw [if_pos rfl] at e7
        cases e7
        obtain rfl : r = 0 := by
          rcases hr with ⟨-, z⟩ | ⟨z, -⟩
          · exact z
          · exact absurd rfl z
        rcases y3.mark T hl (by unfold sgn; omega) e9 with ⟨z, -⟩ | ⟨-, rfl, rfl⟩
        · exact absurd z t61
        · rw [if_pos rfl] at h2
          cases h2
          exact X13.flt T hs
      rw [if_neg (by decide)] at e7
      rcases y3.mark T hl (by unfold sgn; omega) e9 with ⟨-, rfl, hM4, f4⟩ | ⟨z, -⟩
      case inr => exact absurd t61 z
      rw [if_neg (by decide)] at h2
      have X14 := X13.next hA hs hM4 f4
      replace e7 := bI_e e7
      obtain ⟨w, m8, e10, e7⟩ := e7
      replace h2 := bI_e h2
      obtain ⟨w', n5, e11, h2⟩ := h2
      rcases X14.var T hl hA hp hs e10 e11 with ⟨rfl, rfl, hF, hF'⟩ | ⟨y, rfl, rfl, vy, X15, hS, -, e15, -⟩
      · rw [if_pos rfl] at e7
        cases e7
        obtain rfl : r = 0 := by
          rcases hr with ⟨-, z⟩ | ⟨z, -⟩
          · exact z
          · exact absurd rfl z
        rw [if_neg (by omega)] at h2
        cases h2
        exact hF.up hA hs
      · rw [if_neg (by omega)] at e7
        cases e7
        obtain rfl : r = 1 := by
          rcases hr with ⟨z, -⟩ | ⟨-, z⟩
          · omega
          · exact z
        rw [if_pos (by rw [X15.2.2.1.2.2.2.1]; decide)] at h2
        replace h2 := bI_e h2
        obtain ⟨q8, n6, e12, h2⟩ := h2
        cases h2
        refine ((X15.set hA hs (q := 3) (v := (y : Int)) (by decide)).fin hp hs ho (by omega) e12 (Or.inr (Or.inl ?_)) (fun z => by rw [yup_nk (by decide), hS, yup_na (by omega), yup_nk (by decide), yup_eq] at z; omega)).1
        have u0 : yup m8 (A + 20 + s) 3 (y : Int) (A + 20 + s) 0 = 3 := by rw [yup_nk (by decide), hS, yup_na (by omega), yup_nk (by decide), yup_eq]
        have u2 : yup m8 (A + 20 + s) 3 (y : Int) (A + 20 + s) 2 = x := by rw [yup_nk (by decide), hS, yup_na (by omega), yup_eq]
        have u3 : yup m8 (A + 20 + s) 3 (y : Int) (A + 20 + s) 3 = y := yup_eq _ _ _ _
        have u4 : yup m8 (A + 20 + s) 3 (y : Int) (A + 20 + s) 4 = M5 (A + 20 + s) 4 := by rw [yup_nk (by decide), hS, yup_na (by omega), yup_nk (by decide), yup_nk (by decide)]
        rw [em_0, em_2, em_3, em_4, u0, u2, u3, u4, q4]
        rw [yup_na (by omega), yup_na (by omega), yup_na (by omega), q15] at e15
        exact ⟨rfl, rfl, rfl, rfl, by rw [yup_na (by omega)]; exact vx.mono e15, by rw [yup_na (by omega)]; exact vy, hN, rfl⟩
/-- an assignment, a store or a call, with its semicolon -/
theorem simple_r {f g i : Nat} {r1 r : Int} {M1 : yM} (T : TOK tx len n en tk tp tn) (hl : len ≤ 320) (hA : A = 256 ∨ A = 316) (hp : p ≤ 1) (hs : s < 40) (ho : o ≤ 120) (ha : a ≤ 100) (h16 : mc A 16 = (s : Int) + 1) (h : CX tx len n en tk tp tn A p k res s o a i mc mm i mc mm) (s2 : mc (A + 20 + s) 2 = -1) (t9 : tk i ≠ 9) (h1 : F68 f A (A + 20 + s) mc = some (r1, M1)) (h1' : (r1 = 0 → r = 0 ∧ M' = M1) ∧ (r1 ≠ 0 → ∃ r2, F37 f 59 M1 = some (r2, M') ∧ ((r2 = 0 ∧ r = 0) ∨ (r2 ≠ 0 ∧ r = 1)))) (h2 : F138 g mm = some N') : STO tx len n en tk tp tn A p k res s o a i mc mm r M' N' := by
  have h0 := h
  obtain ⟨c1, c2, c3, c4, c5, c6, c7, c8, c9, c10, c11, c12, c13⟩ := h
  have hj := c3.le T hl
  unfold F138 at h2
  rw [c3.2.2.2.2.isReturn T, if_neg t9, if_pos rfl, c3.2.2.2.2.isName T] at h2
  replace h2 := bI_e h2
  obtain ⟨w, n1, e2, h2⟩ := h2
  unfold F68 at h1
  rw [c2.kind] at h1
  obtain ⟨pl, hpl, h1⟩ : ∃ pl : Int, ((pl = 1 ∧ tk i = 11) ∨ (pl = 0 ∧ tk i ≠ 11)) ∧ J68_14 f A (A + 20 + s) pl mc = some (r1, M1) := by
    rcases ite1 h1 with ⟨z, h1⟩ | ⟨z, h1⟩
    · exact ⟨1, Or.inl ⟨rfl, z⟩, h1⟩
    · exact ⟨0, Or.inr ⟨rfl, z⟩, h1⟩
  unfold J68_14 at h1
  replace h1 := bI_e h1
  obtain ⟨v, m1, e1, h1⟩ := h1
  rcases h0.var T hl hA hp hs e1 e2 with ⟨rfl, rfl, hF, hF'⟩ | ⟨x, rfl, rfl, vx, X, hS, tt, e15, xr⟩
  · rw [if_pos rfl] at h1
    cases h1
    obtain ⟨rfl, rfl⟩ := h1'.1 rfl
    rw [if_neg (by omega)] at h2
    cases h2
    exact hF
  rw [if_neg (by omega)] at h1
  have X0 := X
  obtain ⟨x1, x2, x3, x4, x5, x6, x7, x8, x9, x10, x11, x12, x13⟩ := X
  have hj1 := x3.le T hl
  rw [if_pos (by rw [x3.2.2.2.1]; decide), x3.2.2.2.2.mark T (by unfold sgn; omega), x3.2.2.2.2.mark T (by unfold sgn; omega)] at h2
  rw [x2.kind] at h1
  have hm1 : m1 (A + 20 + s) 2 = -1 := by rw [hS]; exact s2
  by_cases t46 : tk (i + 1) = 46
  · rw [if_pos t46, if_neg (by decide)] at h2
    replace h2 := bU_e h2
    obtain ⟨n2, e3, h2⟩ := h2
    have h1 : J68_45 f A (A + 20 + s) (x : Int) 0 m1 = some (r1, M1) := by
      rcases ite1 h1 with ⟨z, h1⟩ | ⟨z, h1⟩
      · exact h1
      · rw [if_neg (by omega)] at h1
        exact h1
    have K := member_r T hl hA hp hs ho X0 (by omega) hm1 vx t46 h1 e3
    exact semi_r T hl hA hs (by omega) K h1' h2
  rw [if_neg t46, if_pos rfl] at h2
  by_cases t61 : pl = 1 ∧ tk (i + 1) = 61
  · obtain ⟨rfl, t61⟩ := t61
    rw [if_neg (by decide), if_pos t61] at h1
    have t11 : tk i = 11 := by
      rcases hpl with ⟨-, z⟩ | ⟨z, -⟩
      · exact z
      · omega
    rw [if_pos t11, if_neg (by decide), if_pos t61, if_neg (by decide)] at h2
    unfold J138_90 at h2
    replace h2 := bI_e h2
    obtain ⟨q3, n2, e3, h2⟩ := h2
    obtain ⟨rfl, hM2, f2⟩ := goOn1 T hl x3 (by omega) e3
    rw [if_neg (by decide)] at h2
    replace h2 := bU_e h2
    obtain ⟨n3, e4, h2⟩ := h2
    unfold J68_45 at h1
    rw [if_neg (by decide), x2.1, wr_i (by omega) (by omega)] at h1
    replace h1 := bI_e h1
    obtain ⟨r4, m4, e5, h1⟩ := h1
    have X2 := (X0.set hA hs (q := 2) (v := (x : Int)) (by decide)).next hA hs hM2 f2
    have K := right_r (r := r1) (M' := M1) T hl hA hp hs ho ha h16 X2 (by omega) (by rw [yup_na (by omega), yup_eq]) (by rw [yup_na (by omega), yup_na (by omega)]; exact vx) xr e5 ⟨fun z => by
      rw [if_pos z] at h1
      cases h1
      exact ⟨rfl, rfl⟩, fun z => by
      rw [if_neg z] at h1
      exact h1⟩ e4
    exact semi_r T hl hA hs (by omega) K h1' h2
  · have h1 : J68_45 f A (A + 20 + s) (x : Int) 0 m1 = some (r1, M1) := by
      rcases ite1 h1 with ⟨z, h1⟩ | ⟨z, h1⟩
      · exact h1
      · rw [if_neg (by omega)] at h1
        exact h1
    have h2 : J138_90 g (x : Int) 0 n1 = some N' := by
      by_cases t11 : tk i = 11
      · have p1 : pl = 1 := by
          rcases hpl with ⟨z1, -⟩ | ⟨-, z1⟩
          · exact z1
          · exact absurd t11 z1
        rw [if_pos t11, if_neg (by decide), if_neg (fun z => t61 ⟨p1, z⟩), if_pos rfl] at h2
        exact h2
      · rw [if_neg t11, if_pos rfl] at h2
        exact h2
    unfold J68_45 at h1
    rw [if_pos rfl] at h1
    replace h1 := bI_e h1
    obtain ⟨r4, m4, e5, h1⟩ := h1
    have X9 := (X0.set hA hs (q := 3) (v := (x : Int)) (by decide)).set hA hs (q := 0) (v := 9) (by decide)
    rcases F62_r (by omega) hA X9.2.1 e5 with ⟨-, rfl, rfl⟩ | ⟨z, -⟩ | ⟨z, -⟩
    · rw [if_pos rfl] at h1
      cases h1
      obtain ⟨rfl, rfl⟩ := h1'.1 rfl
      unfold J138_90 at h2
      replace h2 := bI_e h2
      obtain ⟨q3, n2, e3, h2⟩ := h2
      obtain ⟨rfl, rfl⟩ := goOn0 T hl x3 e3
      rw [if_pos rfl] at h2
      unfold J138_101 at h2
      rw [yup_eq, if_neg (by have := x3.tp0 T; omega)] at h2
      cases h2
      exact X9.flt T hs
    · exact absurd z t46
    · exact absurd z t46
/-- return -/
theorem return_r {f g i : Nat} {r1 r : Int} {M1 : yM} (T : TOK tx len n en tk tp tn) (hl : len ≤ 320) (hA : A = 256 ∨ A = 316) (hp : p ≤ 1) (hs : s < 40) (ho : o ≤ 120) (h : CX tx len n en tk tp tn A p k res s o a i mc mm i mc mm) (h398 : mm 398 (10 * p + k) = res) (t9 : tk i = 9) (h1 : F60 f A (A + 20 + s) mc = some (r1, M1)) (h1' : (r1 = 0 → r = 0 ∧ M' = M1) ∧ (r1 ≠ 0 → ∃ r2, F37 f 59 M1 = some (r2, M') ∧ ((r2 = 0 ∧ r = 0) ∨ (r2 ≠ 0 ∧ r = 1)))) (h2 : F138 g mm = some N') : STO tx len n en tk tp tn A p k res s o a i mc mm r M' N' := by
  have h0 := h
  obtain ⟨c1, c2, c3, c4, c5, c6, c7, c8, c9, c10, c11, c12, c13⟩ := h
  have hj := c3.le T hl
  have hk := c4.1.2.1
  unfold F138 at h2
  rw [c3.2.2.2.2.isReturn T, if_pos t9, if_neg (by decide)] at h2
  replace h2 := bU_e h2
  obtain ⟨n1, e2, h2⟩ := h2
  obtain ⟨hM1, f1⟩ := c3.next T hl (by omega) e2
  unfold F60 at h1
  rw [c5, Int.toNat_natCast, c4.1.2.2.1, c2.1, wr_i (by omega) (by omega)] at h1
  have X1 := ((h0.set hA hs (q := 0) (v := 2) (by decide)).set hA hs (q := 2) (v := (res : Int)) (by decide)).next hA hs hM1 f1
  replace h1 := bI_e h1
  obtain ⟨v, m1, e1, h1⟩ := h1
  replace h2 := bI_e h2
  obtain ⟨w, n2, e3, h2⟩ := h2
  rcases X1.var T hl hA hp hs e1 e3 with ⟨rfl, rfl, hF, hF'⟩ | ⟨x, rfl, rfl, vx, X, hS, tt, e15, xr⟩
  · rw [if_pos rfl] at h1
    cases h1
    obtain ⟨rfl, rfl⟩ := h1'.1 rfl
    rw [if_neg (by omega)] at h2
    unfold J138_38 J138_101 at h2
    rw [if_neg (by omega)] at h2
    cases h2
    exact hF.up hA hs
  · rw [if_neg (by omega)] at h1
    cases h1
    rw [if_pos (by rw [X.2.2.1.2.2.2.1]; decide)] at h2
    replace h2 := bI_e h2
    obtain ⟨q3, n3, e4, h2⟩ := h2
    have K := ((X.set hA hs (q := 3) (v := (x : Int)) (by decide)).fin hp hs ho (by omega) e4 (Or.inl (by
      have u0 : yup m1 (A + 20 + s) 3 (x : Int) (A + 20 + s) 0 = 2 := by rw [yup_nk (by decide), hS, yup_na (by omega), yup_nk (by decide), yup_eq]
      have u1 : yup m1 (A + 20 + s) 3 (x : Int) (A + 20 + s) 1 = k := by rw [yup_nk (by decide), hS, yup_na (by omega), yup_nk (by decide), yup_nk (by decide), c5]
      have u2 : yup m1 (A + 20 + s) 3 (x : Int) (A + 20 + s) 2 = res := by rw [yup_nk (by decide), hS, yup_na (by omega), yup_eq]
      have u3 : yup m1 (A + 20 + s) 3 (x : Int) (A + 20 + s) 3 = x := yup_eq _ _ _ _
      rw [em_0, em_2, u0, u1, u2, u3, Int.toNat_natCast, em_o (by omega) (by omega)]
      have u10 : yup m1 (A + 20 + s) 3 (x : Int) A 10 = (k : Int) + 1 := by rw [yup_na (by omega)]; exact X.2.2.2.1.1.1
      rw [u10]
      refine ⟨rfl, rfl, rfl, by rw [yup_na (by omega)]; exact vx, ?_, by omega, rfl⟩
      have e398 : n2 398 (10 * p + k) = mm 398 (10 * p + k) := X.2.2.2.2.2.2.2.1 398 (10 * p + k) (by omega) (by omega) (by omega) (by omega) (by omega) (by omega) (by omega)
      rw [e398]
      exact h398.symm)) (fun z => by rw [yup_nk (by decide), hS, yup_na (by omega), yup_nk (by decide), yup_eq] at z; omega)).1
    exact semi_r T hl hA hs (by omega) K h1' h2
end SW

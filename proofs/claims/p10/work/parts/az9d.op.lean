/-! THE RULES: what a call hands over; an op, whole -/
section RW
variable {G : Nat → Prop} {V : Int} {A p f g s o : Nat} {mc mm mc' mm' mc0 mm0 : yM}
theorem iDiv16 {c na : Nat} (hc : c < 12) (hna : na ≤ 2) : iDiv ((16 * c + na : Nat) : Int) 16 = c ∧ iRem ((16 * c + na : Nat) : Int) 16 = na := by
  have : ∀ (c : Fin 12) (na : Fin 3), iDiv ((16 * (c : Nat) + (na : Nat) : Nat) : Int) 16 = (c : Nat) ∧ iRem ((16 * (c : Nat) + (na : Nat) : Nat) : Int) 16 = (na : Nat) := by decide +kernel
  exact this ⟨c, hc⟩ ⟨na, by omega⟩
/-- the arguments and the result of a call, for a method that it may go to -/
theorem call2_r {S b v2' n c na : Nat} {v2 : Int} (hA : A = 256 ∨ A = 316) (hp : p ≤ 1) (hR : RPG A p s o mc0 mm0) (hVV : V = mc0 A 15) (h18 : mm0 376 18 = p) (hn : mc0 A 14 = n) (hn2 : n ≤ 12) (h388 : mm0 388 p = n) (hS : 169 ≤ S) (hb : b ≤ 2000) (s2 : mc0 S 2 = v2) (s6 : mc0 S 6 = c) (s8 : mc0 S 8 = na) (hc : c < 12) (hna : na ≤ 2) (hv2 : v2 = -1 ∨ (v2 = v2' ∧ v2' < 48 ∧ (v2' : Int) < V)) (b2 : mm0 403 (b + 2) = v2) (h6 : 0 < na → mm0 403 (b + 6) = mc0 S 9 ∧ vB (mc0 A 15) (mc0 S 9)) (h7 : 1 < na → mm0 403 (b + 7) = mc0 S 10 ∧ vB (mc0 A 15) (mc0 S 10)) (h : FS G V mc0 mm0 mc mm) (e1 : F89 f A S mc = some mc') {rm : (Int × yM) ⊕ (Unit × yM)} (e3 : yloop (fun (l : Int) ml => B148_208 g (b : Int) (c : Int) (na : Int) l ml) g 0 mm = some rm) (e4 : ∀ l m2, rm = .inl (l, m2) → mm' = m2) : FS G V mc0 mm0 mc' mm' := by
  have bb : ∀ {m : yM} (q : Nat), q < 8 → MF mm0 m → m 403 (wr ((b : Int) + (q : Int))).toNat = mm0 403 (b + q) := fun q hq hF => by
    rw [wr_i (by omega) (by omega), show ((b : Int) + (q : Int)).toNat = b + q by omega]
    exact hF _ _ (by decide) (by omega)
  unfold F89 at e1
  obtain ⟨rc, e5, e6⟩ := bL_u e1
  have k1 : ∀ k : Nat, k ≤ 12 → wr ((k : Int) + 1) = ((k + 1 : Nat) : Int) := fun k hk => by rw [wr_i (by omega) (by omega)]; omega
  have h10a := hR.2.1.2.1
  have h10 := hR.2.1.2.2.1
  have h10e := hR.2.1.1
  obtain ⟨nk, hnk⟩ : ∃ nk : Nat, mc0 A 10 = nk := ⟨(mc0 A 10).toNat, by omega⟩
  have key : ∃ l m l' m', rc = .inl (l, m) ∧ rm = .inl (l', m') ∧ FS G V mc0 mm0 m m' := by
    refine yl2 (fun (l : Int) m (l' : Int) m' => ∃ k : Nat, l = k ∧ l' = k ∧ k ≤ nk ∧ FS G V mc0 mm0 m m') (fun r r' => ∃ l m l' m', r = .inl (l, m) ∧ r' = .inl (l', m') ∧ FS G V mc0 mm0 m m') (fun l m l' m' y y' hRR a1 a2 => ?_) f g 0 mc 0 mm rc rm ⟨0, rfl, rfl, by omega, h⟩ e5 e3
    obtain ⟨k, rfl, rfl, hk, hS0⟩ := hRR
    have A10 : m A 10 = nk := by rw [hS0.2.1 A 10 (by omega)]; exact hnk
    have S6 : m S 6 = c := by rw [hS0.2.1 S 6 (by omega)]; exact s6
    have k18 : m' 376 18 = p := by rw [hS0.2.2.1 376 18 (by decide) (by omega)]; exact h18
    have k384 : m' 384 p = nk := by rw [hS0.2.2.1 384 p (by decide) (by omega), ← h10e]; exact hnk
    have ix6 : (wr ((wr (10 * (c : Int))) + (k : Int))).toNat = 10 * c + k := by
      rw [wr_i (x := 10 * (c : Int)) (by omega) (by omega), wr_i (by omega) (by omega)]; omega
    unfold B89_2 J89_45 at a1
    unfold B148_208 J148_322 at a2
    rw [A10, S6, Int.toNat_natCast, Int.toNat_natCast, k1 k (by omega)] at a1
    rw [k18, Int.toNat_natCast, k384, ix6, ixp10 hp (by omega), k1 k (by omega)] at a2
    rcases ite1 a1 with ⟨q, a1⟩ | ⟨q, a1⟩
    case inr =>
      cases a1
      rw [if_neg q] at a2
      cases a2
      exact Or.inr ⟨_, _, rfl, rfl, _, _, _, _, rfl, rfl, hS0⟩
    rw [if_pos q] at a2
    rw [if_pos (by omega)] at a1
    have ho : F78 (m (59 + c) k) m = F144 (m' 406 (10 * c + k)) m' := (hS0.1.old (t := 2) (i := c) (j := k) (by decide) (by simp [fN]; omega) (by simp [ww]; omega)).1
    rcases ite1 a1 with ⟨q2, a1⟩ | ⟨q2, a1⟩
    · cases a1
      rw [if_pos (by rw [← ho]; exact q2)] at a2
      cases a2
      exact Or.inl ⟨_, _, _, _, rfl, rfl, k + 1, rfl, rfl, by omega, hS0⟩
    · rw [if_neg (by rw [← ho]; exact q2)] at a2
      rw [if_pos (by omega)] at a1
      replace a1 := bU_e a1
      obtain ⟨m8, a3, a1⟩ := a1
      cases a1
      obtain ⟨-, -, -, g4, -, -, g7, g8, g9, g10⟩ := hR.2.1.2.2.2 k (by omega)
      have hvn := hR.2.2.2.2.1.2.2.2.2.1 k (by omega)
      obtain ⟨res, hres⟩ : ∃ res : Nat, mc0 (A + 10 + k) 2 = res := ⟨(mc0 (A + 10 + k) 2).toNat, by omega⟩
      have h398 : m' 398 (10 * p + k) = res := by rw [hS0.2.2.1 398 _ (by decide) (by omega), ← g4]; exact hres
      rw [h398] at a2
      have a2res : ∀ {mx : yM}, CF mc0 mx → mx (A + 10 + k) 2 = res := fun hF => by rw [hF _ _ (by omega)]; exact hres
      -- the result goes to the variable
      have last : ∀ {x x' m9 : yM} {y' : (Int × yM) ⊕ ((Int × yM) ⊕ (Unit × yM))}, FS G V mc0 mm0 x x' → J88_61 f A S (A + 10 + k) x = some m9 → (if x' 403 (wr ((b : Int) + 2)).toNat < 0 then some (.inl (((k + 1 : Nat) : Int), x')) else bU (F146 g (x' 403 (wr ((b : Int) + 2)).toNat) (res : Int) x') (fun m5639 => some (.inl (((k + 1 : Nat) : Int), m5639)))) = some y' → ∃ m9', y' = .inl (((k + 1 : Nat) : Int), m9') ∧ FS G V mc0 mm0 m9 m9' := by
        intro x x' m9 y' hx c1 c2
        unfold J88_61 at c1
        rw [show (b : Int) + 2 = (b : Int) + ((2 : Nat) : Int) by rfl, bb 2 (by decide) hx.2.2.1, b2] at c2
        rw [hx.2.1 S 2 (by omega), s2, a2res hx.2.1] at c1
        rcases hv2 with z | ⟨z, z2, z3⟩
        · rw [if_pos z] at c1
          rw [if_pos (by omega)] at c2
          cases c1
          cases c2
          exact ⟨_, rfl, hx⟩
        · rw [if_neg (by omega), if_pos (by omega), if_pos (by omega), Int.toNat_natCast, z, Int.toNat_natCast] at c1
          rw [if_neg (by omega), z] at c2
          replace c1 := bU_e c1
          obtain ⟨m5, c3, c1⟩ := c1
          cases c1
          replace c2 := bU_e c2
          obtain ⟨m6, c4, c2⟩ := c2
          cases c2
          exact ⟨_, rfl, tellAll_r hA hx (by omega) z2 z3 hn hn2 h18 h388 c3 c4⟩
      -- the model's loop over arguments
      have stp : ∀ (j : Nat) (x' : yM) (r : (Int × yM) ⊕ (Unit × yM)) (H : Nat), yloop (fun (l : Int) ml => B148_261 g (b : Int) (c : Int) (na : Int) (k : Int) (res : Int) l ml) H (j : Int) x' = some r → (¬ j < na ∧ r = .inl ((j : Int), x')) ∨ (j < na ∧ ∃ x2 H', F146 g (wr ((wr ((res : Int) + 2)) + (j : Int))) (x' 403 (wr ((wr ((b : Int) + 6)) + (j : Int))).toNat) x' = some x2 ∧ yloop (fun (l : Int) ml => B148_261 g (b : Int) (c : Int) (na : Int) (k : Int) (res : Int) l ml) H' (((j + 1 : Nat) : Int)) x2 = some r) := by
        intro j x' r H e
        obtain ⟨f', -, e⟩ := yloop_s e
        by_cases hj : j < na
        · have K : ∀ y, B148_261 g (b : Int) (c : Int) (na : Int) (k : Int) (res : Int) (j : Int) x' = some y → ∃ x2, F146 g (wr ((wr ((res : Int) + 2)) + (j : Int))) (x' 403 (wr ((wr ((b : Int) + 6)) + (j : Int))).toNat) x' = some x2 ∧ y = .inl (((j + 1 : Nat) : Int), x2) := by
            intro y e
            unfold B148_261 at e
            rw [if_pos (by omega), k1 j (by omega)] at e
            replace e := bU_e e
            obtain ⟨x2, e2, e⟩ := e
            cases e
            exact ⟨x2, e2, rfl⟩
          rcases e with ⟨l2, m2, d1, d2⟩ | d1
          · obtain ⟨x2, d3, d4⟩ := K _ d1
            cases d4
            exact Or.inr ⟨hj, _, f', d3, d2⟩
          · obtain ⟨x2, d3, d4⟩ := K _ d1
            cases d4
        · have K : B148_261 g (b : Int) (c : Int) (na : Int) (k : Int) (res : Int) (j : Int) x' = some (.inr (.inl ((j : Int), x'))) := by
            unfold B148_261
            rw [if_neg (by omega)]
          rcases e with ⟨l2, m2, d1, d2⟩ | d1
          · rw [K] at d1; cases d1
          · rw [K] at d1; cases d1
            exact Or.inl ⟨hj, rfl⟩
      have S8 : ∀ {x : yM}, CF mc0 x → x S 8 = na := fun hF => by rw [hF S 8 (by omega)]; exact s8
      have pidx : ∀ j : Nat, j < 2 → wr ((wr ((res : Int) + 2)) + (j : Int)) = ((res + 2 + j : Nat) : Int) := fun j hj => by
        rw [wr_i (x := (res : Int) + 2) (by omega) (by omega), wr_i (by omega) (by omega)]; omega
      have bidx : ∀ (j : Nat) {x' : yM}, j < 2 → MF mm0 x' → x' 403 (wr ((wr ((b : Int) + 6)) + (j : Int))).toNat = mm0 403 (b + 6 + j) := fun j x' hj hF => by
        rw [wr_i (x := (b : Int) + 6) (by omega) (by omega), wr_i (by omega) (by omega), show ((b : Int) + 6 + (j : Int)).toNat = b + 6 + j by omega]
        exact hF _ _ (by decide) (by omega)
      have f87 : ∀ (j : Nat) {x : yM}, j < 2 → CF mc0 x → 0 ≤ F87 (A + 10 + k) (j : Int) x → F87 (A + 10 + k) (j : Int) x = ((res + 2 + j : Nat) : Int) ∧ (j : Int) < mc0 (A + 10 + k) 3 := fun j x hj hF hz => by
        unfold F87 at hz ⊢
        by_cases q : (j : Int) < x (A + 10 + k) 3
        · refine ⟨?_, by rw [hF _ _ (by omega)] at q; exact q⟩
          rw [if_pos q, a2res hF, wr_i (x := (res : Int) + 2) (by omega) (by omega), wr_i (by omega) (by omega)]; omega
        · rw [if_neg q] at hz; omega
      -- the second argument, then the result
      have third : ∀ {x x' m9 : yM} {r : (Int × yM) ⊕ (Unit × yM)} {H : Nat}, FS G V mc0 mm0 x x' → J88_30 f A S (A + 10 + k) x = some m9 → (na = 0 ∨ 1 ≤ na) → ∀ j : Nat, (na = 0 ∧ j = 0) ∨ (1 ≤ na ∧ j = 1) → yloop (fun (l : Int) ml => B148_261 g (b : Int) (c : Int) (na : Int) (k : Int) (res : Int) l ml) H (j : Int) x' = some r → ∃ l3 x3 x3', r = .inl (l3, x3') ∧ FS G V mc0 mm0 x3 x3' ∧ J88_61 f A S (A + 10 + k) x3 = some m9 := by
        intro x x' m9 r H hx c1 _ j hj c2
        unfold J88_30 at c1
        rw [S8 hx.2.1] at c1
        rcases stp j x' r H c2 with ⟨d1, d2⟩ | ⟨d1, x2, H', d2, d3⟩
        · rw [if_neg (by omega)] at c1
          exact ⟨_, _, _, d2, hx, c1⟩
        · obtain rfl : j = 1 := by omega
          obtain ⟨y1, y2⟩ := h7 (by omega)
          obtain ⟨v10, hv10⟩ : ∃ v10 : Nat, mc0 S 10 = v10 := ⟨(mc0 S 10).toNat, by have := y2.1; omega⟩
          have y2' := y2.2.1
          rw [if_pos (by omega), hx.2.1 S 10 (by omega), hv10, Int.toNat_natCast, if_pos (by omega)] at c1
          rcases ite1 c1 with ⟨q5, c1⟩ | ⟨q5, c1⟩
          · obtain ⟨q6, q7⟩ := f87 1 (by decide) hx.2.1 q5.1
            rw [show ((1 : Nat) : Int) = 1 from rfl] at q6
            rw [q6, Int.toNat_natCast] at c1
            replace c1 := bU_e c1
            obtain ⟨x5, c3, c1⟩ := c1
            rw [pidx 1 (by decide), bidx 1 (by decide) hx.2.2.1, y1, hv10] at d2
            have q5' := q5.2
            have N1 := tellAll_r hA hx (by omega) (by omega) (by omega) hn hn2 h18 h388 c3 d2
            rcases stp 2 x2 r H' d3 with ⟨d4, d5⟩ | ⟨d4, -⟩
            · exact ⟨_, _, _, d5, N1, c1⟩
            · omega
          · cases c1
      -- the first one
      have hB : ∃ r, yloop (fun (l : Int) ml => B148_261 g (b : Int) (c : Int) (na : Int) (k : Int) (res : Int) l ml) g ((0 : Nat) : Int) m' = some r ∧ (∀ l3 x3, r = .inl (l3, x3) → (if x3 403 (wr ((b : Int) + 2)).toNat < 0 then some (.inl (((k + 1 : Nat) : Int), x3)) else bU (F146 g (x3 403 (wr ((b : Int) + 2)).toNat) (res : Int) x3) (fun m5639 => some (.inl (((k + 1 : Nat) : Int), m5639)))) = some y') := by
        rcases bL_e a2 with ⟨l3, x3, d1, d2⟩ | ⟨l3, x3, d1, d2⟩
        · exact ⟨_, d1, fun l4 x4 e => by cases e; exact d2⟩
        · exact ⟨_, d1, fun l4 x4 e => by cases e⟩
      obtain ⟨r, hB1, hB2⟩ := hB
      have fin : ∃ m9', y' = .inl (((k + 1 : Nat) : Int), m9') ∧ FS G V mc0 mm0 m8 m9' := by
        unfold F88 at a3
        rw [S8 hS0.2.1] at a3
        by_cases hz : na = 0
        · rw [if_neg (by omega)] at a3
          obtain ⟨l3, x3, x3', c1, c2, c3⟩ := third hS0 a3 (Or.inl hz) 0 (Or.inl ⟨hz, rfl⟩) hB1
          exact last c2 c3 (hB2 _ _ c1)
        · obtain ⟨y1, y2⟩ := h6 (by omega)
          obtain ⟨v9, hv9⟩ : ∃ v9 : Nat, mc0 S 9 = v9 := ⟨(mc0 S 9).toNat, by have := y2.1; omega⟩
          have y2' := y2.2.1
          rw [if_pos (by omega), hS0.2.1 S 9 (by omega), hv9, Int.toNat_natCast, if_pos (by omega)] at a3
          rcases ite1 a3 with ⟨q5, a3⟩ | ⟨q5, a3⟩
          · obtain ⟨q6, q7⟩ := f87 0 (by decide) hS0.2.1 q5.1
            rw [show ((0 : Nat) : Int) = 0 from rfl] at q6
            rw [q6, Int.toNat_natCast] at a3
            replace a3 := bU_e a3
            obtain ⟨x5, c3, a3⟩ := a3
            rcases stp 0 m' r g hB1 with ⟨d1, -⟩ | ⟨-, x2, H', d2, d3⟩
            · omega
            · rw [pidx 0 (by decide), bidx 0 (by decide) hS0.2.2.1, Nat.add_zero, y1, hv9] at d2
              have q5' := q5.2
              have N1 := tellAll_r hA hS0 (by omega) (by omega) (by omega) hn hn2 h18 h388 c3 d2
              obtain ⟨l3, x3, x3', c1, c2, c3⟩ := third N1 a3 (Or.inr (by omega)) 1 (Or.inr ⟨by omega, rfl⟩) d3
              exact last c2 c3 (hB2 _ _ c1)
          · cases a3
      obtain ⟨m9', w1, w2⟩ := fin
      exact Or.inl ⟨_, _, _, _, rfl, w1, k + 1, rfl, rfl, by omega, w2⟩
  obtain ⟨l, m, l', m', z1, z2, z3⟩ := key
  rw [e6 _ _ z1, e4 _ _ z2]
  exact z3
theorem vB.nat {N x : Int} (h : vB N x) : ∃ v : Nat, x = v ∧ v < 48 ∧ (v : Int) < N := ⟨x.toNat, by have := h.1; omega, by have := h.2.1; have := h.1; omega, by have := h.2.2; have := h.1; omega⟩
/-- an op and its statement do the same -/
theorem op_r {t b n : Nat} (hA : A = 256 ∨ A = 316) (hp : p ≤ 1) (ht : t < 40) (hR : RPG A p s o mc0 mm0) (hVV : V = mc0 A 15) (hG : ∀ k, G k → mc0 (A + 8) k = mm0 400 (12 * p + k) ∧ 0 ≤ mc0 (A + 8) k ∧ mc0 (A + 8) k < mc0 A 9) (hgn : mc0 (A + 20 + t) 0 = 5 → ∀ x : Nat, mc0 (A + 20 + t) 6 = x → G x) (h18 : mm0 376 18 = p) (hn : mc0 A 14 = n) (hn2 : n ≤ 12) (h388 : mm0 388 p = n) (hb : b ≤ 2000) (hZ : OPZ A p t b mc0 mm0) (h : FS G V mc0 mm0 mc mm) (e1 : F90 f A (A + 20 + t) mc = some mc') (e2 : F150 g (b : Int) mm = some mm') : FS G V mc0 mm0 mc' mm' := by
  have bb : ∀ (q : Nat), q < 8 → mm 403 (wr ((b : Int) + (q : Int))).toNat = mm0 403 (b + q) := fun q hq => by
    rw [wr_i (by omega) (by omega), show ((b : Int) + (q : Int)).toNat = b + q by omega]
    exact h.2.2.1 _ _ (by decide) (by omega)
  have S : ∀ q, mc (A + 20 + t) q = mc0 (A + 20 + t) q := fun q => h.2.1 _ _ (by omega)
  have B0 : mm 403 b = mm0 403 b := h.2.2.1 _ _ (by decide) (by omega)
  have k18 : mm 376 18 = p := by rw [h.2.2.1 376 18 (by decide) (by omega)]; exact h18
  obtain ⟨⟨w1, w2, w3⟩, hZ⟩ := hZ
  have F8 : 0 ≤ mc 8 5 ∧ mc 8 5 ≤ 2000 := ⟨h.1.2.2.1, h.1.2.2.2.1⟩
  unfold F90 at e1
  unfold F150 at e2
  rw [S 0, S 2, S 3, S 6] at e1
  rw [Int.toNat_natCast, B0, show (b : Int) + 2 = (b : Int) + ((2 : Nat) : Int) by rfl, show (b : Int) + 3 = (b : Int) + ((3 : Nat) : Int) by rfl, show (b : Int) + 1 = (b : Int) + ((1 : Nat) : Int) by rfl, bb 1 (by decide), bb 2 (by decide), bb 3 (by decide), k18] at e2
  rcases hZ with hZ | hZ | hZ | hZ | hZ | hZ | hZ | hZ
  · obtain ⟨g1, g2, g3, g4, g5, g6⟩ := hZ
    obtain ⟨v3, hv3, l3, r3⟩ := g4.nat
    obtain ⟨v2, hv2, l2, r2⟩ := g6.nat
    obtain ⟨ow, how⟩ : ∃ ow : Nat, mc0 (A + 20 + t) 1 = ow := ⟨(mc0 (A + 20 + t) 1).toNat, by omega⟩
    rw [g1, if_pos rfl, hv2, hv3, if_pos (by omega), if_pos (by omega), Int.toNat_natCast, Int.toNat_natCast] at e1
    rw [how, Int.toNat_natCast] at g5
    rw [g2, if_neg (by decide), if_neg (by decide), if_pos rfl, w1, how, ixp10 hp (by omega), h.2.2.1 398 _ (by decide) (by omega), ← g5, g3, hv2, hv3] at e2
    replace e1 := bU_e e1
    obtain ⟨m1, e3, e1⟩ := e1
    cases e1
    replace e2 := bU_e e2
    obtain ⟨m2, e4, e2⟩ := e2
    cases e2
    exact tellAll_r hA h l3 l2 (by omega) hn hn2 h18 h388 e3 e4
  · obtain ⟨g1, g2, g3, g4, g5, g6, g7, g8, g9⟩ := hZ
    obtain ⟨v2, hv2, l2, r2⟩ := g5.nat
    obtain ⟨v3, hv3, l3, r3⟩ := g6.nat
    rw [g1, if_neg (by decide), if_pos rfl] at e1
    rw [g2, if_neg (by decide), if_neg (by decide), if_neg (by decide), if_neg (by decide), if_pos rfl] at e2
    replace e1 := bU_e e1
    obtain ⟨m1, e3, e1⟩ := e1
    cases e1
    unfold J150_101 at e2
    replace e2 := bU_e e2
    obtain ⟨m2, e4, e2⟩ := e2
    cases e2
    exact store_r hA hp hR hG h18 hn hn2 h388 (by omega) hb hv2 hv3 rfl l2 l3 ⟨g8, g9⟩ g2 (g3.trans hv2) (g4.trans hv3) g7 h e3 e4
  · obtain ⟨g1, g2, g3, g4, g5, g6, g7, g8, g9, g10, g11, g12, g13, g14⟩ := hZ
    obtain ⟨v3, hv3, l3, r3⟩ := g6.nat
    obtain ⟨c, hc⟩ : ∃ c : Nat, mc0 (A + 20 + t) 6 = c := ⟨(mc0 (A + 20 + t) 6).toNat, by omega⟩
    obtain ⟨na, hna⟩ : ∃ na : Nat, mc0 (A + 20 + t) 8 = na := ⟨(mc0 (A + 20 + t) 8).toNat, by omega⟩
    rw [g1, if_neg (by decide), if_neg (by decide), if_pos rfl] at e1
    rw [g2, if_neg (by decide), if_neg (by decide), if_neg (by decide), if_neg (by decide), if_neg (by decide), if_pos rfl] at e2
    replace e1 := bU_e e1
    obtain ⟨m1, e3, e1⟩ := e1
    replace e1 := bU_e e1
    obtain ⟨m1', e3', e1⟩ := e1
    cases e1
    replace e2 := bU_e e2
    obtain ⟨m2, e4, e2⟩ := e2
    cases e2
    have h5 : mm 403 (wr ((b : Int) + 5)).toNat = ((16 * c + na : Nat) : Int) := by
      rw [show (b : Int) + 5 = (b : Int) + ((5 : Nat) : Int) by rfl, bb 5 (by decide), g8, hc, hna]; omega
    obtain ⟨d1, d2⟩ := iDiv16 (c := c) (na := na) (by omega) (by omega)
    unfold F148 at e4
    rw [h5, d1, d2, show (b : Int) + 3 = (b : Int) + ((3 : Nat) : Int) by rfl, bb 3 (by decide), g4, hv3] at e4
    have key : ∃ r, yloop (fun (l : Int) ml => B148_37 g (b : Int) (v3 : Int) (c : Int) (na : Int) l ml) g 0 mm = some r ∧ (∀ l m5, r = .inl (l, m5) → ∃ r', yloop (fun (l : Int) ml => B148_208 g (b : Int) (c : Int) (na : Int) l ml) g 0 m5 = some r' ∧ (∀ l m6, r' = .inl (l, m6) → mm' = m6)) := by
      rcases bL_e e4 with ⟨l, m5, a1, a2⟩ | ⟨l, m5, a1, a2⟩
      · exact ⟨_, a1, fun l m5 e => by cases e; exact bL_u a2⟩
      · exact ⟨_, a1, fun l m5 e => by cases e⟩
    obtain ⟨r, a1, a2⟩ := key
    obtain ⟨l5, m5, a3, hS5⟩ := call1_r (nm' := mm0 403 (b + 4)) hA hp hR hVV hG h18 hn hn2 h388 (by omega) hb hv3 rfl hc hna l3 (by omega) g7 rfl h e3 a1
    obtain ⟨r', a4, a5⟩ := a2 _ _ a3
    exact call2_r (v2' := (mc0 (A + 20 + t) 2).toNat) hA hp hR hVV h18 hn hn2 h388 (by omega) hb rfl hc hna (by omega) (by omega) (by
      rcases g5 with z | z
      · exact Or.inl z
      · right
        have := z.1
        have := z.2
        omega) g3 (fun z => g13 (by omega)) (fun z => g14 (by omega)) hS5 e3' a4 a5
  · obtain ⟨g1, g2, g3, g4, g5, g6, g7, g8⟩ := hZ
    obtain ⟨v2, hv2, l2, r2⟩ := g5.nat
    obtain ⟨x, hx⟩ : ∃ x : Nat, mc0 (A + 20 + t) 6 = x := ⟨(mc0 (A + 20 + t) 6).toNat, by omega⟩
    rw [g1, if_neg (by decide), if_neg (by decide), if_neg (by decide), if_pos rfl, hv2, if_pos (by omega), Int.toNat_natCast, hx] at e1
    rw [g2, if_pos rfl, g3, g4, hv2, hx] at e2
    replace e1 := bU_e e1
    obtain ⟨m1, e3, e1⟩ := e1
    cases e1
    replace e2 := bU_e e2
    obtain ⟨m2, e4, e2⟩ := e2
    cases e2
    have t1 := F79_12_t F8 e3
    rw [Int.toNat_natCast] at t1
    have t2 := F145_t l2 (by omega) e4
    rw [t1, t2]
    exact h.tell0 l2 (by omega) (hgn g1 x hx) (by omega)
  · obtain ⟨g1, g2, g3, g4⟩ := hZ
    rw [g1, if_neg (by decide), if_neg (by decide), if_neg (by decide), if_neg (by decide), if_pos rfl] at e1
    rw [g2, if_neg (by decide), if_neg (by decide), if_neg (by decide), if_neg (by decide), if_neg (by decide), if_neg (by decide), if_neg (by decide)] at e2
    cases e1
    cases e2
    exact h
  · obtain ⟨g1, g2, g3, g4, g5, g6, g7, g8, g9, g10, g11, g12, g13, g14⟩ := hZ
    obtain ⟨v2, hv2, l2, r2⟩ := g5.nat
    obtain ⟨v3, hv3, l3, r3⟩ := g6.nat
    obtain ⟨c, hc⟩ : ∃ c : Nat, mm0 403 (b + 4) = c := ⟨(mm0 403 (b + 4)).toNat, by omega⟩
    rw [g1, if_neg (by decide), if_neg (by decide), if_neg (by decide), if_neg (by decide), if_neg (by decide), if_pos rfl] at e1
    rw [g2, if_neg (by decide), if_neg (by decide), if_neg (by decide), if_neg (by decide), if_neg (by decide), if_neg (by decide), if_pos rfl, g3, g4, hv2, hv3] at e2
    replace e1 := bU_e e1
    obtain ⟨m1, e3, e1⟩ := e1
    cases e1
    obtain ⟨rm, a1, a2⟩ := bL_u e2
    rw [hc, Int.toNat_natCast] at g12
    exact cast_r2 hA hp hR hG h18 hn hn2 h388 (by omega) hb hv2 hv3 rfl g13 l2 (by omega) l3 (by omega) hc g12 h e3 a1 a2
  · obtain ⟨g1, g2, g3, g4, g5, g6⟩ := hZ
    obtain ⟨v2, hv2, l2, r2⟩ := g5.nat
    obtain ⟨v3, hv3, l3, r3⟩ := g6.nat
    rw [g1, if_neg (by decide), if_neg (by decide), if_neg (by decide), if_neg (by decide), if_neg (by decide), if_neg (by decide), if_pos rfl, hv2, hv3, if_pos (by omega), if_pos (by omega), Int.toNat_natCast, Int.toNat_natCast] at e1
    rw [g2, if_neg (by decide), if_pos rfl, g3, g4, hv2, hv3] at e2
    replace e1 := bU_e e1
    obtain ⟨m1, e3, e1⟩ := e1
    cases e1
    replace e2 := bU_e e2
    obtain ⟨m2, e4, e2⟩ := e2
    cases e2
    exact tellAll_r hA h l3 l2 (by omega) hn hn2 h18 h388 e3 e4
  · obtain ⟨g1, g2, g3, g4, g5, g6, g7, g8, g9⟩ := hZ
    obtain ⟨v2, hv2, l2, r2⟩ := g5.nat
    obtain ⟨v3, hv3, l3, r3⟩ := g6.nat
    rw [g1, if_neg (by decide), if_neg (by decide), if_neg (by decide), if_neg (by decide), if_neg (by decide), if_neg (by decide), if_neg (by decide), if_pos rfl] at e1
    rw [g2, if_neg (by decide), if_neg (by decide), if_neg (by decide), if_pos rfl] at e2
    replace e1 := bU_e e1
    obtain ⟨m1, e3, e1⟩ := e1
    cases e1
    unfold J150_101 at e2
    replace e2 := bU_e e2
    obtain ⟨m2, e4, e2⟩ := e2
    cases e2
    exact load_r hA hp h18 hn hn2 h388 (by omega) hb hv2 hv3 rfl l2 (by omega) l3 ⟨g8, g9⟩ g2 (g3.trans hv2) (g4.trans hv3) g7 h e3 e4
end RW

/-! THE ANALYSIS, whole -/
section RZ
variable {A p f g s o : Nat} {mc mm mc' mm' : yM}
theorem facts_r (hA : A = 256 ∨ A = 316) (hp : p ≤ 1) (hR : RPG A p s o mc mm) (h18 : mm 376 18 = p) (h17 : ∃ (f' : Nat) (m1 : yM), F72 f' A 0 239 0 m1 = some (mc A 17) ∧ (∀ a q, (a = A ∧ q ≠ 17) ∨ (A + 1 ≤ a ∧ a < A + 20 ∧ a ≠ A + 8) → m1 a q = mc a q)) (e1 : F91 f A mc = some mc') (e2 : F151 g mm = some mm') : FQ (GEN A s mc) (mc A 15) mc' mm' ∧ mm' 376 47 = mc' 8 6 ∧ mc' 8 4 = pX A ∧ (∀ a q, 169 ≤ a → mc' a q = mc a q) ∧ (∀ a q, a < 404 → ¬ (a = 376 ∧ 45 ≤ q ∧ q ≤ 47) → mm' a q = mm a q) := by
  obtain ⟨m1, c1, c2, r, c3, c4⟩ := F151_r e2
  -- the start
  have hm18 : yup (yup m1 376 47 0) 376 45 0 376 18 = p := by rw [yup_nk (by decide), yup_nk (by decide), c2 376 18 (by decide)]; exact h18
  have fM : ∀ a q, a < 404 → ¬ (a = 376 ∧ 45 ≤ q ∧ q ≤ 47) → yup (yup m1 376 47 0) 376 45 0 a q = mm a q := fun a q z1 z2 => by rw [yup_ne (by omega), yup_ne (by omega)]; exact c2 a q z1
  have hq := hR.2.2.2.2.2.1
  have st : r = mc A 17 ∧ (r = -1 ∨ (0 ≤ r ∧ r < mc A 10)) := by
    obtain ⟨f', x1, d1, d2⟩ := h17
    have r1 : rCl A p x1 (yup (yup m1 376 47 0) 376 45 0) := hR.1.fr (d2 _ _ (by omega)) (fun b q hb => d2 _ _ (by omega)) (fun b q hb => fM _ _ (by omega) (by omega))
    have r2 : rMe A p x1 (yup (yup m1 376 47 0) 376 45 0) := hR.2.1.fr (d2 _ _ (by omega)) (Int.le_of_eq (d2 _ _ (by omega)).symm) (fun k q _ _ => d2 _ _ (by omega)) (fun b q hb => fM _ _ (by omega) (by omega))
    unfold F143 at c3
    replace c3 := bP_e c3
    obtain ⟨r0, d3, c3⟩ := c3
    cases c3
    rw [hm18] at d3
    obtain ⟨z1, z2⟩ := found_r r1 r2 hp go_Nm (by omega) (by rw [d2 A 9 (by omega)]; omega) d1 d3
    rw [d2 A 10 (by omega)] at z2
    rw [z1] at z2
    exact ⟨z1.symm, z2⟩
  obtain ⟨st1, st2⟩ := st
  unfold F91 at e1
  replace e1 := bU_e e1
  obtain ⟨x2, a1, e1⟩ := e1
  obtain ⟨b1, b2, b3⟩ := F77_r a1
  have x17 : x2 A 17 = r := by rw [b3 A 17 (by omega) (by omega), yup_na (by omega)]; exact st1.symm
  have fX : ∀ a q, 169 ≤ a → x2 a q = mc a q := fun a q ha => by rw [b3 a q (by omega) (by omega), yup_na (by omega)]
  rw [x17] at e1
  rcases c4 with ⟨c4, c5⟩ | ⟨c4, rm, c5, c6⟩
  · rw [if_pos (by omega)] at e1
    cases e1
    rw [c5]
    refine ⟨fun t i j g1 g2 g3 => ?_, ?_, by rw [b3 8 4 (by omega) (by omega), yup_eq], fX, fM⟩
    · rw [b1 t i j g1 g2 g3, yup_na (by omega), yup_na (by omega), c1 t i j g1 g2 g3]
      exact ⟨rfl, by omega, fun _ z => absurd rfl z, fun _ z => absurd rfl z⟩
    · rw [yup_nk (by decide), yup_eq, b2]
  · obtain ⟨q, rfl⟩ : ∃ q : Nat, r = q := ⟨r.toNat, by omega⟩
    have h10 := hR.2.1.2.2.1
    obtain ⟨-, -, -, g4, -, -, g7, -, g9, g10⟩ := hR.2.1.2.2.2 q (by omega)
    have hvn := hR.2.2.2.2.1.2.2.2.2.1 q (by omega)
    obtain ⟨res, hres⟩ : ∃ res : Nat, mc (A + 10 + q) 2 = res := ⟨(mc (A + 10 + q) 2).toNat, by omega⟩
    have h57 : F57 (A + 10 + q) (yup x2 71 q 0) = ((res + 1 : Nat) : Int) := by
      unfold F57
      rw [yup_na (by omega), fX _ _ (by omega), hres, wr_i (by omega) (by omega)]
      omega
    rw [if_neg (by omega), if_pos (by omega), Int.toNat_natCast, h57, if_pos (by omega), Int.toNat_natCast] at e1
    have ixr : (wr ((wr (10 * (p : Int))) + (q : Int))).toNat = 10 * p + q := ixp10 hp (by omega)
    have ixs : (wr (12 * (wr ((mm 398 (10 * p + q)) + 1)))).toNat = 12 * (res + 1) := by
      rw [← g4, hres, wr_i (x := (res : Int) + 1) (by omega) (by omega), wr_i (by omega) (by omega)]
      omega
    rw [c2 376 18 (by decide), h18, ixr, c2 398 _ (by decide), ixs, Int.toNat_natCast] at c5
    have key : ∃ rc, yloop (fun (_ : Unit) ml => B91_65 f A ml) f () (yup (yup (yup x2 71 q 0) (10 + (res + 1)) 0 0) 8 5 0) = some rc ∧ (∀ m2, rc = .inl ((), m2) → mc' = m2) := by
      rcases bL_e e1 with ⟨l, m, d1, d2⟩ | ⟨l, m, d1, d2⟩
      · cases d2
        exact ⟨_, d1, fun m2 e => by cases e; rfl⟩
      · exact ⟨_, d1, fun m2 e => by cases e⟩
    obtain ⟨rc, d1, d2⟩ := key
    have hR1 : RPG A p s o (yup mc 8 4 (pX A)) mm := hR.fr hA (fun a q ha => yup_na (by omega)) (fun _ _ _ _ => rfl)
    have gE : ∀ {k}, GEN A s (yup mc 8 4 (pX A)) k → GEN A s mc k := fun h => GEN.eq h (fun a q ha => yup_na (by omega)) hA
    have hD : HD (GEN A s (yup mc 8 4 (pX A))) (yup mc 8 4 (pX A) A 15) (yup mc 8 4 (pX A)) mm (yup (yup (yup x2 71 q 0) (10 + (res + 1)) 0 0) 8 5 0) (yup (yup (yup (yup (yup m1 376 47 0) 376 45 0) 407 q 0) 404 (12 * (res + 1)) 0) 376 46 1) := by
      refine ⟨fun t i j g1 g2 g3 => ?_, fun a q' ha => ?_, fun a q' z1 z2 => ?_, ?_, ?_, ?_, ?_, Or.inl ⟨?_, ?_, ?_⟩⟩
      · have hr := cc_rng g1 g2
        rw [yup_na (show cc t i ≠ 8 by omega), yup_na (show 404 + t ≠ 376 by omega)]
        by_cases w0 : t = 0 ∧ i = res + 1 ∧ j = 0
        · obtain ⟨rfl, rfl, rfl⟩ := w0
          have y1 : yup (yup x2 71 q 0) (10 + (res + 1)) 0 0 (cc 0 (res + 1)) 0 = 0 := yup_eq _ _ _ _
          have y2 : yup (yup (yup (yup m1 376 47 0) 376 45 0) 407 q 0) 404 (12 * (res + 1)) 0 (404 + 0) (ww 0 * (res + 1) + 0) = 0 := yup_eq _ _ _ _
          rw [y1, y2]
          exact ⟨rfl, by omega, fun _ _ => Or.inl rfl, fun _ _ => by rw [yup_na (by omega)]; omega⟩
        · have n0 : ¬ (cc t i = 10 + (res + 1) ∧ j = 0) := by
            rintro ⟨y1, y2⟩
            obtain ⟨y3, y4⟩ := cc_inj (t' := 0) (i' := res + 1) g1 (by decide) g2 (by show res + 1 < 48; omega) y1
            exact w0 ⟨y3, y4, y2⟩
          have n1 : ¬ (404 + t = 404 ∧ ww t * i + j = 12 * (res + 1)) := by
            rintro ⟨y1, y2⟩
            obtain rfl : t = 0 := by omega
            obtain ⟨y3, y4⟩ := ww_inj (t := 0) (i' := res + 1) (j' := 0) g3 (by decide) y2
            exact w0 ⟨rfl, y3, y4⟩
          rw [yup_ne n0, yup_ne n1]
          by_cases w3 : t = 3 ∧ j = q
          · obtain ⟨rfl, rfl⟩ := w3
            have hi : i < 1 := g2
            obtain rfl : i = 0 := by omega
            have y1 : yup x2 71 j 0 (cc 3 0) j = 0 := yup_eq _ _ _ _
            have y2 : yup (yup (yup m1 376 47 0) 376 45 0) 407 j 0 (404 + 3) (ww 3 * 0 + j) = 0 := by
              rw [show ww 3 * 0 + j = j by omega]
              exact yup_eq _ _ _ _
            rw [y1, y2]
            exact ⟨rfl, by omega, fun z _ => absurd z (by decide), fun z _ => absurd z (by decide)⟩
          · have n2 : ¬ (cc t i = 71 ∧ j = q) := by
              rintro ⟨y1, y2⟩
              obtain ⟨y3, -⟩ := cc_inj (t' := 3) (i' := 0) g1 (by decide) g2 (by decide) y1
              exact w3 ⟨y3, y2⟩
            have n3 : ¬ (404 + t = 407 ∧ ww t * i + j = q) := by
              rintro ⟨y1, y2⟩
              obtain rfl : t = 3 := by omega
              have hi : i < 1 := g2
              obtain rfl : i = 0 := by omega
              exact w3 ⟨rfl, by omega⟩
            rw [yup_ne n2, yup_ne n3, yup_na (show 404 + t ≠ 376 by omega), yup_na (show 404 + t ≠ 376 by omega), b1 t i j g1 g2 g3, c1 t i j g1 g2 g3]
            exact ⟨rfl, by omega, fun _ z => absurd rfl z, fun _ z => absurd rfl z⟩
      · rw [yup_ne (by omega), yup_na (by omega), yup_na (by omega), b3 a q' (by omega) (by omega)]
      · rw [yup_ne (by omega), yup_na (by omega), yup_na (by omega)]; exact fM a q' z1 z2
      · rw [yup_eq, yup_nk (by decide), yup_na (by decide), yup_na (by decide), yup_eq]
      · rw [yup_nk (by decide), yup_na (by decide), yup_na (by decide), yup_nk (by decide), yup_eq, yup_nk (by decide), yup_na (by omega), yup_na (by omega), b2]
      · rw [yup_eq]; omega
      · rw [yup_eq]; omega
      · rw [yup_eq, yup_nk (by decide), yup_na (by omega), yup_na (by omega), b2]
      · rw [yup_eq]
      · rw [yup_eq]
        have := fU_le (mc := yup (yup (yup x2 71 q 0) (10 + (res + 1)) 0 0) 8 5 0)
        omega
    obtain ⟨y1, y2, w1, w2, w3, w4, w5, w6, w7, -⟩ := rounds_r hA hp hR1 h18 f g _ _ rc rm hD d1 c5
    have z1 := d2 _ w1
    have z2 := c6 _ w2
    subst z1
    subst z2
    refine ⟨fun t i j g1 g2 g3 => ?_, w7, by rw [w4 8 4 (by omega), yup_eq], fun a q ha => by rw [w4 a q (by omega), yup_na (by omega)], w5⟩
    obtain ⟨v1, v2, v3⟩ := w3 t i j g1 g2 g3
    exact ⟨v1, v2, fun h1 h2 => gE (v3.1 h1 h2), fun h1 h2 => by have z := v3.2 h1 h2; rw [yup_na (by omega)] at z; exact z⟩
end RZ

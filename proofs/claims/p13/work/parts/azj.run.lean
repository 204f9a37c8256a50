section
/-! THE RUN, whole; what was seen -/
section UZ
variable {G : Nat → Prop} {A p f g s o : Nat} {m m1 m2 mc mm mc' mm' mc0 mm0 : yM}
/-- the method go: class and model -/
theorem go_u {r : Int} {x : yM} (hA : A = 256 ∨ A = 316) (hp : p ≤ 1) (hR : RPG A p s o mc0 mm0) (hgo : GOk A mc0) (h18 : mm0 376 18 = p) (hx : uM mm0 x) (e : F143 g x = some r) : r = mc0 A 17 ∧ (r = -1 ∨ (0 ≤ r ∧ r < mc0 A 10 ∧ mm0 397 (10 * p + r.toNat) = 0)) := by
  obtain ⟨f', x1, d1, d2⟩ := hgo
  have h10 := hR.2.1.2.2.1
  have r1 : rCl A p x1 x := hR.1.fr (d2 _ _ (by omega)) (fun b q hb => d2 _ _ (by omega)) (fun b q hb => hx _ _ (by omega) (by omega))
  have r2 : rMe A p x1 x := hR.2.1.fr (d2 _ _ (by omega)) (Int.le_of_eq (d2 _ _ (by omega)).symm) (fun k q _ _ => d2 _ _ (by omega)) (fun b q hb => hx _ _ (by omega) (by omega))
  unfold F143 at e
  replace e := bP_e e
  obtain ⟨r0, d3, e⟩ := e
  injection e with e
  subst e
  rw [hx 376 18 (by decide) (by omega), h18] at d3
  have c9 := hR.2.2.2.2.2.1.2.2.2.2
  obtain ⟨z1, z2⟩ := found_r r1 r2 hp go_Nm (by omega) (by rw [d2 A 9 (by omega)]; omega) d1 d3
  rw [d2 A 10 (by omega), z1] at z2
  refine ⟨z1.symm, ?_⟩
  rcases z2 with z2 | z2
  · exact Or.inl z2
  · refine Or.inr ⟨z2.1, z2.2, ?_⟩
    unfold F142 at d3
    replace d3 := bP_e d3
    obtain ⟨r8, -, d3⟩ := d3
    rcases ite1 d3 with ⟨-, d3⟩ | ⟨-, d3⟩
    · injection d3 with d3; omega
    · rcases ite1 d3 with ⟨ya, d3⟩ | ⟨-, d3⟩
      · injection d3 with d3
        obtain ⟨q, hq⟩ : ∃ q : Nat, r0 = q := ⟨r0.toNat, by omega⟩
        rw [d3, hq, ixp10 hp (by omega), hx 397 _ (by decide) (by omega)] at ya
        rw [hq, Int.toNat_natCast]
        exact ya
      · injection d3 with d3; omega
theorem pop0 {x : Int} (h54 : mm 376 54 = 1) (e : J204_36 g x mm = some mm') : mm' = yup mm 376 54 0 := by
  unfold J204_36 at e
  have w : wr (mm 376 54 - 1) = 0 := by rw [h54, wr_i (by omega) (by omega)]; omega
  rw [w, if_pos rfl] at e
  injection e with e
  exact e.symm
/-- the run itself -/
theorem run_u {rv : Unit ⊕ Nat} {rr : (Unit × yM) ⊕ (Int × yM)} {r7 : Int} {n2 n3 nS : yM} {go : Nat} (hA : A = 256 ∨ A = 316) (hp : p ≤ 1) (hR : RPG A p s o mc0 mm0) (hgo : mc0 A 17 = go) (hgo2 : (go : Int) < mc0 A 10) (hgo3 : mm0 397 (10 * p + go) = 0) (h18 : mm0 376 18 = p) (e1 : F198 f A mc0 = some (rv, mc')) (hS1 : uM mm0 nS) (hS2 : nS 376 51 = 0 ∧ nS 376 54 = 0 ∧ nS 376 56 = 0 ∧ nS 376 57 = 0) (hS3 : ∀ i, i < 576 → nS 408 i = 0) (e2 : F201 g 0 nS = some (r7, n2)) (e3 : F203 g (go : Int) r7 0 0 0 n2 = some n3) (hL : UL g g n3 = some rr) : ∃ mm', rr = .inl ((), mm') ∧ ((∃ e, rv = .inr e ∧ uX mc0 mm0 e mc' mm') ∨ (rv = .inl () ∧ mm' 376 57 = 0 ∧ mm' 376 56 = mc' 169 6 ∧ (0 ≤ mc' 169 6 ∧ mc' 169 6 ≤ 200) ∧ uE mc0 mm0 mc' mm')) := by
  obtain ⟨S51, S54, S56, S57⟩ := hS2
  have h10 := hR.2.1.2.2.1
  obtain ⟨-, -, b3, b4, -, -, b7, b8, b9, b10⟩ := hR.2.1.2.2.2 go hgo2
  rw [hgo3] at b3
  obtain ⟨res, hres⟩ : ∃ res : Nat, mc0 (A + 10 + go) 2 = res := ⟨(mc0 (A + 10 + go) 2).toNat, by omega⟩
  unfold F198 at e1
  replace e1 := bU_e e1
  obtain ⟨c1, c2, e1⟩ := e1
  obtain ⟨z1, z2⟩ := F92_r c2
  have cf : ∀ b y, ¬ (171 ≤ b ∧ b < 219) → b ≠ 169 → yup (yup c1 169 5 0) 169 6 0 b y = mc0 b y := fun b y w1 w2 => by rw [yup_na w2, yup_na w2, z2 b y w1, yup_na w2]
  have hB : uB (GEN A s mc0) (yup (yup c1 169 5 0) 169 6 0) nS := by
    refine ⟨⟨by rw [yup_nk (by decide), yup_eq]; omega, by rw [yup_nk (by decide), yup_eq]; omega, by rw [yup_nk (by decide), yup_eq]; omega⟩, ⟨by rw [yup_eq]; omega, by rw [yup_eq]; omega, by rw [yup_eq]; omega⟩, fun i hi => ?_, fun i y hi _ => ?_, fun v j hv hj => ?_⟩
    · rw [yup_nk (by decide), yup_eq] at hi; omega
    · rw [yup_nk (by decide), yup_eq] at hi; omega
    · rw [yup_na (by omega), yup_na (by omega), z1 v j hv hj, hS3 _ (by omega)]
      omega
  have hF : uF 0 (yup (yup c1 169 5 0) 169 6 0) nS := fun x v hx _ => by omega
  have hC : uC mc0 (yup (yup c1 169 5 0) 169 6 0) := fun a y ha => cf a y (by omega) (by omega)
  have hG : ∀ k, GEN A s mc0 k → mc0 (A + 8) k = mm0 400 (12 * p + k) ∧ 0 ≤ mc0 (A + 8) k ∧ mc0 (A + 8) k < mc0 A 9 := fun k hk => hR.2.2.2.2.2.2.2 k hk
  have hgn : ∀ t : Nat, t < s → mc0 (A + 20 + t) 0 = 5 → ∀ x : Nat, mc0 (A + 20 + t) 6 = x → x < 12 ∧ GEN A s mc0 x := fun t ht h5 x hx => by
    have hg : GEN A s mc0 x := Or.inr ⟨t, ht, h5, hx⟩
    exact ⟨(GEN.lt hR hg).1, hg⟩
  have obj : ∀ zz, F186 f (((0 : Nat) : Int)) (yup (yup c1 169 5 0) 169 6 0) = some zz → ∃ mc1, zz = (.inl 0, mc1) ∧ r7 = 1 ∧ uB (GEN A s mc0) mc1 n2 ∧ uF 0 mc1 n2 ∧ uC mc0 mc1 ∧ uM mm0 n2 ∧ mc1 169 5 = 1 ∧ (∀ y, 54 ≤ y → n2 376 y = nS 376 y) := by
    intro zz ez
    have k5 : yup (yup c1 169 5 0) 169 6 0 169 5 = 0 := by rw [yup_nk (by decide), yup_eq]
    rcases objR (x := 0) hB hF (by omega) (by decide) (Or.inl rfl) ez e2 with ⟨w, -⟩ | ⟨-, mc1, w, w1, w2, w3, w4, w5, w6, w7, w8, w9, w10⟩
    · omega
    · rw [k5] at w w1 w6
      exact ⟨mc1, w, by omega, w2, w3, hC.tr w4, hS1.tr w5, by omega, w9⟩
  rcases bT_e e1 with ⟨r9, m9, c3, c4⟩ | ⟨e', m9, c3, c4⟩
  case inr =>
    obtain ⟨mc1, w, -⟩ := obj _ c3
    cases w
  obtain ⟨mc1, w, o1, o2, o3, o4, o5, o6, o7⟩ := obj _ c3
  injection w with w w'
  injection w with w
  rw [w, w', o4 A 17 (by omega), hgo, Int.toNat_natCast, if_pos (by omega)] at c4
  rcases bT_e c4 with ⟨fr, m3, c5, c6⟩ | ⟨e', m3, c5, c6⟩
  case inr =>
    rcases F187_r (k := 0) (by omega) c5 with ⟨w, -⟩ | ⟨-, m4, -, w⟩
    · omega
    · cases w
  rcases F187_r (k := 0) (by omega) c5 with ⟨w, -⟩ | ⟨-, m4, c7, w⟩
  · omega
  injection w with w w'
  injection w with w
  rw [w, w', if_pos (by omega)] at c6
  replace c6 := bU_e c6
  obtain ⟨m5, c8, c6⟩ := c6
  have e3' : F203 g (go : Int) ((0 : Int) + 1) 0 0 0 n2 = some n3 := by
    rw [show ((0 : Int) + 1) = 1 by decide]
    rw [o1] at e3
    exact e3
  obtain ⟨P1, P2, P3, P4, P5, P6, P7⟩ := push_u (k := 0) (na := 0) (sv := 0) (a1 := 0) (a2 := 0) hA hp hR h18 hgo2 (by omega) hres o2 o3 o4 o5 (by rw [o7 54 (by decide)]; exact S54) (by rw [o7 57 (by decide)]; exact S57) (by omega) (by omega) (fun w => by omega) (fun w => by omega) c7 c8 (Or.inl ⟨rfl, rfl⟩) (Or.inl ⟨by omega, rfl⟩) (fun w => by omega) (fun w => by omega) e3'
  have hSL := uSL_all (f := f) (g := g) hA hp hR hG hgn h18 f
  obtain ⟨-, -, -, -, ⟨-, -, -, -, -, hOW, hMZ⟩, ⟨-, hs40, -, ho120, -⟩, -, -⟩ := hR
  obtain ⟨s0, s1, o0, o1', fu, M1, M2, M3, M4, M5, M6, M7, M8⟩ := hMZ go hgo2
  obtain ⟨W1, W2⟩ := hOW go (by omega)
  rw [P1.2.2.1 (A + 10 + go) 4 (by omega), P1.2.2.1 (A + 10 + go) 5 (by omega), M1, M2] at c6
  have run : ∀ {res' : Int ⊕ Nat} {mx : yM}, F197 f A f (s0 : Int) (s1 : Int) ((0 : Nat) : Int) m5 = some (res', mx) → uO (GEN A s mc0) mc0 mm0 g 0 res o1' m5 n3 rr res' mx := fun e => hSL fu s0 s1 o0 o1' 0 go res g m5 n3 _ _ rr M6 M4 (by omega) (fun t' t1 t2 => by
    have := W2 t' (by omega) (by omega)
    rw [hres] at this
    exact this) hres (by omega) (by rw [← b4]; exact hres) (by omega) P1 (by rw [P2]; exact M3) e hL
  rcases bT_e c6 with ⟨r10, m10, c9, c10⟩ | ⟨e', m10, c9, c10⟩
  case inr =>
    injection c10 with c10
    injection c10 with c10 c10'
    rcases run c9 with ⟨e9, mx, y1, y2, y3⟩ | ⟨y1, -⟩ | ⟨y1, -⟩
    · injection y1 with y1
      exact ⟨mx, y2, Or.inl ⟨e9, by rw [← c10, y1], by rw [← c10']; exact y3⟩⟩
    · cases y1
    · cases y1
  injection c10 with c10
  injection c10 with c10 c10'
  rcases run c9 with ⟨e9, mx, y1, -⟩ | ⟨y1, H', mx, y2, y3, y4, y5, y6, y7, y8⟩ | ⟨y1, H', mx, mm2, y2, y3, y4, y5, y6, y7, y8, y9, y10, y11, y12, y13, y14⟩
  · cases y1
  · obtain ⟨H2, my, w1, w2⟩ := UL.step y2 y3.2.2.2.2.2 (by rw [y3.2.2.2.2.1]; omega)
    have w3 := mop12 hp (by omega) y3 h18 y4 M7 w1
    have w4 := pop0 (by have := y3.2.2.2.2.1; omega) w3
    have w5 := UL.stop w2 (Or.inr (by rw [w4, yup_eq]))
    refine ⟨my, w5, Or.inr ⟨c10.symm, by rw [w4, yup_nk (by decide)]; exact y3.2.2.2.2.2, ?_, ?_, fun v j hv hj => ?_, ?_, ?_⟩⟩
    · rw [w4, yup_nk (by decide), ← c10']; exact y3.1.2.1.1.symm
    · rw [← c10']; exact y3.1.2.1.2
    · rw [w4, yup_na (by decide), ← c10']; exact y3.1.2.2.2.2 v j hv hj
    · rw [← c10']; exact y3.2.2.1
    · rw [w4]; exact y3.2.2.2.1.up (by omega)
  · have w4 := pop0 (by omega) y2
    have w5 := UL.stop y3 (Or.inr (by rw [w4, yup_eq]))
    refine ⟨mm2, w5, Or.inr ⟨c10.symm, by rw [w4, yup_nk (by decide)]; exact y9, ?_, ?_, fun v j hv hj => ?_, ?_, ?_⟩⟩
    · rw [w4, yup_nk (by decide), ← c10']; exact y4.2.1.1.symm
    · rw [← c10']; exact y4.2.1.2
    · rw [w4, yup_na (by decide), ← c10']; exact y4.2.2.2.2 v j hv hj
    · rw [← c10']; exact y6
    · rw [w4]; exact y7.up (by omega)
theorem runR {k b : Int} (hI : IQ m) (h1 : F200 f m = some (k, m1)) (h2 : F211 g m1 = some (b, m2)) : (IQ m2 ∧ m2 376 57 = k ∧ (k = 0 → m2 413 0 = b ∧ rg b)) ∧ (SN m → SN m2) := by
  have fr1 : ∀ a q, a < 169 ∨ (256 ≤ a ∧ a ≠ 413) → m1 a q = m a q := kru_F200 (P := fun a _ => a < 169 ∨ (256 ≤ a ∧ a ≠ 413)) (fun a q h => h) KP.rf _ h1
  have hI2 : IQ m2 := hI.fr ((show KP PQ m m1 from kru_F200 (fun a q h => by unfold PQ at h; omega) KP.rf _ h1).tr (show KP PQ m1 m2 from kmr_F211 (fun a q h => by unfold PQ at h; omega) KP.rf _ h2))
  obtain ⟨-, -, ⟨h4, h18⟩, -, hc⟩ := hI
  obtain ⟨p, hp, hp18⟩ : ∃ p : Nat, p ≤ 1 ∧ m 376 18 = (p : Int) := ⟨(m 376 18).toNat, by omega, by omega⟩
  rw [hp18, Int.toNat_natCast] at hc
  have hA := pA_is (m 0 4)
  obtain ⟨A, hAe⟩ : ∃ A, A = pA (m 0 4) := ⟨_, rfl⟩
  rw [← hAe] at hc hA
  unfold F200 at h1
  -- refused
  have bad : ∀ {y : Int}, m A 17 = -1 → J211_20 g y m1 = some (b, m2) → (m 376 19 = 0 ∨ y = 0) → (IQ m2 ∧ m2 376 57 = k ∧ (k = 0 → m2 413 0 = b ∧ rg b)) ∧ (SN m → SN m2) := by
    intro y w e hy
    have z : F199 f m = some (.inr 11, m) := by
      unfold F199
      rw [← hAe, if_pos w]
    have hk : k = 1 ∧ m1 = m := by
      rcases bT_e h1 with ⟨r2, m', e3, e4⟩ | ⟨r2, m', e3, e4⟩
      · rw [z] at e3; cases e3
      · rw [z] at e3
        injection e3 with e3
        injection e3 with e3 e3'
        injection e3 with e3
        rw [← e3, ← e3', if_neg (by decide), if_pos rfl] at e4
        injection e4 with e4
        injection e4 with e4 e4'
        exact ⟨e4.symm, e4'.symm⟩
    unfold J211_20 at e
    replace e := bI_e e
    obtain ⟨r, n, e1, e⟩ := e
    rcases F162_r e1 with ⟨z1, z2, -, -⟩ | ⟨-, z2, z3⟩
    · rw [hk.2] at z1
      rcases hy with hy | hy
      · exact absurd hy z1
      · exact absurd hy z2
    · rw [z2, if_pos rfl] at e
      injection e with e
      injection e with e e'
      rw [← e', z3, hk.2] at hI2 ⊢
      rw [hk.1]
      refine ⟨⟨hI2, yup_eq _ _ _ _, fun e => absurd e (by decide)⟩, fun hS v j hv hj => ?_⟩
      rw [yup_na (by omega), yup_na (by omega)]
      exact hS v j hv hj
  unfold F211 at h2
  rcases hc with ⟨c19, ⟨-, c17⟩, -⟩ | ⟨c19, c84, s, o, hR, hQ, -, hgo⟩
  · rw [fr1 376 19 (by omega), if_pos c19] at h2
    unfold J211_19 at h2
    exact bad c17 h2 (Or.inl c19)
  rw [fr1 376 19 (by omega), if_neg (by omega)] at h2
  replace h2 := bP_e h2
  obtain ⟨r8, e8, h2⟩ := h2
  have hR1 : RPG A p s o m m1 := hR.frp hA hp (fun _ _ _ _ => rfl) (fun b q hb => fr1 b q (by unfold arP at hb; omega))
  have k18 : m1 376 18 = p := by rw [fr1 376 18 (by omega)]; exact hp18
  obtain ⟨g1, g2⟩ := go_u hA hp hR1 hgo k18 uM.rf e8
  rcases ite1 h2 with ⟨q, h2⟩ | ⟨q, h2⟩
  · unfold J211_19 at h2
    exact bad (by omega) h2 (Or.inr rfl)
  have g3 : 0 ≤ r8 ∧ r8 < m A 10 ∧ m1 397 (10 * p + r8.toNat) = 0 := by
    rcases g2 with w | w
    · omega
    · exact w
  obtain ⟨go, hgoN⟩ : ∃ go : Nat, r8 = go := ⟨r8.toNat, by omega⟩
  rw [hgoN, Int.toNat_natCast] at g3
  have g17 : m A 17 = go := by rw [← g1]; exact hgoN
  -- the model, up to its loop
  unfold J211_20 at h2
  replace h2 := bI_e h2
  obtain ⟨r, n, e1, h2⟩ := h2
  rcases F162_r e1 with ⟨-, -, rfl, hn⟩ | ⟨z1, -, -⟩
  case inr =>
    exact absurd ⟨by rw [fr1 376 19 (by omega)]; omega, by decide⟩ z1
  rw [if_neg (by decide)] at h2
  have fill : ∀ {r : (Int × yM) ⊕ (Int × yM)}, yloop (fun (l : Int) ml => B211_30 g l ml) g 0 n = some r → ∃ l m', r = .inl (l, m') ∧ (∀ j, j < 576 → m' 408 (0 + j) = 0) ∧ (∀ b q, ¬ (b = 408 ∧ 0 ≤ q ∧ q < 0 + 576) → m' b q = n b q) := fun e => fill_r (fun j m y hj _ e => by
    unfold B211_30 at e
    rw [k1w (by omega), Int.toNat_natCast] at e
    rcases ite1 e with ⟨q, e⟩ | ⟨q, e⟩
    · injection e with e
      exact Or.inr ⟨by omega, by rw [← e, Nat.zero_add]⟩
    · injection e with e
      exact Or.inl ⟨by omega, e.symm⟩) e
  rcases bL_e h2 with ⟨l, n1, d1, d2⟩ | ⟨l, n1, d1, d2⟩
  case inr =>
    obtain ⟨l', n', w, -⟩ := fill d1
    cases w
  obtain ⟨l', n', w, f1, f2⟩ := fill d1
  injection w with w
  injection w with w w'
  subst w'
  replace d2 := bI_e d2
  obtain ⟨r7, n2, d3, d2⟩ := d2
  replace d2 := bP_e d2
  obtain ⟨r9, d4, d2⟩ := d2
  replace d2 := bU_e d2
  obtain ⟨n3, d5, d2⟩ := d2
  have hS1 : uM m1 (yup (yup (yup n1 376 51 0) 376 54 0) 376 56 0) := fun a q ha hq => by
    rw [yup_ne (by omega), yup_ne (by omega), yup_ne (by omega), f2 a q (by omega), hn, yup_ne (by omega)]
  have hn2 : uM m1 n2 := by
    have k := kmr_F201 (P := fun a q => (a < 408 ∨ a = 413) ∧ ¬ (a = 376 ∧ (q = 51 ∨ (54 ≤ q ∧ q ≤ 57)))) (fun a q h => by omega) KP.rf _ d3
    have k' : ∀ a q, ((a < 408 ∨ a = 413) ∧ ¬ (a = 376 ∧ (q = 51 ∨ (54 ≤ q ∧ q ≤ 57)))) → n2 a q = yup (yup (yup n1 376 51 0) 376 54 0) 376 56 0 a q := k
    exact fun a q ha hq => (k' a q ⟨ha, hq⟩).trans (hS1 a q ha hq)
  obtain ⟨y1, -⟩ := go_u hA hp hR1 hgo k18 hn2 d4
  rw [y1, g17] at d5
  have main : ∀ {rv : Unit ⊕ Nat} {mx : yM} {rr : (Unit × yM) ⊕ (Int × yM)}, F198 f A m = some (rv, mx) → UL g g n3 = some rr → ∃ mm', rr = .inl ((), mm') ∧ ((∃ e, rv = .inr e ∧ uX m m1 e mx mm') ∨ (rv = .inl () ∧ mm' 376 57 = 0 ∧ mm' 376 56 = mx 169 6 ∧ (0 ≤ mx 169 6 ∧ mx 169 6 ≤ 200) ∧ uE m m1 mx mm')) := fun e hl => run_u hA hp hR1 g17 g3.2.1 g3.2.2 k18 e hS1 ⟨by rw [yup_nk (by decide), yup_nk (by decide), yup_eq], by rw [yup_nk (by decide), yup_eq], by rw [yup_eq], by rw [yup_nk (by decide), yup_nk (by decide), yup_nk (by decide), f2 376 57 (by omega), hn, yup_eq]⟩ (fun i hi => by rw [yup_na (by decide), yup_na (by decide), yup_na (by decide)]; have := f1 i hi; rw [Nat.zero_add] at this; exact this) d3 d5 hl
  -- the model's end
  have fin : ∀ {rr : (Unit × yM) ⊕ (Int × yM)} {mm' : yM}, UL g g n3 = some rr → rr = .inl ((), mm') → m2 = mm' ∧ ((mm' 376 57 = 0 ∧ b = mm' 376 56) ∨ (mm' 376 57 ≠ 0 ∧ b = 0)) := by
    intro rr mm' hl hr
    rw [hr] at hl
    rcases bL_e d2 with ⟨l5, m5, d6, d7⟩ | ⟨l5, m5, d6, d7⟩
    · have w : (some (.inl (l5, m5)) : Option ((Unit × yM) ⊕ (Int × yM))) = some (.inl ((), mm')) := d6.symm.trans hl
      injection w with w
      injection w with w
      injection w with w w'
      rw [w'] at d7
      unfold J211_104 at d7
      rcases ite1 d7 with ⟨q, d7⟩ | ⟨q, d7⟩
      · injection d7 with d7
        injection d7 with d7 d7'
        exact ⟨d7'.symm, Or.inl ⟨q, d7.symm⟩⟩
      · injection d7 with d7
        injection d7 with d7 d7'
        exact ⟨d7'.symm, Or.inr ⟨q, d7.symm⟩⟩
    · have w : (some (.inr (l5, m5)) : Option ((Unit × yM) ⊕ (Int × yM))) = some (.inl ((), mm')) := d6.symm.trans hl
      cases w
  obtain ⟨rr, hrr⟩ : ∃ rr, UL g g n3 = some rr := by
    rcases bL_e d2 with ⟨l5, m5, d6, -⟩ | ⟨l5, m5, d6, -⟩
    · exact ⟨_, d6⟩
    · exact ⟨_, d6⟩
  -- the class
  have cls : ∀ zz, F199 f m = some zz → ∃ rv mx, F198 f A m = some (rv, mx) ∧ ((∃ e, rv = .inr e ∧ zz = (.inr e, mx)) ∨ (rv = .inl () ∧ zz = (.inl (mx 169 6), mx))) := by
    intro zz e
    unfold F199 at e
    rw [← hAe, if_neg (by omega)] at e
    rcases bT_e e with ⟨r5, m5, c1, c2⟩ | ⟨r5, m5, c1, c2⟩
    · injection c2 with c2
      exact ⟨_, m5, c1, Or.inr ⟨rfl, c2.symm⟩⟩
    · injection c2 with c2
      exact ⟨_, m5, c1, Or.inl ⟨r5, rfl, c2.symm⟩⟩
  have seen : ∀ {mx mm' : yM}, m2 = mm' → (∀ a q, a < 408 → a ≠ 413 → m1 a q = mx a q) → uE m m1 mx mm' → SN m2 := by
    intro mx mm' w w1 w2 v j hv hj
    obtain ⟨u1, u2, u3⟩ := w2
    rw [w, u3 (171 + v) j (by omega) (by omega), w1 _ _ (by omega) (by omega)]
    exact u1 v j hv hj
  rcases bT_e h1 with ⟨r5, m5, c1, c2⟩ | ⟨r5, m5, c1, c2⟩
  · obtain ⟨rv, mx, c3, ⟨e, -, w⟩ | ⟨hrv, w⟩⟩ := cls _ c1
    · cases w
    · injection w with w w'
      injection w with w
      rw [w, w'] at c2
      injection c2 with c2
      injection c2 with c2 c2'
      obtain ⟨mm', y1, ⟨e, y2, -⟩ | ⟨-, y2, y3, y4, y5⟩⟩ := main c3 hrr
      · rw [hrv] at y2; cases y2
      · obtain ⟨w1, ⟨-, w2⟩ | ⟨w2, -⟩⟩ := fin hrr y1
        · have hrg : rg b := by rw [w2, y3]; exact ⟨by omega, by omega⟩
          refine ⟨⟨hI2, by rw [w1, ← c2]; exact y2, fun _ => ⟨?_, hrg⟩⟩, fun _ => seen w1 (fun a q _ ha => by rw [← c2', yup_na ha]) y5⟩
          rw [w1, y5.2.2 413 0 (by decide) (by omega), ← c2', yup_eq, ← y3, ← w2]
          exact i2l_i hrg
        · exact absurd y2 w2
  · obtain ⟨rv, mx, c3, ⟨e, hrv, w⟩ | ⟨-, w⟩⟩ := cls _ c1
    · injection w with w w'
      injection w with w
      rw [w, w'] at c2
      obtain ⟨mm', y1, ⟨e', y2, y3⟩ | ⟨y2, -⟩⟩ := main c3 hrr
      · rw [hrv] at y2
        injection y2 with y2
        subst y2
        have hk : k = cdE e ∧ m1 = mx := by
          have he := y3.1
          unfold cdE
          rcases ite1 c2 with ⟨q1, c2⟩ | ⟨q1, c2⟩
          · injection c2 with c2
            injection c2 with c2 c2'
            exact ⟨by rw [if_pos q1]; exact c2.symm, c2'.symm⟩
          rcases ite1 c2 with ⟨q2, c2⟩ | ⟨q2, c2⟩
          · injection c2 with c2
            injection c2 with c2 c2'
            exact ⟨by rw [if_neg q1, if_pos q2]; exact c2.symm, c2'.symm⟩
          rcases ite1 c2 with ⟨q3, c2⟩ | ⟨q3, c2⟩
          · injection c2 with c2
            injection c2 with c2 c2'
            exact ⟨by rw [if_neg q1, if_neg q2, if_pos q3]; exact c2.symm, c2'.symm⟩
          rcases ite1 c2 with ⟨q4, c2⟩ | ⟨q4, c2⟩
          · injection c2 with c2
            injection c2 with c2 c2'
            exact ⟨by rw [if_neg q1, if_neg q2, if_neg q3]; exact c2.symm, c2'.symm⟩
          · cases c2
        obtain ⟨w1, -⟩ := fin hrr y1
        have hx := y3.ex
        refine ⟨⟨hI2, by rw [w1, hk.1]; exact y3.2.1, fun z => absurd z (by rw [hk.1, ← y3.2.1]; exact hx)⟩, fun _ => seen w1 (fun a q _ _ => by rw [hk.2]) y3.2.2⟩
      · rw [hrv] at y2; cases y2
    · cases w
end UZ
end
section
/-! SEEN -/
def IR (m : yM) : Prop := IQ m ∧ SN m
def PR (a q : Nat) : Prop := PQ a q ∨ (171 ≤ a ∧ a < 219) ∨ a = 408
section SE
variable {A p s o f g : Nat} {m m1 m2 : yM}
theorem SN.fr (h : SN m) (e : ∀ a q, (171 ≤ a ∧ a < 219) ∨ a = 408 → m1 a q = m a q) : SN m1 := fun v j hv hj => by
  rw [e (171 + v) j (by omega), e 408 _ (by omega)]
  exact h v j hv hj
theorem IR.fr (h : IR m) (e : KP PR m m1) : IR m1 := ⟨h.1.fr (fun a q ha => e a q (Or.inl ha)), h.2.fr (fun a q ha => e a q (Or.inr ha))⟩
theorem runC {k b : Int} (hI : IQ m) (h1 : F200 f m = some (k, m1)) (h2 : F211 g m1 = some (b, m2)) : IQ m2 ∧ m2 376 57 = k ∧ (k = 0 → m2 413 0 = b ∧ rg b) := (runR hI h1 h2).1
theorem seenQ {x w k b : Int} (hI : IR m) (hx : rg x) (hw : rg w) (h1 : F213 f x w m = some (k, m1)) (h2 : F214 g x w m1 = some (b, m2)) : IR m2 ∧ m2 376 57 = k ∧ (k = 0 → m2 413 0 = b ∧ rg b) := by
  have hI2 : IR m2 := hI.fr ((show KP PR m m1 from kcq_F213 (fun a q h => by unfold PR PQ at h; omega) KP.rf _ h1).tr (show KP PR m1 m2 from kmq_F214 (fun a q h => by unfold PR PQ at h; omega) KP.rf _ h2))
  refine ⟨hI2, ?_⟩
  obtain ⟨⟨-, -, ⟨h4, h18⟩, -, hc⟩, hS⟩ := hI
  obtain ⟨p, hp, hp18⟩ : ∃ p : Nat, p ≤ 1 ∧ m 376 18 = (p : Int) := ⟨(m 376 18).toNat, by omega, by omega⟩
  rw [hp18, Int.toNat_natCast] at hc
  have ct := hc.cnt
  unfold F213 at h1
  have cl := askT (m := m) (C := (0 ≤ x ∧ x < m (pA (m 0 4)) 15) ∧ (0 ≤ w ∧ w < m (pA (m 0 4)) 14)) (v0 := m (171 + x.toNat) w.toNat) h1 (fun z e => by
    unfold F212 F156 F157 J212_16 at e
    rcases ite1 e with ⟨q, e⟩ | ⟨q, e⟩
    · cases e; exact Or.inl ⟨fun z => cntC.mp q z.1, rfl⟩
    rcases ite1 e with ⟨q2, e⟩ | ⟨q2, e⟩
    · cases e; exact Or.inl ⟨fun z => cntC.mp q2 z.2, rfl⟩
    rcases ite1 e with ⟨-, e⟩ | ⟨-, e⟩
    · cases e; exact Or.inr ⟨⟨F155_1.mp q, F155_1.mp q2⟩, rfl⟩
    · cases e)
  have fr := askF (m := m) (m1 := m1) (by rcases cl with ⟨-, -, z⟩ | ⟨-, -, z⟩; exact Or.inl z; exact Or.inr ⟨_, z⟩)
  have md : (¬ ((0 ≤ x ∧ x < m (pA (m 0 4)) 15) ∧ (0 ≤ w ∧ w < m (pA (m 0 4)) 14)) ∧ m2 = yup m1 376 57 1) ∨ (((0 ≤ x ∧ x < m (pA (m 0 4)) 15) ∧ (0 ≤ w ∧ w < m (pA (m 0 4)) 14)) ∧ b = m (171 + x.toNat) w.toNat ∧ m2 = yup m1 376 57 0) := by
    have J : ∀ {z : Int}, J214_22 g x w z m1 = some (b, m2) → (¬ (m 376 19 ≠ 0 ∧ z ≠ 0) ∧ m2 = yup m1 376 57 1) ∨ ((m 376 19 ≠ 0 ∧ z ≠ 0) ∧ b = (if yup m1 376 57 0 408 (wr ((wr (12 * x)) + w)).toNat = 0 then 0 else 1) ∧ m2 = yup m1 376 57 0) := by
      intro z e
      unfold J214_22 at e
      replace e := bI_e e
      obtain ⟨r, n, e1, e⟩ := e
      rcases F162_r e1 with ⟨z1, z2, rfl, rfl⟩ | ⟨z1, rfl, rfl⟩
      · rw [if_neg (by decide)] at e
        rw [fr 376 19 (by decide)] at z1
        refine Or.inr ⟨⟨z1, z2⟩, ?_⟩
        rcases ite1 e with ⟨q, e⟩ | ⟨q, e⟩
        · injection e with e
          injection e with e e'
          exact ⟨by rw [if_pos q]; exact e.symm, e'.symm⟩
        · injection e with e
          injection e with e e'
          exact ⟨by rw [if_neg q]; exact e.symm, e'.symm⟩
      · rw [if_pos rfl] at e
        injection e with e
        injection e with e e'
        rw [fr 376 19 (by decide)] at z1
        exact Or.inl ⟨z1, e'.symm⟩
    have bad : ∀ {P : Prop}, J214_21 g x w m1 = some (b, m2) → ¬ P → (¬ P ∧ m2 = yup m1 376 57 1) := by
      intro P e hP
      unfold J214_21 at e
      rcases J e with ⟨-, z⟩ | ⟨z, -⟩
      · exact ⟨hP, z⟩
      · exact absurd rfl z.2
    unfold F214 F160 F161 at h2
    rw [fr 376 19 (by decide), fr 376 18 (by decide), hp18, Int.toNat_natCast, fr 389 p (by decide), fr 388 p (by decide)] at h2
    rcases ct with ⟨c19, c10, c11, c12, c13, c14, c15⟩ | ⟨c19, c84, c10, c11, c12, c13, c14, c15, d10, d11, d12, d13, d14, d15, G, V, hQ⟩
    · rw [if_pos c19, if_pos rfl] at h2
      exact Or.inl (bad h2 (fun y => by omega))
    · rw [if_neg (show ¬ m 376 19 = 0 by omega), if_neg (show ¬ m 376 19 = 0 by omega), ← c15, ← c14] at h2
      by_cases y1 : F22 x 0 (wr (m (pA (m 0 4)) 15 - 1)) = 0
      · rw [if_pos y1, if_pos rfl] at h2
        exact Or.inl (bad h2 (fun y => (cntM (by omega)).mp y1 y.1))
      rw [if_neg y1, if_neg (by decide)] at h2
      have y1' := cntN (by omega) y1
      by_cases y2 : F22 w 0 (wr (m (pA (m 0 4)) 14 - 1)) = 0
      · rw [if_pos y2, if_pos rfl] at h2
        exact Or.inl (bad h2 (fun y => (cntM (by omega)).mp y2 y.2))
      rw [if_neg y2, if_neg (by decide)] at h2
      have y2' := cntN (by omega) y2
      rcases J h2 with ⟨z, -⟩ | ⟨-, z1, z2⟩
      · exact absurd ⟨by omega, by decide⟩ z
      · refine Or.inr ⟨⟨y1', y2'⟩, ?_, z2⟩
        obtain ⟨xn, rfl⟩ : ∃ xn : Nat, x = xn := ⟨x.toNat, by omega⟩
        obtain ⟨wn, rfl⟩ : ∃ wn : Nat, w = wn := ⟨w.toNat, by omega⟩
        obtain ⟨u1, u2, u3⟩ := hS xn wn (by omega) (by omega)
        rw [z1, ix12 (by omega) (by omega), yup_na (by decide), fr 408 _ (by decide), Int.toNat_natCast, Int.toNat_natCast, ← u1]
        by_cases q : m (171 + xn) wn = 0
        · rw [if_pos q, q]
        · rw [if_neg q]; omega
  refine askE cl md (fun hC => ?_)
  rcases ct with ⟨c19, c10, c11, c12, c13, c14, c15⟩ | ⟨c19, c84, c10, c11, c12, c13, c14, c15, d10, d11, d12, d13, d14, d15, G, V, hQ⟩
  · omega
  · obtain ⟨u1, u2, u3⟩ := hS x.toNat w.toNat (by omega) (by omega)
    exact ⟨by omega, by omega⟩
end SE
end
section
/-! THE LAW, by the functions, for the questions about facts -/
section LQ
variable {m m1 m2 : yM} {f g : Nat}
theorem lcm_0 {x b : Int} (h : x = b) (hb : rg b) : lcm (Int64.ofInt x) (i2l b) = 0 := by
  subst h
  unfold lcm i2l
  rw [y_long hb, lg_self]
  rfl
theorem fTx.IQ (h : IQ m) (ht : TXT m2) (e : fTx m m2) : IQ m2 := by
  obtain ⟨-, hK, ⟨h4, h18⟩, h8, hc⟩ := h
  have k : ∀ a q, a ≠ 1 → ¬ (a = 0 ∧ q = 6) → a ≠ 413 → a ≠ 377 → ¬ (a = 376 ∧ (q = 1 ∨ q = 57)) → m2 a q = m a q := e
  have hA := pA_is (m 0 4)
  refine ⟨ht, fun j j1 j2 => ?_, ⟨?_, ?_⟩, ?_, ?_⟩
  · rw [k 4 _ (by omega) (by omega) (by omega) (by omega) (by omega)]; exact hK j j1 j2
  · rw [k 0 4 (by omega) (by omega) (by omega) (by omega) (by omega), k 0 5 (by omega) (by omega) (by omega) (by omega) (by omega)]; exact h4
  · rw [k 376 18 (by omega) (by omega) (by omega) (by omega) (by omega)]; exact h18
  · rw [k 264 0 (by omega) (by omega) (by omega) (by omega) (by omega), k 324 0 (by omega) (by omega) (by omega) (by omega) (by omega)]; exact h8
  · rw [k 0 4 (by omega) (by omega) (by omega) (by omega) (by omega), k 376 18 (by omega) (by omega) (by omega) (by omega) (by omega)]
    exact hc.fr hA (by omega) (k _ _ (by omega) (by omega) (by omega) (by omega) (by omega)) (k _ _ (by omega) (by omega) (by omega) (by omega) (by omega)) (fun _ _ _ => k _ _ (by omega) (by omega) (by omega) (by omega) (by omega)) (fun b q hb => k _ _ (by unfold arP at hb; omega) (by unfold arP at hb; omega) (by unfold arP at hb; omega) (by unfold arP at hb; omega) (by unfold arP at hb; omega))
theorem P99_cq : ∀ a q, PQ a q → a ≠ 413 := fun a q h => by unfold PQ at h; omega
theorem P99_mq : ∀ a q, PQ a q → ¬ (a = 376 ∧ q = 57) := fun a q h => by unfold PQ at h; omega
theorem P99_ru : ∀ a q, PQ a q → a < 169 ∨ (256 ≤ a ∧ a ≠ 413) := fun a q h => by unfold PQ at h; omega
theorem P99_mr : ∀ a q, PQ a q → ¬ (a = 376 ∧ (q = 51 ∨ (54 ≤ q ∧ q ≤ 57))) ∧ ¬ (408 ≤ a ∧ a ≤ 412) := fun a q h => by unfold PQ at h; omega
abbrev P99 : Nat → Nat → Prop := PQ
theorem two99 {L : Nat} {xs : Nat → Int32} {x4 : Int} {o : Option (Int × yM)} {G : yM → Option (Int × yM)} {y : (Int × yM) ⊕ ((Int × yM) ⊕ (Int × yM))} (h : bI o (fun _ m1 => bI (G m1) (fun _ m2 => J218_t0_617 f L xs x4 m2)) = some y) (hI : ∀ r m1 r2 m2, o = some (r, m1) → G m1 = some (r2, m2) → IQ m2) : ∃ l' m', y = .inl (l', m') ∧ IQ m' := by
  replace h := bI_e h
  obtain ⟨r, m1, e1, h⟩ := h
  replace h := bI_e h
  obtain ⟨r2, m2, e2, h⟩ := h
  unfold J218_t0_617 at h
  cases h
  exact ⟨_, _, rfl, hI _ _ _ _ e1 e2⟩
theorem stepQ {L : Nat} {xs : Nat → Int32} {x4 : Int} {y : (Int × yM) ⊕ ((Int × yM) ⊕ (Int × yM))} (hI : IQ m) (h : B218_t0_23 f L xs x4 m = some y) : (∃ l' m', y = .inl (l', m') ∧ IQ m') ∨ (∃ l', y = .inr (.inl (l', m))) := by
  unfold B218_t0_23 at h
  rcases ite1 h with ⟨-, h⟩ | ⟨-, h⟩
  · cases h
    exact Or.inr ⟨_, rfl⟩
  left
  rcases ite1 h with ⟨-, h⟩ | ⟨-, h⟩
  · exact two99 h (fun r m1 r2 m2 e1 e2 => by obtain ⟨a, b⟩ := append_r hI.1 e1 e2; exact fTx.IQ hI a b)
  rcases ite1 h with ⟨-, h⟩ | ⟨-, h⟩
  · exact two99 h (fun r m1 r2 m2 e1 e2 => by obtain ⟨a, b⟩ := cut_r hI.1 e1 e2; exact fTx.IQ hI a b)
  rcases ite1 h with ⟨-, h⟩ | ⟨-, h⟩
  · exact two99 h (fun r m1 r2 m2 e1 e2 => readQ hI e1 e2)
  rcases ite1 h with ⟨-, h⟩ | ⟨-, h⟩
  · replace h := bI_e h
    obtain ⟨r, m1, e1, h⟩ := h
    unfold F154 at e1
    cases e1
    unfold J218_t0_617 at h
    cases h
    exact ⟨_, _, rfl, hI.fr (KP.up KP.rf (fun h => P99_mq _ _ h ⟨rfl, rfl⟩))⟩
  rcases ite1 h with ⟨-, h⟩ | ⟨-, h⟩
  · exact two99 h (fun r m1 r2 m2 e1 e2 => hI.fr ((show KP P99 m m1 from kcq_F159 P99_cq KP.rf _ e1).tr (show KP P99 m1 m2 from kmq_F163 P99_mq KP.rf _ e2)))
  rcases ite1 h with ⟨-, h⟩ | ⟨-, h⟩
  · exact two99 h (fun r m1 r2 m2 e1 e2 => hI.fr ((show KP P99 m m1 from kcq_F165 P99_cq KP.rf _ e1).tr (show KP P99 m1 m2 from kmq_F166 P99_mq KP.rf _ e2)))
  rcases ite1 h with ⟨-, h⟩ | ⟨-, h⟩
  · exact two99 h (fun r m1 r2 m2 e1 e2 => hI.fr ((show KP P99 m m1 from kcq_F169 P99_cq KP.rf _ e1).tr (show KP P99 m1 m2 from kmq_F171 P99_mq KP.rf _ e2)))
  rcases ite1 h with ⟨-, h⟩ | ⟨-, h⟩
  · exact two99 h (fun r m1 r2 m2 e1 e2 => hI.fr ((show KP P99 m m1 from kcq_F173 P99_cq KP.rf _ e1).tr (show KP P99 m1 m2 from kmq_F174 P99_mq KP.rf _ e2)))
  rcases ite1 h with ⟨-, h⟩ | ⟨-, h⟩
  · exact two99 h (fun r m1 r2 m2 e1 e2 => hI.fr ((show KP P99 m m1 from kcq_F177 P99_cq KP.rf _ e1).tr (show KP P99 m1 m2 from kmq_F178 P99_mq KP.rf _ e2)))
  rcases ite1 h with ⟨-, h⟩ | ⟨-, h⟩
  · exact two99 h (fun r m1 r2 m2 e1 e2 => hI.fr ((show KP P99 m m1 from kcq_F181 P99_cq KP.rf _ e1).tr (show KP P99 m1 m2 from kmq_F182 P99_mq KP.rf _ e2)))
  rcases ite1 h with ⟨-, h⟩ | ⟨-, h⟩
  · exact two99 h (fun r m1 r2 m2 e1 e2 => hI.fr ((show KP P99 m m1 from kcq_F184 P99_cq KP.rf _ e1).tr (show KP P99 m1 m2 from kmq_F185 P99_mq KP.rf _ e2)))
  rcases ite1 h with ⟨-, h⟩ | ⟨-, h⟩
  · replace h := bI_e h
    obtain ⟨r, m1, e1, h⟩ := h
    replace h := bI_e h
    obtain ⟨r2, m2, e2, h⟩ := h
    obtain ⟨k1, k2, k3⟩ := runC hI e1 e2
    unfold F26 J218_t0_546 J218_t0_617 at h
    rw [if_pos k2] at h
    rcases ite1 h with ⟨q, h⟩ | ⟨q, h⟩
    · obtain ⟨k4, k5⟩ := k3 q
      rw [if_pos (lcm_0 k4 k5)] at h
      cases h
      exact ⟨_, _, rfl, k1⟩
    · cases h
      exact ⟨_, _, rfl, k1⟩
  rcases ite1 h with ⟨-, h⟩ | ⟨-, h⟩
  · exact two99 h (fun r m1 r2 m2 e1 e2 => hI.fr ((show KP P99 m m1 from kcq_F213 P99_cq KP.rf _ e1).tr (show KP P99 m1 m2 from kmq_F214 P99_mq KP.rf _ e2)))
  rcases ite1 h with ⟨-, h⟩ | ⟨-, h⟩
  · exact two99 h (fun r m1 r2 m2 e1 e2 => hI.fr ((show KP P99 m m1 from kcq_F216 P99_cq KP.rf _ e1).tr (show KP P99 m1 m2 from kmq_F217 P99_mq KP.rf _ e2)))
  unfold J218_t0_617 at h
  cases h
  exact ⟨_, _, rfl, hI⟩
theorem lawQ {L : Nat} {xs : Nat → Int32} {x4 r : Int} (hI : IQ m) (h : FL f L xs x4 m = some (r, m1)) : r = 1 := by
  unfold FL at h
  rcases bL_e h with ⟨l, mi, e1, e2⟩ | ⟨l, mi, e1, e2⟩
  · cases e2
    rfl
  · exfalso
    obtain ⟨l', m', hI', e3⟩ := yloop_inv (fun _ m => IQ m) (fun l m l' m' hI hB => by
      rcases stepQ hI hB with ⟨l2, m2, e, e'⟩ | ⟨l2, e⟩
      · cases e; exact e'
      · cases e) _ _ _ _ hI e1
    rcases stepQ hI' e3 with ⟨l2, m2, e, e'⟩ | ⟨l2, e⟩
    · cases e
    · cases e
end LQ
theorem IQ0 : IQ gMem := by
  have h6 : gMem 0 6 = 0 := rfl
  refine ⟨⟨rfl, by omega, by omega, fun t z1 z2 => by omega⟩, fun j j1 j2 => ?_, ⟨Or.inl ⟨rfl, rfl⟩, Or.inl rfl⟩, ⟨rfl, rfl⟩, Or.inl ⟨rfl, ⟨rfl, rfl⟩, rfl, rfl, rfl, rfl, rfl, rfl⟩⟩
  have : ∀ a : Fin 10, gMem 4 (((a : Nat) : Int) + 1).toNat = kw (((a : Nat) : Int) + 1) := by decide +kernel
  have h := this ⟨(j - 1).toNat, by omega⟩
  have e : (((j - 1).toNat : Nat) : Int) + 1 = j := by omega
  simp only [e] at h
  exact h
theorem gLawOk {f L : Nat} {xs : Nat → Int32} {r : Int} {m' : yM} (h : FL f L xs 0 gMem = some (r, m')) : r = 1 := lawQ IQ0 h
end
section
/-! CONTRACTS: printed by wip/whole/gen80.py and on -/
set_option maxRecDepth 100000 in
theorem t7 {L : Nat} {xs : Nat → Int32} {d nn : Nat} {m : yM} {k c : Int} : YC (gZ L xs) d 7 [yI k, yI c] m nn (qP m nn (fun r => -2147483648 ≤ r ∧ r < 2147483648)) := by
  refine YC.mkB [some (yI k), some (yI c)] kn7 rfl rfl ?_
  refine y_iload 1 c7_0 rfl rfl ?_
  refine y_iconst 3 c7_1 rfl ?_
  refine y_imul 4 c7_3 rfl ?_
  refine y_iload 5 c7_4 rfl rfl ?_
  refine y_iconst 7 c7_5 rfl ?_
  refine y_isub 8 c7_7 rfl ?_
  refine y_iconst 9 c7_8 rfl ?_
  refine y_iadd 10 c7_9 rfl ?_
  refine y_iadd 11 c7_10 rfl ?_
  refine y_wrap (fun z1 hz1 gz1 => ?_)
  exact y_retP c7_11 (y_fit0 _) gz1
set_option maxRecDepth 100000 in
theorem t31 {L : Nat} {xs : Nat → Int32} {d nn : Nat} {m : yM} {c : Int} (hc : 0 ≤ c ∧ c ≤ 65535) : YC (gZ L xs) d 31 [yI c] m nn (qP m nn (fun r => (r = 1 ∧ 97 ≤ c ∧ c ≤ 122) ∨ (r = 0 ∧ ¬ (97 ≤ c ∧ c ≤ 122)))) := by
  refine YC.mkB [some (yI c)] kn31 rfl rfl ?_
  refine y_iload 1 c31_0 rfl rfl ?_
  refine y_iconst 3 c31_1 rfl ?_
  refine y_icmp 16 6 c31_3 rfl rfl (yc_lt (by omega) (by omega)) (fun hb2 => ?_) (fun hb2 => ?_)
  · refine y_iconst 17 c31_16 rfl ?_
    exact y_retP c31_17 (y_fit1 (by omega)) (by omega)
  · refine y_iload 7 c31_6 rfl rfl ?_
    refine y_iconst 9 c31_7 rfl ?_
    refine y_icmp 16 12 c31_9 rfl rfl (yc_gt (by omega) (by omega)) (fun hb3 => ?_) (fun hb3 => ?_)
    · refine y_iconst 17 c31_16 rfl ?_
      exact y_retP c31_17 (y_fit1 (by omega)) (by omega)
    · refine y_iconst 13 c31_12 rfl ?_
      refine y_goto 17 c31_13 rfl ?_
      exact y_retP c31_17 (y_fit1 (by omega)) (by omega)
set_option maxRecDepth 100000 in
theorem t34 {L : Nat} {xs : Nat → Int32} {d nn : Nat} {m : yM} {c : Int} (hc : 0 ≤ c ∧ c ≤ 65535) : YC (gZ L xs) d 34 [yI c] m nn (qP m nn (fun r => r = 0 ∨ r = 1)) := by
  refine YC.mkB [some (yI c)] kn34 rfl rfl ?_
  refine y_iload 1 c34_0 rfl rfl ?_
  refine y_iconst 3 c34_1 rfl ?_
  refine y_icmp 54 6 c34_3 rfl rfl (yc_eq (by omega) (by omega)) (fun hb4 => ?_) (fun hb4 => ?_)
  · refine y_iconst 55 c34_54 rfl ?_
    refine y_goto 59 c34_55 rfl ?_
    exact y_retP c34_59 (y_fit1 (by omega)) (by omega)
  · refine y_iload 7 c34_6 rfl rfl ?_
    refine y_iconst 9 c34_7 rfl ?_
    refine y_icmp 54 12 c34_9 rfl rfl (yc_eq (by omega) (by omega)) (fun hb5 => ?_) (fun hb5 => ?_)
    · refine y_iconst 55 c34_54 rfl ?_
      refine y_goto 59 c34_55 rfl ?_
      exact y_retP c34_59 (y_fit1 (by omega)) (by omega)
    · refine y_iload 13 c34_12 rfl rfl ?_
      refine y_iconst 15 c34_13 rfl ?_
      refine y_icmp 54 18 c34_15 rfl rfl (yc_eq (by omega) (by omega)) (fun hb6 => ?_) (fun hb6 => ?_)
      · refine y_iconst 55 c34_54 rfl ?_
        refine y_goto 59 c34_55 rfl ?_
        exact y_retP c34_59 (y_fit1 (by omega)) (by omega)
      · refine y_iload 19 c34_18 rfl rfl ?_
        refine y_iconst 21 c34_19 rfl ?_
        refine y_icmp 54 24 c34_21 rfl rfl (yc_eq (by omega) (by omega)) (fun hb7 => ?_) (fun hb7 => ?_)
        · refine y_iconst 55 c34_54 rfl ?_
          refine y_goto 59 c34_55 rfl ?_
          exact y_retP c34_59 (y_fit1 (by omega)) (by omega)
        · refine y_iload 25 c34_24 rfl rfl ?_
          refine y_iconst 27 c34_25 rfl ?_
          refine y_icmp 54 30 c34_27 rfl rfl (yc_eq (by omega) (by omega)) (fun hb8 => ?_) (fun hb8 => ?_)
          · refine y_iconst 55 c34_54 rfl ?_
            refine y_goto 59 c34_55 rfl ?_
            exact y_retP c34_59 (y_fit1 (by omega)) (by omega)
          · refine y_iload 31 c34_30 rfl rfl ?_
            refine y_iconst 33 c34_31 rfl ?_
            refine y_icmp 54 36 c34_33 rfl rfl (yc_eq (by omega) (by omega)) (fun hb9 => ?_) (fun hb9 => ?_)
            · refine y_iconst 55 c34_54 rfl ?_
              refine y_goto 59 c34_55 rfl ?_
              exact y_retP c34_59 (y_fit1 (by omega)) (by omega)
            · refine y_iload 37 c34_36 rfl rfl ?_
              refine y_iconst 39 c34_37 rfl ?_
              refine y_icmp 54 42 c34_39 rfl rfl (yc_eq (by omega) (by omega)) (fun hb10 => ?_) (fun hb10 => ?_)
              · refine y_iconst 55 c34_54 rfl ?_
                refine y_goto 59 c34_55 rfl ?_
                exact y_retP c34_59 (y_fit1 (by omega)) (by omega)
              · refine y_iload 43 c34_42 rfl rfl ?_
                refine y_iconst 45 c34_43 rfl ?_
                refine y_icmp 54 48 c34_45 rfl rfl (yc_eq (by omega) (by omega)) (fun hb11 => ?_) (fun hb11 => ?_)
                · refine y_iconst 55 c34_54 rfl ?_
                  refine y_goto 59 c34_55 rfl ?_
                  exact y_retP c34_59 (y_fit1 (by omega)) (by omega)
                · refine y_iload 49 c34_48 rfl rfl ?_
                  refine y_iconst 51 c34_49 rfl ?_
                  refine y_icmp 58 54 c34_51 rfl rfl (yc_ne (by omega) (by omega)) (fun hb12 => ?_) (fun hb12 => ?_)
                  · refine y_iconst 59 c34_58 rfl ?_
                    exact y_retP c34_59 (y_fit1 (by omega)) (by omega)
                  · refine y_iconst 55 c34_54 rfl ?_
                    refine y_goto 59 c34_55 rfl ?_
                    exact y_retP c34_59 (y_fit1 (by omega)) (by omega)
def wTok (a _q : Nat) : Bool := a == 3 || a == 5 || a == 6 || a == 7
set_option maxRecDepth 100000 in
theorem t32 {L : Nat} {xs : Nat → Int32} {d nn : Nat} {m : yM} {k p : Int} (hT : Ty gT m) (hs : m 3 4 ≤ 320) (hk : -2147483648 ≤ k ∧ k < 2147483648) (hp : 0 ≤ p ∧ p ≤ 320) : YC (gZ L xs) d 32 [.ref 3, yI k, yI p] m nn (qU (fun m' n' => n' = nn ∧ m' = yup (yup (yup (yup m 5 (m 3 4).toNat k) 6 (m 3 4).toNat p) 7 (m 3 4).toNat 0) 3 4 (m 3 4 + 1))) := by
  refine YC.mkB [some (.ref 3), some (yI k), some (yI p)] kn32 rfl rfl ?_
  refine y_aload 1 c32_0 rfl rfl rfl ?_
  refine y_getR 4 c32_1 rfl kf3_1 ?_
  refine y_aload 5 c32_4 rfl rfl rfl ?_
  refine y_getX 8 (m 3 4) c32_5 rfl kf3_4 rfl ?_
  have tb13 := hT.atp 3 4 0 321 rfl
  refine y_iload 9 c32_8 rfl rfl ?_
  refine y_iastore 10 c32_9 rfl ka5 (by omega) (y_nar0 _) ?_
  have hT14 := hT.up 5 ((m 3 4).toNat) k ((-2147483648)) 2147483647 rfl (by omega)
  refine y_aload 11 c32_10 rfl rfl rfl ?_
  refine y_getR 14 c32_11 rfl kf3_2 ?_
  refine y_aload 15 c32_14 rfl rfl rfl ?_
  refine y_getX 18 (m 3 4) c32_15 rfl kf3_4 rfl ?_
  refine y_iload 19 c32_18 rfl rfl ?_
  refine y_iastore 20 c32_19 rfl ka6 (by omega) (y_nar0 _) ?_
  have hT16 := hT14.up 6 ((m 3 4).toNat) p 0 320 rfl (by omega)
  refine y_aload 21 c32_20 rfl rfl rfl ?_
  refine y_getR 24 c32_21 rfl kf3_3 ?_
  refine y_aload 25 c32_24 rfl rfl rfl ?_
  refine y_getX 28 (m 3 4) c32_25 rfl kf3_4 rfl ?_
  refine y_iconst 29 c32_28 rfl ?_
  refine y_iastore 30 c32_29 rfl ka7 (by omega) (y_nar0 _) ?_
  have hT18 := hT16.up 7 ((m 3 4).toNat) 0 ((-2147483648)) 2147483647 rfl (by omega)
  refine y_aload 31 c32_30 rfl rfl rfl ?_
  refine y_dup 32 c32_31 rfl rfl ?_
  refine y_getX 35 (m 3 4) c32_32 rfl kf3_4 rfl ?_
  refine y_iconst 36 c32_35 rfl ?_
  refine y_iadd 37 c32_36 rfl ?_
  refine y_putI 40 c32_37 rfl kf3_4 (y_fit0 _) ?_
  have hT20 := hT18.up 3 4 ((m 3 4) + 1) 0 321 rfl (by omega)
  exact y_retU c32_40 ⟨rfl, rfl⟩
set_option maxRecDepth 100000 in
theorem t33 {L : Nat} {xs : Nat → Int32} {d nn : Nat} {m : yM} {c p l : Int} (hT : Ty gT m) (hc : 0 ≤ c ∧ c ≤ 65535) (hp : 0 ≤ p ∧ p ≤ 320) (hl : 1 ≤ l ∧ l ≤ 400) (h1 : l = 1 → m 3 4 ≤ 320) (h2 : l ≠ 1 → 1 ≤ m 3 4) : YC (gZ L xs) (d + 1) 33 [.ref 3, yI c, yI p, yI l] m nn (qU (fun m' n' => n' = nn ∧ Ty gT m' ∧ Fr wTok m m' ∧ ((l = 1 ∧ m' 3 4 = m 3 4 + 1) ∨ (l ≠ 1 ∧ m' 3 4 = m 3 4)))) := by
  refine YC.mkB [some (.ref 3), some (yI c), some (yI p), some (yI l), none] kn33 rfl rfl ?_
  have hF : Fr wTok m m := Fr.rf
  refine y_iload 1 c33_0 rfl rfl ?_
  refine y_iconst 2 c33_1 rfl ?_
  refine y_icmp 12 5 c33_2 rfl rfl (yc_ne (by omega) (by omega)) (fun hb22 => ?_) (fun hb22 => ?_)
  · refine y_aload 13 c33_12 rfl rfl rfl ?_
    refine y_getX 16 (m 3 4) c33_13 rfl kf3_4 rfl ?_
    have tb23 := hT.atp 3 4 0 321 rfl
    refine y_iconst 17 c33_16 rfl ?_
    refine y_isub 18 c33_17 rfl ?_
    refine y_istore 20 c33_18 rfl rfl ?_
    refine y_aload 21 c33_20 rfl rfl rfl ?_
    refine y_getR 24 c33_21 rfl kf3_3 ?_
    refine y_iload 26 c33_24 rfl rfl ?_
    refine y_aload 27 c33_26 rfl rfl rfl ?_
    refine y_getR 30 c33_27 rfl kf3_3 ?_
    refine y_iload 32 c33_30 rfl rfl ?_
    refine y_iaT 33 ((-2147483648)) 2147483647 c33_32 rfl ka7 (by omega) hT rfl (fun v24 hv24 gv24 => ?_)
    refine y_iload 34 c33_33 rfl rfl ?_
    refine y_callP 37 [yI v24, yI c] [yI ((m 3 4) - 1), .ref 7] c33_34 rfl rfl rfl rfl rfl (ycanS km7) t7 (fun r25 hr25 => ?_)
    refine y_iastore 38 c33_37 rfl ka7 (by omega) (y_nar0 _) ?_
    have hT26 := hT.up 7 (((m 3 4) - 1).toNat) r25 ((-2147483648)) 2147483647 rfl (by omega)
    have hF27 := hF.up 7 (((m 3 4) - 1).toNat) r25 rfl
    refine y_iload 39 c33_38 rfl rfl ?_
    refine y_iconst 41 c33_39 rfl ?_
    refine y_icmp 53 44 c33_41 rfl rfl (yc_le (by omega) (by omega)) (fun hb28 => ?_) (fun hb28 => ?_)
    · have es : (yup m 7 (((m 3 4) - 1).toNat) r25) 3 4 = m 3 4 := rfl
      exact y_retU c33_53 ⟨rfl, hT26, hF27, by omega⟩
    · refine y_aload 45 c33_44 rfl rfl rfl ?_
      refine y_getR 48 c33_45 rfl kf3_1 ?_
      refine y_iload 50 c33_48 rfl rfl ?_
      refine y_iconst 52 c33_50 rfl ?_
      refine y_iastore 53 c33_52 rfl ka5 (by omega) (y_nar0 _) ?_
      have hT29 := hT26.up 5 (((m 3 4) - 1).toNat) 12 ((-2147483648)) 2147483647 rfl (by omega)
      have hF30 := hF27.up 5 (((m 3 4) - 1).toNat) 12 rfl
      have es : (yup (yup m 7 (((m 3 4) - 1).toNat) r25) 5 (((m 3 4) - 1).toNat) 12) 3 4 = m 3 4 := rfl
      exact y_retU c33_53 ⟨rfl, hT29, hF30, by omega⟩
  · refine y_aload 6 c33_5 rfl rfl rfl ?_
    refine y_iconst 8 c33_6 rfl ?_
    refine y_iload 9 c33_8 rfl rfl ?_
    have eq31 : m 3 4 = m 3 4 := rfl
    have tb32 := hT.atp 3 4 0 321 rfl
    refine y_callUB 12 [.ref 3, yI 11, yI p] [] c33_9 rfl rfl rfl rfl rfl (ycanO km32 ko3) (t32 hT (by omega) (by omega) (by omega)) (fun mq31 nq31 hq31 => ?_)
    obtain ⟨rfl, rfl⟩ := hq31
    have hT33 := hT.up 5 ((m 3 4).toNat) 11 ((-2147483648)) 2147483647 rfl (by omega)
    have hF34 := hF.up 5 ((m 3 4).toNat) 11 rfl
    have hT35 := hT33.up 6 ((m 3 4).toNat) p 0 320 rfl (by omega)
    have hF36 := hF34.up 6 ((m 3 4).toNat) p rfl
    have hT37 := hT35.up 7 ((m 3 4).toNat) 0 ((-2147483648)) 2147483647 rfl (by omega)
    have hF38 := hF36.up 7 ((m 3 4).toNat) 0 rfl
    have hT39 := hT37.up 3 4 ((m 3 4) + 1) 0 321 rfl (by omega)
    have hF40 := hF38.up 3 4 ((m 3 4) + 1) rfl
    refine y_aload 13 c33_12 rfl rfl rfl ?_
    refine y_getX 16 ((m 3 4) + 1) c33_13 rfl kf3_4 rfl ?_
    refine y_iconst 17 c33_16 rfl ?_
    refine y_isub 18 c33_17 rfl ?_
    refine y_istore 20 c33_18 rfl rfl ?_
    refine y_aload 21 c33_20 rfl rfl rfl ?_
    refine y_getR 24 c33_21 rfl kf3_3 ?_
    refine y_iload 26 c33_24 rfl rfl ?_
    refine y_aload 27 c33_26 rfl rfl rfl ?_
    refine y_getR 30 c33_27 rfl kf3_3 ?_
    refine y_iload 32 c33_30 rfl rfl ?_
    refine y_iaT 33 ((-2147483648)) 2147483647 c33_32 rfl ka7 (by omega) hT39 rfl (fun v41 hv41 gv41 => ?_)
    refine y_iload 34 c33_33 rfl rfl ?_
    refine y_callP 37 [yI v41, yI c] [yI (((m 3 4) + 1) - 1), .ref 7] c33_34 rfl rfl rfl rfl rfl (ycanS km7) t7 (fun r42 hr42 => ?_)
    refine y_iastore 38 c33_37 rfl ka7 (by omega) (y_nar0 _) ?_
    have hT43 := hT39.up 7 ((((m 3 4) + 1) - 1).toNat) r42 ((-2147483648)) 2147483647 rfl (by omega)
    have hF44 := hF40.up 7 ((((m 3 4) + 1) - 1).toNat) r42 rfl
    refine y_iload 39 c33_38 rfl rfl ?_
    refine y_iconst 41 c33_39 rfl ?_
    refine y_icmp 53 44 c33_41 rfl rfl (yc_le (by omega) (by omega)) (fun hb45 => ?_) (fun hb45 => ?_)
    · have es : (yup (yup (yup (yup (yup m 5 ((m 3 4).toNat) 11) 6 ((m 3 4).toNat) p) 7 ((m 3 4).toNat) 0) 3 4 ((m 3 4) + 1)) 7 ((((m 3 4) + 1) - 1).toNat) r42) 3 4 = (m 3 4) + 1 := rfl
      exact y_retU c33_53 ⟨rfl, hT43, hF44, by omega⟩
    · exfalso; omega
def wKin (a _q : Nat) : Bool := a == 5
set_option maxRecDepth 100000 in
theorem t35b {L : Nat} {xs : Nat → Int32} {d nn : Nat} {m : yM} (hT : Ty gT m) (i : Int) (hi : 0 ≤ i ∧ i < m 3 4) (ho : (∀ (mi : yM) (x2 : Option Value), Ty gT mi → Fr wKin m mi → (∀ z, m 5 z = 0 → mi 5 z = 0) → YW (gZ L xs) 35 d 2 [some (.ref 3), some (yI (i + 1)), x2] [] mi nn (qU (fun m' n' => n' = nn ∧ Ty gT m' ∧ Fr wKin m m' ∧ ∀ z, m 5 z = 0 → m' 5 z = 0)))) : ∀ (k : Nat) (j : Int) (mi : yM), 11 - j = k → 1 ≤ j ∧ j ≤ 11 → Ty gT mi → Fr wKin m mi → (∀ z, m 5 z = 0 → mi 5 z = 0) → YW (gZ L xs) 35 d 12 [some (.ref 3), some (yI i), some (yI j)] [] mi nn (qU (fun m' n' => n' = nn ∧ Ty gT m' ∧ Fr wKin m m' ∧ ∀ z, m 5 z = 0 → m' 5 z = 0)) := by
  intro k
  induction k using Nat.strongRecOn with
  | ind k ih =>
    intro j mi hk hj hTi hFi hz
    have tb := hT.atp 3 4 0 321 rfl
    refine y_iload 13 c35_12 rfl rfl ?_
    refine y_aload 14 c35_13 rfl rfl rfl ?_
    refine y_getR 17 c35_14 rfl kf3_0 ?_
    refine y_alen 18 c35_17 rfl ka4 ?_
    refine y_icmp 60 21 c35_18 rfl rfl (yc_ge (by omega) (by omega)) (fun hb46 => ?_) (fun hb46 => ?_)
    · refine y_iinc 63 c35_60 rfl rfl rfl ?_
      refine y_goto 2 c35_63 rfl ?_
      exact ho _ _ hTi hFi hz
    · refine y_aload 22 c35_21 rfl rfl rfl ?_
      refine y_getR 25 c35_22 rfl kf3_1 ?_
      refine y_iload 26 c35_25 rfl rfl ?_
      refine y_iaT 27 ((-2147483648)) 2147483647 c35_26 rfl ka5 (by omega) hTi rfl (fun v47 hv47 gv47 => ?_)
      refine y_iconst 29 c35_27 rfl ?_
      refine y_icmp 60 32 c35_29 rfl rfl (yc_ne (by omega) (by omega)) (fun hb48 => ?_) (fun hb48 => ?_)
      · refine y_iinc 63 c35_60 rfl rfl rfl ?_
        refine y_goto 2 c35_63 rfl ?_
        exact ho _ _ hTi hFi hz
      · refine y_aload 33 c35_32 rfl rfl rfl ?_
        refine y_getR 36 c35_33 rfl kf3_0 ?_
        refine y_iload 37 c35_36 rfl rfl ?_
        refine y_iaT 38 ((-2147483648)) 2147483647 c35_37 rfl ka4 (by omega) hTi rfl (fun v49 hv49 gv49 => ?_)
        refine y_aload 39 c35_38 rfl rfl rfl ?_
        refine y_getR 42 c35_39 rfl kf3_3 ?_
        refine y_iload 43 c35_42 rfl rfl ?_
        refine y_iaT 44 ((-2147483648)) 2147483647 c35_43 rfl ka7 (by omega) hTi rfl (fun v50 hv50 gv50 => ?_)
        refine y_icmp 54 47 c35_44 rfl rfl (yc_ne (by omega) (by omega)) (fun hb51 => ?_) (fun hb51 => ?_)
        · refine y_iinc 57 c35_54 rfl rfl rfl ?_
          refine y_goto 12 c35_57 rfl ?_
          exact ih (11 - (j + 1) : Int).toNat (by omega) (j + 1)  _ (by omega) (by omega) hTi hFi hz
        · refine y_aload 48 c35_47 rfl rfl rfl ?_
          refine y_getR 51 c35_48 rfl kf3_1 ?_
          refine y_iload 52 c35_51 rfl rfl ?_
          refine y_iload 53 c35_52 rfl rfl ?_
          refine y_iastore 54 c35_53 rfl ka5 (by omega) (y_nar0 _) ?_
          have hT52 := hTi.up 5 i.toNat j ((-2147483648)) 2147483647 rfl (by omega)
          have hF53 := hFi.up 5 i.toNat j rfl
          refine y_iinc 57 c35_54 rfl rfl rfl ?_
          refine y_goto 12 c35_57 rfl ?_
          exact ih (11 - (j + 1) : Int).toNat (by omega) (j + 1)  _ (by omega) (by omega) hT52 hF53 (fun z hz0 => by
          by_cases e : z = i.toNat
          · subst e
            have := hz _ hz0
            omega
          · rw [yup_nk e]; exact hz z hz0)
set_option maxRecDepth 100000 in
theorem t35a {L : Nat} {xs : Nat → Int32} {d nn : Nat} {m : yM} (hT : Ty gT m) : ∀ (k : Nat) (i : Int) (x2 : Option Value) (mi : yM), m 3 4 - i = k → 0 ≤ i ∧ i ≤ m 3 4 → Ty gT mi → Fr wKin m mi → (∀ z, m 5 z = 0 → mi 5 z = 0) → YW (gZ L xs) 35 d 2 [some (.ref 3), some (yI i), x2] [] mi nn (qU (fun m' n' => n' = nn ∧ Ty gT m' ∧ Fr wKin m m' ∧ ∀ z, m 5 z = 0 → m' 5 z = 0)) := by
  intro k
  induction k using Nat.strongRecOn with
  | ind k ih =>
    intro i x2 mi hk hi hTi hFi hz
    have tb := hT.atp 3 4 0 321 rfl
    refine y_iload 3 c35_2 rfl rfl ?_
    refine y_aload 4 c35_3 rfl rfl rfl ?_
    refine y_getX 7 (m 3 4) c35_4 rfl kf3_4 (hFi 3 4 rfl) ?_
    refine y_icmp 66 10 c35_7 rfl rfl (yc_ge (by omega) (by omega)) (fun hb54 => ?_) (fun hb54 => ?_)
    · exact y_retU c35_66 ⟨rfl, hTi, hFi, hz⟩
    · refine y_iconst 11 c35_10 rfl ?_
      refine y_istore 12 c35_11 rfl rfl ?_
      exact t35b hT i (by omega) (fun mj x3 h1 h2 h3 => ih (m 3 4 - (i + 1)).toNat (by omega) (i + 1) x3 mj (by omega) (by omega) h1 h2 h3) 10 1 mi (by omega) (by omega) hTi hFi hz
set_option maxRecDepth 100000 in
theorem t35 {L : Nat} {xs : Nat → Int32} {d nn : Nat} {m : yM} (hT : Ty gT m) : YC (gZ L xs) d 35 [.ref 3] m nn (qU (fun m' n' => n' = nn ∧ Ty gT m' ∧ Fr wKin m m' ∧ ∀ z, m 5 z = 0 → m' 5 z = 0)) := by
  refine YC.mkB [some (.ref 3), none, none] kn35 rfl rfl ?_
  refine y_iconst 1 c35_0 rfl ?_
  refine y_istore 2 c35_1 rfl rfl ?_
  have tb := hT.atp 3 4 0 321 rfl
  exact t35a hT (m 3 4 - 0).toNat 0 none m (by omega) (by omega) hT Fr.rf (fun z h => h)
theorem wKin_Tok : ∀ a q, wKin a q = true → wTok a q = true := by
  intro a q h
  simp [wKin] at h
  simp [wTok, h]
set_option maxRecDepth 100000 in
theorem t36a {L : Nat} {xs : Nat → Int32} {d nn : Nat} {m : yM} (hT : Ty gT m) (n : Int) (hn : 0 ≤ n ∧ n ≤ 320) : ∀ (k : Nat) (e : Int) (l : Int) (i : Int) (x6 : Option Value) (mi : yM), n - i = k → 0 ≤ i ∧ i ≤ n → 0 ≤ e ∧ e ≤ 320 → 0 ≤ l ∧ l ≤ i → Ty gT mi → Fr wTok m mi → mi 3 4 ≤ i ∧ (1 ≤ l → 1 ≤ mi 3 4) → YW (gZ L xs) 36 (d + 2) 13 [some (.ref 3), some (.ref 1), some (yI n), some (yI e), some (yI l), some (yI i), x6] [] mi nn (qU (fun m' n' => n' = nn ∧ Ty gT m' ∧ Fr wTok m m' ∧ ∃ e : Int, 0 ≤ e ∧ e ≤ 320 ∧ m' 3 4 = e + 1 ∧ m' 5 e.toNat = 0)) := by
  intro k
  induction k using Nat.strongRecOn with
  | ind k ih =>
    intro e l i x6 mi hk hi he hl hTi hFi hs
    refine y_iload 15 c36_13 rfl rfl ?_
    refine y_iload 16 c36_15 rfl rfl ?_
    refine y_icmp 102 19 c36_16 rfl rfl (yc_ge (by omega) (by omega)) (fun hb55 => ?_) (fun hb55 => ?_)
    · refine y_aload 103 c36_102 rfl rfl rfl ?_
      refine y_iconst 104 c36_103 rfl ?_
      refine y_iload 105 c36_104 rfl rfl ?_
      have eq56 : mi 3 4 = mi 3 4 := rfl
      have tb57 := hTi.atp 3 4 0 321 rfl
      refine y_callUB 108 [.ref 3, yI 0, yI e] [] c36_105 rfl rfl rfl rfl rfl (ycanO km32 ko3) (t32 hTi (by omega) (by omega) (by omega)) (fun mq56 nq56 hq56 => ?_)
      obtain ⟨rfl, rfl⟩ := hq56
      have hT58 := hTi.up 5 ((mi 3 4).toNat) 0 ((-2147483648)) 2147483647 rfl (by omega)
      have hF59 := hFi.up 5 ((mi 3 4).toNat) 0 rfl
      have hT60 := hT58.up 6 ((mi 3 4).toNat) e 0 320 rfl (by omega)
      have hF61 := hF59.up 6 ((mi 3 4).toNat) e rfl
      have hT62 := hT60.up 7 ((mi 3 4).toNat) 0 ((-2147483648)) 2147483647 rfl (by omega)
      have hF63 := hF61.up 7 ((mi 3 4).toNat) 0 rfl
      have hT64 := hT62.up 3 4 ((mi 3 4) + 1) 0 321 rfl (by omega)
      have hF65 := hF63.up 3 4 ((mi 3 4) + 1) rfl
      refine y_aload 109 c36_108 rfl rfl rfl ?_
      refine y_callUB 112 [.ref 3] [] c36_109 rfl rfl rfl rfl rfl (ycanO km35 ko3) (t35 hT64) (fun mq66 nq66 hq66 => ?_)
      obtain ⟨rfl, hTq66, hFq66, hq66⟩ := hq66
      have hF67 := hF65.tr hFq66 wKin_Tok
      exact y_retU c36_112 ⟨rfl, hTq66, hF67, mi 3 4, by omega, by omega, (hFq66 3 4 rfl).trans (by simp [yup]), hq66 _ (by simp [yup])⟩
    · refine y_aload 20 c36_19 rfl rfl rfl ?_
      refine y_iload 22 c36_20 rfl rfl ?_
      refine y_iaT 23 0 65535 c36_22 rfl ka1 (by omega) hTi rfl (fun v68 hv68 gv68 => ?_)
      refine y_istore 25 c36_23 rfl rfl ?_
      refine y_iload 27 c36_25 rfl rfl ?_
      refine y_callP 30 [yI v68] [] c36_27 rfl rfl rfl rfl rfl (ycanS km31) (t31 (by omega)) (fun r69 hr69 => ?_)
      refine y_if 49 33 c36_30 rfl rfl (yz_eq (by omega)) (fun hb70 => ?_) (fun hb70 => ?_)
      · refine y_iconst 50 c36_49 rfl ?_
        refine y_istore 52 c36_50 rfl rfl ?_
        refine y_iload 54 c36_52 rfl rfl ?_
        refine y_iconst 56 c36_54 rfl ?_
        refine y_icmp 80 59 c36_56 rfl rfl (yc_eq (by omega) (by omega)) (fun hb71 => ?_) (fun hb71 => ?_)
        · refine y_iload 82 c36_80 rfl rfl ?_
          refine y_iconst 84 c36_82 rfl ?_
          refine y_icmp 91 87 c36_84 rfl rfl (yc_ne (by omega) (by omega)) (fun hb72 => ?_) (fun hb72 => ?_)
          · exfalso; omega
          · refine y_iload 88 c36_87 rfl rfl ?_
            refine y_goto 95 c36_88 rfl ?_
            refine y_istore 96 c36_95 rfl rfl ?_
            refine y_iinc 99 c36_96 rfl rfl rfl ?_
            refine y_goto 13 c36_99 rfl ?_
            exact ih (n - (i + 1) : Int).toNat (by omega) e 0 (i + 1) _  _ (by omega) (by omega) (by omega) (by omega) hTi hFi (by have e : mi 3 4 = mi 3 4 := rfl; omega)
        · refine y_aload 60 c36_59 rfl rfl rfl ?_
          refine y_iload 62 c36_60 rfl rfl ?_
          refine y_callP 65 [yI v68] [.ref 3] c36_62 rfl rfl rfl rfl rfl (ycanS km34) (t34 (by omega)) (fun r73 hr73 => ?_)
          refine y_if 73 68 c36_65 rfl rfl (yz_eq (by omega)) (fun hb74 => ?_) (fun hb74 => ?_)
          · refine y_iconst 75 c36_73 rfl ?_
            refine y_iload 77 c36_75 rfl rfl ?_
            have eq75 : mi 3 4 = mi 3 4 := rfl
            have tb76 := hTi.atp 3 4 0 321 rfl
            refine y_callUB 80 [.ref 3, yI 12, yI i] [] c36_77 rfl rfl rfl rfl rfl (ycanO km32 ko3) (t32 hTi (by omega) (by omega) (by omega)) (fun mq75 nq75 hq75 => ?_)
            obtain ⟨rfl, rfl⟩ := hq75
            have hT77 := hTi.up 5 ((mi 3 4).toNat) 12 ((-2147483648)) 2147483647 rfl (by omega)
            have hF78 := hFi.up 5 ((mi 3 4).toNat) 12 rfl
            have hT79 := hT77.up 6 ((mi 3 4).toNat) i 0 320 rfl (by omega)
            have hF80 := hF78.up 6 ((mi 3 4).toNat) i rfl
            have hT81 := hT79.up 7 ((mi 3 4).toNat) 0 ((-2147483648)) 2147483647 rfl (by omega)
            have hF82 := hF80.up 7 ((mi 3 4).toNat) 0 rfl
            have hT83 := hT81.up 3 4 ((mi 3 4) + 1) 0 321 rfl (by omega)
            have hF84 := hF82.up 3 4 ((mi 3 4) + 1) rfl
            refine y_iload 82 c36_80 rfl rfl ?_
            refine y_iconst 84 c36_82 rfl ?_
            refine y_icmp 91 87 c36_84 rfl rfl (yc_ne (by omega) (by omega)) (fun hb85 => ?_) (fun hb85 => ?_)
            · refine y_iload 93 c36_91 rfl rfl ?_
              refine y_iconst 94 c36_93 rfl ?_
              refine y_iadd 95 c36_94 rfl ?_
              refine y_istore 96 c36_95 rfl rfl ?_
              refine y_iinc 99 c36_96 rfl rfl rfl ?_
              refine y_goto 13 c36_99 rfl ?_
              exact ih (n - (i + 1) : Int).toNat (by omega) (i + 1) 0 (i + 1) _  _ (by omega) (by omega) (by omega) (by omega) hT83 hF84 (by have e : (yup (yup (yup (yup mi 5 ((mi 3 4).toNat) 12) 6 ((mi 3 4).toNat) i) 7 ((mi 3 4).toNat) 0) 3 4 ((mi 3 4) + 1)) 3 4 = (mi 3 4) + 1 := rfl; omega)
            · refine y_iload 88 c36_87 rfl rfl ?_
              refine y_goto 95 c36_88 rfl ?_
              refine y_istore 96 c36_95 rfl rfl ?_
              refine y_iinc 99 c36_96 rfl rfl rfl ?_
              refine y_goto 13 c36_99 rfl ?_
              exact ih (n - (i + 1) : Int).toNat (by omega) e 0 (i + 1) _  _ (by omega) (by omega) (by omega) (by omega) hT83 hF84 (by have e : (yup (yup (yup (yup mi 5 ((mi 3 4).toNat) 12) 6 ((mi 3 4).toNat) i) 7 ((mi 3 4).toNat) 0) 3 4 ((mi 3 4) + 1)) 3 4 = (mi 3 4) + 1 := rfl; omega)
          · refine y_iload 70 c36_68 rfl rfl ?_
            refine y_goto 75 c36_70 rfl ?_
            refine y_iload 77 c36_75 rfl rfl ?_
            have eq86 : mi 3 4 = mi 3 4 := rfl
            have tb87 := hTi.atp 3 4 0 321 rfl
            refine y_callUB 80 [.ref 3, yI v68, yI i] [] c36_77 rfl rfl rfl rfl rfl (ycanO km32 ko3) (t32 hTi (by omega) (by omega) (by omega)) (fun mq86 nq86 hq86 => ?_)
            obtain ⟨rfl, rfl⟩ := hq86
            have hT88 := hTi.up 5 ((mi 3 4).toNat) v68 ((-2147483648)) 2147483647 rfl (by omega)
            have hF89 := hFi.up 5 ((mi 3 4).toNat) v68 rfl
            have hT90 := hT88.up 6 ((mi 3 4).toNat) i 0 320 rfl (by omega)
            have hF91 := hF89.up 6 ((mi 3 4).toNat) i rfl
            have hT92 := hT90.up 7 ((mi 3 4).toNat) 0 ((-2147483648)) 2147483647 rfl (by omega)
            have hF93 := hF91.up 7 ((mi 3 4).toNat) 0 rfl
            have hT94 := hT92.up 3 4 ((mi 3 4) + 1) 0 321 rfl (by omega)
            have hF95 := hF93.up 3 4 ((mi 3 4) + 1) rfl
            refine y_iload 82 c36_80 rfl rfl ?_
            refine y_iconst 84 c36_82 rfl ?_
            refine y_icmp 91 87 c36_84 rfl rfl (yc_ne (by omega) (by omega)) (fun hb96 => ?_) (fun hb96 => ?_)
            · refine y_iload 93 c36_91 rfl rfl ?_
              refine y_iconst 94 c36_93 rfl ?_
              refine y_iadd 95 c36_94 rfl ?_
              refine y_istore 96 c36_95 rfl rfl ?_
              refine y_iinc 99 c36_96 rfl rfl rfl ?_
              refine y_goto 13 c36_99 rfl ?_
              exact ih (n - (i + 1) : Int).toNat (by omega) (i + 1) 0 (i + 1) _  _ (by omega) (by omega) (by omega) (by omega) hT94 hF95 (by have e : (yup (yup (yup (yup mi 5 ((mi 3 4).toNat) v68) 6 ((mi 3 4).toNat) i) 7 ((mi 3 4).toNat) 0) 3 4 ((mi 3 4) + 1)) 3 4 = (mi 3 4) + 1 := rfl; omega)
            · refine y_iload 88 c36_87 rfl rfl ?_
              refine y_goto 95 c36_88 rfl ?_
              refine y_istore 96 c36_95 rfl rfl ?_
              refine y_iinc 99 c36_96 rfl rfl rfl ?_
              refine y_goto 13 c36_99 rfl ?_
              exact ih (n - (i + 1) : Int).toNat (by omega) e 0 (i + 1) _  _ (by omega) (by omega) (by omega) (by omega) hT94 hF95 (by have e : (yup (yup (yup (yup mi 5 ((mi 3 4).toNat) v68) 6 ((mi 3 4).toNat) i) 7 ((mi 3 4).toNat) 0) 3 4 ((mi 3 4) + 1)) 3 4 = (mi 3 4) + 1 := rfl; omega)
      · refine y_iinc 36 c36_33 rfl rfl rfl ?_
        refine y_aload 37 c36_36 rfl rfl rfl ?_
        refine y_iload 39 c36_37 rfl rfl ?_
        refine y_iload 41 c36_39 rfl rfl ?_
        refine y_iload 43 c36_41 rfl rfl ?_
        have eq97 : mi 3 4 = mi 3 4 := rfl
        have tb98 := hTi.atp 3 4 0 321 rfl
        refine y_callUB 46 [.ref 3, yI v68, yI i, yI (l + 1)] [] c36_43 rfl rfl rfl rfl rfl (ycanO km33 ko3) (t33 hTi (by omega) (by omega) (by omega) (by omega) (by omega)) (fun mq97 nq97 hq97 => ?_)
        obtain ⟨rfl, hTq97, hFq97, hq97⟩ := hq97
        have hF99 := hFi.tr hFq97 (fun _ _ e => e)
        refine y_goto 80 c36_46 rfl ?_
        refine y_iload 82 c36_80 rfl rfl ?_
        refine y_iconst 84 c36_82 rfl ?_
        refine y_icmp 91 87 c36_84 rfl rfl (yc_ne (by omega) (by omega)) (fun hb100 => ?_) (fun hb100 => ?_)
        · refine y_iload 93 c36_91 rfl rfl ?_
          refine y_iconst 94 c36_93 rfl ?_
          refine y_iadd 95 c36_94 rfl ?_
          refine y_istore 96 c36_95 rfl rfl ?_
          refine y_iinc 99 c36_96 rfl rfl rfl ?_
          refine y_goto 13 c36_99 rfl ?_
          exact ih (n - (i + 1) : Int).toNat (by omega) (i + 1) (l + 1) (i + 1) _  _ (by omega) (by omega) (by omega) (by omega) hTq97 hF99 (by have e : mq97 3 4 = mq97 3 4 := rfl; omega)
        · refine y_iload 88 c36_87 rfl rfl ?_
          refine y_goto 95 c36_88 rfl ?_
          refine y_istore 96 c36_95 rfl rfl ?_
          refine y_iinc 99 c36_96 rfl rfl rfl ?_
          refine y_goto 13 c36_99 rfl ?_
          exact ih (n - (i + 1) : Int).toNat (by omega) e (l + 1) (i + 1) _  _ (by omega) (by omega) (by omega) (by omega) hTq97 hF99 (by have e : mq97 3 4 = mq97 3 4 := rfl; omega)
set_option maxRecDepth 100000 in
theorem t36 {L : Nat} {xs : Nat → Int32} {d nn : Nat} {m : yM} (hT : Ty gT m) (n : Int) (hn : 0 ≤ n ∧ n ≤ 320) : YC (gZ L xs) (d + 2) 36 [.ref 3, .ref 1, yI n] m nn (qU (fun m' n' => n' = nn ∧ Ty gT m' ∧ Fr wTok m m' ∧ ∃ e : Int, 0 ≤ e ∧ e ≤ 320 ∧ m' 3 4 = e + 1 ∧ m' 5 e.toNat = 0)) := by
  refine YC.mkB [some (.ref 3), some (.ref 1), some (yI n), none, none, none, none] kn36 rfl rfl ?_
  have hF : Fr wTok m m := Fr.rf
  refine y_aload 1 c36_0 rfl rfl rfl ?_
  refine y_iconst 2 c36_1 rfl ?_
  refine y_putI 5 c36_2 rfl kf3_4 (y_fit0 _) ?_
  have hT101 := hT.up 3 4 0 0 321 rfl (by omega)
  have hF102 := hF.up 3 4 0 rfl
  refine y_iconst 6 c36_5 rfl ?_
  refine y_istore 7 c36_6 rfl rfl ?_
  refine y_iconst 8 c36_7 rfl ?_
  refine y_istore 10 c36_8 rfl rfl ?_
  refine y_iconst 11 c36_10 rfl ?_
  refine y_istore 13 c36_11 rfl rfl ?_
  exact t36a hT n hn (n - 0 : Int).toNat 0 0 0 _  _ (by omega) (by omega) (by omega) (by omega) hT101 hF102 (by have e : (yup m 3 4 0) 3 4 = 0 := rfl; omega)
end

section
/-! THE RUN, whole; what was seen -/
section UZ
variable {G : Nat → Prop} {A p f g s o : Nat} {m m1 m2 mc mm mc' mm' mc0 mm0 : yM}
/-- the method go: class and model -/
theorem go_u {r : Int} {x : yM} (hA : A = 256 ∨ A = 316) (hp : p ≤ 1) (hR : RPG A p s o mc0 mm0) (hgo : GOk A mc0) (h18 : mm0 376 18 = p) (hx : uM mm0 x) (e : F143 g x = some r) : r = mc0 A 17 ∧ (r = -1 ∨ (0 ≤ r ∧ r < mc0 A 10 ∧ mm0 397 (10 * p + r.toNat) = 0)) := by
  obtain ⟨f', x1, d1, d2⟩ := hgo
  have h10 := hR.2.1.2.2.1
  have r1 : rCl A p x1 x := hR.1.fr (d2 _ _ (by omega)) (fun b q hb => d2 _ _ (by omega)) (fun b q hb => hx _ _ (by omega) (by omega))
  have r2 : rMe A p x1 x := hR.2.1.fr (d2 _ _ (by omega)) (Int.le_of_eq (d2 _ _ (by omega)).symm) (fun k q _ _ => d2 _ _ (by omega)) (fun b q hb => hx _ _ (by omega) (by omega))
  unfold F143 at e
  replace e := bP_e e
  obtain ⟨r0, d3, e⟩ := e
  injection e with e
  subst e
  rw [hx 376 18 (by decide) (by omega), h18] at d3
  have c9 := hR.2.2.2.2.2.1.2.2.2.2
  obtain ⟨z1, z2⟩ := found_r r1 r2 hp go_Nm (by omega) (by rw [d2 A 9 (by omega)]; omega) d1 d3
  rw [d2 A 10 (by omega), z1] at z2
  refine ⟨z1.symm, ?_⟩
  rcases z2 with z2 | z2
  · exact Or.inl z2
  · refine Or.inr ⟨z2.1, z2.2, ?_⟩
    unfold F142 at d3
    replace d3 := bP_e d3
    obtain ⟨r8, -, d3⟩ := d3
    rcases ite1 d3 with ⟨-, d3⟩ | ⟨-, d3⟩
    · injection d3 with d3; omega
    · rcases ite1 d3 with ⟨ya, d3⟩ | ⟨-, d3⟩
      · injection d3 with d3
        obtain ⟨q, hq⟩ : ∃ q : Nat, r0 = q := ⟨r0.toNat, by omega⟩
        rw [d3, hq, ixp10 hp (by omega), hx 397 _ (by decide) (by omega)] at ya
        rw [hq, Int.toNat_natCast]
        exact ya
      · injection d3 with d3; omega
theorem pop0 {x : Int} (h54 : mm 376 54 = 1) (e : J204_36 g x mm = some mm') : mm' = yup mm 376 54 0 := by
  unfold J204_36 at e
  have w : wr (mm 376 54 - 1) = 0 := by rw [h54, wr_i (by omega) (by omega)]; omega
  rw [w, if_pos rfl] at e
  injection e with e
  exact e.symm
/-- the run itself -/
theorem run_u {rv : Unit ⊕ Nat} {rr : (Unit × yM) ⊕ (Int × yM)} {r7 : Int} {n2 n3 nS : yM} {go : Nat} (hA : A = 256 ∨ A = 316) (hp : p ≤ 1) (hR : RPG A p s o mc0 mm0) (hgo : mc0 A 17 = go) (hgo2 : (go : Int) < mc0 A 10) (hgo3 : mm0 397 (10 * p + go) = 0) (h18 : mm0 376 18 = p) (e1 : F198 f A mc0 = some (rv, mc')) (hS1 : uM mm0 nS) (hS2 : nS 376 51 = 0 ∧ nS 376 54 = 0 ∧ nS 376 56 = 0 ∧ nS 376 57 = 0) (hS3 : ∀ i, i < 576 → nS 408 i = 0) (e2 : F201 g 0 nS = some (r7, n2)) (e3 : F203 g (go : Int) r7 0 0 0 n2 = some n3) (hL : UL g g n3 = some rr) : ∃ mm', rr = .inl ((), mm') ∧ ((∃ e, rv = .inr e ∧ uX mc0 mm0 e mc' mm') ∨ (rv = .inl () ∧ mm' 376 57 = 0 ∧ mm' 376 56 = mc' 169 6 ∧ (0 ≤ mc' 169 6 ∧ mc' 169 6 ≤ 200) ∧ uE mc0 mm0 mc' mm')) := by
  obtain ⟨S51, S54, S56, S57⟩ := hS2
  have h10 := hR.2.1.2.2.1
  obtain ⟨-, -, b3, b4, -, -, b7, b8, b9, b10⟩ := hR.2.1.2.2.2 go hgo2
  rw [hgo3] at b3
  obtain ⟨res, hres⟩ : ∃ res : Nat, mc0 (A + 10 + go) 2 = res := ⟨(mc0 (A + 10 + go) 2).toNat, by omega⟩
  unfold F198 at e1
  replace e1 := bU_e e1
  obtain ⟨c1, c2, e1⟩ := e1
  obtain ⟨z1, z2⟩ := F92_r c2
  have cf : ∀ b y, ¬ (171 ≤ b ∧ b < 219) → b ≠ 169 → yup (yup c1 169 5 0) 169 6 0 b y = mc0 b y := fun b y w1 w2 => by rw [yup_na w2, yup_na w2, z2 b y w1, yup_na w2]
  have hB : uB (GEN A s mc0) (yup (yup c1 169 5 0) 169 6 0) nS := by
    refine ⟨⟨by rw [yup_nk (by decide), yup_eq]; omega, by rw [yup_nk (by decide), yup_eq]; omega, by rw [yup_nk (by decide), yup_eq]; omega⟩, ⟨by rw [yup_eq]; omega, by rw [yup_eq]; omega, by rw [yup_eq]; omega⟩, fun i hi => ?_, fun i y hi _ => ?_, fun v j hv hj => ?_⟩
    · rw [yup_nk (by decide), yup_eq] at hi; omega
    · rw [yup_nk (by decide), yup_eq] at hi; omega
    · rw [yup_na (by omega), yup_na (by omega), z1 v j hv hj, hS3 _ (by omega)]
      omega
  have hF : uF 0 (yup (yup c1 169 5 0) 169 6 0) nS := fun x v hx _ => by omega
  have hC : uC mc0 (yup (yup c1 169 5 0) 169 6 0) := fun a y ha => cf a y (by omega) (by omega)
  have hG : ∀ k, GEN A s mc0 k → mc0 (A + 8) k = mm0 400 (12 * p + k) ∧ 0 ≤ mc0 (A + 8) k ∧ mc0 (A + 8) k < mc0 A 9 := fun k hk => hR.2.2.2.2.2.2.2 k hk
  have hgn : ∀ t : Nat, t < s → mc0 (A + 20 + t) 0 = 5 → ∀ x : Nat, mc0 (A + 20 + t) 6 = x → x < 12 ∧ GEN A s mc0 x := fun t ht h5 x hx => by
    have hg : GEN A s mc0 x := Or.inr ⟨t, ht, h5, hx⟩
    exact ⟨(GEN.lt hR hg).1, hg⟩
  have obj : ∀ zz, F186 f (((0 : Nat) : Int)) (yup (yup c1 169 5 0) 169 6 0) = some zz → ∃ mc1, zz = (.inl 0, mc1) ∧ r7 = 1 ∧ uB (GEN A s mc0) mc1 n2 ∧ uF 0 mc1 n2 ∧ uC mc0 mc1 ∧ uM mm0 n2 ∧ mc1 169 5 = 1 ∧ (∀ y, 54 ≤ y → n2 376 y = nS 376 y) := by
    intro zz ez
    have k5 : yup (yup c1 169 5 0) 169 6 0 169 5 = 0 := by rw [yup_nk (by decide), yup_eq]
    rcases objR (x := 0) hB hF (by omega) (by decide) (Or.inl rfl) ez e2 with ⟨w, -⟩ | ⟨-, mc1, w, w1, w2, w3, w4, w5, w6, w7, w8, w9, w10⟩
    · omega
    · rw [k5] at w w1 w6
      exact ⟨mc1, w, by omega, w2, w3, hC.tr w4, hS1.tr w5, by omega, w9⟩
  rcases bT_e e1 with ⟨r9, m9, c3, c4⟩ | ⟨e', m9, c3, c4⟩
  case inr =>
    obtain ⟨mc1, w, -⟩ := obj _ c3
    cases w
  obtain ⟨mc1, w, o1, o2, o3, o4, o5, o6, o7⟩ := obj _ c3
  injection w with w w'
  injection w with w
  rw [w, w', o4 A 17 (by omega), hgo, Int.toNat_natCast, if_pos (by omega)] at c4
  rcases bT_e c4 with ⟨fr, m3, c5, c6⟩ | ⟨e', m3, c5, c6⟩
  case inr =>
    rcases F187_r (k := 0) (by omega) c5 with ⟨w, -⟩ | ⟨-, m4, -, w⟩
    · omega
    · cases w
  rcases F187_r (k := 0) (by omega) c5 with ⟨w, -⟩ | ⟨-, m4, c7, w⟩
  · omega
  injection w with w w'
  injection w with w
  rw [w, w', if_pos (by omega)] at c6
  replace c6 := bU_e c6
  obtain ⟨m5, c8, c6⟩ := c6
  have e3' : F203 g (go : Int) ((0 : Int) + 1) 0 0 0 n2 = some n3 := by
    rw [show ((0 : Int) + 1) = 1 by decide]
    rw [o1] at e3
    exact e3
  obtain ⟨P1, P2, P3, P4, P5, P6, P7⟩ := push_u (k := 0) (na := 0) (sv := 0) (a1 := 0) (a2 := 0) hA hp hR h18 hgo2 (by omega) hres o2 o3 o4 o5 (by rw [o7 54 (by decide)]; exact S54) (by rw [o7 57 (by decide)]; exact S57) (by omega) (by omega) (fun w => by omega) (fun w => by omega) c7 c8 (Or.inl ⟨rfl, rfl⟩) (Or.inl ⟨by omega, rfl⟩) (fun w => by omega) (fun w => by omega) e3'
  have hSL := uSL_all (f := f) (g := g) hA hp hR hG hgn h18 f
  obtain ⟨-, -, -, -, ⟨-, -, -, -, -, hOW, hMZ⟩, ⟨-, hs40, -, ho120, -⟩, -, -⟩ := hR
  obtain ⟨s0, s1, o0, o1', fu, M1, M2, M3, M4, M5, M6, M7, M8⟩ := hMZ go hgo2
  obtain ⟨W1, W2⟩ := hOW go (by omega)
  rw [P1.2.2.1 (A + 10 + go) 4 (by omega), P1.2.2.1 (A + 10 + go) 5 (by omega), M1, M2] at c6
  have run : ∀ {res' : Int ⊕ Nat} {mx : yM}, F197 f A f (s0 : Int) (s1 : Int) ((0 : Nat) : Int) m5 = some (res', mx) → uO (GEN A s mc0) mc0 mm0 g 0 res o1' m5 n3 rr res' mx := fun e => hSL fu s0 s1 o0 o1' 0 go res g m5 n3 _ _ rr M6 M4 (by omega) (fun t' t1 t2 => by
    have := W2 t' (by omega) (by omega)
    rw [hres] at this
    exact this) hres (by omega) (by rw [← b4]; exact hres) (by omega) P1 (by rw [P2]; exact M3) e hL
  rcases bT_e c6 with ⟨r10, m10, c9, c10⟩ | ⟨e', m10, c9, c10⟩
  case inr =>
    injection c10 with c10
    injection c10 with c10 c10'
    rcases run c9 with ⟨e9, mx, y1, y2, y3⟩ | ⟨y1, -⟩ | ⟨y1, -⟩
    · injection y1 with y1
      exact ⟨mx, y2, Or.inl ⟨e9, by rw [← c10, y1], by rw [← c10']; exact y3⟩⟩
    · cases y1
    · cases y1
  injection c10 with c10
  injection c10 with c10 c10'
  rcases run c9 with ⟨e9, mx, y1, -⟩ | ⟨y1, H', mx, y2, y3, y4, y5, y6, y7, y8⟩ | ⟨y1, H', mx, mm2, y2, y3, y4, y5, y6, y7, y8, y9, y10, y11, y12, y13, y14⟩
  · cases y1
  · obtain ⟨H2, my, w1, w2⟩ := UL.step y2 y3.2.2.2.2.2 (by rw [y3.2.2.2.2.1]; omega)
    have w3 := mop12 hp (by omega) y3 h18 y4 M7 w1
    have w4 := pop0 (by have := y3.2.2.2.2.1; omega) w3
    have w5 := UL.stop w2 (Or.inr (by rw [w4, yup_eq]))
    refine ⟨my, w5, Or.inr ⟨c10.symm, by rw [w4, yup_nk (by decide)]; exact y3.2.2.2.2.2, ?_, ?_, fun v j hv hj => ?_, ?_, ?_⟩⟩
    · rw [w4, yup_nk (by decide), ← c10']; exact y3.1.2.1.1.symm
    · rw [← c10']; exact y3.1.2.1.2
    · rw [w4, yup_na (by decide), ← c10']; exact y3.1.2.2.2.2 v j hv hj
    · rw [← c10']; exact y3.2.2.1
    · rw [w4]; exact y3.2.2.2.1.up (by omega)
  · have w4 := pop0 (by omega) y2
    have w5 := UL.stop y3 (Or.inr (by rw [w4, yup_eq]))
    refine ⟨mm2, w5, Or.inr ⟨c10.symm, by rw [w4, yup_nk (by decide)]; exact y9, ?_, ?_, fun v j hv hj => ?_, ?_, ?_⟩⟩
    · rw [w4, yup_nk (by decide), ← c10']; exact y4.2.1.1.symm
    · rw [← c10']; exact y4.2.1.2
    · rw [w4, yup_na (by decide), ← c10']; exact y4.2.2.2.2 v j hv hj
    · rw [← c10']; exact y6
    · rw [w4]; exact y7.up (by omega)
theorem runR {k b : Int} (hI : IQ m) (h1 : F200 f m = some (k, m1)) (h2 : F211 g m1 = some (b, m2)) : (IQ m2 ∧ m2 376 57 = k ∧ (k = 0 → m2 413 0 = b ∧ rg b)) ∧ (SN m → SN m2) := by
  have fr1 : ∀ a q, a < 169 ∨ (256 ≤ a ∧ a ≠ 413) → m1 a q = m a q := kru_F200 (P := fun a _ => a < 169 ∨ (256 ≤ a ∧ a ≠ 413)) (fun a q h => h) KP.rf _ h1
  have hI2 : IQ m2 := hI.fr ((show KP PQ m m1 from kru_F200 (fun a q h => by unfold PQ at h; omega) KP.rf _ h1).tr (show KP PQ m1 m2 from kmr_F211 (fun a q h => by unfold PQ at h; omega) KP.rf _ h2))
  obtain ⟨-, -, ⟨h4, h18⟩, -, hc⟩ := hI
  obtain ⟨p, hp, hp18⟩ : ∃ p : Nat, p ≤ 1 ∧ m 376 18 = (p : Int) := ⟨(m 376 18).toNat, by omega, by omega⟩
  rw [hp18, Int.toNat_natCast] at hc
  have hA := pA_is (m 0 4)
  obtain ⟨A, hAe⟩ : ∃ A, A = pA (m 0 4) := ⟨_, rfl⟩
  rw [← hAe] at hc hA
  unfold F200 at h1
  -- refused
  have bad : ∀ {y : Int}, m A 17 = -1 → J211_20 g y m1 = some (b, m2) → (m 376 19 = 0 ∨ y = 0) → (IQ m2 ∧ m2 376 57 = k ∧ (k = 0 → m2 413 0 = b ∧ rg b)) ∧ (SN m → SN m2) := by
    intro y w e hy
    have z : F199 f m = some (.inr 11, m) := by
      unfold F199
      rw [← hAe, if_pos w]
    have hk : k = 1 ∧ m1 = m := by
      rcases bT_e h1 with ⟨r2, m', e3, e4⟩ | ⟨r2, m', e3, e4⟩
      · rw [z] at e3; cases e3
      · rw [z] at e3
        injection e3 with e3
        injection e3 with e3 e3'
        injection e3 with e3
        rw [← e3, ← e3', if_neg (by decide), if_pos rfl] at e4
        injection e4 with e4
        injection e4 with e4 e4'
        exact ⟨e4.symm, e4'.symm⟩
    unfold J211_20 at e
    replace e := bI_e e
    obtain ⟨r, n, e1, e⟩ := e
    rcases F162_r e1 with ⟨z1, z2, -, -⟩ | ⟨-, z2, z3⟩
    · rw [hk.2] at z1
      rcases hy with hy | hy
      · exact absurd hy z1
      · exact absurd hy z2
    · rw [z2, if_pos rfl] at e
      injection e with e
      injection e with e e'
      rw [← e', z3, hk.2] at hI2 ⊢
      rw [hk.1]
      refine ⟨⟨hI2, yup_eq _ _ _ _, fun e => absurd e (by decide)⟩, fun hS v j hv hj => ?_⟩
      rw [yup_na (by omega), yup_na (by omega)]
      exact hS v j hv hj
  unfold F211 at h2
  rcases hc with ⟨c19, ⟨-, c17⟩, -⟩ | ⟨c19, c84, s, o, hR, hQ, -, hgo⟩
  · rw [fr1 376 19 (by omega), if_pos c19] at h2
    unfold J211_19 at h2
    exact bad c17 h2 (Or.inl c19)
  rw [fr1 376 19 (by omega), if_neg (by omega)] at h2
  replace h2 := bP_e h2
  obtain ⟨r8, e8, h2⟩ := h2
  have hR1 : RPG A p s o m m1 := hR.frp hA hp (fun _ _ _ _ => rfl) (fun b q hb => fr1 b q (by unfold arP at hb; omega))
  have k18 : m1 376 18 = p := by rw [fr1 376 18 (by omega)]; exact hp18
  obtain ⟨g1, g2⟩ := go_u hA hp hR1 hgo k18 uM.rf e8
  rcases ite1 h2 with ⟨q, h2⟩ | ⟨q, h2⟩
  · unfold J211_19 at h2
    exact bad (by omega) h2 (Or.inr rfl)
  have g3 : 0 ≤ r8 ∧ r8 < m A 10 ∧ m1 397 (10 * p + r8.toNat) = 0 := by
    rcases g2 with w | w
    · omega
    · exact w
  obtain ⟨go, hgoN⟩ : ∃ go : Nat, r8 = go := ⟨r8.toNat, by omega⟩
  rw [hgoN, Int.toNat_natCast] at g3
  have g17 : m A 17 = go := by rw [← g1]; exact hgoN
  -- the model, up to its loop
  unfold J211_20 at h2
  replace h2 := bI_e h2
  obtain ⟨r, n, e1, h2⟩ := h2
  rcases F162_r e1 with ⟨-, -, rfl, hn⟩ | ⟨z1, -, -⟩
  case inr =>
    exact absurd ⟨by rw [fr1 376 19 (by omega)]; omega, by decide⟩ z1
  rw [if_neg (by decide)] at h2
  have fill : ∀ {r : (Int × yM) ⊕ (Int × yM)}, yloop (fun (l : Int) ml => B211_30 g l ml) g 0 n = some r → ∃ l m', r = .inl (l, m') ∧ (∀ j, j < 576 → m' 408 (0 + j) = 0) ∧ (∀ b q, ¬ (b = 408 ∧ 0 ≤ q ∧ q < 0 + 576) → m' b q = n b q) := fun e => fill_r (fun j m y hj _ e => by
    unfold B211_30 at e
    rw [k1w (by omega), Int.toNat_natCast] at e
    rcases ite1 e with ⟨q, e⟩ | ⟨q, e⟩
    · injection e with e
      exact Or.inr ⟨by omega, by rw [← e, Nat.zero_add]⟩
    · injection e with e
      exact Or.inl ⟨by omega, e.symm⟩) e
  rcases bL_e h2 with ⟨l, n1, d1, d2⟩ | ⟨l, n1, d1, d2⟩
  case inr =>
    obtain ⟨l', n', w, -⟩ := fill d1
    cases w
  obtain ⟨l', n', w, f1, f2⟩ := fill d1
  injection w with w
  injection w with w w'
  subst w'
  replace d2 := bI_e d2
  obtain ⟨r7, n2, d3, d2⟩ := d2
  replace d2 := bP_e d2
  obtain ⟨r9, d4, d2⟩ := d2
  replace d2 := bU_e d2
  obtain ⟨n3, d5, d2⟩ := d2
  have hS1 : uM m1 (yup (yup (yup n1 376 51 0) 376 54 0) 376 56 0) := fun a q ha hq => by
    rw [yup_ne (by omega), yup_ne (by omega), yup_ne (by omega), f2 a q (by omega), hn, yup_ne (by omega)]
  have hn2 : uM m1 n2 := by
    have k := kmr_F201 (P := fun a q => (a < 408 ∨ a = 413) ∧ ¬ (a = 376 ∧ (q = 51 ∨ (54 ≤ q ∧ q ≤ 57)))) (fun a q h => by omega) KP.rf _ d3
    have k' : ∀ a q, ((a < 408 ∨ a = 413) ∧ ¬ (a = 376 ∧ (q = 51 ∨ (54 ≤ q ∧ q ≤ 57)))) → n2 a q = yup (yup (yup n1 376 51 0) 376 54 0) 376 56 0 a q := k
    exact fun a q ha hq => (k' a q ⟨ha, hq⟩).trans (hS1 a q ha hq)
  obtain ⟨y1, -⟩ := go_u hA hp hR1 hgo k18 hn2 d4
  rw [y1, g17] at d5
  have main : ∀ {rv : Unit ⊕ Nat} {mx : yM} {rr : (Unit × yM) ⊕ (Int × yM)}, F198 f A m = some (rv, mx) → UL g g n3 = some rr → ∃ mm', rr = .inl ((), mm') ∧ ((∃ e, rv = .inr e ∧ uX m m1 e mx mm') ∨ (rv = .inl () ∧ mm' 376 57 = 0 ∧ mm' 376 56 = mx 169 6 ∧ (0 ≤ mx 169 6 ∧ mx 169 6 ≤ 200) ∧ uE m m1 mx mm')) := fun e hl => run_u hA hp hR1 g17 g3.2.1 g3.2.2 k18 e hS1 ⟨by rw [yup_nk (by decide), yup_nk (by decide), yup_eq], by rw [yup_nk (by decide), yup_eq], by rw [yup_eq], by rw [yup_nk (by decide), yup_nk (by decide), yup_nk (by decide), f2 376 57 (by omega), hn, yup_eq]⟩ (fun i hi => by rw [yup_na (by decide), yup_na (by decide), yup_na (by decide)]; have := f1 i hi; rw [Nat.zero_add] at this; exact this) d3 d5 hl
  -- the model's end
  have fin : ∀ {rr : (Unit × yM) ⊕ (Int × yM)} {mm' : yM}, UL g g n3 = some rr → rr = .inl ((), mm') → m2 = mm' ∧ ((mm' 376 57 = 0 ∧ b = mm' 376 56) ∨ (mm' 376 57 ≠ 0 ∧ b = 0)) := by
    intro rr mm' hl hr
    rw [hr] at hl
    rcases bL_e d2 with ⟨l5, m5, d6, d7⟩ | ⟨l5, m5, d6, d7⟩
    · have w : (some (.inl (l5, m5)) : Option ((Unit × yM) ⊕ (Int × yM))) = some (.inl ((), mm')) := d6.symm.trans hl
      injection w with w
      injection w with w
      injection w with w w'
      rw [w'] at d7
      unfold J211_104 at d7
      rcases ite1 d7 with ⟨q, d7⟩ | ⟨q, d7⟩
      · injection d7 with d7
        injection d7 with d7 d7'
        exact ⟨d7'.symm, Or.inl ⟨q, d7.symm⟩⟩
      · injection d7 with d7
        injection d7 with d7 d7'
        exact ⟨d7'.symm, Or.inr ⟨q, d7.symm⟩⟩
    · have w : (some (.inr (l5, m5)) : Option ((Unit × yM) ⊕ (Int × yM))) = some (.inl ((), mm')) := d6.symm.trans hl
      cases w
  obtain ⟨rr, hrr⟩ : ∃ rr, UL g g n3 = some rr := by
    rcases bL_e d2 with ⟨l5, m5, d6, -⟩ | ⟨l5, m5, d6, -⟩
    · exact ⟨_, d6⟩
    · exact ⟨_, d6⟩
  -- the class
  have cls : ∀ zz, F199 f m = some zz → ∃ rv mx, F198 f A m = some (rv, mx) ∧ ((∃ e, rv = .inr e ∧ zz = (.inr e, mx)) ∨ (rv = .inl () ∧ zz = (.inl (mx 169 6), mx))) := by
    intro zz e
    unfold F199 at e
    rw [← hAe, if_neg (by omega)] at e
    rcases bT_e e with ⟨r5, m5, c1, c2⟩ | ⟨r5, m5, c1, c2⟩
    · injection c2 with c2
      exact ⟨_, m5, c1, Or.inr ⟨rfl, c2.symm⟩⟩
    · injection c2 with c2
      exact ⟨_, m5, c1, Or.inl ⟨r5, rfl, c2.symm⟩⟩
  have seen : ∀ {mx mm' : yM}, m2 = mm' → (∀ a q, a < 408 → a ≠ 413 → m1 a q = mx a q) → uE m m1 mx mm' → SN m2 := by
    intro mx mm' w w1 w2 v j hv hj
    obtain ⟨u1, u2, u3⟩ := w2
    rw [w, u3 (171 + v) j (by omega) (by omega), w1 _ _ (by omega) (by omega)]
    exact u1 v j hv hj
  rcases bT_e h1 with ⟨r5, m5, c1, c2⟩ | ⟨r5, m5, c1, c2⟩
  · obtain ⟨rv, mx, c3, ⟨e, -, w⟩ | ⟨hrv, w⟩⟩ := cls _ c1
    · cases w
    · injection w with w w'
      injection w with w
      rw [w, w'] at c2
      injection c2 with c2
      injection c2 with c2 c2'
      obtain ⟨mm', y1, ⟨e, y2, -⟩ | ⟨-, y2, y3, y4, y5⟩⟩ := main c3 hrr
      · rw [hrv] at y2; cases y2
      · obtain ⟨w1, ⟨-, w2⟩ | ⟨w2, -⟩⟩ := fin hrr y1
        · have hrg : rg b := by rw [w2, y3]; exact ⟨by omega, by omega⟩
          refine ⟨⟨hI2, by rw [w1, ← c2]; exact y2, fun _ => ⟨?_, hrg⟩⟩, fun _ => seen w1 (fun a q _ ha => by rw [← c2', yup_na ha]) y5⟩
          rw [w1, y5.2.2 413 0 (by decide) (by omega), ← c2', yup_eq, ← y3, ← w2]
          exact i2l_i hrg
        · exact absurd y2 w2
  · obtain ⟨rv, mx, c3, ⟨e, hrv, w⟩ | ⟨-, w⟩⟩ := cls _ c1
    · injection w with w w'
      injection w with w
      rw [w, w'] at c2
      obtain ⟨mm', y1, ⟨e', y2, y3⟩ | ⟨y2, -⟩⟩ := main c3 hrr
      · rw [hrv] at y2
        injection y2 with y2
        subst y2
        have hk : k = cdE e ∧ m1 = mx := by
          have he := y3.1
          unfold cdE
          rcases ite1 c2 with ⟨q1, c2⟩ | ⟨q1, c2⟩
          · injection c2 with c2
            injection c2 with c2 c2'
            exact ⟨by rw [if_pos q1]; exact c2.symm, c2'.symm⟩
          rcases ite1 c2 with ⟨q2, c2⟩ | ⟨q2, c2⟩
          · injection c2 with c2
            injection c2 with c2 c2'
            exact ⟨by rw [if_neg q1, if_pos q2]; exact c2.symm, c2'.symm⟩
          rcases ite1 c2 with ⟨q3, c2⟩ | ⟨q3, c2⟩
          · injection c2 with c2
            injection c2 with c2 c2'
            exact ⟨by rw [if_neg q1, if_neg q2, if_pos q3]; exact c2.symm, c2'.symm⟩
          rcases ite1 c2 with ⟨q4, c2⟩ | ⟨q4, c2⟩
          · injection c2 with c2
            injection c2 with c2 c2'
            exact ⟨by rw [if_neg q1, if_neg q2, if_neg q3]; exact c2.symm, c2'.symm⟩
          · cases c2
        obtain ⟨w1, -⟩ := fin hrr y1
        have hx := y3.ex
        refine ⟨⟨hI2, by rw [w1, hk.1]; exact y3.2.1, fun z => absurd z (by rw [hk.1, ← y3.2.1]; exact hx)⟩, fun _ => seen w1 (fun a q _ _ => by rw [hk.2]) y3.2.2⟩
      · rw [hrv] at y2; cases y2
    · cases w
end UZ
end
section
/-! SEEN -/
def IR (m : yM) : Prop := IQ m ∧ SN m
def PR (a q : Nat) : Prop := PQ a q ∨ (171 ≤ a ∧ a < 219) ∨ a = 408
section SE
variable {A p s o f g : Nat} {m m1 m2 : yM}
theorem SN.fr (h : SN m) (e : ∀ a q, (171 ≤ a ∧ a < 219) ∨ a = 408 → m1 a q = m a q) : SN m1 := fun v j hv hj => by
  rw [e (171 + v) j (by omega), e 408 _ (by omega)]
  exact h v j hv hj
theorem IR.fr (h : IR m) (e : KP PR m m1) : IR m1 := ⟨h.1.fr (fun a q ha => e a q (Or.inl ha)), h.2.fr (fun a q ha => e a q (Or.inr ha))⟩
theorem runC {k b : Int} (hI : IQ m) (h1 : F200 f m = some (k, m1)) (h2 : F211 g m1 = some (b, m2)) : IQ m2 ∧ m2 376 57 = k ∧ (k = 0 → m2 413 0 = b ∧ rg b) := (runR hI h1 h2).1
theorem seenQ {x w k b : Int} (hI : IR m) (hx : rg x) (hw : rg w) (h1 : F213 f x w m = some (k, m1)) (h2 : F214 g x w m1 = some (b, m2)) : IR m2 ∧ m2 376 57 = k ∧ (k = 0 → m2 413 0 = b ∧ rg b) := by
  have hI2 : IR m2 := hI.fr ((show KP PR m m1 from kcq_F213 (fun a q h => by unfold PR PQ at h; omega) KP.rf _ h1).tr (show KP PR m1 m2 from kmq_F214 (fun a q h => by unfold PR PQ at h; omega) KP.rf _ h2))
  refine ⟨hI2, ?_⟩
  obtain ⟨⟨-, -, ⟨h4, h18⟩, -, hc⟩, hS⟩ := hI
  obtain ⟨p, hp, hp18⟩ : ∃ p : Nat, p ≤ 1 ∧ m 376 18 = (p : Int) := ⟨(m 376 18).toNat, by omega, by omega⟩
  rw [hp18, Int.toNat_natCast] at hc
  have ct := hc.cnt
  unfold F213 at h1
  have cl := askT (m := m) (C := (0 ≤ x ∧ x < m (pA (m 0 4)) 15) ∧ (0 ≤ w ∧ w < m (pA (m 0 4)) 14)) (v0 := m (171 + x.toNat) w.toNat) h1 (fun z e => by
    unfold F212 F156 F157 J212_16 at e
    rcases ite1 e with ⟨q, e⟩ | ⟨q, e⟩
    · cases e; exact Or.inl ⟨fun z => cntC.mp q z.1, rfl⟩
    rcases ite1 e with ⟨q2, e⟩ | ⟨q2, e⟩
    · cases e; exact Or.inl ⟨fun z => cntC.mp q2 z.2, rfl⟩
    rcases ite1 e with ⟨-, e⟩ | ⟨-, e⟩
    · cases e; exact Or.inr ⟨⟨F155_1.mp q, F155_1.mp q2⟩, rfl⟩
    · cases e)
  have fr := askF (m := m) (m1 := m1) (by rcases cl with ⟨-, -, z⟩ | ⟨-, -, z⟩; exact Or.inl z; exact Or.inr ⟨_, z⟩)
  have md : (¬ ((0 ≤ x ∧ x < m (pA (m 0 4)) 15) ∧ (0 ≤ w ∧ w < m (pA (m 0 4)) 14)) ∧ m2 = yup m1 376 57 1) ∨ (((0 ≤ x ∧ x < m (pA (m 0 4)) 15) ∧ (0 ≤ w ∧ w < m (pA (m 0 4)) 14)) ∧ b = m (171 + x.toNat) w.toNat ∧ m2 = yup m1 376 57 0) := by
    have J : ∀ {z : Int}, J214_22 g x w z m1 = some (b, m2) → (¬ (m 376 19 ≠ 0 ∧ z ≠ 0) ∧ m2 = yup m1 376 57 1) ∨ ((m 376 19 ≠ 0 ∧ z ≠ 0) ∧ b = (if yup m1 376 57 0 408 (wr ((wr (12 * x)) + w)).toNat = 0 then 0 else 1) ∧ m2 = yup m1 376 57 0) := by
      intro z e
      unfold J214_22 at e
      replace e := bI_e e
      obtain ⟨r, n, e1, e⟩ := e
      rcases F162_r e1 with ⟨z1, z2, rfl, rfl⟩ | ⟨z1, rfl, rfl⟩
      · rw [if_neg (by decide)] at e
        rw [fr 376 19 (by decide)] at z1
        refine Or.inr ⟨⟨z1, z2⟩, ?_⟩
        rcases ite1 e with ⟨q, e⟩ | ⟨q, e⟩
        · injection e with e
          injection e with e e'
          exact ⟨by rw [if_pos q]; exact e.symm, e'.symm⟩
        · injection e with e
          injection e with e e'
          exact ⟨by rw [if_neg q]; exact e.symm, e'.symm⟩
      · rw [if_pos rfl] at e
        injection e with e
        injection e with e e'
        rw [fr 376 19 (by decide)] at z1
        exact Or.inl ⟨z1, e'.symm⟩
    have bad : ∀ {P : Prop}, J214_21 g x w m1 = some (b, m2) → ¬ P → (¬ P ∧ m2 = yup m1 376 57 1) := by
      intro P e hP
      unfold J214_21 at e
      rcases J e with ⟨-, z⟩ | ⟨z, -⟩
      · exact ⟨hP, z⟩
      · exact absurd rfl z.2
    unfold F214 F160 F161 at h2
    rw [fr 376 19 (by decide), fr 376 18 (by decide), hp18, Int.toNat_natCast, fr 389 p (by decide), fr 388 p (by decide)] at h2
    rcases ct with ⟨c19, c10, c11, c12, c13, c14, c15⟩ | ⟨c19, c84, c10, c11, c12, c13, c14, c15, d10, d11, d12, d13, d14, d15, G, V, hQ⟩
    · rw [if_pos c19, if_pos rfl] at h2
      exact Or.inl (bad h2 (fun y => by omega))
    · rw [if_neg (show ¬ m 376 19 = 0 by omega), if_neg (show ¬ m 376 19 = 0 by omega), ← c15, ← c14] at h2
      by_cases y1 : F22 x 0 (wr (m (pA (m 0 4)) 15 - 1)) = 0
      · rw [if_pos y1, if_pos rfl] at h2
        exact Or.inl (bad h2 (fun y => (cntM (by omega)).mp y1 y.1))
      rw [if_neg y1, if_neg (by decide)] at h2
      have y1' := cntN (by omega) y1
      by_cases y2 : F22 w 0 (wr (m (pA (m 0 4)) 14 - 1)) = 0
      · rw [if_pos y2, if_pos rfl] at h2
        exact Or.inl (bad h2 (fun y => (cntM (by omega)).mp y2 y.2))
      rw [if_neg y2, if_neg (by decide)] at h2
      have y2' := cntN (by omega) y2
      rcases J h2 with ⟨z, -⟩ | ⟨-, z1, z2⟩
      · exact absurd ⟨by omega, by decide⟩ z
      · refine Or.inr ⟨⟨y1', y2'⟩, ?_, z2⟩
        obtain ⟨xn, rfl⟩ : ∃ xn : Nat, x = xn := ⟨x.toNat, by omega⟩
        obtain ⟨wn, rfl⟩ : ∃ wn : Nat, w = wn := ⟨w.toNat, by omega⟩
        obtain ⟨u1, u2, u3⟩ := hS xn wn (by omega) (by omega)
        rw [z1, ix12 (by omega) (by omega), yup_na (by decide), fr 408 _ (by decide), Int.toNat_natCast, Int.toNat_natCast, ← u1]
        by_cases q : m (171 + xn) wn = 0
        · rw [if_pos q, q]
        · rw [if_neg q]; omega
  refine askE cl md (fun hC => ?_)
  rcases ct with ⟨c19, c10, c11, c12, c13, c14, c15⟩ | ⟨c19, c84, c10, c11, c12, c13, c14, c15, d10, d11, d12, d13, d14, d15, G, V, hQ⟩
  · omega
  · obtain ⟨u1, u2, u3⟩ := hS x.toNat w.toNat (by omega) (by omega)
    exact ⟨by omega, by omega⟩
end SE
end

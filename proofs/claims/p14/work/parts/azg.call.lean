/-! THE RUN: calls -/
/-- lists of statements, for the class's recursion gr -/
def uSL (G : Nat → Prop) (mc0 mm0 : yM) (A p s f g gr : Nat) : Prop := ∀ (fu s0 s1 o0 o1 d k z H : Nat) (mc mm mc' : yM) (res : Int ⊕ Nat) (rr : (Unit × yM) ⊕ (Int × yM)), SGZ A p mc0 mm0 fu s0 s1 o0 o1 → s1 ≤ s → o1 ≤ 120 → (∀ t : Nat, s0 ≤ t → t < s1 → mc0 (A + 20 + t) 1 = k ∧ (4 ≤ mc0 (A + 20 + t) 0 → mc0 (A + 20 + t) 2 = -1 ∨ (z : Int) < mc0 (A + 20 + t) 2)) → mc0 (A + 10 + k) 2 = z → z < 48 → mm0 398 (10 * p + k) = z → d < 4 → uS G mc0 mm0 d mc mm → mm 376 55 = o0 → F197 f A gr (s0 : Int) (s1 : Int) (d : Int) mc = some (res, mc') → UL g H mm = some rr → uO G mc0 mm0 g d z o1 mc mm rr res mc'
section UH
variable {G : Nat → Prop} {A p f g s o d t z u k q gr H : Nat} {mc mm mc' mm' mc0 mm0 mc1 mm1 n n1 : yM} {rr : (Unit × yM) ⊕ (Int × yM)}
theorem F187_r {k : Nat} {zz : (Nat ⊕ Nat) × yM} (hk : k ≤ 4) (e : F187 f (k : Int) mc = some zz) : (k = 4 ∧ zz = (.inr 10, mc)) ∨ (k < 4 ∧ ∃ m1, F75_48 f (252 + k) (-1) mc = some m1 ∧ zz = (.inl (252 + k), m1)) := by
  unfold F187 at e
  rw [Int.toNat_natCast] at e
  rcases ite1 e with ⟨w, e⟩ | ⟨w, e⟩
  · rw [if_pos (by omega)] at e
    replace e := bU_e e
    obtain ⟨m1, e1, e⟩ := e
    rw [if_pos (by omega)] at e
    injection e with e
    exact Or.inr ⟨by omega, m1, e1, e.symm⟩
  · injection e with e
    exact Or.inl ⟨by omega, e.symm⟩
/-- the model's return into the frame d: the op u of the call -/
theorem pop_u {v : Int} {v2 : Int} (hp : p ≤ 1) (hd : d + 1 < 4) (hu : u ≤ 120) (h18 : mm0 376 18 = p) (hB : uB G mc mm) (hF : uF (d + 1) mc mm) (hC : uC mc0 mc) (hM : uM mm0 mm) (h54 : mm 376 54 = ((d + 1 : Nat) : Int) + 1) (h57 : mm 376 57 = 0) (h412 : mm 412 (d + 1) = u) (hv2 : mm0 403 (1000 * p + 8 * u + 2) = v2) (hb : v2 = -1 ∨ (0 ≤ v2 ∧ v2 < 48)) (v1 : -1 ≤ v ∧ v < mc 169 5) (e1 : (v2 = -1 ∧ mc' = mc) ∨ (v2 ≠ -1 ∧ F188_48 f (252 + d) v2 v mc = some mc')) (e2 : J204_36 g (v + 1) mm = some mm1) : uS G mc0 mm0 d mc' mm1 ∧ mm1 376 55 = ((u + 1 : Nat) : Int) ∧ (∀ y, mm1 412 y = mm 412 y) ∧ mc' 169 6 = mc 169 6 ∧ (∀ b y : Nat, 252 ≤ b → ¬ (b = 252 + d ∧ (y : Int) = v2) → mc' b y = mc b y) := by
  have k18 : mm 376 18 = p := by rw [hM 376 18 (by decide) (by omega)]; exact h18
  have w1 : wr (mm 376 54 - 1) = (d : Int) + 1 := by rw [h54, wr_i (by omega) (by omega)]; omega
  unfold J204_36 at e2
  have ix2 : (wr (((1000 * p + 8 * u : Nat) : Int) + 2)).toNat = 1000 * p + 8 * u + 2 := by rw [wr_i (by omega) (by omega)]; omega
  rw [w1, if_neg (by omega), k18, show ((d : Int) + 1).toNat = d + 1 by omega, h412, ixop hp hu, ix2, hM 403 _ (by decide) (by omega), hv2] at e2
  have hS : uS G mc0 mm0 d mc (yup mm 376 54 ((d : Int) + 1)) := ⟨hB.fr (fun _ _ _ => rfl) (fun a y ha => yup_ne (by omega)), hF.fr (fun _ _ _ => rfl) (Int.le_refl _) (fun y => yup_na (by decide)), hC, hM.up (by omega), yup_eq _ _ _ _, by rw [yup_nk (by decide)]; exact h57⟩
  have J : ∀ {x : yM}, uS G mc0 mm0 d mc' x → (∀ y, x 412 y = mm 412 y) → J204_100 g x = some mm1 → uS G mc0 mm0 d mc' mm1 ∧ mm1 376 55 = ((u + 1 : Nat) : Int) ∧ (∀ y, mm1 412 y = mm 412 y) := by
    intro x hx h4 e
    unfold J204_100 at e
    rw [hx.2.2.2.2.1, show ((d : Int) + 1).toNat = d + 1 by omega, h4, h412, k1w (by omega)] at e
    injection e with e
    subst e
    exact ⟨hx.pc, yup_eq _ _ _ _, fun y => by rw [yup_na (by decide)]; exact h4 y⟩
  rcases e1 with ⟨z1, z2⟩ | ⟨z1, z2⟩
  · subst z2
    rw [if_pos (by omega)] at e2
    obtain ⟨j1, j2, j3⟩ := J hS (fun y => yup_na (by decide)) e2
    exact ⟨j1, j2, j3, rfl, fun _ _ _ _ => rfl⟩
  · obtain ⟨w, hw⟩ : ∃ w : Nat, v2 = w := ⟨v2.toNat, by omega⟩
    rw [if_neg (by omega), hw] at e2
    rw [hw] at z2
    replace e2 := bU_e e2
    obtain ⟨n2, e3, e2⟩ := e2
    obtain ⟨y1, y2, y3, y4, y5, y6⟩ := hS.set (by omega) (by omega) v1.1 v1.2 z2 e3
    obtain ⟨j1, j2, j3⟩ := J y1 (fun y => by rw [y5, yup_na (by decide)]) e2
    exact ⟨j1, j2, j3, y4 6, fun b y hb hn => y2 b y hb (by rw [hw] at hn; omega)⟩
/-- a call -/
theorem call_u {rv : Unit ⊕ Nat} (hA : A = 256 ∨ A = 316) (hp : p ≤ 1) (hd : d < 4) (hu : u ≤ 120) (ht : t < 40) (hR : RPG A p s o mc0 mm0) (hG : ∀ k, G k → mc0 (A + 8) k = mm0 400 (12 * p + k) ∧ 0 ≤ mc0 (A + 8) k ∧ mc0 (A + 8) k < mc0 A 9) (h18 : mm0 376 18 = p) (hZ : OPZ A p t (1000 * p + 8 * u) mc0 mm0) (hk4 : mc0 (A + 20 + t) 0 = 4) (hSL : uSL G mc0 mm0 A p s f g gr) (h : uS G mc0 mm0 d mc n) (h55 : n 376 55 = u) (e1 : F193 f (F197 f A gr) A (A + 20 + t) (d : Int) mc = some (rv, mc')) (e2 : F207 g ((1000 * p + 8 * u : Nat) : Int) n = some n1) (hL : UL g H n1 = some rr) : (∃ e mm', rv = .inr e ∧ rr = .inl ((), mm') ∧ uX mc0 mm0 e mc' mm') ∨ (rv = .inl () ∧ ∃ H' mm', UL g H' mm' = some rr ∧ uS G mc0 mm0 d mc' mm' ∧ mm' 376 55 = ((u + 1 : Nat) : Int) ∧ (∀ y, y ≤ d → mm' 412 y = n 412 y) ∧ mc 169 6 ≤ mc' 169 6 ∧ (∀ y : Nat, (y : Int) ≠ mc0 (A + 20 + t) 2 → mc' (252 + d) y = mc (252 + d) y) ∧ (∀ x y, x < d → mc' (252 + x) y = mc (252 + x) y)) := by
  obtain ⟨b, hbe⟩ : ∃ b, b = 1000 * p + 8 * u := ⟨_, rfl⟩
  have hb : b ≤ 2000 := by omega
  rw [← hbe] at e2
  have hZ' : mm0 403 b = 7 ∧ mm0 403 (b + 2) = mc0 (A + 20 + t) 2 ∧ mm0 403 (b + 3) = mc0 (A + 20 + t) 3 ∧ (mc0 (A + 20 + t) 2 = -1 ∨ vB (mc0 A 15) (mc0 (A + 20 + t) 2)) ∧ vB (mc0 A 15) (mc0 (A + 20 + t) 3) ∧ Nm (mc0 (A + 20 + t) 4) (mm0 403 (b + 4)) ∧ mm0 403 (b + 5) = 16 * mc0 (A + 20 + t) 6 + mc0 (A + 20 + t) 8 ∧ 0 ≤ mc0 (A + 20 + t) 8 ∧ mc0 (A + 20 + t) 8 ≤ 2 ∧ 0 ≤ mc0 (A + 20 + t) 6 ∧ mc0 (A + 20 + t) 6 < 12 ∧ (0 < mc0 (A + 20 + t) 8 → mm0 403 (b + 6) = mc0 (A + 20 + t) 9 ∧ vB (mc0 A 15) (mc0 (A + 20 + t) 9)) ∧ (1 < mc0 (A + 20 + t) 8 → mm0 403 (b + 7) = mc0 (A + 20 + t) 10 ∧ vB (mc0 A 15) (mc0 (A + 20 + t) 10)) := by
    rw [hbe]
    obtain ⟨-, hZ⟩ := hZ
    rcases hZ with hZ | hZ | hZ | hZ | hZ | hZ | hZ | hZ
    case inr.inr.inl => exact hZ.2
    all_goals (have := hZ.1; omega)
  clear hZ
  obtain ⟨g2, g3, g4, g5, g6, g7, g8, g9, g10, g11, g12, g13, g14⟩ := hZ'
  have S := fun y => h.S (t := t) hA y
  obtain ⟨v3, hv3, l3, -⟩ := g6.nat
  obtain ⟨c, hc⟩ : ∃ c : Nat, mc0 (A + 20 + t) 6 = c := ⟨(mc0 (A + 20 + t) 6).toNat, by omega⟩
  obtain ⟨na, hna⟩ : ∃ na : Nat, mc0 (A + 20 + t) 8 = na := ⟨(mc0 (A + 20 + t) 8).toNat, by omega⟩
  have vr := h.vr l3
  obtain ⟨val, hval⟩ : ∃ val, mc (252 + d) v3 = val := ⟨_, rfl⟩
  rw [hval] at vr
  -- the model
  unfold F207 at e2
  rw [show (b : Int) + 3 = (b : Int) + ((3 : Nat) : Int) by rfl, h.b403 hb (by decide), g4, hv3, h.f205 hd l3, hval] at e2
  have hn0 := h.f57
  have mod : ∀ {xs : Int} {x : yM}, J207_23 g (b : Int) (val + 1) xs n = some x → (xs = 0 → x = yup n 376 57 1) ∧ (xs ≠ 0 → ∃ r, F142 g p (F206 (val + 1) (yup n 376 57 0)) (mm0 403 (b + 4)) (na : Int) (yup n 376 57 0) = some r ∧ ((r < 0 ∧ x = yup (yup n 376 57 0) 376 57 3) ∨ (0 ≤ r ∧ ∃ y1 y2, (0 < na → y1 = mc (252 + d) (mc0 (A + 20 + t) 9).toNat + 1) ∧ (1 < na → y2 = mc (252 + d) (mc0 (A + 20 + t) 10).toNat + 1) ∧ F203 g r (val + 1) y1 y2 (u : Int) (yup (yup n 376 57 0) 376 57 0) = some x))) := by
    intro xs x e
    unfold J207_23 at e
    replace e := bI_e e
    obtain ⟨r5, n6, e5, e⟩ := e
    obtain ⟨q1, c5, q2, q3, q4⟩ := F23_x e5
    refine ⟨fun w => ?_, fun w => ?_⟩
    · rw [q1, if_pos w] at e
      injection e with e
      rw [← e, q2, q3 w]
    · rw [q1, if_neg w] at e
      rw [q4 w] at q2
      rw [q2] at e
      have h5 : yup n 376 57 0 403 (wr ((b : Int) + 5)).toNat = ((16 * c + na : Nat) : Int) := by
        rw [show (b : Int) + 5 = (b : Int) + ((5 : Nat) : Int) by rfl, hn0.b403 hb (by decide), g8, hc, hna]; omega
      obtain ⟨d1, d2⟩ := iDiv16 (c := c) (na := na) (by omega) (by omega)
      have k18 : yup n 376 57 0 376 18 = p := by rw [hn0.2.2.2.1 376 18 (by decide) (by omega)]; exact h18
      rw [h5, d2, k18, show (b : Int) + 4 = (b : Int) + ((4 : Nat) : Int) by rfl, hn0.b403 hb (by decide)] at e
      replace e := bP_e e
      obtain ⟨r, e6, e⟩ := e
      refine ⟨r, e6, ?_⟩
      have K : ∀ {ys : Int}, J207_78 g (b : Int) (val + 1) (na : Int) r ys (yup n 376 57 0) = some x → (ys = 0 → x = yup (yup n 376 57 0) 376 57 3) ∧ (ys ≠ 0 → ∃ y1 y2, (0 < na → y1 = mc (252 + d) (mc0 (A + 20 + t) 9).toNat + 1) ∧ (1 < na → y2 = mc (252 + d) (mc0 (A + 20 + t) 10).toNat + 1) ∧ F203 g r (val + 1) y1 y2 (u : Int) (yup (yup n 376 57 0) 376 57 0) = some x) := by
        intro ys e
        unfold J207_78 at e
        replace e := bI_e e
        obtain ⟨r7, n7, e7, e⟩ := e
        obtain ⟨p1, c6, p2, p3, p4⟩ := F23_x e7
        refine ⟨fun w => ?_, fun w => ?_⟩
        · rw [p1, if_pos w] at e
          injection e with e
          rw [← e, p2, p3 w]
        · rw [p1, if_neg w] at e
          rw [p4 w] at p2
          rw [p2] at e
          have hn1 := hn0.f57
          have x55 : yup (yup n 376 57 0) 376 57 0 376 55 = u := by rw [yup_nk (by decide), yup_nk (by decide)]; exact h55
          have fin : ∀ {a b' : Int}, J207_131 g (val + 1) r a b' (yup (yup n 376 57 0) 376 57 0) = some x → F203 g r (val + 1) a b' (u : Int) (yup (yup n 376 57 0) 376 57 0) = some x := by
            intro a b' e
            unfold J207_131 at e
            replace e := bU_e e
            obtain ⟨n8, e8, e⟩ := e
            injection e with e
            rw [x55] at e8
            rw [← e]; exact e8
          unfold J207_107 at e
          by_cases w1 : 0 < na
          · obtain ⟨v9, hv9, l9, -⟩ := (g13 (by omega)).2.nat
            have f9 : F205 (yup (yup n 376 57 0) 376 57 0 403 (wr ((b : Int) + 6)).toNat) (yup (yup n 376 57 0) 376 57 0) = mc (252 + d) (mc0 (A + 20 + t) 9).toNat + 1 := by
              rw [show (b : Int) + 6 = (b : Int) + ((6 : Nat) : Int) by rfl, hn1.b403 hb (by decide), (g13 (by omega)).1, hv9, hn1.f205 hd l9, Int.toNat_natCast]
            rw [if_pos (by omega), f9] at e
            by_cases w2 : 1 < na
            · obtain ⟨v10, hv10, l10, -⟩ := (g14 (by omega)).2.nat
              have f10 : F205 (yup (yup n 376 57 0) 376 57 0 403 (wr ((b : Int) + 7)).toNat) (yup (yup n 376 57 0) 376 57 0) = mc (252 + d) (mc0 (A + 20 + t) 10).toNat + 1 := by
                rw [show (b : Int) + 7 = (b : Int) + ((7 : Nat) : Int) by rfl, hn1.b403 hb (by decide), (g14 (by omega)).1, hv10, hn1.f205 hd l10, Int.toNat_natCast]
              rw [if_pos (by omega), f10] at e
              exact ⟨_, _, fun _ => rfl, fun _ => rfl, fin e⟩
            · rw [if_neg (by omega)] at e
              exact ⟨_, _, fun _ => rfl, fun z => absurd z w2, fin e⟩
          · rw [if_neg (by omega), if_neg (by omega)] at e
            exact ⟨_, _, fun z => absurd z w1, fun z => absurd z (by omega), fin e⟩
      rcases ite1 e with ⟨y, e⟩ | ⟨y, e⟩
      · exact Or.inl ⟨y, (K e).1 rfl⟩
      · exact Or.inr ⟨by omega, (K e).2 (by decide)⟩
  have md : Hid ((val = -1 → n1 = yup n 376 57 1) ∧ (val ≠ -1 → ∃ r, F142 g p (F206 (val + 1) (yup n 376 57 0)) (mm0 403 (b + 4)) (na : Int) (yup n 376 57 0) = some r ∧ Hid ((r < 0 ∧ n1 = yup (yup n 376 57 0) 376 57 3) ∨ (0 ≤ r ∧ ∃ y1 y2, (0 < na → y1 = mc (252 + d) (mc0 (A + 20 + t) 9).toNat + 1) ∧ (1 < na → y2 = mc (252 + d) (mc0 (A + 20 + t) 10).toNat + 1) ∧ F203 g r (val + 1) y1 y2 (u : Int) (yup (yup n 376 57 0) 376 57 0) = some n1)))) := by
    refine ⟨fun w => ?_, fun w => ?_⟩
    · rw [if_neg (by omega)] at e2
      exact (mod e2).1 rfl
    · rw [if_pos (by omega)] at e2
      exact (mod e2).2 (by decide)
  clear mod e2
  -- the class
  have thr : ∀ {e : Nat} {x : Int}, (10 ≤ e ∧ e ≤ 13) → x = cdE e → n1 = yup n 376 57 x ∨ n1 = yup (yup n 376 57 0) 376 57 x ∨ n1 = yup (yup (yup n 376 57 0) 376 57 0) 376 57 x → rv = .inr e → mc' = mc → (∃ e mm', rv = .inr e ∧ rr = .inl ((), mm') ∧ uX mc0 mm0 e mc' mm') := by
    intro e x he hx hn hr hm
    have hX : uX mc0 mm0 e mc n1 := by
      rcases hn with hn | hn | hn
      · rw [hn]; exact h.err he hx
      · rw [hn]; exact hn0.err he hx
      · rw [hn]; exact hn0.f57.err he hx
    exact ⟨e, n1, hr, UL.stop hL (Or.inl hX.ex), by rw [hm]; exact hX⟩
  unfold F193 at e1
  rw [if_pos (by omega), Int.toNat_natCast, S 3, hv3, Int.toNat_natCast, hval] at e1
  rcases bT_e e1 with ⟨cl, m1, c1, c2⟩ | ⟨e', m1, c1, c2⟩
  case inr =>
    rcases F191_r c1 with ⟨w0, w⟩ | ⟨-, w⟩
    · injection w with w w'
      injection w with w
      rw [w, w'] at c2
      injection c2 with c2
      injection c2 with c2 c2'
      exact Or.inl (thr (e := 11) (by decide) rfl (Or.inl (md.1 w0)) c2.symm c2'.symm)
    · cases w
  rcases F191_r c1 with ⟨-, w⟩ | ⟨w0, w⟩
  · cases w
  injection w with w w'
  injection w with w
  rw [w, w', S 4, S 8, hna] at c2
  replace c2 := bP_e c2
  obtain ⟨qi, c3, c2⟩ := c2
  obtain ⟨r, y3, y4⟩ := md.2 w0
  obtain ⟨k1, k2, k3⟩ := hn0.1.cls hA hp hG h18 hn0.2.2.1 hn0.2.2.2.1 (by omega) vr.2
  rw [k1] at y3
  have hrC : rCl A p mc (yup n 376 57 0) := (hR.1.fr rfl (fun _ _ _ => rfl) (fun b y hb => hn0.2.2.2.1 _ _ (by omega) (by omega)) : rCl A p mc0 (yup n 376 57 0)).fr (h.2.2.1 _ _ (by omega)) (fun b y hb => h.2.2.1 _ _ (by omega)) (fun _ _ _ => rfl)
  have hrM : rMe A p mc (yup n 376 57 0) := (hR.2.1.fr rfl (Int.le_refl _) (fun _ _ _ _ => rfl) (fun b y hb => hn0.2.2.2.1 _ _ (by omega) (by omega)) : rMe A p mc0 (yup n 376 57 0)).fr (h.2.2.1 _ _ (by omega)) (Int.le_of_eq (h.2.2.1 _ _ (by omega)).symm) (fun k y k1 k2 => h.2.2.1 _ _ (by omega)) (fun _ _ _ => rfl)
  obtain ⟨x1, x2⟩ := found_r hrC hrM hp g7 k2 k3 c3 y3
  rw [← x1] at y3 y4
  rcases ite1 c2 with ⟨qn, c2⟩ | ⟨qn, c2⟩
  · injection c2 with c2
    injection c2 with c2 c2'
    rcases y4 with ⟨-, y5⟩ | ⟨y5, -⟩
    · exact Or.inl (thr (e := 13) (by decide) rfl (Or.inr (Or.inl y5)) c2.symm c2'.symm)
    · omega
  have x3 : 0 ≤ qi ∧ qi < mc A 10 := by
    rcases x2 with x2 | x2
    · exact absurd x2 qn
    · exact x2
  obtain ⟨q, hq⟩ : ∃ q : Nat, qi = q := ⟨qi.toNat, by omega⟩
  subst hq
  rw [h.2.2.1 A 10 (by omega)] at x3
  have h10 := hR.2.1.2.2.1
  -- as many parameters as arguments
  have ar : mc0 (A + 10 + q) 3 = na := by
    obtain ⟨-, -, b3, -⟩ := hR.2.1.2.2.2 q x3.2
    rw [b3]
    unfold F142 at y3
    replace y3 := bP_e y3
    obtain ⟨r8, -, y3⟩ := y3
    rcases ite1 y3 with ⟨-, y3⟩ | ⟨-, y3⟩
    · injection y3 with y3; omega
    · rcases ite1 y3 with ⟨ya, y3⟩ | ⟨-, y3⟩
      · injection y3 with y3
        rw [y3, ixp10 hp (by omega), hn0.2.2.2.1 397 _ (by decide) (by omega)] at ya
        exact ya
      · injection y3 with y3; omega
  obtain ⟨-, -, b3, b4, -, -, b7, b8, b9, b10⟩ := hR.2.1.2.2.2 q x3.2
  obtain ⟨res, hres⟩ : ∃ res : Nat, mc0 (A + 10 + q) 2 = res := ⟨(mc0 (A + 10 + q) 2).toNat, by omega⟩
  rcases y4 with ⟨y5, -⟩ | ⟨-, y1, y2, hy1, hy2, y6⟩
  · omega
  rw [if_pos (by omega), Int.toNat_natCast, k1w (by omega)] at c2
  have hn1 := hn0.f57
  rcases bT_e c2 with ⟨fr, m2, c4, c5⟩ | ⟨e', m2, c4, c5⟩
  case inr =>
    rcases F187_r (by omega) c4 with ⟨w1, w⟩ | ⟨-, m3, -, w⟩
    · injection w with w w'
      injection w with w
      rw [w, w'] at c5
      injection c5 with c5
      injection c5 with c5 c5'
      unfold F203 at y6
      rw [hn1.2.2.2.2.1, if_pos (by omega)] at y6
      injection y6 with y6
      exact Or.inl (thr (e := 10) (by decide) rfl (Or.inr (Or.inr y6.symm)) c5.symm c5'.symm)
    · cases w
  rcases F187_r (by omega) c4 with ⟨-, w⟩ | ⟨hd1, m3, c6, w⟩
  · cases w
  injection w with w w'
  injection w with w
  rw [w, w', if_pos (by omega)] at c5
  replace c5 := bU_e c5
  obtain ⟨m4, c7, c5⟩ := c5
  have f3 := F75_48_r c6
  -- the rows of the statement, all along
  have i54 : (yup (yup n 376 57 0) 376 57 0) 376 54 = ((d + 1 : Nat) : Int) := by rw [hn1.2.2.2.2.1]; omega
  have st2 : ∀ {x y : yM} {v' : Int} {i : Int}, F188_48 f (252 + (d + 1)) i v' x = some y → (∀ b w, (b ≤ 170 ∨ 219 ≤ b) → b ≠ 252 + (d + 1) → y b w = x b w) := by
    intro x y v' i e b w hb hn
    unfold F188_48 at e
    rcases ite1 e with ⟨-, e⟩ | ⟨-, e⟩
    · injection e with e
      rw [← e, yup_na hn]
    · rcases ite1 e with ⟨qq, e⟩ | ⟨-, e⟩
      · injection e with e
        rw [← e, yup_na (by omega), yup_na hn]
      · cases e
  have m3r : ∀ b w, b ≠ 252 + (d + 1) → m3 b w = mc b w := fun b w hb => f3.2 b w (by omega)
  have m4r : ∀ b w, (b ≤ 170 ∨ 219 ≤ b) → b ≠ 252 + (d + 1) → m4 b w = mc b w := fun b w hb hn => by rw [st2 c7 b w hb hn]; exact m3r b w hn
  have m48 : m4 (A + 20 + t) 8 = na := by rw [m4r _ _ (by omega) (by omega), S 8]; exact hna
  have m49 : 0 < na → m4 (252 + d) (m4 (A + 20 + t) 9).toNat = mc (252 + d) (mc0 (A + 20 + t) 9).toNat := fun _ => by rw [m4r (A + 20 + t) 9 (by omega) (by omega), S 9, m4r _ _ (by omega) (by omega)]
  have B1 : ∃ m5, ((na = 0 ∧ m5 = m4) ∨ (0 < na ∧ F188_48 f (252 + (d + 1)) (F87 (A + 10 + q) 0 m4) (mc (252 + d) (mc0 (A + 20 + t) 9).toNat) m4 = some m5)) ∧ (∀ b w, (b ≤ 170 ∨ 219 ≤ b) → b ≠ 252 + (d + 1) → m5 b w = mc b w) ∧ J193_111 f (F197 f A gr) A (A + 20 + t) (d : Int) (252 + d) (A + 10 + q) (252 + (d + 1)) m5 = some (rv, mc') := by
    rw [m48] at c5
    rcases ite1 c5 with ⟨w1, c5⟩ | ⟨w1, c5⟩
    · replace c5 := bU_e c5
      obtain ⟨m5, c8, c5⟩ := c5
      rw [m49 (by omega)] at c8
      exact ⟨m5, Or.inr ⟨by omega, c8⟩, fun b w hb hn => by rw [st2 c8 b w hb hn]; exact m4r b w hb hn, c5⟩
    · exact ⟨m4, Or.inl ⟨by omega, rfl⟩, m4r, c5⟩
  obtain ⟨m5, hB5, m5r, c9⟩ := B1
  unfold J193_111 at c9
  have m58 : m5 (A + 20 + t) 8 = na := by rw [m5r _ _ (by omega) (by omega), S 8]; exact hna
  have m510 : m5 (252 + d) (m5 (A + 20 + t) 10).toNat = mc (252 + d) (mc0 (A + 20 + t) 10).toNat := by rw [m5r (A + 20 + t) 10 (by omega) (by omega), S 10, m5r _ _ (by omega) (by omega)]
  have B2 : ∃ m6, ((na ≤ 1 ∧ m6 = m5) ∨ (1 < na ∧ F188_48 f (252 + (d + 1)) (F87 (A + 10 + q) 1 m5) (mc (252 + d) (mc0 (A + 20 + t) 10).toNat) m5 = some m6)) ∧ J193_137 f (F197 f A gr) A (A + 20 + t) (d : Int) (252 + d) (A + 10 + q) (252 + (d + 1)) m6 = some (rv, mc') := by
    rw [m58] at c9
    rcases ite1 c9 with ⟨w1, c9⟩ | ⟨w1, c9⟩
    · replace c9 := bU_e c9
      obtain ⟨m6, c8, c9⟩ := c9
      rw [m510] at c8
      exact ⟨m6, Or.inr ⟨by omega, c8⟩, c9⟩
    · exact ⟨m5, Or.inl ⟨by omega, rfl⟩, c9⟩
  obtain ⟨m6, hB6, c10⟩ := B2
  have va : ∀ w : Int, vB (mc0 A 15) w → -1 ≤ mc (252 + d) w.toNat ∧ mc (252 + d) w.toNat < mc 169 5 := fun w hw => by
    obtain ⟨x, hx, lx, -⟩ := hw.nat
    rw [hx, Int.toNat_natCast]
    exact h.vr lx
  obtain ⟨P1, P2, P3, P4, P5, P6, P7⟩ := push_u (k := d + 1) (a1 := mc (252 + d) (mc0 (A + 20 + t) 9).toNat) (a2 := mc (252 + d) (mc0 (A + 20 + t) 10).toNat) hA hp hR h18 x3.2 ar hres hn1.1 hn1.2.1 hn1.2.2.1 hn1.2.2.2.1 i54 hn1.2.2.2.2.2 hd1 vr (fun w => va _ (g13 (by omega)).2) (fun w => va _ (g14 (by omega)).2) c6 c7 hB5 hB6 hy1 hy2 y6
  -- the method's own statements
  obtain ⟨-, -, -, -, ⟨-, -, -, -, -, hOW, hMZ⟩, ⟨-, hs40, -, ho120, -⟩, -, -⟩ := hR
  obtain ⟨s0, s1, o0, o1, fu, M1, M2, M3, M4, M5, M6, M7, M8⟩ := hMZ q x3.2
  obtain ⟨W1, W2⟩ := hOW q (by omega)
  unfold J193_137 at c10
  rw [P1.2.2.1 (A + 10 + q) 4 (by omega), P1.2.2.1 (A + 10 + q) 5 (by omega), M1, M2, k1w (by omega)] at c10
  have run : ∀ {res' : Int ⊕ Nat} {mx : yM}, F197 f A gr (s0 : Int) (s1 : Int) ((d + 1 : Nat) : Int) m6 = some (res', mx) → uO G mc0 mm0 g (d + 1) res o1 m6 n1 rr res' mx := fun e => hSL fu s0 s1 o0 o1 (d + 1) q res H m6 n1 _ _ rr M6 (by omega) (by omega) (fun t' t1 t2 => by
    have := W2 t' (by omega) (by omega)
    rw [hres] at this
    exact this) hres (by omega) (by rw [← b4]; exact hres) hd1 P1 (by rw [P2]; exact M3) e hL
  rcases bT_e c10 with ⟨r9, m9, c11, c12⟩ | ⟨e', m9, c11, c12⟩
  case inr =>
    injection c12 with c12
    injection c12 with c12 c12'
    rcases run c11 with ⟨e9, mx, z1, z2, z3⟩ | ⟨z1, -⟩ | ⟨z1, -⟩
    · injection z1 with z1
      exact Or.inl ⟨e9, mx, by rw [← c12, z1], z2, by rw [← c12']; exact z3⟩
    · cases z1
    · cases z1
  -- behind the call
  have back : ∀ {mx mm2 : yM} {H' : Nat}, J204_36 g (m9 (252 + (d + 1)) res + 1) mx = some mm2 → UL g H' mm2 = some rr → uB G m9 mx → uF (d + 1) m9 mx → uC mc0 m9 → uM mm0 mx → mx 376 54 = ((d + 1 : Nat) : Int) + 1 → mx 376 57 = 0 → (∀ y, y ≤ d + 1 → mx 412 y = n1 412 y) → m6 169 6 ≤ m9 169 6 → -1 ≤ m9 (252 + (d + 1)) res → m9 (252 + (d + 1)) res < m9 169 5 → (∀ x v, x < d + 1 → m9 (252 + x) v = m6 (252 + x) v) → (∃ e mm', rv = .inr e ∧ rr = .inl ((), mm') ∧ uX mc0 mm0 e mc' mm') ∨ (rv = .inl () ∧ ∃ H' mm', UL g H' mm' = some rr ∧ uS G mc0 mm0 d mc' mm' ∧ mm' 376 55 = ((u + 1 : Nat) : Int) ∧ (∀ y, y ≤ d → mm' 412 y = n 412 y) ∧ mc 169 6 ≤ mc' 169 6 ∧ (∀ y : Nat, (y : Int) ≠ mc0 (A + 20 + t) 2 → mc' (252 + d) y = mc (252 + d) y) ∧ (∀ x y, x < d → mc' (252 + x) y = mc (252 + x) y)) := by
    intro mx mm2 H' j1 j2 j3 j4 j5 j6 j7 j8 j9 j10 j11 j12 j13
    rw [j5 (A + 20 + t) 2 (by omega), j5 (A + 10 + q) 2 (by omega), hres, Int.toNat_natCast] at c12
    have C : rv = .inl () ∧ ((mc0 (A + 20 + t) 2 = -1 ∧ mc' = m9) ∨ (mc0 (A + 20 + t) 2 ≠ -1 ∧ F188_48 f (252 + d) (mc0 (A + 20 + t) 2) (m9 (252 + (d + 1)) res) m9 = some mc')) := by
      rcases ite1 c12 with ⟨w1, c12⟩ | ⟨w1, c12⟩
      · injection c12 with c12
        injection c12 with c12 c12'
        exact ⟨c12.symm, Or.inl ⟨w1, c12'.symm⟩⟩
      · replace c12 := bU_e c12
        obtain ⟨m10, c13, c12⟩ := c12
        injection c12 with c12
        injection c12 with c12 c12'
        exact ⟨c12.symm, Or.inr ⟨w1, by rw [← c12']; exact c13⟩⟩
    obtain ⟨C1, C2⟩ := C
    obtain ⟨p1, p2, p3, p4, p5⟩ := pop_u hp hd1 hu h18 j3 j4 j5 j6 j7 j8 (by rw [j9 (d + 1) (by omega)]; exact P3) (by rw [← hbe]; exact g3) (by
      rcases g5 with z | z
      · exact Or.inl z
      · exact Or.inr ⟨z.1, z.2.1⟩) ⟨j11, j12⟩ C2 j1
    refine Or.inr ⟨C1, H', mm2, j2, p1, p2, fun y hy => ?_, by omega, fun y hy => ?_, fun x y hx => ?_⟩
    · rw [p3 y, j9 y (by omega), P4 y (by omega), yup_na (by decide), yup_na (by decide)]
    · rw [p5 _ _ (by omega) (fun w => hy w.2), j13 d y (by omega)]; exact P5 _ _ (by omega) (by omega)
    · rw [p5 _ _ (by omega) (by omega), j13 x y (by omega)]; exact P5 _ _ (by omega) (by omega)
  rcases run c11 with ⟨e9, mx, z1, -⟩ | ⟨z1, H', mx, z2, z3, z4, z5, z6, z7, z8⟩ | ⟨z1, H', mx, mm2, z2, z3, z4, z5, z6, z7, z8, z9, z10, z11, z12, z13, z14⟩
  · cases z1
  · obtain ⟨H2, mm2, z9, z10⟩ := UL.step z2 z3.2.2.2.2.2 (by rw [z3.2.2.2.2.1]; omega)
    have z11 := mop12 hp (by omega) z3 h18 z4 M7 z9
    have r0 : m9 (252 + (d + 1)) res = -1 := by rw [z7]; exact P7
    refine back (by rw [r0]; exact z11) z10 z3.1 (z3.2.1.mono (by omega)) z3.2.2.1 z3.2.2.2.1 z3.2.2.2.2.1 z3.2.2.2.2.2 z5 z6 (by omega) (by have := z3.1.1.2.1; omega) z8
  · exact back z2 z3 z4 z5 z6 z7 z8 z9 z10 z11 z12 z13 z14
end UH

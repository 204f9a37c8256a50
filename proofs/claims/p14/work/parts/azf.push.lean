/-! THE RUN: a frame is laid -/
section UG
variable {G : Nat → Prop} {A p f g s o d t b z u k q : Nat} {mc mm mc' mm' mc0 mm0 mc1 mm1 n n1 : yM}
theorem push0 {x1 x2 x3 x4 x5 : Int} {r : (Int × yM) ⊕ (Unit × yM)} (hB : uB G mc n) (hF : uF k mc n) (hC : uC mc0 mc) (hM : uM mm0 n) (h57 : n 376 57 = 0) (hk : k < 4) (e1 : F75_48 f (252 + k) (-1) mc = some mc1) (e2 : yloop (fun (l : Int) ml => B203_38 g x1 x2 x3 x4 l ml) g 0 (yup (yup n 412 k x5) 376 54 ((k : Int) + 1)) = some r) : ∃ l n1, r = .inl (l, n1) ∧ uS G mc0 mm0 k mc1 n1 ∧ n1 412 k = x5 ∧ (∀ y, y < k → n1 412 y = n 412 y) ∧ (∀ b y, 252 ≤ b → b ≠ 252 + k → mc1 b y = mc b y) ∧ (∀ y, mc1 169 y = mc 169 y) ∧ (∀ v, v < 48 → mc1 (252 + k) v = -1) := by
  obtain ⟨f1, f2⟩ := F75_48_r e1
  have fc : ∀ b y, b ≠ 252 + k → mc1 b y = mc b y := fun b y hb => f2 b y (by omega)
  obtain ⟨l, n1, w, g1, g2⟩ := fill_r (mc := yup (yup n 412 k x5) 376 54 ((k : Int) + 1)) (N := 48) (a := 411) (b0 := 48 * k) (v := 0) (fun j m y hj hk' e => by
    unfold B203_38 at e
    have k54 : m 376 54 = (k : Int) + 1 := by rw [hk' 376 54 (by decide), yup_eq]
    rw [k54, k1w (by omega)] at e
    rcases ite1 e with ⟨w, e⟩ | ⟨w, e⟩
    · rw [ix48 hk (by omega)] at e
      injection e with e
      exact Or.inr ⟨by omega, e.symm⟩
    · injection e with e
      exact Or.inl ⟨by omega, e.symm⟩) e2
  have gm : ∀ b y, ¬ (b = 411 ∧ 48 * k ≤ y ∧ y < 48 * k + 48) → ¬ (b = 412 ∧ y = k) → ¬ (b = 376 ∧ y = 54) → n1 b y = n b y := fun b y z1 z2 z3 => by rw [g2 b y z1, yup_ne z3, yup_ne z2]
  have c5 : mc1 169 5 = mc 169 5 := fc _ _ (by omega)
  refine ⟨l, n1, w, ⟨hB.fr (fun a y ha => fc _ _ (by omega)) (fun a y ha => gm _ _ (by omega) (by omega) (by omega)), fun x v hx hv => ?_, fun a y ha => by rw [fc _ _ (by omega)]; exact hC a y ha, fun a y ha hq => by rw [gm _ _ (by omega) (by omega) (by omega)]; exact hM a y ha hq, by rw [g2 376 54 (by omega), yup_eq], by rw [gm _ _ (by omega) (by omega) (by omega)]; exact h57⟩, by rw [g2 412 k (by omega), yup_na (by decide), yup_eq], fun y hy => gm _ _ (by omega) (by omega) (by omega), fun b y _ hb => fc b y hb, fun y => fc _ _ (by omega), fun v hv => f1 v hv⟩
  rw [c5]
  by_cases y : x = k
  · subst y
    rw [f1 v hv, g1 v hv]
    have := hB.1
    omega
  · rw [fc (252 + x) v (by omega), gm 411 _ (by omega) (by omega) (by omega)]
    exact hF x v (by omega) hv
/-- a frame with its receiver and its arguments -/
theorem push_u {na res : Nat} {sv a1 a2 y1 y2 x5 : Int} {m1 m2 m3 m4 nP : yM} (hA : A = 256 ∨ A = 316) (hp : p ≤ 1) (hR : RPG A p s o mc0 mm0) (h18 : mm0 376 18 = p) (hq : (q : Int) < mc0 A 10) (hna : mc0 (A + 10 + q) 3 = na) (hres : mc0 (A + 10 + q) 2 = res) (hB : uB G mc n) (hF : uF k mc n) (hC : uC mc0 mc) (hM : uM mm0 n) (h54 : n 376 54 = k) (h57 : n 376 57 = 0) (hk : k < 4) (sv1 : -1 ≤ sv ∧ sv < mc 169 5) (av1 : 0 < na → -1 ≤ a1 ∧ a1 < mc 169 5) (av2 : 1 < na → -1 ≤ a2 ∧ a2 < mc 169 5) (e1 : F75_48 f (252 + k) (-1) mc = some m1) (e2 : F188_48 f (252 + k) (F57 (A + 10 + q) m1) sv m1 = some m2) (e3 : (na = 0 ∧ m3 = m2) ∨ (0 < na ∧ F188_48 f (252 + k) (F87 (A + 10 + q) 0 m2) a1 m2 = some m3)) (e4 : (na ≤ 1 ∧ m4 = m3) ∨ (1 < na ∧ F188_48 f (252 + k) (F87 (A + 10 + q) 1 m3) a2 m3 = some m4)) (hy1 : 0 < na → y1 = a1 + 1) (hy2 : 1 < na → y2 = a2 + 1) (eM : F203 g (q : Int) (sv + 1) y1 y2 x5 n = some nP) : uS G mc0 mm0 k m4 nP ∧ nP 376 55 = mm0 399 (10 * p + q) ∧ nP 412 k = x5 ∧ (∀ y, y < k → nP 412 y = n 412 y) ∧ (∀ b y, 252 ≤ b → b ≠ 252 + k → m4 b y = mc b y) ∧ m4 169 6 = mc 169 6 ∧ m4 (252 + k) res = -1 := by
  obtain ⟨-, -, b3, b4, -, -, b7, b8, b9, b10⟩ := hR.2.1.2.2.2 q hq
  have h10 := hR.2.1.2.2.1
  rw [hna] at b3 b7 b8 b10
  rw [hres] at b4 b9 b10
  unfold F203 at eM
  rw [h54, if_neg (by omega), Int.toNat_natCast, wr_i (x := (k : Int) + 1) (by omega) (by omega)] at eM
  rcases bL_e eM with ⟨l, n1, d1, d2⟩ | ⟨l, n1, d1, d2⟩
  case inr =>
    obtain ⟨l', n', w, -⟩ := push0 hB hF hC hM h57 hk e1 d1
    cases w
  obtain ⟨l', n', w, u1, u2, u3, u4, u5, u6⟩ := push0 hB hF hC hM h57 hk e1 d1
  injection w with w
  injection w with w w'
  subst w'
  have i18 : ∀ {d : Nat} {x y : yM}, uS G mc0 mm0 d x y → y 376 18 = p := fun h => by rw [h.2.2.2.1 376 18 (by decide) (by omega)]; exact h18
  have i398 : ∀ {d : Nat} {x y : yM}, uS G mc0 mm0 d x y → y 398 (10 * p + q) = res := fun h => by rw [h.2.2.2.1 398 _ (by decide) (by omega)]; exact b4.symm
  have i397 : ∀ {d : Nat} {x y : yM}, uS G mc0 mm0 d x y → y 397 (10 * p + q) = na := fun h => by rw [h.2.2.2.1 397 _ (by decide) (by omega)]; exact b3.symm
  have r2 : ∀ {d : Nat} {x y : yM}, uS G mc0 mm0 d x y → x (A + 10 + q) 2 = res ∧ x (A + 10 + q) 3 = na := fun h => ⟨by rw [h.2.2.1 _ _ (by omega)]; exact hres, by rw [h.2.2.1 _ _ (by omega)]; exact hna⟩
  have q10 : q ≤ 12 := by omega
  rw [i18 u1, ixp10 hp q10, i398 u1, wr_i (x := (res : Int) + 1) (by omega) (by omega), wr_i (x := (res : Int) + 2) (by omega) (by omega)] at d2
  replace d2 := bU_e d2
  obtain ⟨n2, d3, d2⟩ := d2
  have s57 : F57 (A + 10 + q) m1 = ((res + 1 : Nat) : Int) := by
    unfold F57
    rw [(r2 u1).1, wr_i (by omega) (by omega)]
    omega
  rw [s57] at e2
  rw [show (res : Int) + 1 = ((res + 1 : Nat) : Int) by omega] at d3
  obtain ⟨v1, v2, v3, v4, v5, v6⟩ := u1.set hk (by omega) sv1.1 (by rw [u5 5]; exact sv1.2) e2 d3
  rw [i18 v1, ixp10 hp q10, i397 v1] at d2
  -- the first argument
  have A1 : ∃ n3, uS G mc0 mm0 k m3 n3 ∧ (∀ y, n3 412 y = n2 412 y) ∧ (∀ b y, 252 ≤ b → ¬ (b = 252 + k ∧ y = res + 2) → m3 b y = m2 b y) ∧ (∀ y, m3 169 y = m2 169 y) ∧ J203_120 g (q : Int) y2 (res : Int) n3 = some nP := by
    rcases e3 with ⟨z1, z2⟩ | ⟨z1, z2⟩
    · rw [if_neg (by omega)] at d2
      rw [z2]
      exact ⟨n2, v1, fun _ => rfl, fun _ _ _ _ => rfl, fun _ => rfl, d2⟩
    · rw [if_pos (by omega)] at d2
      replace d2 := bU_e d2
      obtain ⟨n3, d4, d2⟩ := d2
      have s87 : F87 (A + 10 + q) 0 m2 = ((res + 2 : Nat) : Int) := by
        unfold F87
        rw [(r2 v1).1, (r2 v1).2, if_pos (by omega), wr_i (x := (res : Int) + 2) (by omega) (by omega), wr_i (by omega) (by omega)]
        omega
      rw [s87] at z2
      rw [show (res : Int) + 2 = ((res + 2 : Nat) : Int) by omega, hy1 z1] at d4
      obtain ⟨w1, w2, w3, w4, w5, w6⟩ := v1.set hk (by omega) (av1 z1).1 (by rw [v4 5, u5 5]; exact (av1 z1).2) z2 d4
      exact ⟨n3, w1, w5, w2, w4, d2⟩
  obtain ⟨n3, a1', a2', a3', a4', d5⟩ := A1
  unfold J203_120 at d5
  rw [i18 a1', ixp10 hp q10, i397 a1'] at d5
  have A2 : ∃ n4, uS G mc0 mm0 k m4 n4 ∧ (∀ y, n4 412 y = n3 412 y) ∧ (∀ b y, 252 ≤ b → ¬ (b = 252 + k ∧ y = res + 3) → m4 b y = m3 b y) ∧ (∀ y, m4 169 y = m3 169 y) ∧ J203_148 g (q : Int) n4 = some nP := by
    rcases e4 with ⟨z1, z2⟩ | ⟨z1, z2⟩
    · rw [if_neg (by omega)] at d5
      rw [z2]
      exact ⟨n3, a1', fun _ => rfl, fun _ _ _ _ => rfl, fun _ => rfl, d5⟩
    · rw [if_pos (by omega)] at d5
      replace d5 := bU_e d5
      obtain ⟨n4, d6, d5⟩ := d5
      have s87 : F87 (A + 10 + q) 1 m3 = ((res + 3 : Nat) : Int) := by
        unfold F87
        rw [(r2 a1').1, (r2 a1').2, if_pos (by omega), wr_i (x := (res : Int) + 2) (by omega) (by omega), wr_i (by omega) (by omega)]
        omega
      rw [s87] at z2
      rw [wr_i (x := (res : Int) + 3) (by omega) (by omega), show (res : Int) + 3 = ((res + 3 : Nat) : Int) by omega, hy2 z1] at d6
      obtain ⟨w1, w2, w3, w4, w5, w6⟩ := a1'.set hk (by omega) (av2 z1).1 (by rw [a4' 5, v4 5, u5 5]; exact (av2 z1).2) z2 d6
      exact ⟨n4, w1, w5, w2, w4, d5⟩
  obtain ⟨n4, c1', c2', c3', c4', d7⟩ := A2
  unfold J203_148 at d7
  rw [i18 c1', ixp10 hp q10, c1'.2.2.2.1 399 _ (by decide) (by omega)] at d7
  injection d7 with d7
  subst d7
  refine ⟨c1'.pc, yup_eq _ _ _ _, ?_, fun y hy => ?_, fun b y hb hn => ?_, ?_, ?_⟩
  · rw [yup_na (by decide), c2', a2', v5]; exact u2
  · rw [yup_na (by decide), c2', a2', v5]; exact u3 y hy
  · rw [c3' b y hb (by omega), a3' b y hb (by omega), v2 b y hb (by omega)]; exact u4 b y hb hn
  · rw [c4' 6, a4' 6, v4 6]; exact u5 6
  · rw [c3' _ _ (by omega) (by omega), a3' _ _ (by omega) (by omega), v2 _ _ (by omega) (by omega)]; exact u6 res (by omega)
end UG

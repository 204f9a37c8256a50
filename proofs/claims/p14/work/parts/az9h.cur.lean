/-! BETWEEN TWO STEPS, for the questions: the program that stands, its facts -/
/-- what the class keeps of go -/
def GOk (A : Nat) (m : yM) : Prop := ∃ (f' : Nat) (x1 : yM), F72 f' A 0 239 0 x1 = some (m A 17) ∧ (∀ a q, (a = A ∧ q ≠ 17) ∨ (A + 1 ≤ a ∧ a < A + 20 ∧ a ≠ A + 8) → x1 a q = m a q)
def CQ (A p : Nat) (m : yM) : Prop := (m 376 19 = 0 ∧ (m A 9 = 0 ∧ m A 17 = -1) ∧ m A 10 = 0 ∧ m A 11 = 0 ∧ m A 12 = 0 ∧ m A 13 = 0 ∧ m A 14 = 0 ∧ m A 15 = 0) ∨ (m 376 19 = 1 ∧ m 8 4 = pX A ∧ ∃ s o, RPG A p s o m m ∧ FQ (GEN A s m) (m A 15) m m ∧ m 376 47 = m 8 6 ∧ GOk A m)
def GQ2 (m : yM) : Prop := ((m 0 4 = 0 ∧ m 0 5 = 1) ∨ (m 0 4 = 1 ∧ m 0 5 = 0)) ∧ (m 376 18 = 0 ∨ m 376 18 = 1)
def IQ (m : yM) : Prop := TXT m ∧ KW m ∧ GQ2 m ∧ (m 264 0 = 0 ∧ m 324 0 = 0) ∧ CQ (pA (m 0 4)) (m 376 18).toNat m
def PQ (a q : Nat) : Prop := (a = 0 ∧ (q = 4 ∨ q = 5 ∨ q = 6)) ∨ a = 1 ∨ a = 4 ∨ (8 ≤ a ∧ a < 169) ∨ (256 ≤ a ∧ a < 376) ∨ (a = 376 ∧ (q = 1 ∨ q = 18 ∨ q = 19 ∨ q = 47)) ∨ a = 377 ∨ (383 ≤ a ∧ a ≤ 407)
section CU
variable {A p s o f g : Nat} {m m1 m2 mc mm mc0 mm0 : yM}
/-- the rows of the model's program p -/
def arP (p b q : Nat) : Prop := (383 ≤ b ∧ b ≤ 390 ∧ q = p) ∨ ((b = 391 ∨ b = 392) ∧ 6 * p ≤ q ∧ q < 6 * p + 6) ∨ (b = 393 ∧ 48 * p ≤ q ∧ q < 48 * p + 48) ∨ (395 ≤ b ∧ b ≤ 399 ∧ 10 * p ≤ q ∧ q < 10 * p + 10) ∨ (b = 400 ∧ 12 * p ≤ q ∧ q < 12 * p + 12) ∨ ((b = 401 ∨ b = 402) ∧ 8 * p ≤ q ∧ q < 8 * p + 8) ∨ (b = 403 ∧ 1000 * p ≤ q ∧ q < 1000 * p + 1000)
theorem GEN.lt (h : RPG A p s o mc mm) {x : Nat} (hx : GEN A s mc x) : x < 12 ∧ (x : Int) < mc A 14 := by
  obtain ⟨r1, r2, r3, r4, r5, r6, ⟨n, r7⟩, r8⟩ := h
  unfold rCo at r3
  rcases hx with rfl | ⟨t, t1, t2, t3⟩
  · omega
  · obtain ⟨u, u1, hu⟩ := r7.all t (by omega) t1
    rcases hu with hu | hu
    · obtain ⟨-, hu⟩ := hu
      rcases hu with z | z | z | z | z | z | z | z
      · have := z.1; omega
      · have := z.1; omega
      · have := z.1; omega
      · obtain ⟨y1, y2, y3, y4, y5, y6, y7, y8⟩ := z
        omega
      · have := z.1; omega
      · have := z.1; omega
      · have := z.1; omega
      · have := z.1; omega
    · have := qB.kd hu; omega
theorem RPG.frp (hA : A = 256 ∨ A = 316) (hp : p ≤ 1) (h : RPG A p s o mc0 mm0) (ec : ∀ a q : Nat, A ≤ a → a < A + 60 → mc a q = mc0 a q) (em : ∀ b q : Nat, arP p b q → mm b q = mm0 b q) : RPG A p s o mc mm := by
  have hlt := fun {x : Nat} (hx : GEN A s mc0 x) => (GEN.lt h hx).1
  obtain ⟨r1, r2, r3, r4, r5, ⟨q1, q2, q3, q4, q5⟩, ⟨n, r7⟩, r8⟩ := h
  have A_ : ∀ q, mc A q = mc0 A q := fun q => ec _ _ (by omega) (by omega)
  have c9 := r1.2.2.1
  have c10 := r2.2.2.1
  have e383 : mm 383 p = mm0 383 p := em _ _ (by unfold arP; omega)
  have e384 : mm 384 p = mm0 384 p := em _ _ (by unfold arP; omega)
  have hz : ∀ t u : Nat, t < s → u < o → OPZ A p t (1000 * p + 8 * u) mc0 mm0 → OPZ A p t (1000 * p + 8 * u) mc mm := by
    intro t u ht hu hq
    have S : ∀ q, mc (A + 20 + t) q = mc0 (A + 20 + t) q := fun q => ec _ _ (by omega) (by omega)
    have B : ∀ q, q < 8 → mm 403 (1000 * p + 8 * u + q) = mm0 403 (1000 * p + 8 * u + q) := fun q hq => em _ _ (by unfold arP; omega)
    have B0 : mm 403 (1000 * p + 8 * u) = mm0 403 (1000 * p + 8 * u) := B 0 (by decide)
    obtain ⟨w1, w2⟩ := hq
    have h398 : mm 398 (10 * p + (mc0 (A + 20 + t) 1).toNat) = mm0 398 (10 * p + (mc0 (A + 20 + t) 1).toNat) := em _ _ (by unfold arP; omega)
    unfold OPZ
    simp only [S, A_, B0, B 1 (by decide), B 2 (by decide), B 3 (by decide), B 4 (by decide), B 5 (by decide), B 6 (by decide), B 7 (by decide), h398, ec (A + 9) _ (by omega) (by omega)]
    refine ⟨w1, ?_⟩
    rcases w2 with z | z | z | z | z | z | z | z
    · exact Or.inl z
    · exact Or.inr (Or.inl z)
    · exact Or.inr (Or.inr (Or.inl z))
    · exact Or.inr (Or.inr (Or.inr (Or.inl z)))
    · exact Or.inr (Or.inr (Or.inr (Or.inr (Or.inl z))))
    · have e1 : mm 401 (8 * p + (mm0 403 (1000 * p + 8 * u + 4)).toNat) = mm0 401 (8 * p + (mm0 403 (1000 * p + 8 * u + 4)).toNat) := em _ _ (by
        obtain ⟨-, -, -, -, -, -, y7, y8, -⟩ := z
        unfold arP; omega)
      have e2 : mm 402 (8 * p + (mm0 403 (1000 * p + 8 * u + 4)).toNat) = mm0 402 (8 * p + (mm0 403 (1000 * p + 8 * u + 4)).toNat) := em _ _ (by
        obtain ⟨-, -, -, -, -, -, y7, y8, -⟩ := z
        unfold arP; omega)
      rw [e1, e2]
      exact Or.inr (Or.inr (Or.inr (Or.inr (Or.inr (Or.inl z)))))
    · exact Or.inr (Or.inr (Or.inr (Or.inr (Or.inr (Or.inr (Or.inl z))))))
    · exact Or.inr (Or.inr (Or.inr (Or.inr (Or.inr (Or.inr (Or.inr z))))))
  refine ⟨?_, ?_, r3.fr (fun q _ _ => A_ q) (fun b z1 z2 => em _ _ (by unfold arP; omega)), by rw [A_, em 385 p (by unfold arP; omega)]; exact r4, ⟨by rw [A_, em 389 p (by unfold arP; omega)]; exact r5.1, by rw [A_]; exact r5.2.1, by rw [A_]; exact r5.2.2.1, r5.2.2.2.1.fr (A_ _) (fun q _ => ec _ _ (by omega) (by omega)) (fun t ht => ec _ _ (by omega) (by omega)), fun j hj => by rw [A_] at hj; rw [A_, ec (A + 10 + j) 2 (by omega) (by omega), ec (A + 10 + j) 3 (by omega) (by omega)]; exact r5.2.2.2.2.1 j hj, by rw [A_]; exact r5.2.2.2.2.2.1.fr (fun j q hj => ec _ _ (by omega) (by omega)) (fun t q ht _ => ec _ _ (by omega) (by omega)), r5.2.2.2.2.2.2.fr (A_ _) (fun j q hj => ec _ _ (by omega) (by omega)) (fun j hj => em _ _ (by unfold arP; omega)) hz (fun t q ht => ec _ _ (by omega) (by omega)) (fun u q hu hq => em _ _ (by unfold arP; omega))⟩, by rw [A_, A_, em 390 p (by unfold arP; omega)]; exact ⟨q1, q2, q3, q4, q5⟩, ⟨n, r7.mp (fun t u ht hu hq => hz t u ht hu hq) (fun t u ht hu hq => ?_) (fun u hu hq => ?_)⟩, fun x hx => ?_⟩
  · obtain ⟨h1, h2, h3, h4⟩ := r1
    refine ⟨by rw [A_, e383]; exact h1, by rw [A_]; exact h2, by rw [A_]; exact h3, fun k hk => ?_⟩
    rw [A_] at hk
    obtain ⟨g1, g2, g3, g4, g5, g6, g7⟩ := h4 k hk
    rw [ec (A + 1) _ (by omega) (by omega), ec (A + 2) _ (by omega) (by omega), ec (A + 3) k (by omega) (by omega), em 391 _ (by unfold arP; omega), em 392 _ (by unfold arP; omega)]
    refine ⟨g1, g2, g3, g4, g5, g6, fun f hf => ?_⟩
    rw [ec (A + 3) _ (by omega) (by omega), em 393 _ (by unfold arP; omega)]
    exact g7 f hf
  · obtain ⟨h1, h2, h3, h4⟩ := r2
    refine ⟨by rw [A_, e384]; exact h1, by rw [A_]; exact h2, by rw [A_]; exact h3, fun k hk => ?_⟩
    rw [A_] at hk
    have hS : ∀ q, mc (A + 10 + k) q = mc0 (A + 10 + k) q := fun q => ec _ _ (by omega) (by omega)
    rw [hS, hS, hS, hS, A_, em 395 _ (by unfold arP; omega), em 396 _ (by unfold arP; omega), em 397 _ (by unfold arP; omega), em 398 _ (by unfold arP; omega)]
    exact h4 k hk
  · have S : ∀ q, mc (A + 20 + t) q = mc0 (A + 20 + t) q := fun q => ec _ _ (by omega) (by omega)
    have B : ∀ q, q < 8 → mm 403 (1000 * p + 8 * u + q) = mm0 403 (1000 * p + 8 * u + q) := fun q hq => em _ _ (by unfold arP; omega)
    have B0 : mm 403 (1000 * p + 8 * u) = mm0 403 (1000 * p + 8 * u) := B 0 (by decide)
    unfold qB BRH at hq ⊢
    rw [S, S, S, B0, B 1 (by decide), B 2 (by decide)]
    exact hq
  · have B0 : mm 403 (1000 * p + 8 * u) = mm0 403 (1000 * p + 8 * u) := em _ _ (by unfold arP; omega)
    unfold qZ at hq ⊢
    rw [B0]
    exact hq
  · have hx0 : GEN A s mc0 x := by
      rcases hx with hx | ⟨t, t1, t2, t3⟩
      · exact Or.inl hx
      · exact Or.inr ⟨t, t1, by rw [← ec _ _ (by omega) (by omega)]; exact t2, by rw [← ec _ _ (by omega) (by omega)]; exact t3⟩
    have := hlt hx0
    rw [ec (A + 8) x (by omega) (by omega), em 400 _ (by unfold arP; omega), A_]
    exact r8 x hx0
theorem GEN.fr (hA : A = 256 ∨ A = 316) {x : Nat} (hs : s ≤ 40) (h : GEN A s mc0 x) (ec : ∀ a q : Nat, A ≤ a → a < A + 60 → mc a q = mc0 a q) : GEN A s mc x := by
  rcases h with h | ⟨t, t1, t2, t3⟩
  · exact Or.inl h
  · exact Or.inr ⟨t, t1, by rw [ec _ _ (by omega) (by omega)]; exact t2, by rw [ec _ _ (by omega) (by omega)]; exact t3⟩
theorem FQ.fr {G G' : Nat → Prop} {V V' : Int} (h : FQ G V mc0 mm0) (hV : V = V') (hG : ∀ x, G x → G' x) (ec : ∀ a q : Nat, 10 ≤ a → a < 169 → mc a q = mc0 a q) (em : ∀ a q : Nat, 404 ≤ a → a ≤ 407 → mm a q = mm0 a q) : FQ G' V' mc mm := fun t i j h1 h2 h3 => by
  have hr := cc_rng h1 h2
  obtain ⟨a, b, c, d⟩ := h t i j h1 h2 h3
  rw [ec _ _ (by omega) (by omega), em _ _ (by omega) (by omega)]
  exact ⟨a, b, fun z1 z2 => hG _ (c z1 z2), fun z1 z2 => by rw [← hV]; exact d z1 z2⟩
theorem CQ.fr (hA : A = 256 ∨ A = 316) (hp : p ≤ 1) (h : CQ A p m) (e19 : m1 376 19 = m 376 19) (e47 : m1 376 47 = m 376 47) (ec : ∀ a q : Nat, (A ≤ a ∧ a < A + 60) ∨ (8 ≤ a ∧ a < 169) → m1 a q = m a q) (em : ∀ b q : Nat, arP p b q ∨ (404 ≤ b ∧ b ≤ 407) → m1 b q = m b q) : CQ A p m1 := by
  have A_ : ∀ q, m1 A q = m A q := fun q => ec _ _ (by omega)
  rcases h with ⟨h1, h2⟩ | ⟨h1, h2, s, o, h3, h4, h5, h6⟩
  · exact Or.inl ⟨by omega, by rw [A_, A_, A_, A_, A_, A_, A_, A_]; exact h2⟩
  · refine Or.inr ⟨by omega, by rw [ec 8 4 (by omega)]; exact h2, s, o, h3.frp hA hp (fun a q z1 z2 => ec a q (by omega)) (fun b q hb => em b q (Or.inl hb)), h4.fr (A_ 15).symm (fun x hx => hx.fr hA h3.2.2.2.2.2.1.2.1 (fun a q z1 z2 => ec a q (by omega))) (fun a q z1 z2 => ec a q (by omega)) (fun a q z1 z2 => em a q (by omega)), by rw [e47, ec 8 6 (by omega)]; exact h5, ?_⟩
    obtain ⟨f', x1, g1, g2⟩ := h6
    exact ⟨f', x1, by rw [A_]; exact g1, fun a q ha => by rw [ec a q (by omega)]; exact g2 a q ha⟩
theorem IQ.fr (h : IQ m) (e : KP PQ m m1) : IQ m1 := by
  obtain ⟨⟨t1, t2, t3, t4⟩, hK, ⟨h4, h18⟩, h8, hc⟩ := h
  have e04 := e 0 4 (by unfold PQ; omega)
  have e05 := e 0 5 (by unfold PQ; omega)
  have e06 := e 0 6 (by unfold PQ; omega)
  have e1 := e 376 1 (by unfold PQ; omega)
  have e18 := e 376 18 (by unfold PQ; omega)
  have hA := pA_is (m 0 4)
  refine ⟨⟨by omega, by omega, by omega, fun t z1 z2 => ?_⟩, fun j j1 j2 => ?_, ⟨by omega, by omega⟩, ?_, ?_⟩
  · rw [e 1 _ (by unfold PQ; omega), e 377 _ (by unfold PQ; omega)]
    exact t4 t z1 (by omega)
  · rw [e 4 _ (by unfold PQ; omega)]
    exact hK j j1 j2
  · rw [e 264 0 (by unfold PQ; omega), e 324 0 (by unfold PQ; omega)]; exact h8
  · rw [e04, e18]
    exact hc.fr hA (by omega) (e _ _ (by unfold PQ; omega)) (e _ _ (by unfold PQ; omega)) (fun a q ha => e _ _ (by unfold PQ; omega)) (fun b q hb => e _ _ (by unfold arP at hb; unfold PQ; omega))
end CU
/-! COUNTS of facts -/
def fS (m : yM) : Nat → Nat
  | 0 => 0
  | i + 1 => fS m i + (if 0 ≤ m 404 i then 1 else 0)
section FC
variable {A f : Nat} {mc mm m m1 : yM}
theorem fS_s (i : Nat) : fS mm (i + 1) = fS mm i + (if 0 ≤ mm 404 i then 1 else 0) := rfl
theorem fS_le (i : Nat) : fS mm i ≤ i := by
  induction i with
  | zero => exact Nat.le_refl _
  | succ i ih =>
    have h := fS_s (mm := mm) i
    by_cases q : 0 ≤ mm 404 i
    · rw [if_pos q] at h; omega
    · rw [if_neg q] at h; omega
theorem fS_c (a d : Nat) (hq : ∀ i, a ≤ i → i < a + d → mm 404 i < 0) : fS mm (a + d) = fS mm a := by
  induction d with
  | zero => rfl
  | succ d ih =>
    have h := fS_s (mm := mm) (a + d)
    have q := hq (a + d) (by omega) (by omega)
    rw [if_neg (by omega)] at h
    have := ih (fun i i1 i2 => hq i i1 (by omega))
    rw [show a + (d + 1) = a + d + 1 by omega]
    omega
theorem F23_x {x y r : Int} (h : F23 f x y m = some (r, m1)) : r = x ∧ ∃ c, m1 = yup m 376 57 c ∧ (x = 0 → c = y) ∧ (x ≠ 0 → c = 0) := by
  unfold F23 J23_10 at h
  rcases ite1 h with ⟨q, h⟩ | ⟨q, h⟩
  · injection h with h
    injection h with h1 h2
    exact ⟨h1.symm, y, h2.symm, fun _ => rfl, fun z => absurd q z⟩
  · injection h with h
    injection h with h1 h2
    exact ⟨h1.symm, 0, h2.symm, fun z => absurd z q, fun _ => rfl⟩
/-- the class's count is the model's -/
theorem F93_r {c : Int} {n nv : Nat} (hn : mc A 14 = n) (hn2 : n ≤ 12) (hv : mc A 15 = nv) (hv2 : nv ≤ 48) (hF : ∀ v j : Nat, v < 48 → j < 12 → mc (10 + v) j = mm 404 (12 * v + j) ∧ -1 ≤ mc (10 + v) j ∧ (mc (10 + v) j ≠ -1 → j < n ∧ v < nv)) (h : F93 f A mc = some c) : c = (fS mm 576 : Nat) := by
  have inn : ∀ (v : Nat) (r : (Int × Int) ⊕ Int), v < nv → ploop (fun (l : Int × Int) => B93_17 f A (v : Int) l.1 l.2 mc) f (((fS mm (12 * v) : Nat) : Int), 0) = some r → ∃ l : Int, r = .inl (((fS mm (12 * (v + 1)) : Nat) : Int), l) := by
    intro v r hvn e
    have st : ∀ (a b : Int) y, (∃ j : Nat, a = ((fS mm (12 * v + j) : Nat) : Int) ∧ b = j ∧ j ≤ n) → B93_17 f A (v : Int) a b mc = some y → (∃ a' b', y = .inl (a', b') ∧ ∃ j : Nat, a' = ((fS mm (12 * v + j) : Nat) : Int) ∧ b' = j ∧ j ≤ n) ∨ (∃ b', y = .inr (.inl (((fS mm (12 * (v + 1)) : Nat) : Int), b'))) := by
      rintro a b y ⟨j, rfl, rfl, hj⟩ e
      unfold B93_17 J93_43 at e
      rw [hn, Int.toNat_natCast, Int.toNat_natCast] at e
      rcases ite1 e with ⟨q, e⟩ | ⟨q, e⟩
      · obtain ⟨f1, f2, f3⟩ := hF v j (by omega) (by omega)
        have sc := fS_s (mm := mm) (12 * v + j)
        have le := fS_le (mm := mm) (12 * v + j)
        rw [if_pos (by omega), wr_i (x := (j : Int) + 1) (by omega) (by omega), wr_i (x := ((fS mm (12 * v + j) : Nat) : Int) + 1) (by omega) (by omega)] at e
        rcases ite1 e with ⟨q2, e⟩ | ⟨q2, e⟩
        · rw [if_neg (by omega)] at sc
          cases e
          exact Or.inl ⟨_, _, rfl, j + 1, by rw [show 12 * v + (j + 1) = 12 * v + j + 1 by omega, sc]; rfl, by omega, by omega⟩
        · rw [if_pos (by omega)] at sc
          cases e
          exact Or.inl ⟨_, _, rfl, j + 1, by rw [show 12 * v + (j + 1) = 12 * v + j + 1 by omega, sc]; omega, by omega, by omega⟩
      · cases e
        obtain rfl : j = n := by omega
        have k := fS_c (mm := mm) (12 * v + j) (12 - j) (fun i i1 i2 => by
          obtain ⟨f1, f2, f3⟩ := hF v (i - 12 * v) (by omega) (by omega)
          rw [show 12 * v + (i - 12 * v) = i by omega] at f1
          by_cases z : mc (10 + v) (i - 12 * v) = -1
          · omega
          · have := (f3 z).1; omega)
        rw [show 12 * v + j + (12 - j) = 12 * (v + 1) by omega] at k
        exact Or.inr ⟨_, by rw [k]⟩
    have inv : ∀ l l' : Int × Int, (∃ j : Nat, l.1 = ((fS mm (12 * v + j) : Nat) : Int) ∧ l.2 = j ∧ j ≤ n) → B93_17 f A (v : Int) l.1 l.2 mc = some (.inl l') → (∃ j : Nat, l'.1 = ((fS mm (12 * v + j) : Nat) : Int) ∧ l'.2 = j ∧ j ≤ n) := by
      intro l l' hI hB
      rcases st l.1 l.2 _ hI hB with ⟨a', b', z, z2⟩ | ⟨b', z⟩
      · cases z; exact z2
      · cases z
    obtain ⟨l', hI, e3⟩ := ploop_inv _ inv _ _ _ ⟨0, rfl, rfl, by omega⟩ e
    rcases st l'.1 l'.2 _ hI e3 with ⟨a', b', z, z2⟩ | ⟨b', z⟩
    · cases z
    · cases z; exact ⟨_, rfl⟩
  have st : ∀ (a b : Int) y, (∃ v : Nat, a = ((fS mm (12 * v) : Nat) : Int) ∧ b = v ∧ v ≤ nv) → B93_4 f A a b mc = some y → (∃ a' b', y = .inl (a', b') ∧ ∃ v : Nat, a' = ((fS mm (12 * v) : Nat) : Int) ∧ b' = v ∧ v ≤ nv) ∨ (∃ b', y = .inr (.inl (((fS mm 576 : Nat) : Int), b'))) := by
    rintro a b y ⟨v, rfl, rfl, hvn⟩ e
    unfold B93_4 at e
    rw [hv] at e
    rcases ite1 e with ⟨q, e⟩ | ⟨q, e⟩
    · rcases bQ_e e with ⟨l, y1, y2⟩ | ⟨l, y1, y2⟩
      · obtain ⟨l2, z⟩ := inn v _ (by omega) y1
        cases z
        rw [wr_i (by omega) (by omega)] at y2
        cases y2
        exact Or.inl ⟨_, _, rfl, v + 1, rfl, by omega, by omega⟩
      · obtain ⟨l2, z⟩ := inn v _ (by omega) y1
        cases z
    · cases e
      obtain rfl : v = nv := by omega
      have k := fS_c (mm := mm) (12 * v) (576 - 12 * v) (fun i i1 i2 => by
        obtain ⟨f1, f2, f3⟩ := hF (i / 12) (i % 12) (by omega) (by omega)
        rw [show 12 * (i / 12) + i % 12 = i by omega] at f1
        by_cases z : mc (10 + i / 12) (i % 12) = -1
        · omega
        · have := (f3 z).2; omega)
      rw [show 12 * v + (576 - 12 * v) = 576 by omega] at k
      exact Or.inr ⟨_, by rw [k]⟩
  have inv : ∀ l l' : Int × Int, (∃ v : Nat, l.1 = ((fS mm (12 * v) : Nat) : Int) ∧ l.2 = v ∧ v ≤ nv) → B93_4 f A l.1 l.2 mc = some (.inl l') → (∃ v : Nat, l'.1 = ((fS mm (12 * v) : Nat) : Int) ∧ l'.2 = v ∧ v ≤ nv) := by
    intro l l' hI hB
    rcases st l.1 l.2 _ hI hB with ⟨a', b', z, z2⟩ | ⟨b', z⟩
    · cases z; exact z2
    · cases z
  unfold F93 at h
  rcases bQ_e h with ⟨l, y1, y2⟩ | ⟨l, y1, y2⟩
  · obtain ⟨l', hI, e3⟩ := ploop_inv _ inv _ _ _ ⟨0, rfl, rfl, by omega⟩ y1
    rcases st l'.1 l'.2 _ hI e3 with ⟨a', b', z, z2⟩ | ⟨b', z⟩
    · cases z
    · cases z
      cases y2
      rfl
  · obtain ⟨l', hI, e3⟩ := ploop_inv _ inv _ _ _ ⟨0, rfl, rfl, by omega⟩ y1
    rcases st l'.1 l'.2 _ hI e3 with ⟨a', b', z, z2⟩ | ⟨b', z⟩
    · cases z
    · cases z
end FC
/-! ROWS that are filled; what was seen -/
def SN (m : yM) : Prop := ∀ v j : Nat, v < 48 → j < 12 → m (171 + v) j = m 408 (12 * v + j) ∧ 0 ≤ m (171 + v) j ∧ m (171 + v) j ≤ 1
section FI
variable {f : Nat} {mc mc' : yM}
theorem fill_r {γ : Type} {B : Int → yM → Option ((Int × yM) ⊕ ((Int × yM) ⊕ (γ × yM)))} {N a b0 F : Nat} {v : Int} {r : (Int × yM) ⊕ (γ × yM)} (hB : ∀ (j : Nat) (m : yM) (y : (Int × yM) ⊕ ((Int × yM) ⊕ (γ × yM))), j ≤ N → (∀ b q, b ≠ a → m b q = mc b q) → B (j : Int) m = some y → (j = N ∧ y = .inr (.inl ((j : Int), m))) ∨ (j < N ∧ y = .inl (((j + 1 : Nat) : Int), yup m a (b0 + j) v))) (e : yloop B F 0 mc = some r) : ∃ l m', r = .inl (l, m') ∧ (∀ j, j < N → m' a (b0 + j) = v) ∧ (∀ b q, ¬ (b = a ∧ b0 ≤ q ∧ q < b0 + N) → m' b q = mc b q) := by
  have inv : ∀ (l : Int) (m : yM) (l' : Int) (m' : yM), (∃ j : Nat, l = j ∧ j ≤ N ∧ (∀ i, i < j → m a (b0 + i) = v) ∧ (∀ b q, ¬ (b = a ∧ b0 ≤ q ∧ q < b0 + j) → m b q = mc b q)) → B l m = some (.inl (l', m')) → (∃ j : Nat, l' = j ∧ j ≤ N ∧ (∀ i, i < j → m' a (b0 + i) = v) ∧ (∀ b q, ¬ (b = a ∧ b0 ≤ q ∧ q < b0 + j) → m' b q = mc b q)) := by
    rintro l m l' m' ⟨j, rfl, hj, h1, h2⟩ hb
    rcases hB j m _ hj (fun b q hb => h2 b q (fun z => hb z.1)) hb with ⟨-, z⟩ | ⟨z0, z⟩
    · cases z
    · injection z with z
      injection z with z z'
      refine ⟨j + 1, z, by omega, fun i hi => ?_, fun b q hq => ?_⟩
      · rw [z']
        by_cases y : i = j
        · rw [y, yup_eq]
        · rw [yup_nk (by omega)]; exact h1 i (by omega)
      · rw [z', yup_ne (by omega)]; exact h2 b q (by omega)
  obtain ⟨l', m', ⟨j, hl, hj, h1, h2⟩, e3⟩ := yloop_inv _ inv _ _ _ _ ⟨0, rfl, by omega, fun i hi => by omega, fun b q _ => rfl⟩ e
  subst hl
  rcases hB j m' _ hj (fun b q hb => h2 b q (fun z => hb z.1)) e3 with ⟨z0, z⟩ | ⟨-, z⟩
  · injection z with z
    exact ⟨_, m', z, fun i hi => h1 i (by omega), fun b q hq => h2 b q (by omega)⟩
  · cases z
theorem k1w {k : Nat} (hk : k ≤ 1000) : wr ((k : Int) + 1) = ((k + 1 : Nat) : Int) := by rw [wr_i (by omega) (by omega)]; omega
theorem F92_r (h : F92 f mc = some mc') : (∀ v j, v < 48 → j < 12 → mc' (171 + v) j = 0) ∧ (∀ b q, ¬ (171 ≤ b ∧ b < 219) → mc' b q = mc b q) := by
  unfold F92 at h
  have st : ∀ (l : Int) (m : yM) (y : (Int × yM) ⊕ ((Int × yM) ⊕ (Unit × yM))), (∃ i : Nat, l = i ∧ i ≤ 48 ∧ (∀ v j, v < i → j < 12 → m (171 + v) j = 0) ∧ (∀ b q, ¬ (171 ≤ b ∧ b < 219) → m b q = mc b q)) → B92_2 f l m = some y → (∃ l' m', y = .inl (l', m') ∧ ∃ i : Nat, l' = i ∧ i ≤ 48 ∧ (∀ v j, v < i → j < 12 → m' (171 + v) j = 0) ∧ (∀ b q, ¬ (171 ≤ b ∧ b < 219) → m' b q = mc b q)) ∨ (y = .inr (.inl (l, m)) ∧ l = 48) := by
    rintro l m y ⟨i, rfl, hi, h1, h2⟩ e
    unfold B92_2 at e
    rw [Int.toNat_natCast, k1w (by omega)] at e
    rcases ite1 e with ⟨q, e⟩ | ⟨q, e⟩
    · rw [if_pos (by omega)] at e
      replace e := bU_e e
      obtain ⟨m3, e3, e⟩ := e
      injection e with e
      obtain ⟨g1, g2⟩ := F75_12_r e3
      refine Or.inl ⟨_, m3, e.symm, i + 1, rfl, by omega, fun v j hv hj => ?_, fun b q hb => ?_⟩
      · by_cases w : v = i
        · rw [w]; exact g1 j hj
        · rw [g2 _ _ (by omega)]; exact h1 v j (by omega) hj
      · rw [g2 _ _ (by omega)]; exact h2 b q hb
    · injection e with e
      exact Or.inr ⟨e.symm, by omega⟩
  have go : ∀ {r : (Int × yM) ⊕ (Unit × yM)}, yloop (fun (l : Int) ml => B92_2 f l ml) f 0 mc = some r → ∃ l m', r = .inl (l, m') ∧ (∀ v j, v < 48 → j < 12 → m' (171 + v) j = 0) ∧ (∀ b q, ¬ (171 ≤ b ∧ b < 219) → m' b q = mc b q) := by
    intro r e
    obtain ⟨l', m', hI, e3⟩ := yloop_inv (fun (l : Int) (m : yM) => ∃ i : Nat, l = i ∧ i ≤ 48 ∧ (∀ v j, v < i → j < 12 → m (171 + v) j = 0) ∧ (∀ b q, ¬ (171 ≤ b ∧ b < 219) → m b q = mc b q)) (fun l m l' m' hI hB => by
      rcases st l m _ hI hB with ⟨l2, m2, w, w2⟩ | ⟨w, -⟩
      · injection w with w
        injection w with w w'
        rw [w, w']; exact w2
      · cases w) _ _ _ _ ⟨0, rfl, by omega, fun v j hv _ => by omega, fun b q _ => rfl⟩ e
    rcases st l' m' _ hI e3 with ⟨l2, m2, w, -⟩ | ⟨w, w2⟩
    · cases w
    · injection w with w
      obtain ⟨i, i1, i2, i3, i4⟩ := hI
      exact ⟨_, m', w, fun v j hv hj => i3 v j (by omega) hj, i4⟩
  rcases bL_e h with ⟨l, m1, e1, e2⟩ | ⟨l, m1, e1, e2⟩
  · obtain ⟨l', m', w, h1, h2⟩ := go e1
    injection w with w
    injection w with w w'
    injection e2 with e2
    rw [← e2, w']
    exact ⟨h1, h2⟩
  · obtain ⟨l', m', w, -⟩ := go e1
    cases w
end FI

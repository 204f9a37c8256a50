/-! BETWEEN TWO STEPS, for the questions: the program that stands, its facts -/
def CQ (A p : Nat) (m : yM) : Prop := (m 376 19 = 0 ∧ m A 9 = 0 ∧ m A 10 = 0 ∧ m A 11 = 0 ∧ m A 12 = 0 ∧ m A 13 = 0 ∧ m A 14 = 0 ∧ m A 15 = 0) ∨ (m 376 19 = 1 ∧ m 8 4 = pX A ∧ ∃ s o, RPG A p s o m m ∧ FQ (GEN A s m) m m ∧ m 376 47 = m 8 6)
def GQ2 (m : yM) : Prop := ((m 0 4 = 0 ∧ m 0 5 = 1) ∨ (m 0 4 = 1 ∧ m 0 5 = 0)) ∧ (m 376 18 = 0 ∨ m 376 18 = 1)
def IQ (m : yM) : Prop := TXT m ∧ KW m ∧ GQ2 m ∧ (m 264 0 = 0 ∧ m 324 0 = 0) ∧ CQ (pA (m 0 4)) (m 376 18).toNat m
def PQ (a q : Nat) : Prop := (a = 0 ∧ (q = 4 ∨ q = 5 ∨ q = 6)) ∨ a = 1 ∨ a = 4 ∨ (8 ≤ a ∧ a < 169) ∨ (256 ≤ a ∧ a < 376) ∨ (a = 376 ∧ (q = 1 ∨ q = 18 ∨ q = 19 ∨ q = 47)) ∨ a = 377 ∨ (383 ≤ a ∧ a ≤ 407)
section CU
variable {A p s o f g : Nat} {m m1 m2 mc mm mc0 mm0 : yM}
/-- the rows of the model's program p -/
def arP (p b q : Nat) : Prop := (383 ≤ b ∧ b ≤ 390 ∧ q = p) ∨ ((b = 391 ∨ b = 392) ∧ 6 * p ≤ q ∧ q < 6 * p + 6) ∨ (b = 393 ∧ 48 * p ≤ q ∧ q < 48 * p + 48) ∨ (395 ≤ b ∧ b ≤ 399 ∧ 10 * p ≤ q ∧ q < 10 * p + 10) ∨ (b = 400 ∧ 12 * p ≤ q ∧ q < 12 * p + 12) ∨ ((b = 401 ∨ b = 402) ∧ 8 * p ≤ q ∧ q < 8 * p + 8) ∨ (b = 403 ∧ 1000 * p ≤ q ∧ q < 1000 * p + 1000)
theorem GEN.lt (h : RPG A p s o mc mm) {x : Nat} (hx : GEN A s mc x) : x < 12 ∧ (x : Int) < mc A 14 := by
  obtain ⟨r1, r2, r3, r4, r5, r6, ⟨n, r7⟩, r8⟩ := h
  unfold rCo at r3
  rcases hx with rfl | ⟨t, t1, t2, t3⟩
  · omega
  · obtain ⟨u, u1, hu⟩ := r7.all t (by omega) t1
    rcases hu with hu | hu
    · obtain ⟨-, hu⟩ := hu
      rcases hu with z | z | z | z | z | z | z | z
      · have := z.1; omega
      · have := z.1; omega
      · have := z.1; omega
      · obtain ⟨y1, y2, y3, y4, y5, y6, y7, y8⟩ := z
        omega
      · have := z.1; omega
      · have := z.1; omega
      · have := z.1; omega
      · have := z.1; omega
    · have := qB.kd hu; omega
theorem RPG.frp (hA : A = 256 ∨ A = 316) (hp : p ≤ 1) (h : RPG A p s o mc0 mm0) (ec : ∀ a q : Nat, A ≤ a → a < A + 60 → mc a q = mc0 a q) (em : ∀ b q : Nat, arP p b q → mm b q = mm0 b q) : RPG A p s o mc mm := by
  have hlt := fun {x : Nat} (hx : GEN A s mc0 x) => (GEN.lt h hx).1
  obtain ⟨r1, r2, r3, r4, r5, ⟨q1, q2, q3, q4, q5⟩, ⟨n, r7⟩, r8⟩ := h
  have A_ : ∀ q, mc A q = mc0 A q := fun q => ec _ _ (by omega) (by omega)
  have c9 := r1.2.2.1
  have c10 := r2.2.2.1
  have e383 : mm 383 p = mm0 383 p := em _ _ (by unfold arP; omega)
  have e384 : mm 384 p = mm0 384 p := em _ _ (by unfold arP; omega)
  refine ⟨?_, ?_, r3.fr (fun q _ _ => A_ q) (fun b z1 z2 => em _ _ (by unfold arP; omega)), by rw [A_, em 385 p (by unfold arP; omega)]; exact r4, by rw [A_, em 389 p (by unfold arP; omega)]; exact r5, by rw [A_, A_, em 390 p (by unfold arP; omega)]; exact ⟨q1, q2, q3, q4, q5⟩, ⟨n, r7.mp (fun t u ht hu hq => ?_) (fun t u ht hu hq => ?_) (fun u hu hq => ?_)⟩, fun x hx => ?_⟩
  · obtain ⟨h1, h2, h3, h4⟩ := r1
    refine ⟨by rw [A_, e383]; exact h1, by rw [A_]; exact h2, by rw [A_]; exact h3, fun k hk => ?_⟩
    rw [A_] at hk
    obtain ⟨g1, g2, g3, g4, g5, g6, g7⟩ := h4 k hk
    rw [ec (A + 1) _ (by omega) (by omega), ec (A + 2) _ (by omega) (by omega), ec (A + 3) k (by omega) (by omega), em 391 _ (by unfold arP; omega), em 392 _ (by unfold arP; omega)]
    refine ⟨g1, g2, g3, g4, g5, g6, fun f hf => ?_⟩
    rw [ec (A + 3) _ (by omega) (by omega), em 393 _ (by unfold arP; omega)]
    exact g7 f hf
  · obtain ⟨h1, h2, h3, h4⟩ := r2
    refine ⟨by rw [A_, e384]; exact h1, by rw [A_]; exact h2, by rw [A_]; exact h3, fun k hk => ?_⟩
    rw [A_] at hk
    have hS : ∀ q, mc (A + 10 + k) q = mc0 (A + 10 + k) q := fun q => ec _ _ (by omega) (by omega)
    rw [hS, hS, hS, hS, A_, em 395 _ (by unfold arP; omega), em 396 _ (by unfold arP; omega), em 397 _ (by unfold arP; omega), em 398 _ (by unfold arP; omega)]
    exact h4 k hk
  · have S : ∀ q, mc (A + 20 + t) q = mc0 (A + 20 + t) q := fun q => ec _ _ (by omega) (by omega)
    have B : ∀ q, q < 8 → mm 403 (1000 * p + 8 * u + q) = mm0 403 (1000 * p + 8 * u + q) := fun q hq => em _ _ (by unfold arP; omega)
    have B0 : mm 403 (1000 * p + 8 * u) = mm0 403 (1000 * p + 8 * u) := B 0 (by decide)
    obtain ⟨w1, w2⟩ := hq
    have h398 : mm 398 (10 * p + (mc0 (A + 20 + t) 1).toNat) = mm0 398 (10 * p + (mc0 (A + 20 + t) 1).toNat) := em _ _ (by unfold arP; omega)
    unfold OPZ
    simp only [S, A_, B0, B 1 (by decide), B 2 (by decide), B 3 (by decide), B 4 (by decide), B 5 (by decide), B 6 (by decide), B 7 (by decide), h398, ec (A + 9) _ (by omega) (by omega)]
    refine ⟨w1, ?_⟩
    rcases w2 with z | z | z | z | z | z | z | z
    · exact Or.inl z
    · exact Or.inr (Or.inl z)
    · exact Or.inr (Or.inr (Or.inl z))
    · exact Or.inr (Or.inr (Or.inr (Or.inl z)))
    · exact Or.inr (Or.inr (Or.inr (Or.inr (Or.inl z))))
    · have e1 : mm 401 (8 * p + (mm0 403 (1000 * p + 8 * u + 4)).toNat) = mm0 401 (8 * p + (mm0 403 (1000 * p + 8 * u + 4)).toNat) := em _ _ (by
        obtain ⟨-, -, -, -, -, -, y7, y8, -⟩ := z
        unfold arP; omega)
      have e2 : mm 402 (8 * p + (mm0 403 (1000 * p + 8 * u + 4)).toNat) = mm0 402 (8 * p + (mm0 403 (1000 * p + 8 * u + 4)).toNat) := em _ _ (by
        obtain ⟨-, -, -, -, -, -, y7, y8, -⟩ := z
        unfold arP; omega)
      rw [e1, e2]
      exact Or.inr (Or.inr (Or.inr (Or.inr (Or.inr (Or.inl z)))))
    · exact Or.inr (Or.inr (Or.inr (Or.inr (Or.inr (Or.inr (Or.inl z))))))
    · exact Or.inr (Or.inr (Or.inr (Or.inr (Or.inr (Or.inr (Or.inr z))))))
  · have S : ∀ q, mc (A + 20 + t) q = mc0 (A + 20 + t) q := fun q => ec _ _ (by omega) (by omega)
    have B : ∀ q, q < 8 → mm 403 (1000 * p + 8 * u + q) = mm0 403 (1000 * p + 8 * u + q) := fun q hq => em _ _ (by unfold arP; omega)
    have B0 : mm 403 (1000 * p + 8 * u) = mm0 403 (1000 * p + 8 * u) := B 0 (by decide)
    unfold qB BRH at hq ⊢
    rw [S, S, S, B0, B 1 (by decide), B 2 (by decide)]
    exact hq
  · have B0 : mm 403 (1000 * p + 8 * u) = mm0 403 (1000 * p + 8 * u) := em _ _ (by unfold arP; omega)
    unfold qZ at hq ⊢
    rw [B0]
    exact hq
  · have hx0 : GEN A s mc0 x := by
      rcases hx with hx | ⟨t, t1, t2, t3⟩
      · exact Or.inl hx
      · exact Or.inr ⟨t, t1, by rw [← ec _ _ (by omega) (by omega)]; exact t2, by rw [← ec _ _ (by omega) (by omega)]; exact t3⟩
    have := hlt hx0
    rw [ec (A + 8) x (by omega) (by omega), em 400 _ (by unfold arP; omega), A_]
    exact r8 x hx0
theorem GEN.fr (hA : A = 256 ∨ A = 316) {x : Nat} (hs : s ≤ 40) (h : GEN A s mc0 x) (ec : ∀ a q : Nat, A ≤ a → a < A + 60 → mc a q = mc0 a q) : GEN A s mc x := by
  rcases h with h | ⟨t, t1, t2, t3⟩
  · exact Or.inl h
  · exact Or.inr ⟨t, t1, by rw [ec _ _ (by omega) (by omega)]; exact t2, by rw [ec _ _ (by omega) (by omega)]; exact t3⟩
theorem FQ.fr {G G' : Nat → Prop} (h : FQ G mc0 mm0) (hG : ∀ x, G x → G' x) (ec : ∀ a q : Nat, 10 ≤ a → a < 169 → mc a q = mc0 a q) (em : ∀ a q : Nat, 404 ≤ a → a ≤ 407 → mm a q = mm0 a q) : FQ G' mc mm := fun t i j h1 h2 h3 => by
  have hr := cc_rng h1 h2
  obtain ⟨a, b, c⟩ := h t i j h1 h2 h3
  rw [ec _ _ (by omega) (by omega), em _ _ (by omega) (by omega)]
  exact ⟨a, b, fun z1 z2 => hG _ (c z1 z2)⟩
theorem CQ.fr (hA : A = 256 ∨ A = 316) (hp : p ≤ 1) (h : CQ A p m) (e19 : m1 376 19 = m 376 19) (e47 : m1 376 47 = m 376 47) (ec : ∀ a q : Nat, (A ≤ a ∧ a < A + 60) ∨ (8 ≤ a ∧ a < 169) → m1 a q = m a q) (em : ∀ b q : Nat, arP p b q ∨ (404 ≤ b ∧ b ≤ 407) → m1 b q = m b q) : CQ A p m1 := by
  have A_ : ∀ q, m1 A q = m A q := fun q => ec _ _ (by omega)
  rcases h with ⟨h1, h2⟩ | ⟨h1, h2, s, o, h3, h4, h5⟩
  · exact Or.inl ⟨by omega, by rw [A_, A_, A_, A_, A_, A_, A_]; exact h2⟩
  · refine Or.inr ⟨by omega, by rw [ec 8 4 (by omega)]; exact h2, s, o, h3.frp hA hp (fun a q z1 z2 => ec a q (by omega)) (fun b q hb => em b q (Or.inl hb)), h4.fr (fun x hx => hx.fr hA h3.2.2.2.2.2.1.2.1 (fun a q z1 z2 => ec a q (by omega))) (fun a q z1 z2 => ec a q (by omega)) (fun a q z1 z2 => em a q (by omega)), ?_⟩
    rw [e47, ec 8 6 (by omega)]; exact h5
theorem IQ.fr (h : IQ m) (e : KP PQ m m1) : IQ m1 := by
  obtain ⟨⟨t1, t2, t3, t4⟩, hK, ⟨h4, h18⟩, h8, hc⟩ := h
  have e04 := e 0 4 (by unfold PQ; omega)
  have e05 := e 0 5 (by unfold PQ; omega)
  have e06 := e 0 6 (by unfold PQ; omega)
  have e1 := e 376 1 (by unfold PQ; omega)
  have e18 := e 376 18 (by unfold PQ; omega)
  have hA := pA_is (m 0 4)
  refine ⟨⟨by omega, by omega, by omega, fun t z1 z2 => ?_⟩, fun j j1 j2 => ?_, ⟨by omega, by omega⟩, ?_, ?_⟩
  · rw [e 1 _ (by unfold PQ; omega), e 377 _ (by unfold PQ; omega)]
    exact t4 t z1 (by omega)
  · rw [e 4 _ (by unfold PQ; omega)]
    exact hK j j1 j2
  · rw [e 264 0 (by unfold PQ; omega), e 324 0 (by unfold PQ; omega)]; exact h8
  · rw [e04, e18]
    exact hc.fr hA (by omega) (e _ _ (by unfold PQ; omega)) (e _ _ (by unfold PQ; omega)) (fun a q ha => e _ _ (by unfold PQ; omega)) (fun b q hb => e _ _ (by unfold arP at hb; unfold PQ; omega))
end CU

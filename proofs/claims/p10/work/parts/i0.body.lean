/-! THE MODEL: blocks, bodies, classes -/
def PD (m : yM) : Int := (if 0 < m 376 10 ∧ m 378 0 ≠ 2 then 1 else 0) + (if 1 < m 376 10 ∧ m 378 1 ≠ 2 then 1 else 0) + (if 2 < m 376 10 ∧ m 378 2 ≠ 2 then 1 else 0)
theorem PD.fr {m m' : yM} (h : m' 376 10 = m 376 10) (e : ∀ q, m' 378 q = m 378 q) : PD m' = PD m := by
  unfold PD
  rw [h, e, e, e]
theorem PD.lo {m : yM} : 0 ≤ PD m ∧ PD m ≤ 3 := by
  unfold PD
  split <;> split <;> split <;> omega
theorem PD.zero {m : yM} (h : m 376 10 = 0) : PD m = 0 := by
  unfold PD
  rw [if_neg (by omega), if_neg (by omega), if_neg (by omega)]
  rfl
theorem PD.opn {m m' : yM} (h0 : 0 ≤ m 376 10) (h : m' 376 10 = m 376 10 + 1) (e : ∀ q : Nat, (q : Int) < m 376 10 → m' 378 q = m 378 q) : PD m' ≤ PD m + 1 := by
  have e0 := e 0
  have e1 := e 1
  have e2 := e 2
  unfold PD
  split <;> split <;> split <;> split <;> split <;> split <;> omega
/-- a block is closed, or turned to its else -/
theorem PD.close {m m' : yM} (h1 : 1 ≤ m 376 10 ∧ m 376 10 ≤ 3) (e : ∀ q : Nat, (q : Int) < m 376 10 - 1 → m' 378 q = m 378 q) (h : (m' 376 10 = m 376 10 - 1) ∨ (m' 376 10 = m 376 10 ∧ m' 378 (m 376 10 - 1).toNat = 2)) : PD m' ≤ PD m ∧ (m 378 (m 376 10 - 1).toNat ≠ 2 → PD m' + 1 ≤ PD m) := by
  have e0 := e 0
  have e1 := e 1
  have h3 : m 376 10 = 1 ∨ m 376 10 = 2 ∨ m 376 10 = 3 := by omega
  rcases h3 with k | k | k <;> rw [k] at h ⊢ <;> simp at h ⊢ <;> unfold PD <;> rw [k] <;> rcases h with h | ⟨h, h'⟩ <;> rw [h] <;> constructor <;> intros <;> split <;> split <;> split <;> split <;> split <;> split <;> omega
section BDL
variable {p : Nat} {m m' : yM} {n c c2 : Int}
theorem JX.add' (h : JX p m n) (hO : OX p m n c) (hn : 0 ≤ n) (e : ∀ q, q < 1000 * p + 8 * n.toNat ∨ 1000 * p + 8 * n.toNat + 8 ≤ q → m' 403 q = m 403 q) (hp : ∀ f : Nat, f < 3 → (f : Int) < m 376 10 → (f : Int) < m' 376 10 ∧ m' 378 f = m 378 f ∧ m' 379 f = m 379 f) : JX p m' n := by
  intro o ho
  rw [e _ (by omega)]
  intro k
  have hb := hO.2.1 o ho (by omega)
  have hw := hO.1 o ho
  have e3 : m' 403 (1000 * p + 8 * o + 3) = m 403 (1000 * p + 8 * o + 3) := e _ (by omega)
  rcases h o ho k with q | ⟨f, f1, f2, f3, f4⟩
  · left
    unfold JK at q ⊢
    rw [e3]
    rcases q with q | q
    · exact Or.inl q
    · by_cases z : m 403 (1000 * p + 8 * o + 3) < n
      · right
        have h0 : 0 ≤ m 403 (1000 * p + 8 * o + 3) := hw.2.2.2.1.1
        rw [e _ (by omega)]
        exact q
      · left
        omega
  · right
    obtain ⟨g1, g2, g3⟩ := hp f f1 f2
    exact ⟨f, f1, g1, by rw [g2]; exact f3, by rw [g3]; exact f4⟩
theorem XS.opn (h : XS p m) (h0 : 0 ≤ m 390 p) (hd : 0 ≤ m 376 10 ∧ m 376 10 ≤ 2) (F : ∀ a q, vYs p a q = true → a ≠ 376 → a ≠ 378 → a ≠ 379 → m' a q = m a q) (e : ∀ q, q < 1000 * p + 8 * (m 390 p).toNat ∨ 1000 * p + 8 * (m 390 p).toNat + 8 ≤ q → m' 403 q = m 403 q) (hw : OW m' (1000 * p + 8 * (m 390 p).toNat)) (ht : m' 403 (1000 * p + 8 * (m 390 p).toNat + 3) ≤ m 390 p + 1) (hb : (m' 378 (m 376 10).toNat = 1 ∧ m' 403 (1000 * p + 8 * (m 390 p).toNat) = 9) ∨ (m' 378 (m 376 10).toNat = 3 ∧ m' 403 (1000 * p + 8 * (m 390 p).toNat) = 10)) (hd' : m' 376 10 = m 376 10 + 1) (e8 : ∀ q : Nat, (q : Int) < m 376 10 → m' 378 q = m 378 q) (e9 : ∀ q : Nat, (q : Int) < m 376 10 → m' 379 q = m 379 q) (h9 : m' 379 (m 376 10).toNat = m 390 p) (hcc : m' 386 p = m 386 p) (hn : m' 390 p = m 390 p + 1) (hs : m' 376 17 = m' 388 p - 1 + m' 387 p) (hs1 : 1 ≤ m' 388 p) (hcv : CV p m' (m' 387 p)) (hs2 : m' 388 p = m 388 p) : XS p m' := by
  obtain ⟨x1, x2, x3, x4, x5, -, -, -, x9⟩ := h
  have ja := x2.add' x1 h0 e (fun f f1 f2 => ⟨by omega, e8 f f2, e9 f f2⟩)
  unfold XS
  rw [hn, hcc, F 383 p (by simp [vYs]) (by decide) (by decide) (by decide), F 384 p (by simp [vYs]) (by decide) (by decide) (by decide)]
  refine ⟨x1.add h0 e hw (fun _ => ht) (fun q => by omega) (Int.le_refl _), fun o ho k => ?_, fun f hf hfd => ?_, x4.fr (fun q => F _ _ (by simp [vYs]) (by decide) (by decide) (by decide)) (fun q => F _ _ (by simp [vYs]) (by decide) (by decide) (by decide)) (fun q => F _ _ (by simp [vYs]) (by decide) (by decide) (by decide)) (by omega), x5.fr (fun q => F _ _ (by simp [vYs]) (by decide) (by decide) (by decide)), hs, hs1, hcv, x9.add h0 e (by omega) (fun q => by omega)⟩
  · by_cases q : (o : Int) < m 390 p
    · exact ja o q k
    · have : o = (m 390 p).toNat := by omega
      subst this
      exfalso
      omega
  · by_cases q : (f : Int) < m 376 10
    · rw [e8 f q, e9 f q]
      obtain ⟨k1, k2, k3, k4, k5, k6⟩ := x3 f hf q
      rw [e _ (by omega)]
      exact ⟨k1, by omega, k3, k4, k5, k6⟩
    · have : f = (m 376 10).toNat := by omega
      subst this
      rw [h9]
      omega
/-- a jump's aim -/
theorem OX.aim {o : Nat} (h : OX p m n c) (ho : (o : Int) < n) (hw : 9 ≤ m 403 (1000 * p + 8 * o) ∧ m 403 (1000 * p + 8 * o) ≤ 11) (hn : n ≤ 124) (e1 : m' 403 (1000 * p + 8 * o + 3) = n) (e : ∀ q, q ≠ 1000 * p + 8 * o + 3 → m' 403 q = m 403 q) : OX p m' n c := by
  obtain ⟨h1, h2, h3, h4⟩ := h
  refine ⟨fun i hi => ?_, fun i hi => ?_, fun i hi => ?_, fun i j hij hj => ?_⟩
  · by_cases q : i = o
    · subst q
      have := h1 i hi
      unfold OW at this ⊢
      rw [e1, e (1000 * p + 8 * i) (by omega), e (1000 * p + 8 * i + 1) (by omega), e (1000 * p + 8 * i + 2) (by omega), e (1000 * p + 8 * i + 4) (by omega), e (1000 * p + 8 * i + 5) (by omega), e (1000 * p + 8 * i + 6) (by omega), e (1000 * p + 8 * i + 7) (by omega)]
      omega
    · exact (h1 i hi).eq (fun z z1 z2 => e z (by omega))
  · by_cases q : i = o
    · subst q
      rw [e1]
      omega
    · rw [e _ (by omega), e _ (by omega)]
      exact h2 i hi
  · rw [e _ (by omega), e _ (by omega)]
    exact h3 i hi
  · rw [e _ (by omega), e _ (by omega), e _ (by omega), e _ (by omega)]
    exact h4 i j hij hj
theorem JX.aim {o : Nat} (h : JX p m n) (ho : (o : Int) < n) (e1 : m' 403 (1000 * p + 8 * o + 3) = n ∨ m' 403 (1000 * p + 8 * o + 3) = n + 1) (e : ∀ q, q ≠ 1000 * p + 8 * o + 3 → m' 403 q = m 403 q) (hp : ∀ f : Nat, f < 3 → (f : Int) < m 376 10 → m 378 f = 2 → m 379 f ≠ o → (f : Int) < m' 376 10 ∧ m' 378 f = 2 ∧ m' 379 f = m 379 f) : JX p m' n := by
  intro i hi
  rw [e _ (by omega)]
  intro k
  by_cases q : i = o
  · subst q
    left
    unfold JK
    left
    omega
  · rcases h i hi k with j | ⟨f, f1, f2, f3, f4⟩
    · left
      unfold JK at j ⊢
      rw [e _ (by omega)]
      rcases j with j | j
      · exact Or.inl j
      · right
        rw [e _ (by omega)]
        exact j
    · right
      obtain ⟨g1, g2, g3⟩ := hp f f1 f2 f3 (by omega)
      exact ⟨f, f1, g1, g2, by rw [g3]; exact f4⟩
theorem BX.aim {o : Nat} (h : BX p m n) (e : ∀ q, q ≠ 1000 * p + 8 * o + 3 → m' 403 q = m 403 q) (hq : ∀ f : Nat, f < 3 → (f : Int) < m' 376 10 → (f : Int) < m 376 10 ∧ m' 378 f = m 378 f ∧ m' 379 f = m 379 f) : BX p m' n := by
  intro f hf hfd
  obtain ⟨g1, g2, g3⟩ := hq f hf hfd
  rw [g2, g3]
  obtain ⟨k1, k2, k3, k4, k5, k6⟩ := h f hf g1
  rw [e _ (by omega)]
  exact ⟨k1, k2, k3, k4, k5, k6⟩
/-- every jump goes on or back; a body ends with END -/
def JA (p : Nat) (m : yM) (n : Int) : Prop := ∀ o : Nat, (o : Int) < n → m 403 (1000 * p + 8 * o) = 11 → JK p m o
def LE (p : Nat) (m : yM) (n : Int) : Prop := (∀ o : Nat, (o : Int) + 1 = n → m 403 (1000 * p + 8 * o) = 12) ∧ ∀ o : Nat, (o : Int) < n → (9 ≤ m 403 (1000 * p + 8 * o) ∧ m 403 (1000 * p + 8 * o) ≤ 11) → m 403 (1000 * p + 8 * o + 3) < n
def XD (p : Nat) (m : yM) : Prop := OX p m (m 390 p) (m 386 p) ∧ JA p m (m 390 p) ∧ MX p m (m 384 p) (m 390 p) ∧ UX p m (m 383 p) ∧ LE p m (m 390 p) ∧ m 376 17 = m 388 p - 1 + m 387 p ∧ 1 ≤ m 388 p ∧ CV p m (m 387 p) ∧ NS p m (m 390 p) (m 388 p)
def vXc (p a q : Nat) : Bool := (a == 376 && q == 17) || ((a == 383 || a == 384 || a == 386 || a == 387 || a == 388 || a == 390) && q == p) || a == 392 || a == 397 || a == 398 || a == 399 || a == 401 || a == 403
theorem XD.fr (h : XD p m) (e : ∀ a q, vXc p a q = true → m' a q = m a q) : XD p m' := by
  have e3 : ∀ q, m' 403 q = m 403 q := fun q => e _ _ (by simp [vXc])
  have eu : ∀ q, m' 392 q = m 392 q := fun q => e _ _ (by simp [vXc])
  have f7 : ∀ q, m' 397 q = m 397 q := fun q => e _ _ (by simp [vXc])
  have f8 : ∀ q, m' 398 q = m 398 q := fun q => e _ _ (by simp [vXc])
  have f9 : ∀ q, m' 399 q = m 399 q := fun q => e _ _ (by simp [vXc])
  have f1 : ∀ q, m' 401 q = m 401 q := fun q => e _ _ (by simp [vXc])
  unfold XD OX JA JK LE MX UX OW CV NS at h ⊢
  simp only [e3, f1, eu, f7, f8, f9, e 376 17 (by simp [vXc]), e 383 p (by simp [vXc]), e 384 p (by simp [vXc]), e 386 p (by simp [vXc]), e 387 p (by simp [vXc]), e 388 p (by simp [vXc]), e 390 p (by simp [vXc])]
  exact h
theorem XD.fw {w : Nat → Nat → Bool} (h : XD p m) (F : Fr w m m') (hd : ∀ a q, vXc p a q = true → w a q = false) : XD p m' := h.fr (fun a q ha => F a q (hd a q ha))
theorem vXc_vXs {a q : Nat} (h : vXc p a q = true) : vXs p a q = true := by
  simp [vXc] at h
  simp [vXs]
  omega
/-- a body begins: no block stands -/
theorem XD.begin (h : XD p m) (e : ∀ a q, vXc p a q = true → m' a q = m a q) (h10 : m' 376 10 = 0) : XS p m' := by
  obtain ⟨x1, x2, x3, x4, x5, x6, x7⟩ := h.fr e
  exact ⟨x1, fun o ho k => Or.inl (x2 o ho k), fun f _ hf => by omega, x3, x4, x6, x7⟩
/-- a body ends with END -/
theorem XS.fin (h : XS p m) (h10 : m 376 10 = 0) (hE : LE p m (m 390 p)) : XD p m := by
  obtain ⟨x1, x2, x3, x4, x5, x6, x7⟩ := h
  refine ⟨x1, fun o ho k => ?_, x4, x5, hE, x6, x7⟩
  rcases x2 o ho k with q | ⟨f, -, f2, -⟩
  · exact q
  · omega
end BDL

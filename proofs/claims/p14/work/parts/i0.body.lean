section
/-! THE MODEL: blocks, bodies, classes -/
def PD (m : yM) : Int := (if 0 < m 376 10 ∧ m 378 0 ≠ 2 then 1 else 0) + (if 1 < m 376 10 ∧ m 378 1 ≠ 2 then 1 else 0) + (if 2 < m 376 10 ∧ m 378 2 ≠ 2 then 1 else 0)
theorem PD.fr {m m' : yM} (h : m' 376 10 = m 376 10) (e : ∀ q, m' 378 q = m 378 q) : PD m' = PD m := by
  unfold PD
  rw [h, e, e, e]
theorem PD.lo {m : yM} : 0 ≤ PD m ∧ PD m ≤ 3 := by
  unfold PD
  split <;> split <;> split <;> omega
theorem PD.zero {m : yM} (h : m 376 10 = 0) : PD m = 0 := by
  unfold PD
  rw [if_neg (by omega), if_neg (by omega), if_neg (by omega)]
  rfl
theorem PD.opn {m m' : yM} (h0 : 0 ≤ m 376 10) (h : m' 376 10 = m 376 10 + 1) (e : ∀ q : Nat, (q : Int) < m 376 10 → m' 378 q = m 378 q) : PD m' ≤ PD m + 1 := by
  have e0 := e 0
  have e1 := e 1
  have e2 := e 2
  unfold PD
  split <;> split <;> split <;> split <;> split <;> split <;> omega
/-- a block is closed, or turned to its else -/
theorem PD.close {m m' : yM} (h1 : 1 ≤ m 376 10 ∧ m 376 10 ≤ 3) (e : ∀ q : Nat, (q : Int) < m 376 10 - 1 → m' 378 q = m 378 q) (h : (m' 376 10 = m 376 10 - 1) ∨ (m' 376 10 = m 376 10 ∧ m' 378 (m 376 10 - 1).toNat = 2)) : PD m' ≤ PD m ∧ (m 378 (m 376 10 - 1).toNat ≠ 2 → PD m' + 1 ≤ PD m) := by
  have e0 := e 0
  have e1 := e 1
  have h3 : m 376 10 = 1 ∨ m 376 10 = 2 ∨ m 376 10 = 3 := by omega
  rcases h3 with k | k | k <;> rw [k] at h ⊢ <;> simp at h ⊢ <;> unfold PD <;> rw [k] <;> rcases h with h | ⟨h, h'⟩ <;> rw [h] <;> constructor <;> intros <;> split <;> split <;> split <;> split <;> split <;> split <;> omega
section BDL
variable {p : Nat} {m m' : yM} {n c c2 : Int}
theorem JX.add' (h : JX p m n) (hO : OX p m n c) (hn : 0 ≤ n) (e : ∀ q, q < 1000 * p + 8 * n.toNat ∨ 1000 * p + 8 * n.toNat + 8 ≤ q → m' 403 q = m 403 q) (hp : ∀ f : Nat, f < 3 → (f : Int) < m 376 10 → (f : Int) < m' 376 10 ∧ m' 378 f = m 378 f ∧ m' 379 f = m 379 f) : JX p m' n := by
  intro o ho
  rw [e _ (by omega)]
  intro k
  have hb := hO.2.1 o ho (by omega)
  have hw := hO.1 o ho
  have e3 : m' 403 (1000 * p + 8 * o + 3) = m 403 (1000 * p + 8 * o + 3) := e _ (by omega)
  rcases h o ho k with q | ⟨f, f1, f2, f3, f4⟩
  · left
    unfold JK at q ⊢
    rw [e3]
    rcases q with q | q
    · exact Or.inl q
    · by_cases z : m 403 (1000 * p + 8 * o + 3) < n
      · right
        have h0 : 0 ≤ m 403 (1000 * p + 8 * o + 3) := hw.2.2.2.1.1
        rw [e _ (by omega)]
        exact q
      · left
        omega
  · right
    obtain ⟨g1, g2, g3⟩ := hp f f1 f2
    exact ⟨f, f1, g1, by rw [g2]; exact f3, by rw [g3]; exact f4⟩
theorem XS.opn (h : XS p m) (h0 : 0 ≤ m 390 p) (hd : 0 ≤ m 376 10 ∧ m 376 10 ≤ 2) (F : ∀ a q, vYs p a q = true → a ≠ 376 → a ≠ 378 → a ≠ 379 → m' a q = m a q) (e : ∀ q, q < 1000 * p + 8 * (m 390 p).toNat ∨ 1000 * p + 8 * (m 390 p).toNat + 8 ≤ q → m' 403 q = m 403 q) (hw : OW m' (1000 * p + 8 * (m 390 p).toNat)) (ht : m' 403 (1000 * p + 8 * (m 390 p).toNat + 3) ≤ m 390 p + 1) (hb : (m' 378 (m 376 10).toNat = 1 ∧ m' 403 (1000 * p + 8 * (m 390 p).toNat) = 9) ∨ (m' 378 (m 376 10).toNat = 3 ∧ m' 403 (1000 * p + 8 * (m 390 p).toNat) = 10)) (hd' : m' 376 10 = m 376 10 + 1) (e8 : ∀ q : Nat, (q : Int) < m 376 10 → m' 378 q = m 378 q) (e9 : ∀ q : Nat, (q : Int) < m 376 10 → m' 379 q = m 379 q) (h9 : m' 379 (m 376 10).toNat = m 390 p) (hcc : m' 386 p = m 386 p) (hn : m' 390 p = m 390 p + 1) (hs : m' 376 17 = m' 388 p - 1 + m' 387 p) (hs1 : 1 ≤ m' 388 p) (hcv : CV p m' (m' 387 p)) (hs2 : m' 388 p = m 388 p) : XS p m' := by
  obtain ⟨x1, x2, x3, x4, x5, -, -, -, x9⟩ := h
  have ja := x2.add' x1 h0 e (fun f f1 f2 => ⟨by omega, e8 f f2, e9 f f2⟩)
  unfold XS
  rw [hn, hcc, F 383 p (by simp [vYs]) (by decide) (by decide) (by decide), F 384 p (by simp [vYs]) (by decide) (by decide) (by decide)]
  refine ⟨x1.add h0 e hw (fun _ => ht) (fun q => by omega) (Int.le_refl _), fun o ho k => ?_, fun f hf hfd => ?_, x4.fr (fun q => F _ _ (by simp [vYs]) (by decide) (by decide) (by decide)) (fun q => F _ _ (by simp [vYs]) (by decide) (by decide) (by decide)) (fun q => F _ _ (by simp [vYs]) (by decide) (by decide) (by decide)) (by omega), x5.fr (fun q => F _ _ (by simp [vYs]) (by decide) (by decide) (by decide)), hs, hs1, hcv, x9.add h0 e (by omega) (fun q => by omega)⟩
  · by_cases q : (o : Int) < m 390 p
    · exact ja o q k
    · have : o = (m 390 p).toNat := by omega
      subst this
      exfalso
      omega
  · by_cases q : (f : Int) < m 376 10
    · rw [e8 f q, e9 f q]
      obtain ⟨k1, k2, k3, k4, k5, k6⟩ := x3 f hf q
      rw [e _ (by omega)]
      exact ⟨k1, by omega, k3, k4, k5, k6⟩
    · have : f = (m 376 10).toNat := by omega
      subst this
      rw [h9]
      omega
/-- a jump's aim -/
theorem OX.aim {o : Nat} (h : OX p m n c) (ho : (o : Int) < n) (hw : 9 ≤ m 403 (1000 * p + 8 * o) ∧ m 403 (1000 * p + 8 * o) ≤ 11) (hn : n ≤ 124) (e1 : m' 403 (1000 * p + 8 * o + 3) = n) (e : ∀ q, q ≠ 1000 * p + 8 * o + 3 → m' 403 q = m 403 q) : OX p m' n c := by
  obtain ⟨h1, h2, h3, h4⟩ := h
  refine ⟨fun i hi => ?_, fun i hi => ?_, fun i hi => ?_, fun i j hij hj => ?_⟩
  · by_cases q : i = o
    · subst q
      have := h1 i hi
      unfold OW at this ⊢
      rw [e1, e (1000 * p + 8 * i) (by omega), e (1000 * p + 8 * i + 1) (by omega), e (1000 * p + 8 * i + 2) (by omega), e (1000 * p + 8 * i + 4) (by omega), e (1000 * p + 8 * i + 5) (by omega), e (1000 * p + 8 * i + 6) (by omega), e (1000 * p + 8 * i + 7) (by omega)]
      omega
    · exact (h1 i hi).eq (fun z z1 z2 => e z (by omega))
  · by_cases q : i = o
    · subst q
      rw [e1]
      omega
    · rw [e _ (by omega), e _ (by omega)]
      exact h2 i hi
  · rw [e _ (by omega), e _ (by omega)]
    exact h3 i hi
  · rw [e _ (by omega), e _ (by omega), e _ (by omega), e _ (by omega)]
    exact h4 i j hij hj
theorem JX.aim {o : Nat} (h : JX p m n) (ho : (o : Int) < n) (e1 : m' 403 (1000 * p + 8 * o + 3) = n ∨ m' 403 (1000 * p + 8 * o + 3) = n + 1) (e : ∀ q, q ≠ 1000 * p + 8 * o + 3 → m' 403 q = m 403 q) (hp : ∀ f : Nat, f < 3 → (f : Int) < m 376 10 → m 378 f = 2 → m 379 f ≠ o → (f : Int) < m' 376 10 ∧ m' 378 f = 2 ∧ m' 379 f = m 379 f) : JX p m' n := by
  intro i hi
  rw [e _ (by omega)]
  intro k
  by_cases q : i = o
  · subst q
    left
    unfold JK
    left
    omega
  · rcases h i hi k with j | ⟨f, f1, f2, f3, f4⟩
    · left
      unfold JK at j ⊢
      rw [e _ (by omega)]
      rcases j with j | j
      · exact Or.inl j
      · right
        rw [e _ (by omega)]
        exact j
    · right
      obtain ⟨g1, g2, g3⟩ := hp f f1 f2 f3 (by omega)
      exact ⟨f, f1, g1, g2, by rw [g3]; exact f4⟩
theorem BX.aim {o : Nat} (h : BX p m n) (e : ∀ q, q ≠ 1000 * p + 8 * o + 3 → m' 403 q = m 403 q) (hq : ∀ f : Nat, f < 3 → (f : Int) < m' 376 10 → (f : Int) < m 376 10 ∧ m' 378 f = m 378 f ∧ m' 379 f = m 379 f) : BX p m' n := by
  intro f hf hfd
  obtain ⟨g1, g2, g3⟩ := hq f hf hfd
  rw [g2, g3]
  obtain ⟨k1, k2, k3, k4, k5, k6⟩ := h f hf g1
  rw [e _ (by omega)]
  exact ⟨k1, k2, k3, k4, k5, k6⟩
/-- every jump goes on or back; a body ends with END -/
def JA (p : Nat) (m : yM) (n : Int) : Prop := ∀ o : Nat, (o : Int) < n → m 403 (1000 * p + 8 * o) = 11 → JK p m o
def LE (p : Nat) (m : yM) (n : Int) : Prop := (∀ o : Nat, (o : Int) + 1 = n → m 403 (1000 * p + 8 * o) = 12) ∧ ∀ o : Nat, (o : Int) < n → (9 ≤ m 403 (1000 * p + 8 * o) ∧ m 403 (1000 * p + 8 * o) ≤ 11) → m 403 (1000 * p + 8 * o + 3) < n
def XD (p : Nat) (m : yM) : Prop := OX p m (m 390 p) (m 386 p) ∧ JA p m (m 390 p) ∧ MX p m (m 384 p) (m 390 p) ∧ UX p m (m 383 p) ∧ LE p m (m 390 p) ∧ m 376 17 = m 388 p - 1 + m 387 p ∧ 1 ≤ m 388 p ∧ CV p m (m 387 p) ∧ NS p m (m 390 p) (m 388 p)
def vXc (p a q : Nat) : Bool := (a == 376 && q == 17) || ((a == 383 || a == 384 || a == 386 || a == 387 || a == 388 || a == 390) && q == p) || a == 392 || a == 397 || a == 398 || a == 399 || a == 401 || a == 403
theorem XD.fr (h : XD p m) (e : ∀ a q, vXc p a q = true → m' a q = m a q) : XD p m' := by
  have e3 : ∀ q, m' 403 q = m 403 q := fun q => e _ _ (by simp [vXc])
  have eu : ∀ q, m' 392 q = m 392 q := fun q => e _ _ (by simp [vXc])
  have f7 : ∀ q, m' 397 q = m 397 q := fun q => e _ _ (by simp [vXc])
  have f8 : ∀ q, m' 398 q = m 398 q := fun q => e _ _ (by simp [vXc])
  have f9 : ∀ q, m' 399 q = m 399 q := fun q => e _ _ (by simp [vXc])
  have f1 : ∀ q, m' 401 q = m 401 q := fun q => e _ _ (by simp [vXc])
  unfold XD OX JA JK LE MX UX OW CV NS at h ⊢
  simp only [e3, f1, eu, f7, f8, f9, e 376 17 (by simp [vXc]), e 383 p (by simp [vXc]), e 384 p (by simp [vXc]), e 386 p (by simp [vXc]), e 387 p (by simp [vXc]), e 388 p (by simp [vXc]), e 390 p (by simp [vXc])]
  exact h
theorem XD.fw {w : Nat → Nat → Bool} (h : XD p m) (F : Fr w m m') (hd : ∀ a q, vXc p a q = true → w a q = false) : XD p m' := h.fr (fun a q ha => F a q (hd a q ha))
theorem vXc_vXs {a q : Nat} (h : vXc p a q = true) : vXs p a q = true := by
  simp [vXc] at h
  simp [vXs]
  omega
/-- a body begins: no block stands -/
theorem XD.begin (h : XD p m) (e : ∀ a q, vXc p a q = true → m' a q = m a q) (h10 : m' 376 10 = 0) : XS p m' := by
  obtain ⟨x1, x2, x3, x4, x5, x6, x7⟩ := h.fr e
  exact ⟨x1, fun o ho k => Or.inl (x2 o ho k), fun f _ hf => by omega, x3, x4, x6, x7⟩
/-- a body ends with END -/
theorem XS.fin (h : XS p m) (h10 : m 376 10 = 0) (hE : LE p m (m 390 p)) : XD p m := by
  obtain ⟨x1, x2, x3, x4, x5, x6, x7⟩ := h
  refine ⟨x1, fun o ho k => ?_, x4, x5, hE, x6, x7⟩
  rcases x2 o ho k with q | ⟨f, -, f2, -⟩
  · exact q
  · omega
end BDL
end
section
/-! THE MODEL: a block ends -/
section CLL
variable {p : Nat} {m m1 m2 m' : yM}
theorem XS.cls {o : Nat} (h : XS p m) (ho : (o : Int) < m 390 p) (hw : 9 ≤ m 403 (1000 * p + 8 * o) ∧ m 403 (1000 * p + 8 * o) ≤ 11) (hn : m 390 p ≤ 124) (hd : 1 ≤ m 376 10 ∧ m 376 10 ≤ 3) (hb : m 379 (m 376 10 - 1).toNat = o) (e1 : m' 403 (1000 * p + 8 * o + 3) = m 390 p) (e : ∀ q, q ≠ 1000 * p + 8 * o + 3 → m' 403 q = m 403 q) (hd' : m' 376 10 = m 376 10 - 1) (F : ∀ a q, vXs p a q = true → a ≠ 403 → ¬ (a = 376 ∧ q = 10) → m' a q = m a q) : XS p m' := by
  obtain ⟨x1, x2, x3, x4, x5, x6, x7⟩ := h
  have e8 : ∀ q, m' 378 q = m 378 q := fun q => F _ _ (by simp [vXs]) (by decide) (by omega)
  have e9 : ∀ q, m' 379 q = m 379 q := fun q => F _ _ (by simp [vXs]) (by decide) (by omega)
  have s1 := F 383 p (by simp [vXs]) (by decide) (by omega)
  have s2 := F 384 p (by simp [vXs]) (by decide) (by omega)
  have s3 := F 386 p (by simp [vXs]) (by decide) (by omega)
  have s4 := F 387 p (by simp [vXs]) (by decide) (by omega)
  have s5 := F 388 p (by simp [vXs]) (by decide) (by omega)
  have s6 := F 390 p (by simp [vXs]) (by decide) (by omega)
  have s7 := F 376 17 (by simp [vXs]) (by decide) (by omega)
  unfold XS
  rw [s1, s2, s3, s4, s5, s6, s7]
  refine ⟨x1.aim ho hw hn e1 e, x2.aim ho (Or.inl e1) e (fun f f1 f2 f3 f4 => ⟨?_, by rw [e8]; exact f3, e9 f⟩), x3.aim e (fun f f1 f2 => ⟨by omega, e8 f, e9 f⟩), x4.fr (fun q => F _ _ (by simp [vXs]) (by decide) (by omega)) (fun q => F _ _ (by simp [vXs]) (by decide) (by omega)) (fun q => F _ _ (by simp [vXs]) (by decide) (by omega)) (Int.le_refl _), x5.fr (fun q => F _ _ (by simp [vXs]) (by decide) (by omega)), x6, x7.1, x7.2.1.fr (fun q => F _ _ (by simp [vXs]) (by decide) (by omega)), x7.2.2.aim (by omega) e⟩
  by_cases q : (f : Int) < m 376 10 - 1
  · omega
  · exfalso
    have : f = (m 376 10 - 1).toNat := by omega
    subst this
    exact f4 hb
/-- the else: a jump, whose aim is wanting, behind the first block -/
theorem XS.els {o : Nat} (h : XS p m) (h0 : 0 ≤ m 390 p ∧ m 390 p ≤ 123) (ho : (o : Int) < m 390 p) (hw : m 403 (1000 * p + 8 * o) = 9) (hd : 1 ≤ m 376 10 ∧ m 376 10 ≤ 3) (hb8 : m 378 (m 376 10 - 1).toNat = 1)
    (e : ∀ q, q < 1000 * p + 8 * (m 390 p).toNat ∨ 1000 * p + 8 * (m 390 p).toNat + 8 ≤ q → m1 403 q = m 403 q) (hw1 : OW m1 (1000 * p + 8 * (m 390 p).toNat)) (h11 : m1 403 (1000 * p + 8 * (m 390 p).toNat) = 11) (ht : m1 403 (1000 * p + 8 * (m 390 p).toNat + 3) = 0)
    (e1 : m2 403 (1000 * p + 8 * o + 3) = m 390 p + 1) (e2 : ∀ q, q ≠ 1000 * p + 8 * o + 3 → m2 403 q = m1 403 q)
    (e3 : ∀ q, m' 403 q = m2 403 q) (hn : m' 390 p = m 390 p + 1) (hd' : m' 376 10 = m 376 10) (b8 : m' 378 (m 376 10 - 1).toNat = 2) (b9 : m' 379 (m 376 10 - 1).toNat = m 390 p) (e8 : ∀ q, q ≠ (m 376 10 - 1).toNat → m' 378 q = m 378 q) (e9 : ∀ q, q ≠ (m 376 10 - 1).toNat → m' 379 q = m 379 q)
    (F : ∀ a q, vXs p a q = true → a ≠ 403 → a ≠ 376 → a ≠ 378 → a ≠ 379 → a ≠ 390 → m' a q = m a q) (h17 : m' 376 17 = m 376 17) : XS p m' := by
  obtain ⟨x1, x2, x3, x4, x5, x6, x7⟩ := h
  have o1 : OX p m1 (m 390 p + 1) (m 386 p) := x1.add h0.1 e hw1 (fun _ => by omega) (fun q => by omega) (Int.le_refl _)
  have ew : m1 403 (1000 * p + 8 * o) = m 403 (1000 * p + 8 * o) := e _ (by omega)
  have o2 : OX p m2 (m 390 p + 1) (m 386 p) := o1.aim (by omega) (by omega) (by omega) e1 e2
  have o3 : OX p m' (m 390 p + 1) (m 386 p) := by
    unfold OX OW at o2 ⊢
    simp only [e3]
    exact o2
  -- the jumps that stood
  let m3 : yM := fun a q => if a = 403 then m1 403 q else m a q
  have j1 : JX p m3 (m 390 p) := x2.add' (m' := m3) x1 h0.1 (fun q hq => by simp [m3]; exact e q hq) (fun f f1 f2 => ⟨by simpa [m3] using f2, by simp [m3], by simp [m3]⟩)
  have j2 : JX p m' (m 390 p) := j1.aim (m' := m') ho (Or.inr (by rw [e3]; exact e1)) (fun q hq => by rw [e3, e2 q hq]; simp [m3]) (fun f f1 f2 f3 f4 => by
    simp [m3] at f2 f3 f4 ⊢
    have hf : f ≠ (m 376 10 - 1).toNat := fun q => by subst q; omega
    exact ⟨by rw [hd']; exact f2, by rw [e8 f hf]; exact f3, e9 f hf⟩)
  have s1 := F 383 p (by simp [vXs]) (by decide) (by decide) (by decide) (by decide) (by decide)
  have s2 := F 384 p (by simp [vXs]) (by decide) (by decide) (by decide) (by decide) (by decide)
  have s3 := F 386 p (by simp [vXs]) (by decide) (by decide) (by decide) (by decide) (by decide)
  have s4 := F 387 p (by simp [vXs]) (by decide) (by decide) (by decide) (by decide) (by decide)
  have s5 := F 388 p (by simp [vXs]) (by decide) (by decide) (by decide) (by decide) (by decide)
  have wn : m' 403 (1000 * p + 8 * (m 390 p).toNat) = 11 := by rw [e3, e2 _ (by omega)]; exact h11
  unfold XS
  rw [s1, s2, s3, s4, s5, hn, h17]
  refine ⟨o3, fun i hi k => ?_, fun f hf hfd => ?_, x4.fr (fun q => F _ _ (by simp [vXs]) (by decide) (by decide) (by decide) (by decide) (by decide)) (fun q => F _ _ (by simp [vXs]) (by decide) (by decide) (by decide) (by decide) (by decide)) (fun q => F _ _ (by simp [vXs]) (by decide) (by decide) (by decide) (by decide) (by decide)) (by omega), x5.fr (fun q => F _ _ (by simp [vXs]) (by decide) (by decide) (by decide) (by decide) (by decide)), x6, x7.1, x7.2.1.fr (fun q => F _ _ (by simp [vXs]) (by decide) (by decide) (by decide) (by decide) (by decide)), (NS.aim (m' := m2) (x7.2.2.add (m' := m1) h0.1 e (Int.le_refl _) (fun q => by omega)) (o := o) (by omega) e2).fr e3⟩
  · by_cases q : (i : Int) < m 390 p
    · exact j2 i q k
    · right
      exact ⟨(m 376 10 - 1).toNat, by omega, by omega, b8, by rw [b9]; omega⟩
  · by_cases q : f = (m 376 10 - 1).toNat
    · subst q
      rw [b8, b9]
      omega
    · rw [hd'] at hfd
      rw [e8 f q, e9 f q]
      obtain ⟨k1, k2, k3, k4, k5, k6⟩ := x3 f hf hfd
      have : m' 403 (1000 * p + 8 * (m 379 f).toNat) = m 403 (1000 * p + 8 * (m 379 f).toNat) := by rw [e3, e2 _ (by omega), e _ (by omega)]
      rw [this]
      exact ⟨k1, by omega, k3, k4, k5, k6⟩
end CLL
end
section
/-! CONTRACTS: the model, bodies. Printed by wip/whole/gen98.py -/
def wBd0 (a q : Nat) : Bool := wSt0 a q || (a == 376 && (q == 9 || q == 10)) || a == 378 || a == 379
theorem wNx_wBd0 : ∀ a q, wNx a q = true → wBd0 a q = true := by
  intro a q h
  have := wNx_wSt0 a q h
  simp [wBd0, this]
theorem wWr_wBd0 : ∀ a q, wWr a q = true → wBd0 a q = true := by
  intro a q h
  have := wWr_wSt0 a q h
  simp [wBd0, this]
theorem wNw_wBd0 : ∀ a q, wNw a q = true → wBd0 a q = true := by
  intro a q h
  have := wNw_wSt0 a q h
  simp [wBd0, this]
theorem wVp0_wBd0 : ∀ a q, wVp0 a q = true → wBd0 a q = true := by
  intro a q h
  have := wVp0_wSt0 a q h
  simp [wBd0, this]
theorem wVr0_wBd0 : ∀ a q, wVr0 a q = true → wBd0 a q = true := by
  intro a q h
  have := wVr0_wSt0 a q h
  simp [wBd0, this]
theorem wEm0_wBd0 : ∀ a q, wEm0 a q = true → wBd0 a q = true := by
  intro a q h
  have := wEm0_wSt0 a q h
  simp [wBd0, this]
theorem wSt0_wBd0 : ∀ a q, wSt0 a q = true → wBd0 a q = true := by
  intro a q h
  simp [wBd0, h]
theorem wBd0_Y : ∀ a q, vYs 0 a q = true → a ≠ 376 → a ≠ 378 → a ≠ 379 → wBd0 a q = false := by
  intro a q h h1 h2 h3
  have := wSt0_Y a q h
  simp [wBd0, this, h1, h2, h3]
theorem wNx_Y0 : ∀ a q, vYs 0 a q = true → wNx a q = false := by
  intro a q h
  cases e : wNx a q with
  | false => rfl
  | true => have := wNx_wSt0 a q e; rw [wSt0_Y a q h] at this; cases this
theorem wNw_Y0 : ∀ a q, vYs 0 a q = true → wNw a q = false := by
  intro a q h
  cases e : wNw a q with
  | false => rfl
  | true => have := wNw_wSt0 a q e; rw [wSt0_Y a q h] at this; cases this
theorem wVr0_Y0 : ∀ a q, vYs 0 a q = true → wVr0 a q = false := by
  intro a q h
  cases e : wVr0 a q with
  | false => rfl
  | true => have := wVr0_wSt0 a q e; rw [wSt0_Y a q h] at this; cases this
theorem wEm0_Y0 : ∀ a q, vYs 0 a q = true → wEm0 a q = false := by
  intro a q h
  cases e : wEm0 a q with
  | false => rfl
  | true => have := wEm0_wSt0 a q e; rw [wSt0_Y a q h] at this; cases this
theorem wEm0_Z : ∀ a q, a ≠ 403 → a ≠ 390 → wEm0 a q = false := by
  intro a q h1 h2
  simp [wEm0, h1, h2]
theorem wAi0_Z : ∀ a q, a ≠ 403 → wAi0 a q = false := by
  intro a q h1
  simp [wAi0, h1]
theorem wAi0_wBd0 : ∀ a q, wAi0 a q = true → wBd0 a q = true := by
  intro a q h
  simp [wAi0] at h
  simp [wBd0, wSt0]
  omega
set_option maxRecDepth 100000 in
theorem t131_0 {L : Nat} {xs : Nat → Int32} {d nn : Nat} {m : yM} (hT : Ty gT m) (hl : m 376 6 ≤ m 376 1) (hn : m 376 18 = 1) (h8 : m 376 8 < 0) (hX : XS 0 m) (h84 : 1 ≤ m 384 0) (h90 : m 390 0 ≤ 100) (h3 : m 376 3 ≠ 0) : YC (gZ L xs) (d + 5) 131 [.ref 376] m nn (qU (fun m' n' => n' = nn ∧ Ty gT m' ∧ Fr wBd0 m m' ∧ m' 376 6 ≤ m' 376 1 ∧ (m' 376 9 = m 376 9 ∧ (0 ≤ m' 376 8 ∨ (m' 376 8 < 0 ∧ mu m' < mu m ∧ (m' 390 0 = m 390 0 + 1 ∧ PD m' ≤ PD m + 1) ∧ XS 0 m'))))) := by
  have tb8 := hT.atp 376 8 (-1) 320 rfl
  have tb10 := hT.atp 376 10 0 3 rfl
  have tc384 := hT.atp 384 0 0 10 rfl
  have tc386 := hT.atp 386 0 0 12 rfl
  have tc387 := hT.atp 387 0 0 8 rfl
  have tc388 := hT.atp 388 0 0 12 rfl
  have tc389 := hT.atp 389 0 0 48 rfl
  have tc390 := hT.atp 390 0 0 125 rfl
  refine YC.mkB [some (.ref 376), none, none] kn131 rfl rfl ?_
  have hF : Fr wBd0 m m := Fr.rf
  refine y_aload 1 c131_0 rfl rfl rfl ?_
  have tb8948 := hT.atp 376 3 0 3 rfl
  refine y_callP 4 [.ref 376] [] c131_1 rfl rfl rfl rfl rfl (ycanO km112 ko376) (t112 hT) (fun r8949 hr8949 => ?_)
  refine y_istore 5 c131_4 rfl rfl ?_
  refine y_aload 6 c131_5 rfl rfl rfl ?_
  have tb8951 := hT.atp 376 1 0 320 rfl
  have tb8952 := hT.atp 376 6 0 320 rfl
  have tb8953 := hT.atp 376 8 ((-1)) 320 rfl
  refine y_callUB 9 [.ref 376] [] c131_6 rfl rfl rfl rfl rfl (ycanO km99 ko376) (t99u hT (by omega)) (fun mq8950 nq8950 hq8950 => ?_)
  obtain ⟨rfl, hTq8950, hFq8950, hq8950⟩ := hq8950
  have x1q8950 : mq8950 376 1 = m 376 1 := (hFq8950 376 1 rfl)
  have hF8954 := hF.tr hFq8950 wNx_wBd0
  refine y_aload 10 c131_9 rfl rfl rfl ?_
  have es8956 : mq8950 376 1 = m 376 1 := (hFq8950 376 1 rfl)
  have tb8957 := hTq8950.atp 376 3 0 3 rfl
  have tb8958 := hTq8950.atp 376 6 0 320 rfl
  have es8959 : mq8950 376 8 = m 376 8 := (hFq8950 376 8 rfl)
  have es8960 : mq8950 376 18 = m 376 18 := (hFq8950 376 18 rfl)
  have tb8961 := hT.atp 376 18 0 1 rfl
  refine y_callIB 13 [.ref 376] [] c131_10 rfl rfl rfl rfl rfl (ycanO km130 ko376) (t130_0 hTq8950 (by omega) (by omega) (by omega)) (fun rq8955 mq8955 nq8955 hq8955 => ?_)
  obtain ⟨rfl, hTq8955, hFq8955, hq8955⟩ := hq8955
  have x1q8955 : mq8955 376 1 = m 376 1 := ((hFq8955 376 1 rfl).trans (hFq8950 376 1 rfl))
  have hF8962 := hF8954.tr hFq8955 wVr0_wBd0
  refine y_istore 14 c131_13 rfl rfl ?_
  refine y_aload 15 c131_14 rfl rfl rfl ?_
  refine y_getX 18 (mq8955 376 8) c131_15 rfl kf376_8 rfl ?_
  have tb8963 := hTq8955.atp 376 8 ((-1)) 320 rfl
  refine y_if 50 21 c131_18 rfl rfl (yz_ge (by omega)) (fun hb8964 => ?_) (fun hb8964 => ?_)
  · have es8965 : mq8955 376 1 = m 376 1 := ((hFq8955 376 1 rfl).trans (hFq8950 376 1 rfl))
    have tb8966 := hTq8955.atp 376 3 0 3 rfl
    have tb8967 := hTq8955.atp 376 6 0 320 rfl
    have es8968 : mq8955 390 0 = m 390 0 := ((hFq8955 390 0 rfl).trans (hFq8950 390 0 rfl))
    have es8969 : mq8955 386 0 = m 386 0 := ((hFq8955 386 0 rfl).trans (hFq8950 386 0 rfl))
    have es8970 : mq8955 387 0 = m 387 0 := ((hFq8955 387 0 rfl).trans (hFq8950 387 0 rfl))
    have es8971 : mq8955 388 0 = m 388 0 := ((hFq8955 388 0 rfl).trans (hFq8950 388 0 rfl))
    have es8972 : mq8955 376 17 = m 376 17 := ((hFq8955 376 17 rfl).trans (hFq8950 376 17 rfl))
    have tb8973 := hT.atp 376 17 0 20 rfl
    have es8974 : mq8955 384 0 = m 384 0 := ((hFq8955 384 0 rfl).trans (hFq8950 384 0 rfl))
    have es8975 : mq8955 376 10 = m 376 10 := ((hFq8955 376 10 rfl).trans (hFq8950 376 10 rfl))
    have es8976 : mq8955 376 9 = m 376 9 := ((hFq8955 376 9 rfl).trans (hFq8950 376 9 rfl))
    have tb8977 := hT.atp 376 9 0 40 rfl
    exact y_retU c131_50 ⟨rfl, hTq8955, hF8962, by omega, by omega, Or.inl (by omega)⟩
  · refine y_aload 22 c131_21 rfl rfl rfl ?_
    refine y_aload 23 c131_22 rfl rfl rfl ?_
    refine y_iconst 25 c131_23 rfl ?_
    have tb8978 := hTq8955.atp 376 3 0 3 rfl
    refine y_callP 28 [.ref 376, yI 123] [.ref 376] c131_25 rfl rfl rfl rfl rfl (ycanO km117 ko376) (t117 hTq8955 (by omega)) (fun r8979 hr8979 => ?_)
    refine y_if 43 31 c131_28 rfl rfl (yz_eq (by omega)) (fun hb8980 => ?_) (fun hb8980 => ?_)
    · refine y_iconst 44 c131_43 rfl ?_
      have es8982 : mq8955 376 1 = m 376 1 := ((hFq8955 376 1 rfl).trans (hFq8950 376 1 rfl))
      have tb8983 := hTq8955.atp 376 6 0 320 rfl
      refine y_callIB 47 [.ref 376, yI 0] [] c131_44 rfl rfl rfl rfl rfl (ycanO km105 ko376) (t105 (g := 0) hTq8955 (by omega) (by omega)) (fun rq8981 mq8981 nq8981 hq8981 => ?_)
      obtain ⟨rfl, hTq8981, hFq8981, hq8981⟩ := hq8981
      have x1q8981 : mq8981 376 1 = m 376 1 := ((hFq8981 376 1 rfl).trans ((hFq8955 376 1 rfl).trans (hFq8950 376 1 rfl)))
      have hF8984 := hF8962.tr hFq8981 wNw_wBd0
      refine y_if 51 50 c131_47 rfl rfl (yz_ne (by omega)) (fun hb8985 => ?_) (fun hb8985 => ?_)
      · exfalso; omega
      · have es8986 : mq8981 376 1 = m 376 1 := ((hFq8981 376 1 rfl).trans ((hFq8955 376 1 rfl).trans (hFq8950 376 1 rfl)))
        have tb8987 := hTq8981.atp 376 3 0 3 rfl
        have tb8988 := hTq8981.atp 376 6 0 320 rfl
        have tb8989 := hTq8981.atp 376 8 ((-1)) 320 rfl
        have es8990 : mq8981 390 0 = m 390 0 := ((hFq8981 390 0 rfl).trans ((hFq8955 390 0 rfl).trans (hFq8950 390 0 rfl)))
        have es8991 : mq8981 386 0 = m 386 0 := ((hFq8981 386 0 rfl).trans ((hFq8955 386 0 rfl).trans (hFq8950 386 0 rfl)))
        have es8992 : mq8981 387 0 = m 387 0 := ((hFq8981 387 0 rfl).trans ((hFq8955 387 0 rfl).trans (hFq8950 387 0 rfl)))
        have es8993 : mq8981 388 0 = m 388 0 := ((hFq8981 388 0 rfl).trans ((hFq8955 388 0 rfl).trans (hFq8950 388 0 rfl)))
        have es8994 : mq8981 376 17 = m 376 17 := ((hFq8981 376 17 rfl).trans ((hFq8955 376 17 rfl).trans (hFq8950 376 17 rfl)))
        have tb8995 := hT.atp 376 17 0 20 rfl
        have es8996 : mq8981 384 0 = m 384 0 := ((hFq8981 384 0 rfl).trans ((hFq8955 384 0 rfl).trans (hFq8950 384 0 rfl)))
        have es8997 : mq8981 376 10 = m 376 10 := ((hFq8981 376 10 rfl).trans ((hFq8955 376 10 rfl).trans (hFq8950 376 10 rfl)))
        have es8998 : mq8981 376 9 = m 376 9 := ((hFq8981 376 9 rfl).trans ((hFq8955 376 9 rfl).trans (hFq8950 376 9 rfl)))
        have tb8999 := hT.atp 376 9 0 40 rfl
        exact y_retU c131_50 ⟨rfl, hTq8981, hF8984, by omega, by omega, Or.inl (by omega)⟩
    · refine y_aload 32 c131_31 rfl rfl rfl ?_
      refine y_getX 35 (m 376 10) c131_32 rfl kf376_10 ((hFq8955 376 10 rfl).trans (hFq8950 376 10 rfl)) ?_
      refine y_iconst 36 c131_35 rfl ?_
      refine y_icmp 43 39 c131_36 rfl rfl (yc_ge (by omega) (by omega)) (fun hb9000 => ?_) (fun hb9000 => ?_)
      · refine y_iconst 44 c131_43 rfl ?_
        have es9002 : mq8955 376 1 = m 376 1 := ((hFq8955 376 1 rfl).trans (hFq8950 376 1 rfl))
        have tb9003 := hTq8955.atp 376 6 0 320 rfl
        refine y_callIB 47 [.ref 376, yI 0] [] c131_44 rfl rfl rfl rfl rfl (ycanO km105 ko376) (t105 (g := 0) hTq8955 (by omega) (by omega)) (fun rq9001 mq9001 nq9001 hq9001 => ?_)
        obtain ⟨rfl, hTq9001, hFq9001, hq9001⟩ := hq9001
        have x1q9001 : mq9001 376 1 = m 376 1 := ((hFq9001 376 1 rfl).trans ((hFq8955 376 1 rfl).trans (hFq8950 376 1 rfl)))
        have hF9004 := hF8962.tr hFq9001 wNw_wBd0
        refine y_if 51 50 c131_47 rfl rfl (yz_ne (by omega)) (fun hb9005 => ?_) (fun hb9005 => ?_)
        · exfalso; omega
        · have es9006 : mq9001 376 1 = m 376 1 := ((hFq9001 376 1 rfl).trans ((hFq8955 376 1 rfl).trans (hFq8950 376 1 rfl)))
          have tb9007 := hTq9001.atp 376 3 0 3 rfl
          have tb9008 := hTq9001.atp 376 6 0 320 rfl
          have tb9009 := hTq9001.atp 376 8 ((-1)) 320 rfl
          have es9010 : mq9001 390 0 = m 390 0 := ((hFq9001 390 0 rfl).trans ((hFq8955 390 0 rfl).trans (hFq8950 390 0 rfl)))
          have es9011 : mq9001 386 0 = m 386 0 := ((hFq9001 386 0 rfl).trans ((hFq8955 386 0 rfl).trans (hFq8950 386 0 rfl)))
          have es9012 : mq9001 387 0 = m 387 0 := ((hFq9001 387 0 rfl).trans ((hFq8955 387 0 rfl).trans (hFq8950 387 0 rfl)))
          have es9013 : mq9001 388 0 = m 388 0 := ((hFq9001 388 0 rfl).trans ((hFq8955 388 0 rfl).trans (hFq8950 388 0 rfl)))
          have es9014 : mq9001 376 17 = m 376 17 := ((hFq9001 376 17 rfl).trans ((hFq8955 376 17 rfl).trans (hFq8950 376 17 rfl)))
          have tb9015 := hT.atp 376 17 0 20 rfl
          have es9016 : mq9001 384 0 = m 384 0 := ((hFq9001 384 0 rfl).trans ((hFq8955 384 0 rfl).trans (hFq8950 384 0 rfl)))
          have es9017 : mq9001 376 10 = m 376 10 := ((hFq9001 376 10 rfl).trans ((hFq8955 376 10 rfl).trans (hFq8950 376 10 rfl)))
          have es9018 : mq9001 376 9 = m 376 9 := ((hFq9001 376 9 rfl).trans ((hFq8955 376 9 rfl).trans (hFq8950 376 9 rfl)))
          have tb9019 := hT.atp 376 9 0 40 rfl
          exact y_retU c131_50 ⟨rfl, hTq9001, hF9004, by omega, by omega, Or.inl (by omega)⟩
      · refine y_iconst 40 c131_39 rfl ?_
        refine y_goto 44 c131_40 rfl ?_
        have es9021 : mq8955 376 1 = m 376 1 := ((hFq8955 376 1 rfl).trans (hFq8950 376 1 rfl))
        have tb9022 := hTq8955.atp 376 6 0 320 rfl
        refine y_callIB 47 [.ref 376, yI 1] [] c131_44 rfl rfl rfl rfl rfl (ycanO km105 ko376) (t105 (g := 1) hTq8955 (by omega) (by omega)) (fun rq9020 mq9020 nq9020 hq9020 => ?_)
        obtain ⟨rfl, hTq9020, hFq9020, hq9020⟩ := hq9020
        have x1q9020 : mq9020 376 1 = m 376 1 := ((hFq9020 376 1 rfl).trans ((hFq8955 376 1 rfl).trans (hFq8950 376 1 rfl)))
        have hF9023 := hF8962.tr hFq9020 wNw_wBd0
        refine y_if 51 50 c131_47 rfl rfl (yz_ne (by omega)) (fun hb9024 => ?_) (fun hb9024 => ?_)
        · refine y_aload 52 c131_51 rfl rfl rfl ?_
          refine y_getR 55 c131_52 rfl kf376_11 ?_
          refine y_aload 56 c131_55 rfl rfl rfl ?_
          refine y_getX 59 (m 376 10) c131_56 rfl kf376_10 ((hFq9020 376 10 rfl).trans ((hFq8955 376 10 rfl).trans (hFq8950 376 10 rfl))) ?_
          refine y_iload 60 c131_59 rfl rfl ?_
          refine y_if 67 63 c131_60 rfl rfl (yz_eq (by omega)) (fun hb9025 => ?_) (fun hb9025 => ?_)
          · refine y_iconst 68 c131_67 rfl ?_
            refine y_iastore 69 c131_68 rfl ka378 (by omega) (y_nar0 _) ?_
            have hT9026 := hTq9020.up 378 ((m 376 10).toNat) 1 0 3 rfl (by omega)
            have hF9027 := hF9023.up 378 ((m 376 10).toNat) 1 rfl
            refine y_aload 70 c131_69 rfl rfl rfl ?_
            refine y_getR 73 c131_70 rfl kf376_12 ?_
            refine y_aload 74 c131_73 rfl rfl rfl ?_
            refine y_getX 77 (m 376 10) c131_74 rfl kf376_10 ((yup_na (by decide)).trans ((hFq9020 376 10 rfl).trans ((hFq8955 376 10 rfl).trans (hFq8950 376 10 rfl)))) ?_
            refine y_aload 78 c131_77 rfl rfl rfl ?_
            refine y_iload 79 c131_78 rfl rfl ?_
            refine y_if 87 82 c131_79 rfl rfl (yz_eq (by omega)) (fun hb9028 => ?_) (fun hb9028 => ?_)
            · refine y_iconst 89 c131_87 rfl ?_
              refine y_iload 90 c131_89 rfl rfl ?_
              refine y_iconst 91 c131_90 rfl ?_
              refine y_iconst 92 c131_91 rfl ?_
              have es9030 : (yup mq9020 378 ((m 376 10).toNat) 1) 376 1 = m 376 1 := ((yup_na (by decide)).trans ((hFq9020 376 1 rfl).trans ((hFq8955 376 1 rfl).trans (hFq8950 376 1 rfl))))
              have es9031 : (yup mq9020 378 ((m 376 10).toNat) 1) 376 3 = mq9020 376 3 := rfl
              have tb9032 := hTq9020.atp 376 3 0 3 rfl
              have es9033 : (yup mq9020 378 ((m 376 10).toNat) 1) 376 6 = mq9020 376 6 := rfl
              have tb9034 := hTq9020.atp 376 6 0 320 rfl
              have es9035 : (yup mq9020 378 ((m 376 10).toNat) 1) 376 8 = mq9020 376 8 := rfl
              have tb9036 := hTq9020.atp 376 8 ((-1)) 320 rfl
              have es9037 : (yup mq9020 378 ((m 376 10).toNat) 1) 376 18 = m 376 18 := ((yup_na (by decide)).trans ((hFq9020 376 18 rfl).trans ((hFq8955 376 18 rfl).trans (hFq8950 376 18 rfl))))
              have es9038 : (yup mq9020 378 ((m 376 10).toNat) 1) 390 0 = m 390 0 := ((yup_na (by decide)).trans ((hFq9020 390 0 rfl).trans ((hFq8955 390 0 rfl).trans (hFq8950 390 0 rfl))))
              have es9039 : (yup mq9020 378 ((m 376 10).toNat) 1) 386 0 = m 386 0 := ((yup_na (by decide)).trans ((hFq9020 386 0 rfl).trans ((hFq8955 386 0 rfl).trans (hFq8950 386 0 rfl))))
              have es9040 : (yup mq9020 378 ((m 376 10).toNat) 1) 387 0 = m 387 0 := ((yup_na (by decide)).trans ((hFq9020 387 0 rfl).trans ((hFq8955 387 0 rfl).trans (hFq8950 387 0 rfl))))
              have es9041 : (yup mq9020 378 ((m 376 10).toNat) 1) 388 0 = m 388 0 := ((yup_na (by decide)).trans ((hFq9020 388 0 rfl).trans ((hFq8955 388 0 rfl).trans (hFq8950 388 0 rfl))))
              have es9042 : (yup mq9020 378 ((m 376 10).toNat) 1) 376 17 = m 376 17 := ((yup_na (by decide)).trans ((hFq9020 376 17 rfl).trans ((hFq8955 376 17 rfl).trans (hFq8950 376 17 rfl))))
              have tb9043 := hT.atp 376 17 0 20 rfl
              have es9044 : (yup mq9020 378 ((m 376 10).toNat) 1) 384 0 = m 384 0 := ((yup_na (by decide)).trans ((hFq9020 384 0 rfl).trans ((hFq8955 384 0 rfl).trans (hFq8950 384 0 rfl))))
              have es9045 : (yup mq9020 378 ((m 376 10).toNat) 1) 376 10 = m 376 10 := ((yup_na (by decide)).trans ((hFq9020 376 10 rfl).trans ((hFq8955 376 10 rfl).trans (hFq8950 376 10 rfl))))
              have es9046 : (yup mq9020 378 ((m 376 10).toNat) 1) 376 9 = m 376 9 := ((yup_na (by decide)).trans ((hFq9020 376 9 rfl).trans ((hFq8955 376 9 rfl).trans (hFq8950 376 9 rfl))))
              have tb9047 := hT.atp 376 9 0 40 rfl
              have em9048 : mu (yup mq9020 378 ((m 376 10).toNat) 1) = mu mq9020 := mu_fr (yup_na (by decide)) (yup_na (by decide)) (yup_na (by decide))
              refine y_callIB 95 [.ref 376, yI 9, yI rq8955, yI 0, yI 0] [yI (m 376 10), .ref 379] c131_92 rfl rfl rfl rfl rfl (ycanO km127 ko376) (t127_0 hT9026 (by omega) (by omega) (by omega) (by omega) (by omega) (by omega)) (fun rq9029 mq9029 nq9029 hq9029 => ?_)
              obtain ⟨rfl, hTq9029, hFq9029, hq9029, hE⟩ := hq9029
              unfold EM at hE
              rw [show (yup mq9020 378 ((m 376 10).toNat) 1) 390 0 = m 390 0 from ((yup_na (by decide)).trans ((hFq9020 390 0 rfl).trans ((hFq8955 390 0 rfl).trans (hFq8950 390 0 rfl))))] at hE
              obtain ⟨k1, k2, k3, k4, k5, k6, k7⟩ := hE
              have k8 : ∀ q, q < 1000 * 0 + 8 * (m 390 0).toNat ∨ 1000 * 0 + 8 * (m 390 0).toNat + 8 ≤ q → mq9029 403 q = m 403 q := fun q hq => (k7 q hq).trans (((yup_na (by decide)).trans ((hFq9020 403 q rfl).trans ((hFq8955 403 q rfl).trans (hFq8950 403 q rfl)))))
              have x1q9029 : mq9029 376 1 = m 376 1 := ((hFq9029 376 1 rfl).trans ((yup_na (by decide)).trans ((hFq9020 376 1 rfl).trans ((hFq8955 376 1 rfl).trans (hFq8950 376 1 rfl)))))
              have hF9049 := hF9027.tr hFq9029 wEm0_wBd0
              refine y_iastore 96 c131_95 rfl ka379 (by omega) (y_nar0 _) ?_
              have hT9050 := hTq9029.up 379 ((m 376 10).toNat) rq9029 0 124 rfl (by omega)
              have hF9051 := hF9049.up 379 ((m 376 10).toNat) rq9029 rfl
              refine y_aload 97 c131_96 rfl rfl rfl ?_
              refine y_dup 98 c131_97 rfl rfl ?_
              refine y_getX 101 (m 376 10) c131_98 rfl kf376_10 ((yup_na (by decide)).trans ((hFq9029 376 10 rfl).trans ((yup_na (by decide)).trans ((hFq9020 376 10 rfl).trans ((hFq8955 376 10 rfl).trans (hFq8950 376 10 rfl)))))) ?_
              refine y_iconst 102 c131_101 rfl ?_
              refine y_iadd 103 c131_102 rfl ?_
              refine y_putI 106 c131_103 rfl kf376_10 (y_fit0 _) ?_
              have hT9052 := hT9050.up 376 10 ((m 376 10) + 1) 0 3 rfl (by omega)
              have hF9053 := hF9051.up 376 10 ((m 376 10) + 1) rfl
              have es9054 : (yup (yup mq9029 379 ((m 376 10).toNat) rq9029) 376 10 ((m 376 10) + 1)) 376 1 = m 376 1 := ((yup_nk (by decide)).trans ((yup_na (by decide)).trans ((hFq9029 376 1 rfl).trans ((yup_na (by decide)).trans ((hFq9020 376 1 rfl).trans ((hFq8955 376 1 rfl).trans (hFq8950 376 1 rfl)))))))
              have es9055 : (yup (yup mq9029 379 ((m 376 10).toNat) rq9029) 376 10 ((m 376 10) + 1)) 376 3 = mq9020 376 3 := ((yup_nk (by decide)).trans ((yup_na (by decide)).trans ((hFq9029 376 3 rfl).trans (yup_na (by decide)))))
              have es9056 : (yup (yup mq9029 379 ((m 376 10).toNat) rq9029) 376 10 ((m 376 10) + 1)) 376 6 = mq9020 376 6 := ((yup_nk (by decide)).trans ((yup_na (by decide)).trans ((hFq9029 376 6 rfl).trans (yup_na (by decide)))))
              have es9057 : (yup (yup mq9029 379 ((m 376 10).toNat) rq9029) 376 10 ((m 376 10) + 1)) 376 8 = mq9020 376 8 := ((yup_nk (by decide)).trans ((yup_na (by decide)).trans ((hFq9029 376 8 rfl).trans (yup_na (by decide)))))
              have es9058 : (yup (yup mq9029 379 ((m 376 10).toNat) rq9029) 376 10 ((m 376 10) + 1)) 390 0 = mq9029 390 0 := rfl
              have tb9059 := hTq9029.atp 390 0 0 125 rfl
              have es9060 : (yup (yup mq9029 379 ((m 376 10).toNat) rq9029) 376 10 ((m 376 10) + 1)) 386 0 = m 386 0 := ((yup_na (by decide)).trans ((yup_na (by decide)).trans ((hFq9029 386 0 rfl).trans ((yup_na (by decide)).trans ((hFq9020 386 0 rfl).trans ((hFq8955 386 0 rfl).trans (hFq8950 386 0 rfl)))))))
              have es9061 : (yup (yup mq9029 379 ((m 376 10).toNat) rq9029) 376 10 ((m 376 10) + 1)) 387 0 = m 387 0 := ((yup_na (by decide)).trans ((yup_na (by decide)).trans ((hFq9029 387 0 rfl).trans ((yup_na (by decide)).trans ((hFq9020 387 0 rfl).trans ((hFq8955 387 0 rfl).trans (hFq8950 387 0 rfl)))))))
              have es9062 : (yup (yup mq9029 379 ((m 376 10).toNat) rq9029) 376 10 ((m 376 10) + 1)) 388 0 = m 388 0 := ((yup_na (by decide)).trans ((yup_na (by decide)).trans ((hFq9029 388 0 rfl).trans ((yup_na (by decide)).trans ((hFq9020 388 0 rfl).trans ((hFq8955 388 0 rfl).trans (hFq8950 388 0 rfl)))))))
              have es9063 : (yup (yup mq9029 379 ((m 376 10).toNat) rq9029) 376 10 ((m 376 10) + 1)) 376 17 = m 376 17 := ((yup_nk (by decide)).trans ((yup_na (by decide)).trans ((hFq9029 376 17 rfl).trans ((yup_na (by decide)).trans ((hFq9020 376 17 rfl).trans ((hFq8955 376 17 rfl).trans (hFq8950 376 17 rfl)))))))
              have es9064 : (yup (yup mq9029 379 ((m 376 10).toNat) rq9029) 376 10 ((m 376 10) + 1)) 384 0 = m 384 0 := ((yup_na (by decide)).trans ((yup_na (by decide)).trans ((hFq9029 384 0 rfl).trans ((yup_na (by decide)).trans ((hFq9020 384 0 rfl).trans ((hFq8955 384 0 rfl).trans (hFq8950 384 0 rfl)))))))
              have es9065 : (yup (yup mq9029 379 ((m 376 10).toNat) rq9029) 376 10 ((m 376 10) + 1)) 376 10 = (m 376 10) + 1 := rfl
              have es9066 : (yup (yup mq9029 379 ((m 376 10).toNat) rq9029) 376 10 ((m 376 10) + 1)) 376 9 = m 376 9 := ((yup_nk (by decide)).trans ((yup_na (by decide)).trans ((hFq9029 376 9 rfl).trans ((yup_na (by decide)).trans ((hFq9020 376 9 rfl).trans ((hFq8955 376 9 rfl).trans (hFq8950 376 9 rfl)))))))
              have em9067 : mu (yup (yup mq9029 379 ((m 376 10).toNat) rq9029) 376 10 ((m 376 10) + 1)) = mu mq9020 := mu_fr ((yup_nk (by decide)).trans ((yup_na (by decide)).trans ((hFq9029 376 1 rfl).trans (yup_na (by decide))))) ((yup_nk (by decide)).trans ((yup_na (by decide)).trans ((hFq9029 376 3 rfl).trans (yup_na (by decide))))) ((yup_nk (by decide)).trans ((yup_na (by decide)).trans ((hFq9029 376 6 rfl).trans (yup_na (by decide)))))
              have f0 : (yup (yup mq9029 379 ((m 376 10).toNat) rq9029) 376 10 ((m 376 10) + 1)) 403 (1000 * 0 + 8 * (m 390 0).toNat) = _ := (((yup_na (by decide)).trans (yup_na (by decide)))).trans k2
              have f1 : (yup (yup mq9029 379 ((m 376 10).toNat) rq9029) 376 10 ((m 376 10) + 1)) 403 (1000 * 0 + 8 * (m 390 0).toNat + 1) = _ := (((yup_na (by decide)).trans (yup_na (by decide)))).trans k3
              have f2 : (yup (yup mq9029 379 ((m 376 10).toNat) rq9029) 376 10 ((m 376 10) + 1)) 403 (1000 * 0 + 8 * (m 390 0).toNat + 2) = _ := (((yup_na (by decide)).trans (yup_na (by decide)))).trans k4
              have f3 : (yup (yup mq9029 379 ((m 376 10).toNat) rq9029) 376 10 ((m 376 10) + 1)) 403 (1000 * 0 + 8 * (m 390 0).toNat + 3) = _ := (((yup_na (by decide)).trans (yup_na (by decide)))).trans k5
              have f4 : (yup (yup mq9029 379 ((m 376 10).toNat) rq9029) 376 10 ((m 376 10) + 1)) 403 (1000 * 0 + 8 * (m 390 0).toNat + 4) = _ := (((yup_na (by decide)).trans (yup_na (by decide)))).trans k6
              have hw : OW (yup (yup mq9029 379 ((m 376 10).toNat) rq9029) 376 10 ((m 376 10) + 1)) (1000 * 0 + 8 * (m 390 0).toNat) := by unfold OW; omega
              have g8 : (yup (yup mq9029 379 ((m 376 10).toNat) rq9029) 376 10 ((m 376 10) + 1)) 378 (m 376 10).toNat = _ := ((yup_na (by decide)).trans ((yup_na (by decide)).trans ((hFq9029 378 _ rfl).trans (yup_eq _ _ _ _))))
              have g9 : (yup (yup mq9029 379 ((m 376 10).toNat) rq9029) 376 10 ((m 376 10) + 1)) 379 (m 376 10).toNat = _ := ((yup_na (by decide)).trans (yup_eq _ _ _ _))
              have e8 : ∀ q : Nat, (q : Int) < m 376 10 → (yup (yup mq9029 379 ((m 376 10).toNat) rq9029) 376 10 ((m 376 10) + 1)) 378 q = m 378 q := fun q hq => ((yup_na (by decide)).trans ((yup_na (by decide)).trans ((hFq9029 378 q rfl).trans ((yup_nk (by omega)).trans ((hFq9020 378 q rfl).trans ((hFq8955 378 q rfl).trans (hFq8950 378 q rfl)))))))
              have e9 : ∀ q : Nat, (q : Int) < m 376 10 → (yup (yup mq9029 379 ((m 376 10).toNat) rq9029) 376 10 ((m 376 10) + 1)) 379 q = m 379 q := fun q hq => ((yup_na (by decide)).trans ((yup_nk (by omega)).trans ((hFq9029 379 q rfl).trans ((yup_na (by decide)).trans ((hFq9020 379 q rfl).trans ((hFq8955 379 q rfl).trans (hFq8950 379 q rfl)))))))
              have hsc := hX.2.2.2.2.2
              have hCV := hX.2.2.2.2.2.2.2.1
              have hx : XS 0 (yup (yup mq9029 379 ((m 376 10).toNat) rq9029) 376 10 ((m 376 10) + 1)) := XS.opn hX (by omega) (by omega) (fun a q ha h1 h2 h3 => hF9053 a q (wBd0_Y a q ha h1 h2 h3)) (fun q hq => (((yup_na (by decide)).trans (yup_na (by decide)))).trans (k8 q hq)) hw (by omega) (by omega) (by omega) e8 e9 (by omega) (by omega) (by omega) (by omega) (by omega) (fun c hc => by rw [show (yup (yup mq9029 379 ((m 376 10).toNat) rq9029) 376 10 ((m 376 10) + 1)) 401 (8 * 0 + c) = m 401 (8 * 0 + c) from ((yup_na (by decide)).trans ((yup_na (by decide)).trans ((hFq9029 401 _ rfl).trans ((yup_na (by decide)).trans ((hFq9020 401 _ rfl).trans ((hFq8955 401 _ rfl).trans (hFq8950 401 _ rfl)))))))]; exact hCV c (by omega)) (by omega)
              have hpd := PD.opn (m := m) (m' := yup (yup mq9029 379 ((m 376 10).toNat) rq9029) 376 10 ((m 376 10) + 1)) (by omega) (by omega) e8
              exact y_retU c131_106 ⟨rfl, hT9052, hF9053, by omega, by omega, Or.inr ⟨by omega, by omega, by omega, hx⟩⟩
            · exfalso; omega
          · refine y_iconst 64 c131_63 rfl ?_
            refine y_goto 68 c131_64 rfl ?_
            refine y_iastore 69 c131_68 rfl ka378 (by omega) (y_nar0 _) ?_
            have hT9068 := hTq9020.up 378 ((m 376 10).toNat) 3 0 3 rfl (by omega)
            have hF9069 := hF9023.up 378 ((m 376 10).toNat) 3 rfl
            refine y_aload 70 c131_69 rfl rfl rfl ?_
            refine y_getR 73 c131_70 rfl kf376_12 ?_
            refine y_aload 74 c131_73 rfl rfl rfl ?_
            refine y_getX 77 (m 376 10) c131_74 rfl kf376_10 ((yup_na (by decide)).trans ((hFq9020 376 10 rfl).trans ((hFq8955 376 10 rfl).trans (hFq8950 376 10 rfl)))) ?_
            refine y_aload 78 c131_77 rfl rfl rfl ?_
            refine y_iload 79 c131_78 rfl rfl ?_
            refine y_if 87 82 c131_79 rfl rfl (yz_eq (by omega)) (fun hb9070 => ?_) (fun hb9070 => ?_)
            · exfalso; omega
            · refine y_iconst 84 c131_82 rfl ?_
              refine y_goto 89 c131_84 rfl ?_
              refine y_iload 90 c131_89 rfl rfl ?_
              refine y_iconst 91 c131_90 rfl ?_
              refine y_iconst 92 c131_91 rfl ?_
              have es9072 : (yup mq9020 378 ((m 376 10).toNat) 3) 376 1 = m 376 1 := ((yup_na (by decide)).trans ((hFq9020 376 1 rfl).trans ((hFq8955 376 1 rfl).trans (hFq8950 376 1 rfl))))
              have es9073 : (yup mq9020 378 ((m 376 10).toNat) 3) 376 3 = mq9020 376 3 := rfl
              have tb9074 := hTq9020.atp 376 3 0 3 rfl
              have es9075 : (yup mq9020 378 ((m 376 10).toNat) 3) 376 6 = mq9020 376 6 := rfl
              have tb9076 := hTq9020.atp 376 6 0 320 rfl
              have es9077 : (yup mq9020 378 ((m 376 10).toNat) 3) 376 8 = mq9020 376 8 := rfl
              have tb9078 := hTq9020.atp 376 8 ((-1)) 320 rfl
              have es9079 : (yup mq9020 378 ((m 376 10).toNat) 3) 376 18 = m 376 18 := ((yup_na (by decide)).trans ((hFq9020 376 18 rfl).trans ((hFq8955 376 18 rfl).trans (hFq8950 376 18 rfl))))
              have es9080 : (yup mq9020 378 ((m 376 10).toNat) 3) 390 0 = m 390 0 := ((yup_na (by decide)).trans ((hFq9020 390 0 rfl).trans ((hFq8955 390 0 rfl).trans (hFq8950 390 0 rfl))))
              have es9081 : (yup mq9020 378 ((m 376 10).toNat) 3) 386 0 = m 386 0 := ((yup_na (by decide)).trans ((hFq9020 386 0 rfl).trans ((hFq8955 386 0 rfl).trans (hFq8950 386 0 rfl))))
              have es9082 : (yup mq9020 378 ((m 376 10).toNat) 3) 387 0 = m 387 0 := ((yup_na (by decide)).trans ((hFq9020 387 0 rfl).trans ((hFq8955 387 0 rfl).trans (hFq8950 387 0 rfl))))
              have es9083 : (yup mq9020 378 ((m 376 10).toNat) 3) 388 0 = m 388 0 := ((yup_na (by decide)).trans ((hFq9020 388 0 rfl).trans ((hFq8955 388 0 rfl).trans (hFq8950 388 0 rfl))))
              have es9084 : (yup mq9020 378 ((m 376 10).toNat) 3) 376 17 = m 376 17 := ((yup_na (by decide)).trans ((hFq9020 376 17 rfl).trans ((hFq8955 376 17 rfl).trans (hFq8950 376 17 rfl))))
              have tb9085 := hT.atp 376 17 0 20 rfl
              have es9086 : (yup mq9020 378 ((m 376 10).toNat) 3) 384 0 = m 384 0 := ((yup_na (by decide)).trans ((hFq9020 384 0 rfl).trans ((hFq8955 384 0 rfl).trans (hFq8950 384 0 rfl))))
              have es9087 : (yup mq9020 378 ((m 376 10).toNat) 3) 376 10 = m 376 10 := ((yup_na (by decide)).trans ((hFq9020 376 10 rfl).trans ((hFq8955 376 10 rfl).trans (hFq8950 376 10 rfl))))
              have es9088 : (yup mq9020 378 ((m 376 10).toNat) 3) 376 9 = m 376 9 := ((yup_na (by decide)).trans ((hFq9020 376 9 rfl).trans ((hFq8955 376 9 rfl).trans (hFq8950 376 9 rfl))))
              have tb9089 := hT.atp 376 9 0 40 rfl
              have em9090 : mu (yup mq9020 378 ((m 376 10).toNat) 3) = mu mq9020 := mu_fr (yup_na (by decide)) (yup_na (by decide)) (yup_na (by decide))
              refine y_callIB 95 [.ref 376, yI 10, yI rq8955, yI 0, yI 0] [yI (m 376 10), .ref 379] c131_92 rfl rfl rfl rfl rfl (ycanO km127 ko376) (t127_0 hT9068 (by omega) (by omega) (by omega) (by omega) (by omega) (by omega)) (fun rq9071 mq9071 nq9071 hq9071 => ?_)
              obtain ⟨rfl, hTq9071, hFq9071, hq9071, hE⟩ := hq9071
              unfold EM at hE
              rw [show (yup mq9020 378 ((m 376 10).toNat) 3) 390 0 = m 390 0 from ((yup_na (by decide)).trans ((hFq9020 390 0 rfl).trans ((hFq8955 390 0 rfl).trans (hFq8950 390 0 rfl))))] at hE
              obtain ⟨k1, k2, k3, k4, k5, k6, k7⟩ := hE
              have k8 : ∀ q, q < 1000 * 0 + 8 * (m 390 0).toNat ∨ 1000 * 0 + 8 * (m 390 0).toNat + 8 ≤ q → mq9071 403 q = m 403 q := fun q hq => (k7 q hq).trans (((yup_na (by decide)).trans ((hFq9020 403 q rfl).trans ((hFq8955 403 q rfl).trans (hFq8950 403 q rfl)))))
              have x1q9071 : mq9071 376 1 = m 376 1 := ((hFq9071 376 1 rfl).trans ((yup_na (by decide)).trans ((hFq9020 376 1 rfl).trans ((hFq8955 376 1 rfl).trans (hFq8950 376 1 rfl)))))
              have hF9091 := hF9069.tr hFq9071 wEm0_wBd0
              refine y_iastore 96 c131_95 rfl ka379 (by omega) (y_nar0 _) ?_
              have hT9092 := hTq9071.up 379 ((m 376 10).toNat) rq9071 0 124 rfl (by omega)
              have hF9093 := hF9091.up 379 ((m 376 10).toNat) rq9071 rfl
              refine y_aload 97 c131_96 rfl rfl rfl ?_
              refine y_dup 98 c131_97 rfl rfl ?_
              refine y_getX 101 (m 376 10) c131_98 rfl kf376_10 ((yup_na (by decide)).trans ((hFq9071 376 10 rfl).trans ((yup_na (by decide)).trans ((hFq9020 376 10 rfl).trans ((hFq8955 376 10 rfl).trans (hFq8950 376 10 rfl)))))) ?_
              refine y_iconst 102 c131_101 rfl ?_
              refine y_iadd 103 c131_102 rfl ?_
              refine y_putI 106 c131_103 rfl kf376_10 (y_fit0 _) ?_
              have hT9094 := hT9092.up 376 10 ((m 376 10) + 1) 0 3 rfl (by omega)
              have hF9095 := hF9093.up 376 10 ((m 376 10) + 1) rfl
              have es9096 : (yup (yup mq9071 379 ((m 376 10).toNat) rq9071) 376 10 ((m 376 10) + 1)) 376 1 = m 376 1 := ((yup_nk (by decide)).trans ((yup_na (by decide)).trans ((hFq9071 376 1 rfl).trans ((yup_na (by decide)).trans ((hFq9020 376 1 rfl).trans ((hFq8955 376 1 rfl).trans (hFq8950 376 1 rfl)))))))
              have es9097 : (yup (yup mq9071 379 ((m 376 10).toNat) rq9071) 376 10 ((m 376 10) + 1)) 376 3 = mq9020 376 3 := ((yup_nk (by decide)).trans ((yup_na (by decide)).trans ((hFq9071 376 3 rfl).trans (yup_na (by decide)))))
              have es9098 : (yup (yup mq9071 379 ((m 376 10).toNat) rq9071) 376 10 ((m 376 10) + 1)) 376 6 = mq9020 376 6 := ((yup_nk (by decide)).trans ((yup_na (by decide)).trans ((hFq9071 376 6 rfl).trans (yup_na (by decide)))))
              have es9099 : (yup (yup mq9071 379 ((m 376 10).toNat) rq9071) 376 10 ((m 376 10) + 1)) 376 8 = mq9020 376 8 := ((yup_nk (by decide)).trans ((yup_na (by decide)).trans ((hFq9071 376 8 rfl).trans (yup_na (by decide)))))
              have es9100 : (yup (yup mq9071 379 ((m 376 10).toNat) rq9071) 376 10 ((m 376 10) + 1)) 390 0 = mq9071 390 0 := rfl
              have tb9101 := hTq9071.atp 390 0 0 125 rfl
              have es9102 : (yup (yup mq9071 379 ((m 376 10).toNat) rq9071) 376 10 ((m 376 10) + 1)) 386 0 = m 386 0 := ((yup_na (by decide)).trans ((yup_na (by decide)).trans ((hFq9071 386 0 rfl).trans ((yup_na (by decide)).trans ((hFq9020 386 0 rfl).trans ((hFq8955 386 0 rfl).trans (hFq8950 386 0 rfl)))))))
              have es9103 : (yup (yup mq9071 379 ((m 376 10).toNat) rq9071) 376 10 ((m 376 10) + 1)) 387 0 = m 387 0 := ((yup_na (by decide)).trans ((yup_na (by decide)).trans ((hFq9071 387 0 rfl).trans ((yup_na (by decide)).trans ((hFq9020 387 0 rfl).trans ((hFq8955 387 0 rfl).trans (hFq8950 387 0 rfl)))))))
              have es9104 : (yup (yup mq9071 379 ((m 376 10).toNat) rq9071) 376 10 ((m 376 10) + 1)) 388 0 = m 388 0 := ((yup_na (by decide)).trans ((yup_na (by decide)).trans ((hFq9071 388 0 rfl).trans ((yup_na (by decide)).trans ((hFq9020 388 0 rfl).trans ((hFq8955 388 0 rfl).trans (hFq8950 388 0 rfl)))))))
              have es9105 : (yup (yup mq9071 379 ((m 376 10).toNat) rq9071) 376 10 ((m 376 10) + 1)) 376 17 = m 376 17 := ((yup_nk (by decide)).trans ((yup_na (by decide)).trans ((hFq9071 376 17 rfl).trans ((yup_na (by decide)).trans ((hFq9020 376 17 rfl).trans ((hFq8955 376 17 rfl).trans (hFq8950 376 17 rfl)))))))
              have es9106 : (yup (yup mq9071 379 ((m 376 10).toNat) rq9071) 376 10 ((m 376 10) + 1)) 384 0 = m 384 0 := ((yup_na (by decide)).trans ((yup_na (by decide)).trans ((hFq9071 384 0 rfl).trans ((yup_na (by decide)).trans ((hFq9020 384 0 rfl).trans ((hFq8955 384 0 rfl).trans (hFq8950 384 0 rfl)))))))
              have es9107 : (yup (yup mq9071 379 ((m 376 10).toNat) rq9071) 376 10 ((m 376 10) + 1)) 376 10 = (m 376 10) + 1 := rfl
              have es9108 : (yup (yup mq9071 379 ((m 376 10).toNat) rq9071) 376 10 ((m 376 10) + 1)) 376 9 = m 376 9 := ((yup_nk (by decide)).trans ((yup_na (by decide)).trans ((hFq9071 376 9 rfl).trans ((yup_na (by decide)).trans ((hFq9020 376 9 rfl).trans ((hFq8955 376 9 rfl).trans (hFq8950 376 9 rfl)))))))
              have em9109 : mu (yup (yup mq9071 379 ((m 376 10).toNat) rq9071) 376 10 ((m 376 10) + 1)) = mu mq9020 := mu_fr ((yup_nk (by decide)).trans ((yup_na (by decide)).trans ((hFq9071 376 1 rfl).trans (yup_na (by decide))))) ((yup_nk (by decide)).trans ((yup_na (by decide)).trans ((hFq9071 376 3 rfl).trans (yup_na (by decide))))) ((yup_nk (by decide)).trans ((yup_na (by decide)).trans ((hFq9071 376 6 rfl).trans (yup_na (by decide)))))
              have f0 : (yup (yup mq9071 379 ((m 376 10).toNat) rq9071) 376 10 ((m 376 10) + 1)) 403 (1000 * 0 + 8 * (m 390 0).toNat) = _ := (((yup_na (by decide)).trans (yup_na (by decide)))).trans k2
              have f1 : (yup (yup mq9071 379 ((m 376 10).toNat) rq9071) 376 10 ((m 376 10) + 1)) 403 (1000 * 0 + 8 * (m 390 0).toNat + 1) = _ := (((yup_na (by decide)).trans (yup_na (by decide)))).trans k3
              have f2 : (yup (yup mq9071 379 ((m 376 10).toNat) rq9071) 376 10 ((m 376 10) + 1)) 403 (1000 * 0 + 8 * (m 390 0).toNat + 2) = _ := (((yup_na (by decide)).trans (yup_na (by decide)))).trans k4
              have f3 : (yup (yup mq9071 379 ((m 376 10).toNat) rq9071) 376 10 ((m 376 10) + 1)) 403 (1000 * 0 + 8 * (m 390 0).toNat + 3) = _ := (((yup_na (by decide)).trans (yup_na (by decide)))).trans k5
              have f4 : (yup (yup mq9071 379 ((m 376 10).toNat) rq9071) 376 10 ((m 376 10) + 1)) 403 (1000 * 0 + 8 * (m 390 0).toNat + 4) = _ := (((yup_na (by decide)).trans (yup_na (by decide)))).trans k6
              have hw : OW (yup (yup mq9071 379 ((m 376 10).toNat) rq9071) 376 10 ((m 376 10) + 1)) (1000 * 0 + 8 * (m 390 0).toNat) := by unfold OW; omega
              have g8 : (yup (yup mq9071 379 ((m 376 10).toNat) rq9071) 376 10 ((m 376 10) + 1)) 378 (m 376 10).toNat = _ := ((yup_na (by decide)).trans ((yup_na (by decide)).trans ((hFq9071 378 _ rfl).trans (yup_eq _ _ _ _))))
              have g9 : (yup (yup mq9071 379 ((m 376 10).toNat) rq9071) 376 10 ((m 376 10) + 1)) 379 (m 376 10).toNat = _ := ((yup_na (by decide)).trans (yup_eq _ _ _ _))
              have e8 : ∀ q : Nat, (q : Int) < m 376 10 → (yup (yup mq9071 379 ((m 376 10).toNat) rq9071) 376 10 ((m 376 10) + 1)) 378 q = m 378 q := fun q hq => ((yup_na (by decide)).trans ((yup_na (by decide)).trans ((hFq9071 378 q rfl).trans ((yup_nk (by omega)).trans ((hFq9020 378 q rfl).trans ((hFq8955 378 q rfl).trans (hFq8950 378 q rfl)))))))
              have e9 : ∀ q : Nat, (q : Int) < m 376 10 → (yup (yup mq9071 379 ((m 376 10).toNat) rq9071) 376 10 ((m 376 10) + 1)) 379 q = m 379 q := fun q hq => ((yup_na (by decide)).trans ((yup_nk (by omega)).trans ((hFq9071 379 q rfl).trans ((yup_na (by decide)).trans ((hFq9020 379 q rfl).trans ((hFq8955 379 q rfl).trans (hFq8950 379 q rfl)))))))
              have hsc := hX.2.2.2.2.2
              have hCV := hX.2.2.2.2.2.2.2.1
              have hx : XS 0 (yup (yup mq9071 379 ((m 376 10).toNat) rq9071) 376 10 ((m 376 10) + 1)) := XS.opn hX (by omega) (by omega) (fun a q ha h1 h2 h3 => hF9095 a q (wBd0_Y a q ha h1 h2 h3)) (fun q hq => (((yup_na (by decide)).trans (yup_na (by decide)))).trans (k8 q hq)) hw (by omega) (by omega) (by omega) e8 e9 (by omega) (by omega) (by omega) (by omega) (by omega) (fun c hc => by rw [show (yup (yup mq9071 379 ((m 376 10).toNat) rq9071) 376 10 ((m 376 10) + 1)) 401 (8 * 0 + c) = m 401 (8 * 0 + c) from ((yup_na (by decide)).trans ((yup_na (by decide)).trans ((hFq9071 401 _ rfl).trans ((yup_na (by decide)).trans ((hFq9020 401 _ rfl).trans ((hFq8955 401 _ rfl).trans (hFq8950 401 _ rfl)))))))]; exact hCV c (by omega)) (by omega)
              have hpd := PD.opn (m := m) (m' := yup (yup mq9071 379 ((m 376 10).toNat) rq9071) 376 10 ((m 376 10) + 1)) (by omega) (by omega) e8
              exact y_retU c131_106 ⟨rfl, hT9094, hF9095, by omega, by omega, Or.inr ⟨by omega, by omega, by omega, hx⟩⟩
        · have es9110 : mq9020 376 1 = m 376 1 := ((hFq9020 376 1 rfl).trans ((hFq8955 376 1 rfl).trans (hFq8950 376 1 rfl)))
          have tb9111 := hTq9020.atp 376 3 0 3 rfl
          have tb9112 := hTq9020.atp 376 6 0 320 rfl
          have tb9113 := hTq9020.atp 376 8 ((-1)) 320 rfl
          have es9114 : mq9020 390 0 = m 390 0 := ((hFq9020 390 0 rfl).trans ((hFq8955 390 0 rfl).trans (hFq8950 390 0 rfl)))
          have es9115 : mq9020 386 0 = m 386 0 := ((hFq9020 386 0 rfl).trans ((hFq8955 386 0 rfl).trans (hFq8950 386 0 rfl)))
          have es9116 : mq9020 387 0 = m 387 0 := ((hFq9020 387 0 rfl).trans ((hFq8955 387 0 rfl).trans (hFq8950 387 0 rfl)))
          have es9117 : mq9020 388 0 = m 388 0 := ((hFq9020 388 0 rfl).trans ((hFq8955 388 0 rfl).trans (hFq8950 388 0 rfl)))
          have es9118 : mq9020 376 17 = m 376 17 := ((hFq9020 376 17 rfl).trans ((hFq8955 376 17 rfl).trans (hFq8950 376 17 rfl)))
          have tb9119 := hT.atp 376 17 0 20 rfl
          have es9120 : mq9020 384 0 = m 384 0 := ((hFq9020 384 0 rfl).trans ((hFq8955 384 0 rfl).trans (hFq8950 384 0 rfl)))
          have es9121 : mq9020 376 10 = m 376 10 := ((hFq9020 376 10 rfl).trans ((hFq8955 376 10 rfl).trans (hFq8950 376 10 rfl)))
          have es9122 : mq9020 376 9 = m 376 9 := ((hFq9020 376 9 rfl).trans ((hFq8955 376 9 rfl).trans (hFq8950 376 9 rfl)))
          have tb9123 := hT.atp 376 9 0 40 rfl
          exact y_retU c131_50 ⟨rfl, hTq9020, hF9023, by omega, by omega, Or.inl (by omega)⟩
def wBd1 (a q : Nat) : Bool := wSt1 a q || (a == 376 && (q == 9 || q == 10)) || a == 378 || a == 379
theorem wNx_wBd1 : ∀ a q, wNx a q = true → wBd1 a q = true := by
  intro a q h
  have := wNx_wSt1 a q h
  simp [wBd1, this]
theorem wWr_wBd1 : ∀ a q, wWr a q = true → wBd1 a q = true := by
  intro a q h
  have := wWr_wSt1 a q h
  simp [wBd1, this]
theorem wNw_wBd1 : ∀ a q, wNw a q = true → wBd1 a q = true := by
  intro a q h
  have := wNw_wSt1 a q h
  simp [wBd1, this]
theorem wVp1_wBd1 : ∀ a q, wVp1 a q = true → wBd1 a q = true := by
  intro a q h
  have := wVp1_wSt1 a q h
  simp [wBd1, this]
theorem wVr1_wBd1 : ∀ a q, wVr1 a q = true → wBd1 a q = true := by
  intro a q h
  have := wVr1_wSt1 a q h
  simp [wBd1, this]
theorem wEm1_wBd1 : ∀ a q, wEm1 a q = true → wBd1 a q = true := by
  intro a q h
  have := wEm1_wSt1 a q h
  simp [wBd1, this]
theorem wSt1_wBd1 : ∀ a q, wSt1 a q = true → wBd1 a q = true := by
  intro a q h
  simp [wBd1, h]
theorem wBd1_Y : ∀ a q, vYs 1 a q = true → a ≠ 376 → a ≠ 378 → a ≠ 379 → wBd1 a q = false := by
  intro a q h h1 h2 h3
  have := wSt1_Y a q h
  simp [wBd1, this, h1, h2, h3]
theorem wNx_Y1 : ∀ a q, vYs 1 a q = true → wNx a q = false := by
  intro a q h
  cases e : wNx a q with
  | false => rfl
  | true => have := wNx_wSt1 a q e; rw [wSt1_Y a q h] at this; cases this
theorem wNw_Y1 : ∀ a q, vYs 1 a q = true → wNw a q = false := by
  intro a q h
  cases e : wNw a q with
  | false => rfl
  | true => have := wNw_wSt1 a q e; rw [wSt1_Y a q h] at this; cases this
theorem wVr1_Y1 : ∀ a q, vYs 1 a q = true → wVr1 a q = false := by
  intro a q h
  cases e : wVr1 a q with
  | false => rfl
  | true => have := wVr1_wSt1 a q e; rw [wSt1_Y a q h] at this; cases this
theorem wEm1_Y1 : ∀ a q, vYs 1 a q = true → wEm1 a q = false := by
  intro a q h
  cases e : wEm1 a q with
  | false => rfl
  | true => have := wEm1_wSt1 a q e; rw [wSt1_Y a q h] at this; cases this
theorem wEm1_Z : ∀ a q, a ≠ 403 → a ≠ 390 → wEm1 a q = false := by
  intro a q h1 h2
  simp [wEm1, h1, h2]
theorem wAi1_Z : ∀ a q, a ≠ 403 → wAi1 a q = false := by
  intro a q h1
  simp [wAi1, h1]
theorem wAi1_wBd1 : ∀ a q, wAi1 a q = true → wBd1 a q = true := by
  intro a q h
  simp [wAi1] at h
  simp [wBd1, wSt1]
  omega
set_option maxRecDepth 100000 in
theorem t131_1 {L : Nat} {xs : Nat → Int32} {d nn : Nat} {m : yM} (hT : Ty gT m) (hl : m 376 6 ≤ m 376 1) (hn : m 376 18 = 0) (h8 : m 376 8 < 0) (hX : XS 1 m) (h84 : 1 ≤ m 384 1) (h90 : m 390 1 ≤ 100) (h3 : m 376 3 ≠ 0) : YC (gZ L xs) (d + 5) 131 [.ref 376] m nn (qU (fun m' n' => n' = nn ∧ Ty gT m' ∧ Fr wBd1 m m' ∧ m' 376 6 ≤ m' 376 1 ∧ (m' 376 9 = m 376 9 ∧ (0 ≤ m' 376 8 ∨ (m' 376 8 < 0 ∧ mu m' < mu m ∧ (m' 390 1 = m 390 1 + 1 ∧ PD m' ≤ PD m + 1) ∧ XS 1 m'))))) := by
  have tb8 := hT.atp 376 8 (-1) 320 rfl
  have tb10 := hT.atp 376 10 0 3 rfl
  have tc384 := hT.atp 384 1 0 10 rfl
  have tc386 := hT.atp 386 1 0 12 rfl
  have tc387 := hT.atp 387 1 0 8 rfl
  have tc388 := hT.atp 388 1 0 12 rfl
  have tc389 := hT.atp 389 1 0 48 rfl
  have tc390 := hT.atp 390 1 0 125 rfl
  refine YC.mkB [some (.ref 376), none, none] kn131 rfl rfl ?_
  have hF : Fr wBd1 m m := Fr.rf
  refine y_aload 1 c131_0 rfl rfl rfl ?_
  have tb9329 := hT.atp 376 3 0 3 rfl
  refine y_callP 4 [.ref 376] [] c131_1 rfl rfl rfl rfl rfl (ycanO km112 ko376) (t112 hT) (fun r9330 hr9330 => ?_)
  refine y_istore 5 c131_4 rfl rfl ?_
  refine y_aload 6 c131_5 rfl rfl rfl ?_
  have tb9332 := hT.atp 376 1 0 320 rfl
  have tb9333 := hT.atp 376 6 0 320 rfl
  have tb9334 := hT.atp 376 8 ((-1)) 320 rfl
  refine y_callUB 9 [.ref 376] [] c131_6 rfl rfl rfl rfl rfl (ycanO km99 ko376) (t99u hT (by omega)) (fun mq9331 nq9331 hq9331 => ?_)
  obtain ⟨rfl, hTq9331, hFq9331, hq9331⟩ := hq9331
  have x1q9331 : mq9331 376 1 = m 376 1 := (hFq9331 376 1 rfl)
  have hF9335 := hF.tr hFq9331 wNx_wBd1
  refine y_aload 10 c131_9 rfl rfl rfl ?_
  have es9337 : mq9331 376 1 = m 376 1 := (hFq9331 376 1 rfl)
  have tb9338 := hTq9331.atp 376 3 0 3 rfl
  have tb9339 := hTq9331.atp 376 6 0 320 rfl
  have es9340 : mq9331 376 8 = m 376 8 := (hFq9331 376 8 rfl)
  have es9341 : mq9331 376 18 = m 376 18 := (hFq9331 376 18 rfl)
  have tb9342 := hT.atp 376 18 0 1 rfl
  refine y_callIB 13 [.ref 376] [] c131_10 rfl rfl rfl rfl rfl (ycanO km130 ko376) (t130_1 hTq9331 (by omega) (by omega) (by omega)) (fun rq9336 mq9336 nq9336 hq9336 => ?_)
  obtain ⟨rfl, hTq9336, hFq9336, hq9336⟩ := hq9336
  have x1q9336 : mq9336 376 1 = m 376 1 := ((hFq9336 376 1 rfl).trans (hFq9331 376 1 rfl))
  have hF9343 := hF9335.tr hFq9336 wVr1_wBd1
  refine y_istore 14 c131_13 rfl rfl ?_
  refine y_aload 15 c131_14 rfl rfl rfl ?_
  refine y_getX 18 (mq9336 376 8) c131_15 rfl kf376_8 rfl ?_
  have tb9344 := hTq9336.atp 376 8 ((-1)) 320 rfl
  refine y_if 50 21 c131_18 rfl rfl (yz_ge (by omega)) (fun hb9345 => ?_) (fun hb9345 => ?_)
  · have es9346 : mq9336 376 1 = m 376 1 := ((hFq9336 376 1 rfl).trans (hFq9331 376 1 rfl))
    have tb9347 := hTq9336.atp 376 3 0 3 rfl
    have tb9348 := hTq9336.atp 376 6 0 320 rfl
    have es9349 : mq9336 390 1 = m 390 1 := ((hFq9336 390 1 rfl).trans (hFq9331 390 1 rfl))
    have es9350 : mq9336 386 1 = m 386 1 := ((hFq9336 386 1 rfl).trans (hFq9331 386 1 rfl))
    have es9351 : mq9336 387 1 = m 387 1 := ((hFq9336 387 1 rfl).trans (hFq9331 387 1 rfl))
    have es9352 : mq9336 388 1 = m 388 1 := ((hFq9336 388 1 rfl).trans (hFq9331 388 1 rfl))
    have es9353 : mq9336 376 17 = m 376 17 := ((hFq9336 376 17 rfl).trans (hFq9331 376 17 rfl))
    have tb9354 := hT.atp 376 17 0 20 rfl
    have es9355 : mq9336 384 1 = m 384 1 := ((hFq9336 384 1 rfl).trans (hFq9331 384 1 rfl))
    have es9356 : mq9336 376 10 = m 376 10 := ((hFq9336 376 10 rfl).trans (hFq9331 376 10 rfl))
    have es9357 : mq9336 376 9 = m 376 9 := ((hFq9336 376 9 rfl).trans (hFq9331 376 9 rfl))
    have tb9358 := hT.atp 376 9 0 40 rfl
    exact y_retU c131_50 ⟨rfl, hTq9336, hF9343, by omega, by omega, Or.inl (by omega)⟩
  · refine y_aload 22 c131_21 rfl rfl rfl ?_
    refine y_aload 23 c131_22 rfl rfl rfl ?_
    refine y_iconst 25 c131_23 rfl ?_
    have tb9359 := hTq9336.atp 376 3 0 3 rfl
    refine y_callP 28 [.ref 376, yI 123] [.ref 376] c131_25 rfl rfl rfl rfl rfl (ycanO km117 ko376) (t117 hTq9336 (by omega)) (fun r9360 hr9360 => ?_)
    refine y_if 43 31 c131_28 rfl rfl (yz_eq (by omega)) (fun hb9361 => ?_) (fun hb9361 => ?_)
    · refine y_iconst 44 c131_43 rfl ?_
      have es9363 : mq9336 376 1 = m 376 1 := ((hFq9336 376 1 rfl).trans (hFq9331 376 1 rfl))
      have tb9364 := hTq9336.atp 376 6 0 320 rfl
      refine y_callIB 47 [.ref 376, yI 0] [] c131_44 rfl rfl rfl rfl rfl (ycanO km105 ko376) (t105 (g := 0) hTq9336 (by omega) (by omega)) (fun rq9362 mq9362 nq9362 hq9362 => ?_)
      obtain ⟨rfl, hTq9362, hFq9362, hq9362⟩ := hq9362
      have x1q9362 : mq9362 376 1 = m 376 1 := ((hFq9362 376 1 rfl).trans ((hFq9336 376 1 rfl).trans (hFq9331 376 1 rfl)))
      have hF9365 := hF9343.tr hFq9362 wNw_wBd1
      refine y_if 51 50 c131_47 rfl rfl (yz_ne (by omega)) (fun hb9366 => ?_) (fun hb9366 => ?_)
      · exfalso; omega
      · have es9367 : mq9362 376 1 = m 376 1 := ((hFq9362 376 1 rfl).trans ((hFq9336 376 1 rfl).trans (hFq9331 376 1 rfl)))
        have tb9368 := hTq9362.atp 376 3 0 3 rfl
        have tb9369 := hTq9362.atp 376 6 0 320 rfl
        have tb9370 := hTq9362.atp 376 8 ((-1)) 320 rfl
        have es9371 : mq9362 390 1 = m 390 1 := ((hFq9362 390 1 rfl).trans ((hFq9336 390 1 rfl).trans (hFq9331 390 1 rfl)))
        have es9372 : mq9362 386 1 = m 386 1 := ((hFq9362 386 1 rfl).trans ((hFq9336 386 1 rfl).trans (hFq9331 386 1 rfl)))
        have es9373 : mq9362 387 1 = m 387 1 := ((hFq9362 387 1 rfl).trans ((hFq9336 387 1 rfl).trans (hFq9331 387 1 rfl)))
        have es9374 : mq9362 388 1 = m 388 1 := ((hFq9362 388 1 rfl).trans ((hFq9336 388 1 rfl).trans (hFq9331 388 1 rfl)))
        have es9375 : mq9362 376 17 = m 376 17 := ((hFq9362 376 17 rfl).trans ((hFq9336 376 17 rfl).trans (hFq9331 376 17 rfl)))
        have tb9376 := hT.atp 376 17 0 20 rfl
        have es9377 : mq9362 384 1 = m 384 1 := ((hFq9362 384 1 rfl).trans ((hFq9336 384 1 rfl).trans (hFq9331 384 1 rfl)))
        have es9378 : mq9362 376 10 = m 376 10 := ((hFq9362 376 10 rfl).trans ((hFq9336 376 10 rfl).trans (hFq9331 376 10 rfl)))
        have es9379 : mq9362 376 9 = m 376 9 := ((hFq9362 376 9 rfl).trans ((hFq9336 376 9 rfl).trans (hFq9331 376 9 rfl)))
        have tb9380 := hT.atp 376 9 0 40 rfl
        exact y_retU c131_50 ⟨rfl, hTq9362, hF9365, by omega, by omega, Or.inl (by omega)⟩
    · refine y_aload 32 c131_31 rfl rfl rfl ?_
      refine y_getX 35 (m 376 10) c131_32 rfl kf376_10 ((hFq9336 376 10 rfl).trans (hFq9331 376 10 rfl)) ?_
      refine y_iconst 36 c131_35 rfl ?_
      refine y_icmp 43 39 c131_36 rfl rfl (yc_ge (by omega) (by omega)) (fun hb9381 => ?_) (fun hb9381 => ?_)
      · refine y_iconst 44 c131_43 rfl ?_
        have es9383 : mq9336 376 1 = m 376 1 := ((hFq9336 376 1 rfl).trans (hFq9331 376 1 rfl))
        have tb9384 := hTq9336.atp 376 6 0 320 rfl
        refine y_callIB 47 [.ref 376, yI 0] [] c131_44 rfl rfl rfl rfl rfl (ycanO km105 ko376) (t105 (g := 0) hTq9336 (by omega) (by omega)) (fun rq9382 mq9382 nq9382 hq9382 => ?_)
        obtain ⟨rfl, hTq9382, hFq9382, hq9382⟩ := hq9382
        have x1q9382 : mq9382 376 1 = m 376 1 := ((hFq9382 376 1 rfl).trans ((hFq9336 376 1 rfl).trans (hFq9331 376 1 rfl)))
        have hF9385 := hF9343.tr hFq9382 wNw_wBd1
        refine y_if 51 50 c131_47 rfl rfl (yz_ne (by omega)) (fun hb9386 => ?_) (fun hb9386 => ?_)
        · exfalso; omega
        · have es9387 : mq9382 376 1 = m 376 1 := ((hFq9382 376 1 rfl).trans ((hFq9336 376 1 rfl).trans (hFq9331 376 1 rfl)))
          have tb9388 := hTq9382.atp 376 3 0 3 rfl
          have tb9389 := hTq9382.atp 376 6 0 320 rfl
          have tb9390 := hTq9382.atp 376 8 ((-1)) 320 rfl
          have es9391 : mq9382 390 1 = m 390 1 := ((hFq9382 390 1 rfl).trans ((hFq9336 390 1 rfl).trans (hFq9331 390 1 rfl)))
          have es9392 : mq9382 386 1 = m 386 1 := ((hFq9382 386 1 rfl).trans ((hFq9336 386 1 rfl).trans (hFq9331 386 1 rfl)))
          have es9393 : mq9382 387 1 = m 387 1 := ((hFq9382 387 1 rfl).trans ((hFq9336 387 1 rfl).trans (hFq9331 387 1 rfl)))
          have es9394 : mq9382 388 1 = m 388 1 := ((hFq9382 388 1 rfl).trans ((hFq9336 388 1 rfl).trans (hFq9331 388 1 rfl)))
          have es9395 : mq9382 376 17 = m 376 17 := ((hFq9382 376 17 rfl).trans ((hFq9336 376 17 rfl).trans (hFq9331 376 17 rfl)))
          have tb9396 := hT.atp 376 17 0 20 rfl
          have es9397 : mq9382 384 1 = m 384 1 := ((hFq9382 384 1 rfl).trans ((hFq9336 384 1 rfl).trans (hFq9331 384 1 rfl)))
          have es9398 : mq9382 376 10 = m 376 10 := ((hFq9382 376 10 rfl).trans ((hFq9336 376 10 rfl).trans (hFq9331 376 10 rfl)))
          have es9399 : mq9382 376 9 = m 376 9 := ((hFq9382 376 9 rfl).trans ((hFq9336 376 9 rfl).trans (hFq9331 376 9 rfl)))
          have tb9400 := hT.atp 376 9 0 40 rfl
          exact y_retU c131_50 ⟨rfl, hTq9382, hF9385, by omega, by omega, Or.inl (by omega)⟩
      · refine y_iconst 40 c131_39 rfl ?_
        refine y_goto 44 c131_40 rfl ?_
        have es9402 : mq9336 376 1 = m 376 1 := ((hFq9336 376 1 rfl).trans (hFq9331 376 1 rfl))
        have tb9403 := hTq9336.atp 376 6 0 320 rfl
        refine y_callIB 47 [.ref 376, yI 1] [] c131_44 rfl rfl rfl rfl rfl (ycanO km105 ko376) (t105 (g := 1) hTq9336 (by omega) (by omega)) (fun rq9401 mq9401 nq9401 hq9401 => ?_)
        obtain ⟨rfl, hTq9401, hFq9401, hq9401⟩ := hq9401
        have x1q9401 : mq9401 376 1 = m 376 1 := ((hFq9401 376 1 rfl).trans ((hFq9336 376 1 rfl).trans (hFq9331 376 1 rfl)))
        have hF9404 := hF9343.tr hFq9401 wNw_wBd1
        refine y_if 51 50 c131_47 rfl rfl (yz_ne (by omega)) (fun hb9405 => ?_) (fun hb9405 => ?_)
        · refine y_aload 52 c131_51 rfl rfl rfl ?_
          refine y_getR 55 c131_52 rfl kf376_11 ?_
          refine y_aload 56 c131_55 rfl rfl rfl ?_
          refine y_getX 59 (m 376 10) c131_56 rfl kf376_10 ((hFq9401 376 10 rfl).trans ((hFq9336 376 10 rfl).trans (hFq9331 376 10 rfl))) ?_
          refine y_iload 60 c131_59 rfl rfl ?_
          refine y_if 67 63 c131_60 rfl rfl (yz_eq (by omega)) (fun hb9406 => ?_) (fun hb9406 => ?_)
          · refine y_iconst 68 c131_67 rfl ?_
            refine y_iastore 69 c131_68 rfl ka378 (by omega) (y_nar0 _) ?_
            have hT9407 := hTq9401.up 378 ((m 376 10).toNat) 1 0 3 rfl (by omega)
            have hF9408 := hF9404.up 378 ((m 376 10).toNat) 1 rfl
            refine y_aload 70 c131_69 rfl rfl rfl ?_
            refine y_getR 73 c131_70 rfl kf376_12 ?_
            refine y_aload 74 c131_73 rfl rfl rfl ?_
            refine y_getX 77 (m 376 10) c131_74 rfl kf376_10 ((yup_na (by decide)).trans ((hFq9401 376 10 rfl).trans ((hFq9336 376 10 rfl).trans (hFq9331 376 10 rfl)))) ?_
            refine y_aload 78 c131_77 rfl rfl rfl ?_
            refine y_iload 79 c131_78 rfl rfl ?_
            refine y_if 87 82 c131_79 rfl rfl (yz_eq (by omega)) (fun hb9409 => ?_) (fun hb9409 => ?_)
            · refine y_iconst 89 c131_87 rfl ?_
              refine y_iload 90 c131_89 rfl rfl ?_
              refine y_iconst 91 c131_90 rfl ?_
              refine y_iconst 92 c131_91 rfl ?_
              have es9411 : (yup mq9401 378 ((m 376 10).toNat) 1) 376 1 = m 376 1 := ((yup_na (by decide)).trans ((hFq9401 376 1 rfl).trans ((hFq9336 376 1 rfl).trans (hFq9331 376 1 rfl))))
              have es9412 : (yup mq9401 378 ((m 376 10).toNat) 1) 376 3 = mq9401 376 3 := rfl
              have tb9413 := hTq9401.atp 376 3 0 3 rfl
              have es9414 : (yup mq9401 378 ((m 376 10).toNat) 1) 376 6 = mq9401 376 6 := rfl
              have tb9415 := hTq9401.atp 376 6 0 320 rfl
              have es9416 : (yup mq9401 378 ((m 376 10).toNat) 1) 376 8 = mq9401 376 8 := rfl
              have tb9417 := hTq9401.atp 376 8 ((-1)) 320 rfl
              have es9418 : (yup mq9401 378 ((m 376 10).toNat) 1) 376 18 = m 376 18 := ((yup_na (by decide)).trans ((hFq9401 376 18 rfl).trans ((hFq9336 376 18 rfl).trans (hFq9331 376 18 rfl))))
              have es9419 : (yup mq9401 378 ((m 376 10).toNat) 1) 390 1 = m 390 1 := ((yup_na (by decide)).trans ((hFq9401 390 1 rfl).trans ((hFq9336 390 1 rfl).trans (hFq9331 390 1 rfl))))
              have es9420 : (yup mq9401 378 ((m 376 10).toNat) 1) 386 1 = m 386 1 := ((yup_na (by decide)).trans ((hFq9401 386 1 rfl).trans ((hFq9336 386 1 rfl).trans (hFq9331 386 1 rfl))))
              have es9421 : (yup mq9401 378 ((m 376 10).toNat) 1) 387 1 = m 387 1 := ((yup_na (by decide)).trans ((hFq9401 387 1 rfl).trans ((hFq9336 387 1 rfl).trans (hFq9331 387 1 rfl))))
              have es9422 : (yup mq9401 378 ((m 376 10).toNat) 1) 388 1 = m 388 1 := ((yup_na (by decide)).trans ((hFq9401 388 1 rfl).trans ((hFq9336 388 1 rfl).trans (hFq9331 388 1 rfl))))
              have es9423 : (yup mq9401 378 ((m 376 10).toNat) 1) 376 17 = m 376 17 := ((yup_na (by decide)).trans ((hFq9401 376 17 rfl).trans ((hFq9336 376 17 rfl).trans (hFq9331 376 17 rfl))))
              have tb9424 := hT.atp 376 17 0 20 rfl
              have es9425 : (yup mq9401 378 ((m 376 10).toNat) 1) 384 1 = m 384 1 := ((yup_na (by decide)).trans ((hFq9401 384 1 rfl).trans ((hFq9336 384 1 rfl).trans (hFq9331 384 1 rfl))))
              have es9426 : (yup mq9401 378 ((m 376 10).toNat) 1) 376 10 = m 376 10 := ((yup_na (by decide)).trans ((hFq9401 376 10 rfl).trans ((hFq9336 376 10 rfl).trans (hFq9331 376 10 rfl))))
              have es9427 : (yup mq9401 378 ((m 376 10).toNat) 1) 376 9 = m 376 9 := ((yup_na (by decide)).trans ((hFq9401 376 9 rfl).trans ((hFq9336 376 9 rfl).trans (hFq9331 376 9 rfl))))
              have tb9428 := hT.atp 376 9 0 40 rfl
              have em9429 : mu (yup mq9401 378 ((m 376 10).toNat) 1) = mu mq9401 := mu_fr (yup_na (by decide)) (yup_na (by decide)) (yup_na (by decide))
              refine y_callIB 95 [.ref 376, yI 9, yI rq9336, yI 0, yI 0] [yI (m 376 10), .ref 379] c131_92 rfl rfl rfl rfl rfl (ycanO km127 ko376) (t127_1 hT9407 (by omega) (by omega) (by omega) (by omega) (by omega) (by omega)) (fun rq9410 mq9410 nq9410 hq9410 => ?_)
              obtain ⟨rfl, hTq9410, hFq9410, hq9410, hE⟩ := hq9410
              unfold EM at hE
              rw [show (yup mq9401 378 ((m 376 10).toNat) 1) 390 1 = m 390 1 from ((yup_na (by decide)).trans ((hFq9401 390 1 rfl).trans ((hFq9336 390 1 rfl).trans (hFq9331 390 1 rfl))))] at hE
              obtain ⟨k1, k2, k3, k4, k5, k6, k7⟩ := hE
              have k8 : ∀ q, q < 1000 * 1 + 8 * (m 390 1).toNat ∨ 1000 * 1 + 8 * (m 390 1).toNat + 8 ≤ q → mq9410 403 q = m 403 q := fun q hq => (k7 q hq).trans (((yup_na (by decide)).trans ((hFq9401 403 q rfl).trans ((hFq9336 403 q rfl).trans (hFq9331 403 q rfl)))))
              have x1q9410 : mq9410 376 1 = m 376 1 := ((hFq9410 376 1 rfl).trans ((yup_na (by decide)).trans ((hFq9401 376 1 rfl).trans ((hFq9336 376 1 rfl).trans (hFq9331 376 1 rfl)))))
              have hF9430 := hF9408.tr hFq9410 wEm1_wBd1
              refine y_iastore 96 c131_95 rfl ka379 (by omega) (y_nar0 _) ?_
              have hT9431 := hTq9410.up 379 ((m 376 10).toNat) rq9410 0 124 rfl (by omega)
              have hF9432 := hF9430.up 379 ((m 376 10).toNat) rq9410 rfl
              refine y_aload 97 c131_96 rfl rfl rfl ?_
              refine y_dup 98 c131_97 rfl rfl ?_
              refine y_getX 101 (m 376 10) c131_98 rfl kf376_10 ((yup_na (by decide)).trans ((hFq9410 376 10 rfl).trans ((yup_na (by decide)).trans ((hFq9401 376 10 rfl).trans ((hFq9336 376 10 rfl).trans (hFq9331 376 10 rfl)))))) ?_
              refine y_iconst 102 c131_101 rfl ?_
              refine y_iadd 103 c131_102 rfl ?_
              refine y_putI 106 c131_103 rfl kf376_10 (y_fit0 _) ?_
              have hT9433 := hT9431.up 376 10 ((m 376 10) + 1) 0 3 rfl (by omega)
              have hF9434 := hF9432.up 376 10 ((m 376 10) + 1) rfl
              have es9435 : (yup (yup mq9410 379 ((m 376 10).toNat) rq9410) 376 10 ((m 376 10) + 1)) 376 1 = m 376 1 := ((yup_nk (by decide)).trans ((yup_na (by decide)).trans ((hFq9410 376 1 rfl).trans ((yup_na (by decide)).trans ((hFq9401 376 1 rfl).trans ((hFq9336 376 1 rfl).trans (hFq9331 376 1 rfl)))))))
              have es9436 : (yup (yup mq9410 379 ((m 376 10).toNat) rq9410) 376 10 ((m 376 10) + 1)) 376 3 = mq9401 376 3 := ((yup_nk (by decide)).trans ((yup_na (by decide)).trans ((hFq9410 376 3 rfl).trans (yup_na (by decide)))))
              have es9437 : (yup (yup mq9410 379 ((m 376 10).toNat) rq9410) 376 10 ((m 376 10) + 1)) 376 6 = mq9401 376 6 := ((yup_nk (by decide)).trans ((yup_na (by decide)).trans ((hFq9410 376 6 rfl).trans (yup_na (by decide)))))
              have es9438 : (yup (yup mq9410 379 ((m 376 10).toNat) rq9410) 376 10 ((m 376 10) + 1)) 376 8 = mq9401 376 8 := ((yup_nk (by decide)).trans ((yup_na (by decide)).trans ((hFq9410 376 8 rfl).trans (yup_na (by decide)))))
              have es9439 : (yup (yup mq9410 379 ((m 376 10).toNat) rq9410) 376 10 ((m 376 10) + 1)) 390 1 = mq9410 390 1 := rfl
              have tb9440 := hTq9410.atp 390 1 0 125 rfl
              have es9441 : (yup (yup mq9410 379 ((m 376 10).toNat) rq9410) 376 10 ((m 376 10) + 1)) 386 1 = m 386 1 := ((yup_na (by decide)).trans ((yup_na (by decide)).trans ((hFq9410 386 1 rfl).trans ((yup_na (by decide)).trans ((hFq9401 386 1 rfl).trans ((hFq9336 386 1 rfl).trans (hFq9331 386 1 rfl)))))))
              have es9442 : (yup (yup mq9410 379 ((m 376 10).toNat) rq9410) 376 10 ((m 376 10) + 1)) 387 1 = m 387 1 := ((yup_na (by decide)).trans ((yup_na (by decide)).trans ((hFq9410 387 1 rfl).trans ((yup_na (by decide)).trans ((hFq9401 387 1 rfl).trans ((hFq9336 387 1 rfl).trans (hFq9331 387 1 rfl)))))))
              have es9443 : (yup (yup mq9410 379 ((m 376 10).toNat) rq9410) 376 10 ((m 376 10) + 1)) 388 1 = m 388 1 := ((yup_na (by decide)).trans ((yup_na (by decide)).trans ((hFq9410 388 1 rfl).trans ((yup_na (by decide)).trans ((hFq9401 388 1 rfl).trans ((hFq9336 388 1 rfl).trans (hFq9331 388 1 rfl)))))))
              have es9444 : (yup (yup mq9410 379 ((m 376 10).toNat) rq9410) 376 10 ((m 376 10) + 1)) 376 17 = m 376 17 := ((yup_nk (by decide)).trans ((yup_na (by decide)).trans ((hFq9410 376 17 rfl).trans ((yup_na (by decide)).trans ((hFq9401 376 17 rfl).trans ((hFq9336 376 17 rfl).trans (hFq9331 376 17 rfl)))))))
              have es9445 : (yup (yup mq9410 379 ((m 376 10).toNat) rq9410) 376 10 ((m 376 10) + 1)) 384 1 = m 384 1 := ((yup_na (by decide)).trans ((yup_na (by decide)).trans ((hFq9410 384 1 rfl).trans ((yup_na (by decide)).trans ((hFq9401 384 1 rfl).trans ((hFq9336 384 1 rfl).trans (hFq9331 384 1 rfl)))))))
              have es9446 : (yup (yup mq9410 379 ((m 376 10).toNat) rq9410) 376 10 ((m 376 10) + 1)) 376 10 = (m 376 10) + 1 := rfl
              have es9447 : (yup (yup mq9410 379 ((m 376 10).toNat) rq9410) 376 10 ((m 376 10) + 1)) 376 9 = m 376 9 := ((yup_nk (by decide)).trans ((yup_na (by decide)).trans ((hFq9410 376 9 rfl).trans ((yup_na (by decide)).trans ((hFq9401 376 9 rfl).trans ((hFq9336 376 9 rfl).trans (hFq9331 376 9 rfl)))))))
              have em9448 : mu (yup (yup mq9410 379 ((m 376 10).toNat) rq9410) 376 10 ((m 376 10) + 1)) = mu mq9401 := mu_fr ((yup_nk (by decide)).trans ((yup_na (by decide)).trans ((hFq9410 376 1 rfl).trans (yup_na (by decide))))) ((yup_nk (by decide)).trans ((yup_na (by decide)).trans ((hFq9410 376 3 rfl).trans (yup_na (by decide))))) ((yup_nk (by decide)).trans ((yup_na (by decide)).trans ((hFq9410 376 6 rfl).trans (yup_na (by decide)))))
              have f0 : (yup (yup mq9410 379 ((m 376 10).toNat) rq9410) 376 10 ((m 376 10) + 1)) 403 (1000 * 1 + 8 * (m 390 1).toNat) = _ := (((yup_na (by decide)).trans (yup_na (by decide)))).trans k2
              have f1 : (yup (yup mq9410 379 ((m 376 10).toNat) rq9410) 376 10 ((m 376 10) + 1)) 403 (1000 * 1 + 8 * (m 390 1).toNat + 1) = _ := (((yup_na (by decide)).trans (yup_na (by decide)))).trans k3
              have f2 : (yup (yup mq9410 379 ((m 376 10).toNat) rq9410) 376 10 ((m 376 10) + 1)) 403 (1000 * 1 + 8 * (m 390 1).toNat + 2) = _ := (((yup_na (by decide)).trans (yup_na (by decide)))).trans k4
              have f3 : (yup (yup mq9410 379 ((m 376 10).toNat) rq9410) 376 10 ((m 376 10) + 1)) 403 (1000 * 1 + 8 * (m 390 1).toNat + 3) = _ := (((yup_na (by decide)).trans (yup_na (by decide)))).trans k5
              have f4 : (yup (yup mq9410 379 ((m 376 10).toNat) rq9410) 376 10 ((m 376 10) + 1)) 403 (1000 * 1 + 8 * (m 390 1).toNat + 4) = _ := (((yup_na (by decide)).trans (yup_na (by decide)))).trans k6
              have hw : OW (yup (yup mq9410 379 ((m 376 10).toNat) rq9410) 376 10 ((m 376 10) + 1)) (1000 * 1 + 8 * (m 390 1).toNat) := by unfold OW; omega
              have g8 : (yup (yup mq9410 379 ((m 376 10).toNat) rq9410) 376 10 ((m 376 10) + 1)) 378 (m 376 10).toNat = _ := ((yup_na (by decide)).trans ((yup_na (by decide)).trans ((hFq9410 378 _ rfl).trans (yup_eq _ _ _ _))))
              have g9 : (yup (yup mq9410 379 ((m 376 10).toNat) rq9410) 376 10 ((m 376 10) + 1)) 379 (m 376 10).toNat = _ := ((yup_na (by decide)).trans (yup_eq _ _ _ _))
              have e8 : ∀ q : Nat, (q : Int) < m 376 10 → (yup (yup mq9410 379 ((m 376 10).toNat) rq9410) 376 10 ((m 376 10) + 1)) 378 q = m 378 q := fun q hq => ((yup_na (by decide)).trans ((yup_na (by decide)).trans ((hFq9410 378 q rfl).trans ((yup_nk (by omega)).trans ((hFq9401 378 q rfl).trans ((hFq9336 378 q rfl).trans (hFq9331 378 q rfl)))))))
              have e9 : ∀ q : Nat, (q : Int) < m 376 10 → (yup (yup mq9410 379 ((m 376 10).toNat) rq9410) 376 10 ((m 376 10) + 1)) 379 q = m 379 q := fun q hq => ((yup_na (by decide)).trans ((yup_nk (by omega)).trans ((hFq9410 379 q rfl).trans ((yup_na (by decide)).trans ((hFq9401 379 q rfl).trans ((hFq9336 379 q rfl).trans (hFq9331 379 q rfl)))))))
              have hsc := hX.2.2.2.2.2
              have hCV := hX.2.2.2.2.2.2.2.1
              have hx : XS 1 (yup (yup mq9410 379 ((m 376 10).toNat) rq9410) 376 10 ((m 376 10) + 1)) := XS.opn hX (by omega) (by omega) (fun a q ha h1 h2 h3 => hF9434 a q (wBd1_Y a q ha h1 h2 h3)) (fun q hq => (((yup_na (by decide)).trans (yup_na (by decide)))).trans (k8 q hq)) hw (by omega) (by omega) (by omega) e8 e9 (by omega) (by omega) (by omega) (by omega) (by omega) (fun c hc => by rw [show (yup (yup mq9410 379 ((m 376 10).toNat) rq9410) 376 10 ((m 376 10) + 1)) 401 (8 * 1 + c) = m 401 (8 * 1 + c) from ((yup_na (by decide)).trans ((yup_na (by decide)).trans ((hFq9410 401 _ rfl).trans ((yup_na (by decide)).trans ((hFq9401 401 _ rfl).trans ((hFq9336 401 _ rfl).trans (hFq9331 401 _ rfl)))))))]; exact hCV c (by omega)) (by omega)
              have hpd := PD.opn (m := m) (m' := yup (yup mq9410 379 ((m 376 10).toNat) rq9410) 376 10 ((m 376 10) + 1)) (by omega) (by omega) e8
              exact y_retU c131_106 ⟨rfl, hT9433, hF9434, by omega, by omega, Or.inr ⟨by omega, by omega, by omega, hx⟩⟩
            · exfalso; omega
          · refine y_iconst 64 c131_63 rfl ?_
            refine y_goto 68 c131_64 rfl ?_
            refine y_iastore 69 c131_68 rfl ka378 (by omega) (y_nar0 _) ?_
            have hT9449 := hTq9401.up 378 ((m 376 10).toNat) 3 0 3 rfl (by omega)
            have hF9450 := hF9404.up 378 ((m 376 10).toNat) 3 rfl
            refine y_aload 70 c131_69 rfl rfl rfl ?_
            refine y_getR 73 c131_70 rfl kf376_12 ?_
            refine y_aload 74 c131_73 rfl rfl rfl ?_
            refine y_getX 77 (m 376 10) c131_74 rfl kf376_10 ((yup_na (by decide)).trans ((hFq9401 376 10 rfl).trans ((hFq9336 376 10 rfl).trans (hFq9331 376 10 rfl)))) ?_
            refine y_aload 78 c131_77 rfl rfl rfl ?_
            refine y_iload 79 c131_78 rfl rfl ?_
            refine y_if 87 82 c131_79 rfl rfl (yz_eq (by omega)) (fun hb9451 => ?_) (fun hb9451 => ?_)
            · exfalso; omega
            · refine y_iconst 84 c131_82 rfl ?_
              refine y_goto 89 c131_84 rfl ?_
              refine y_iload 90 c131_89 rfl rfl ?_
              refine y_iconst 91 c131_90 rfl ?_
              refine y_iconst 92 c131_91 rfl ?_
              have es9453 : (yup mq9401 378 ((m 376 10).toNat) 3) 376 1 = m 376 1 := ((yup_na (by decide)).trans ((hFq9401 376 1 rfl).trans ((hFq9336 376 1 rfl).trans (hFq9331 376 1 rfl))))
              have es9454 : (yup mq9401 378 ((m 376 10).toNat) 3) 376 3 = mq9401 376 3 := rfl
              have tb9455 := hTq9401.atp 376 3 0 3 rfl
              have es9456 : (yup mq9401 378 ((m 376 10).toNat) 3) 376 6 = mq9401 376 6 := rfl
              have tb9457 := hTq9401.atp 376 6 0 320 rfl
              have es9458 : (yup mq9401 378 ((m 376 10).toNat) 3) 376 8 = mq9401 376 8 := rfl
              have tb9459 := hTq9401.atp 376 8 ((-1)) 320 rfl
              have es9460 : (yup mq9401 378 ((m 376 10).toNat) 3) 376 18 = m 376 18 := ((yup_na (by decide)).trans ((hFq9401 376 18 rfl).trans ((hFq9336 376 18 rfl).trans (hFq9331 376 18 rfl))))
              have es9461 : (yup mq9401 378 ((m 376 10).toNat) 3) 390 1 = m 390 1 := ((yup_na (by decide)).trans ((hFq9401 390 1 rfl).trans ((hFq9336 390 1 rfl).trans (hFq9331 390 1 rfl))))
              have es9462 : (yup mq9401 378 ((m 376 10).toNat) 3) 386 1 = m 386 1 := ((yup_na (by decide)).trans ((hFq9401 386 1 rfl).trans ((hFq9336 386 1 rfl).trans (hFq9331 386 1 rfl))))
              have es9463 : (yup mq9401 378 ((m 376 10).toNat) 3) 387 1 = m 387 1 := ((yup_na (by decide)).trans ((hFq9401 387 1 rfl).trans ((hFq9336 387 1 rfl).trans (hFq9331 387 1 rfl))))
              have es9464 : (yup mq9401 378 ((m 376 10).toNat) 3) 388 1 = m 388 1 := ((yup_na (by decide)).trans ((hFq9401 388 1 rfl).trans ((hFq9336 388 1 rfl).trans (hFq9331 388 1 rfl))))
              have es9465 : (yup mq9401 378 ((m 376 10).toNat) 3) 376 17 = m 376 17 := ((yup_na (by decide)).trans ((hFq9401 376 17 rfl).trans ((hFq9336 376 17 rfl).trans (hFq9331 376 17 rfl))))
              have tb9466 := hT.atp 376 17 0 20 rfl
              have es9467 : (yup mq9401 378 ((m 376 10).toNat) 3) 384 1 = m 384 1 := ((yup_na (by decide)).trans ((hFq9401 384 1 rfl).trans ((hFq9336 384 1 rfl).trans (hFq9331 384 1 rfl))))
              have es9468 : (yup mq9401 378 ((m 376 10).toNat) 3) 376 10 = m 376 10 := ((yup_na (by decide)).trans ((hFq9401 376 10 rfl).trans ((hFq9336 376 10 rfl).trans (hFq9331 376 10 rfl))))
              have es9469 : (yup mq9401 378 ((m 376 10).toNat) 3) 376 9 = m 376 9 := ((yup_na (by decide)).trans ((hFq9401 376 9 rfl).trans ((hFq9336 376 9 rfl).trans (hFq9331 376 9 rfl))))
              have tb9470 := hT.atp 376 9 0 40 rfl
              have em9471 : mu (yup mq9401 378 ((m 376 10).toNat) 3) = mu mq9401 := mu_fr (yup_na (by decide)) (yup_na (by decide)) (yup_na (by decide))
              refine y_callIB 95 [.ref 376, yI 10, yI rq9336, yI 0, yI 0] [yI (m 376 10), .ref 379] c131_92 rfl rfl rfl rfl rfl (ycanO km127 ko376) (t127_1 hT9449 (by omega) (by omega) (by omega) (by omega) (by omega) (by omega)) (fun rq9452 mq9452 nq9452 hq9452 => ?_)
              obtain ⟨rfl, hTq9452, hFq9452, hq9452, hE⟩ := hq9452
              unfold EM at hE
              rw [show (yup mq9401 378 ((m 376 10).toNat) 3) 390 1 = m 390 1 from ((yup_na (by decide)).trans ((hFq9401 390 1 rfl).trans ((hFq9336 390 1 rfl).trans (hFq9331 390 1 rfl))))] at hE
              obtain ⟨k1, k2, k3, k4, k5, k6, k7⟩ := hE
              have k8 : ∀ q, q < 1000 * 1 + 8 * (m 390 1).toNat ∨ 1000 * 1 + 8 * (m 390 1).toNat + 8 ≤ q → mq9452 403 q = m 403 q := fun q hq => (k7 q hq).trans (((yup_na (by decide)).trans ((hFq9401 403 q rfl).trans ((hFq9336 403 q rfl).trans (hFq9331 403 q rfl)))))
              have x1q9452 : mq9452 376 1 = m 376 1 := ((hFq9452 376 1 rfl).trans ((yup_na (by decide)).trans ((hFq9401 376 1 rfl).trans ((hFq9336 376 1 rfl).trans (hFq9331 376 1 rfl)))))
              have hF9472 := hF9450.tr hFq9452 wEm1_wBd1
              refine y_iastore 96 c131_95 rfl ka379 (by omega) (y_nar0 _) ?_
              have hT9473 := hTq9452.up 379 ((m 376 10).toNat) rq9452 0 124 rfl (by omega)
              have hF9474 := hF9472.up 379 ((m 376 10).toNat) rq9452 rfl
              refine y_aload 97 c131_96 rfl rfl rfl ?_
              refine y_dup 98 c131_97 rfl rfl ?_
              refine y_getX 101 (m 376 10) c131_98 rfl kf376_10 ((yup_na (by decide)).trans ((hFq9452 376 10 rfl).trans ((yup_na (by decide)).trans ((hFq9401 376 10 rfl).trans ((hFq9336 376 10 rfl).trans (hFq9331 376 10 rfl)))))) ?_
              refine y_iconst 102 c131_101 rfl ?_
              refine y_iadd 103 c131_102 rfl ?_
              refine y_putI 106 c131_103 rfl kf376_10 (y_fit0 _) ?_
              have hT9475 := hT9473.up 376 10 ((m 376 10) + 1) 0 3 rfl (by omega)
              have hF9476 := hF9474.up 376 10 ((m 376 10) + 1) rfl
              have es9477 : (yup (yup mq9452 379 ((m 376 10).toNat) rq9452) 376 10 ((m 376 10) + 1)) 376 1 = m 376 1 := ((yup_nk (by decide)).trans ((yup_na (by decide)).trans ((hFq9452 376 1 rfl).trans ((yup_na (by decide)).trans ((hFq9401 376 1 rfl).trans ((hFq9336 376 1 rfl).trans (hFq9331 376 1 rfl)))))))
              have es9478 : (yup (yup mq9452 379 ((m 376 10).toNat) rq9452) 376 10 ((m 376 10) + 1)) 376 3 = mq9401 376 3 := ((yup_nk (by decide)).trans ((yup_na (by decide)).trans ((hFq9452 376 3 rfl).trans (yup_na (by decide)))))
              have es9479 : (yup (yup mq9452 379 ((m 376 10).toNat) rq9452) 376 10 ((m 376 10) + 1)) 376 6 = mq9401 376 6 := ((yup_nk (by decide)).trans ((yup_na (by decide)).trans ((hFq9452 376 6 rfl).trans (yup_na (by decide)))))
              have es9480 : (yup (yup mq9452 379 ((m 376 10).toNat) rq9452) 376 10 ((m 376 10) + 1)) 376 8 = mq9401 376 8 := ((yup_nk (by decide)).trans ((yup_na (by decide)).trans ((hFq9452 376 8 rfl).trans (yup_na (by decide)))))
              have es9481 : (yup (yup mq9452 379 ((m 376 10).toNat) rq9452) 376 10 ((m 376 10) + 1)) 390 1 = mq9452 390 1 := rfl
              have tb9482 := hTq9452.atp 390 1 0 125 rfl
              have es9483 : (yup (yup mq9452 379 ((m 376 10).toNat) rq9452) 376 10 ((m 376 10) + 1)) 386 1 = m 386 1 := ((yup_na (by decide)).trans ((yup_na (by decide)).trans ((hFq9452 386 1 rfl).trans ((yup_na (by decide)).trans ((hFq9401 386 1 rfl).trans ((hFq9336 386 1 rfl).trans (hFq9331 386 1 rfl)))))))
              have es9484 : (yup (yup mq9452 379 ((m 376 10).toNat) rq9452) 376 10 ((m 376 10) + 1)) 387 1 = m 387 1 := ((yup_na (by decide)).trans ((yup_na (by decide)).trans ((hFq9452 387 1 rfl).trans ((yup_na (by decide)).trans ((hFq9401 387 1 rfl).trans ((hFq9336 387 1 rfl).trans (hFq9331 387 1 rfl)))))))
              have es9485 : (yup (yup mq9452 379 ((m 376 10).toNat) rq9452) 376 10 ((m 376 10) + 1)) 388 1 = m 388 1 := ((yup_na (by decide)).trans ((yup_na (by decide)).trans ((hFq9452 388 1 rfl).trans ((yup_na (by decide)).trans ((hFq9401 388 1 rfl).trans ((hFq9336 388 1 rfl).trans (hFq9331 388 1 rfl)))))))
              have es9486 : (yup (yup mq9452 379 ((m 376 10).toNat) rq9452) 376 10 ((m 376 10) + 1)) 376 17 = m 376 17 := ((yup_nk (by decide)).trans ((yup_na (by decide)).trans ((hFq9452 376 17 rfl).trans ((yup_na (by decide)).trans ((hFq9401 376 17 rfl).trans ((hFq9336 376 17 rfl).trans (hFq9331 376 17 rfl)))))))
              have es9487 : (yup (yup mq9452 379 ((m 376 10).toNat) rq9452) 376 10 ((m 376 10) + 1)) 384 1 = m 384 1 := ((yup_na (by decide)).trans ((yup_na (by decide)).trans ((hFq9452 384 1 rfl).trans ((yup_na (by decide)).trans ((hFq9401 384 1 rfl).trans ((hFq9336 384 1 rfl).trans (hFq9331 384 1 rfl)))))))
              have es9488 : (yup (yup mq9452 379 ((m 376 10).toNat) rq9452) 376 10 ((m 376 10) + 1)) 376 10 = (m 376 10) + 1 := rfl
              have es9489 : (yup (yup mq9452 379 ((m 376 10).toNat) rq9452) 376 10 ((m 376 10) + 1)) 376 9 = m 376 9 := ((yup_nk (by decide)).trans ((yup_na (by decide)).trans ((hFq9452 376 9 rfl).trans ((yup_na (by decide)).trans ((hFq9401 376 9 rfl).trans ((hFq9336 376 9 rfl).trans (hFq9331 376 9 rfl)))))))
              have em9490 : mu (yup (yup mq9452 379 ((m 376 10).toNat) rq9452) 376 10 ((m 376 10) + 1)) = mu mq9401 := mu_fr ((yup_nk (by decide)).trans ((yup_na (by decide)).trans ((hFq9452 376 1 rfl).trans (yup_na (by decide))))) ((yup_nk (by decide)).trans ((yup_na (by decide)).trans ((hFq9452 376 3 rfl).trans (yup_na (by decide))))) ((yup_nk (by decide)).trans ((yup_na (by decide)).trans ((hFq9452 376 6 rfl).trans (yup_na (by decide)))))
              have f0 : (yup (yup mq9452 379 ((m 376 10).toNat) rq9452) 376 10 ((m 376 10) + 1)) 403 (1000 * 1 + 8 * (m 390 1).toNat) = _ := (((yup_na (by decide)).trans (yup_na (by decide)))).trans k2
              have f1 : (yup (yup mq9452 379 ((m 376 10).toNat) rq9452) 376 10 ((m 376 10) + 1)) 403 (1000 * 1 + 8 * (m 390 1).toNat + 1) = _ := (((yup_na (by decide)).trans (yup_na (by decide)))).trans k3
              have f2 : (yup (yup mq9452 379 ((m 376 10).toNat) rq9452) 376 10 ((m 376 10) + 1)) 403 (1000 * 1 + 8 * (m 390 1).toNat + 2) = _ := (((yup_na (by decide)).trans (yup_na (by decide)))).trans k4
              have f3 : (yup (yup mq9452 379 ((m 376 10).toNat) rq9452) 376 10 ((m 376 10) + 1)) 403 (1000 * 1 + 8 * (m 390 1).toNat + 3) = _ := (((yup_na (by decide)).trans (yup_na (by decide)))).trans k5
              have f4 : (yup (yup mq9452 379 ((m 376 10).toNat) rq9452) 376 10 ((m 376 10) + 1)) 403 (1000 * 1 + 8 * (m 390 1).toNat + 4) = _ := (((yup_na (by decide)).trans (yup_na (by decide)))).trans k6
              have hw : OW (yup (yup mq9452 379 ((m 376 10).toNat) rq9452) 376 10 ((m 376 10) + 1)) (1000 * 1 + 8 * (m 390 1).toNat) := by unfold OW; omega
              have g8 : (yup (yup mq9452 379 ((m 376 10).toNat) rq9452) 376 10 ((m 376 10) + 1)) 378 (m 376 10).toNat = _ := ((yup_na (by decide)).trans ((yup_na (by decide)).trans ((hFq9452 378 _ rfl).trans (yup_eq _ _ _ _))))
              have g9 : (yup (yup mq9452 379 ((m 376 10).toNat) rq9452) 376 10 ((m 376 10) + 1)) 379 (m 376 10).toNat = _ := ((yup_na (by decide)).trans (yup_eq _ _ _ _))
              have e8 : ∀ q : Nat, (q : Int) < m 376 10 → (yup (yup mq9452 379 ((m 376 10).toNat) rq9452) 376 10 ((m 376 10) + 1)) 378 q = m 378 q := fun q hq => ((yup_na (by decide)).trans ((yup_na (by decide)).trans ((hFq9452 378 q rfl).trans ((yup_nk (by omega)).trans ((hFq9401 378 q rfl).trans ((hFq9336 378 q rfl).trans (hFq9331 378 q rfl)))))))
              have e9 : ∀ q : Nat, (q : Int) < m 376 10 → (yup (yup mq9452 379 ((m 376 10).toNat) rq9452) 376 10 ((m 376 10) + 1)) 379 q = m 379 q := fun q hq => ((yup_na (by decide)).trans ((yup_nk (by omega)).trans ((hFq9452 379 q rfl).trans ((yup_na (by decide)).trans ((hFq9401 379 q rfl).trans ((hFq9336 379 q rfl).trans (hFq9331 379 q rfl)))))))
              have hsc := hX.2.2.2.2.2
              have hCV := hX.2.2.2.2.2.2.2.1
              have hx : XS 1 (yup (yup mq9452 379 ((m 376 10).toNat) rq9452) 376 10 ((m 376 10) + 1)) := XS.opn hX (by omega) (by omega) (fun a q ha h1 h2 h3 => hF9476 a q (wBd1_Y a q ha h1 h2 h3)) (fun q hq => (((yup_na (by decide)).trans (yup_na (by decide)))).trans (k8 q hq)) hw (by omega) (by omega) (by omega) e8 e9 (by omega) (by omega) (by omega) (by omega) (by omega) (fun c hc => by rw [show (yup (yup mq9452 379 ((m 376 10).toNat) rq9452) 376 10 ((m 376 10) + 1)) 401 (8 * 1 + c) = m 401 (8 * 1 + c) from ((yup_na (by decide)).trans ((yup_na (by decide)).trans ((hFq9452 401 _ rfl).trans ((yup_na (by decide)).trans ((hFq9401 401 _ rfl).trans ((hFq9336 401 _ rfl).trans (hFq9331 401 _ rfl)))))))]; exact hCV c (by omega)) (by omega)
              have hpd := PD.opn (m := m) (m' := yup (yup mq9452 379 ((m 376 10).toNat) rq9452) 376 10 ((m 376 10) + 1)) (by omega) (by omega) e8
              exact y_retU c131_106 ⟨rfl, hT9475, hF9476, by omega, by omega, Or.inr ⟨by omega, by omega, by omega, hx⟩⟩
        · have es9491 : mq9401 376 1 = m 376 1 := ((hFq9401 376 1 rfl).trans ((hFq9336 376 1 rfl).trans (hFq9331 376 1 rfl)))
          have tb9492 := hTq9401.atp 376 3 0 3 rfl
          have tb9493 := hTq9401.atp 376 6 0 320 rfl
          have tb9494 := hTq9401.atp 376 8 ((-1)) 320 rfl
          have es9495 : mq9401 390 1 = m 390 1 := ((hFq9401 390 1 rfl).trans ((hFq9336 390 1 rfl).trans (hFq9331 390 1 rfl)))
          have es9496 : mq9401 386 1 = m 386 1 := ((hFq9401 386 1 rfl).trans ((hFq9336 386 1 rfl).trans (hFq9331 386 1 rfl)))
          have es9497 : mq9401 387 1 = m 387 1 := ((hFq9401 387 1 rfl).trans ((hFq9336 387 1 rfl).trans (hFq9331 387 1 rfl)))
          have es9498 : mq9401 388 1 = m 388 1 := ((hFq9401 388 1 rfl).trans ((hFq9336 388 1 rfl).trans (hFq9331 388 1 rfl)))
          have es9499 : mq9401 376 17 = m 376 17 := ((hFq9401 376 17 rfl).trans ((hFq9336 376 17 rfl).trans (hFq9331 376 17 rfl)))
          have tb9500 := hT.atp 376 17 0 20 rfl
          have es9501 : mq9401 384 1 = m 384 1 := ((hFq9401 384 1 rfl).trans ((hFq9336 384 1 rfl).trans (hFq9331 384 1 rfl)))
          have es9502 : mq9401 376 10 = m 376 10 := ((hFq9401 376 10 rfl).trans ((hFq9336 376 10 rfl).trans (hFq9331 376 10 rfl)))
          have es9503 : mq9401 376 9 = m 376 9 := ((hFq9401 376 9 rfl).trans ((hFq9336 376 9 rfl).trans (hFq9331 376 9 rfl)))
          have tb9504 := hT.atp 376 9 0 40 rfl
          exact y_retU c131_50 ⟨rfl, hTq9401, hF9404, by omega, by omega, Or.inl (by omega)⟩
end

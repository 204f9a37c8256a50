/-! THE MODEL: a program that was read; its facts -/
def SX (p : Nat) (m : yM) (s c : Int) : Prop := ∀ k : Nat, (k : Int) < s → -1 ≤ m 400 (12 * p + k) ∧ m 400 (12 * p + k) < c
def FX (p : Nat) (m : yM) (n : Int) : Prop := ∀ o : Nat, (o : Int) < n → (m 403 (1000 * p + 8 * o) = 4 ∨ m 403 (1000 * p + 8 * o) = 5) → -1 ≤ m 403 (1000 * p + 8 * o + 4) ∧ m 403 (1000 * p + 8 * o + 4) ≤ 7
def GQ (p : Nat) (m : yM) : Prop := OX p m (m 390 p) (m 386 p) ∧ JA p m (m 390 p) ∧ LE p m (m 390 p) ∧ MX p m (m 384 p) (m 390 p - 1) ∧ UX p m (m 383 p) ∧ SX p m (m 388 p) (m 383 p) ∧ FX p m (m 390 p) ∧ CV p m (m 387 p) ∧ 1 ≤ m 388 p ∧ 1 ≤ m 383 p ∧ m 390 p ≤ 100 ∧ NS p m (m 390 p) (m 388 p)
/-- the places that it speaks of -/
def vGq (p a q : Nat) : Bool := ((a == 383 || a == 384 || a == 386 || a == 387 || a == 388 || a == 390) && q == p) || (a == 392 && decide (6 * p ≤ q ∧ q < 6 * p + 6)) || ((a == 397 || a == 398 || a == 399) && decide (10 * p ≤ q ∧ q < 10 * p + 10)) || (a == 400 && decide (12 * p ≤ q ∧ q < 12 * p + 12)) || (a == 401 && decide (8 * p ≤ q ∧ q < 8 * p + 8)) || (a == 403 && decide (1000 * p ≤ q ∧ q < 1000 * p + 1000))
section GQL
variable {p : Nat} {m m' m1 m2 : yM}
theorem GQ.fr (h : GQ p m) (hT : Ty gT m) (hp : p = 0 ∨ p = 1) (e : ∀ a q, vGq p a q = true → m' a q = m a q) : GQ p m' := by
  have s1 := e 383 p (by simp [vGq])
  have s2 := e 384 p (by simp [vGq])
  have s3 := e 386 p (by simp [vGq])
  have s4 := e 387 p (by simp [vGq])
  have s5 := e 388 p (by simp [vGq])
  have s6 := e 390 p (by simp [vGq])
  have t1 : m 383 p ≤ 6 := by rcases hp with rfl | rfl <;> exact (hT.atp 383 _ 0 6 rfl).2
  have t2 : m 384 p ≤ 10 := by rcases hp with rfl | rfl <;> exact (hT.atp 384 _ 0 10 rfl).2
  have t4 : m 387 p ≤ 8 := by rcases hp with rfl | rfl <;> exact (hT.atp 387 _ 0 8 rfl).2
  have t5 : m 388 p ≤ 12 := by rcases hp with rfl | rfl <;> exact (hT.atp 388 _ 0 12 rfl).2
  obtain ⟨x1, x2, x3, x4, x5, x6, x7, x8, x9, x10, x11, x12⟩ := h
  have e3 : ∀ o : Nat, (o : Int) < m 390 p → ∀ j, j < 8 → m' 403 (1000 * p + 8 * o + j) = m 403 (1000 * p + 8 * o + j) := fun o ho j hj => e _ _ (by simp [vGq]; omega)
  have e0 : ∀ o : Nat, (o : Int) < m 390 p → m' 403 (1000 * p + 8 * o) = m 403 (1000 * p + 8 * o) := fun o ho => e3 o ho 0 (by decide)
  unfold GQ
  rw [s1, s2, s3, s4, s5, s6]
  refine ⟨⟨fun o ho => (x1.1 o ho).eq (fun q h1 h2 => e _ _ (by simp [vGq]; omega)), fun o ho => ?_, fun o ho => ?_, fun i j hij hj => ?_⟩, fun o ho => ?_, ⟨fun o ho => by rw [e0 o (by omega)]; exact x3.1 o ho, fun o ho => by rw [e0 o ho, e3 o ho 3 (by decide)]; exact x3.2 o ho⟩, fun i hi => ?_, fun k hk => ?_, fun k hk => ?_, fun o ho => ?_, fun c hc => ?_, x9, x10, x11, fun o ho => by rw [e0 o ho, e3 o ho 3 (by decide)]; exact x12 o ho⟩
  · rw [e0 o ho, e3 o ho 3 (by decide)]
    exact x1.2.1 o ho
  · rw [e0 o ho, e3 o ho 5 (by decide)]
    exact x1.2.2.1 o ho
  · rw [e0 i (by omega), e3 i (by omega) 5 (by decide), e0 j hj, e3 j hj 5 (by decide)]
    exact x1.2.2.2 i j hij hj
  · rw [e0 o ho]
    intro k
    have hw := x1.1 o ho
    have ht := x1.2.1 o ho (by omega)
    rcases x2 o ho k with q | q
    · left
      rw [e3 o ho 3 (by decide)]
      exact q
    · right
      rw [e3 o ho 3 (by decide)]
      have h0 : 0 ≤ m 403 (1000 * p + 8 * o + 3) := hw.2.2.2.1.1
      rw [e _ _ (by simp [vGq]; omega)]
      exact q
  · rw [e _ _ (by simp [vGq]; omega), e _ _ (by simp [vGq]; omega), e _ _ (by simp [vGq]; omega)]
    exact x4 i hi
  · rw [e _ _ (by simp [vGq]; omega)]
    exact x5 k hk
  · rw [e _ _ (by simp [vGq]; omega)]
    exact x6 k hk
  · rw [e0 o ho, e3 o ho 4 (by decide)]
    exact x7 o ho
  · rw [e _ _ (by simp [vGq]; omega)]
    exact x8 c hc
/-- how many of the first n are below 0 -/
def ngc (f : Nat → Int) : Nat → Nat
  | 0 => 0
  | n + 1 => ngc f n + (if f n < 0 then 1 else 0)
theorem ngc_le {f : Nat → Int} : ∀ n, ngc f n ≤ n := by
  intro n
  induction n with
  | zero => exact Nat.le_refl _
  | succ n ih =>
    simp only [ngc]
    split <;> omega
theorem ngc_mono {f g : Nat → Int} (h : ∀ q, 0 ≤ f q → 0 ≤ g q) : ∀ n, ngc g n ≤ ngc f n := by
  intro n
  induction n with
  | zero => exact Nat.le_refl _
  | succ n ih =>
    simp only [ngc]
    have := h n
    split <;> split <;> omega
theorem ngc_lt {f g : Nat → Int} (h : ∀ q, 0 ≤ f q → 0 ≤ g q) {k : Nat} (h1 : f k < 0) (h2 : 0 ≤ g k) : ∀ n, k < n → ngc g n < ngc f n := by
  intro n
  induction n with
  | zero => intro hk; omega
  | succ n ih =>
    intro hk
    simp only [ngc]
    by_cases q : k = n
    · subst q
      have := ngc_mono h k
      rw [if_pos h1, if_neg (by omega)]
      omega
    · have := ih (by omega)
      have := h n
      split <;> split <;> omega
def NEG (m : yM) : Nat := ngc (m 404) 576 + ngc (m 405) 1152 + ngc (m 406) 120 + ngc (m 407) 10
/-- facts stay; something new is told -/
def AN (m m' : yM) : Prop := (∀ a q, 404 ≤ a ∧ a ≤ 407 → 0 ≤ m a q → 0 ≤ m' a q) ∧ (m' 376 46 = m 376 46 ∨ (m' 376 46 = 1 ∧ ∃ a q, ((a = 404 ∧ q < 576) ∨ (a = 405 ∧ q < 1152) ∨ (a = 406 ∧ q < 120) ∨ (a = 407 ∧ q < 10)) ∧ m a q < 0 ∧ 0 ≤ m' a q))
theorem AN.rf : AN m m := ⟨fun _ _ _ h => h, Or.inl rfl⟩
theorem AN.tr (h : AN m m1) (h' : AN m1 m2) : AN m m2 := by
  obtain ⟨a1, a2⟩ := h
  obtain ⟨b1, b2⟩ := h'
  refine ⟨fun a q ha hq => b1 a q ha (a1 a q ha hq), ?_⟩
  rcases b2 with b2 | ⟨b2, a, q, b3, b4, b5⟩
  · rcases a2 with a2 | ⟨a2, a, q, a3, a4, a5⟩
    · exact Or.inl (b2.trans a2)
    · exact Or.inr ⟨b2.trans a2, a, q, a3, a4, b1 a q (by omega) a5⟩
  · refine Or.inr ⟨b2, a, q, b3, ?_, b5⟩
    by_cases z : 0 ≤ m a q
    · have := a1 a q (by omega) z
      omega
    · omega
theorem AN.w {a q : Nat} {v : Int} (h : (a = 404 ∧ q < 576) ∨ (a = 405 ∧ q < 1152) ∨ (a = 406 ∧ q < 120) ∨ (a = 407 ∧ q < 10)) (h1 : m a q < 0) (h2 : 0 ≤ v) : AN m (yup (yup m a q v) 376 46 1) := by
  refine ⟨fun b j hb hj => ?_, Or.inr ⟨yup_eq _ _ _ _, a, q, h, h1, ?_⟩⟩
  · rw [yup_na (by omega)]
    by_cases z : b = a ∧ j = q
    · obtain ⟨rfl, rfl⟩ := z
      rw [yup_eq]
      exact h2
    · rw [yup_ne z]
      exact hj
  · rw [yup_na (by omega), yup_eq]
    exact h2
theorem AN.neg (h : AN m m') : NEG m' ≤ NEG m ∧ (m' 376 46 ≠ m 376 46 → NEG m' < NEG m) := by
  obtain ⟨a1, a2⟩ := h
  have h4 : ∀ q, 0 ≤ m 404 q → 0 ≤ m' 404 q := fun q => a1 404 q (by omega)
  have h5 : ∀ q, 0 ≤ m 405 q → 0 ≤ m' 405 q := fun q => a1 405 q (by omega)
  have h6 : ∀ q, 0 ≤ m 406 q → 0 ≤ m' 406 q := fun q => a1 406 q (by omega)
  have h7 : ∀ q, 0 ≤ m 407 q → 0 ≤ m' 407 q := fun q => a1 407 q (by omega)
  have k4 := ngc_mono h4 576
  have k5 := ngc_mono h5 1152
  have k6 := ngc_mono h6 120
  have k7 := ngc_mono h7 10
  unfold NEG
  refine ⟨by omega, fun hne => ?_⟩
  rcases a2 with a2 | ⟨-, a, q, b, b1, b2⟩
  · exact absurd a2 hne
  · rcases b with ⟨rfl, hq⟩ | ⟨rfl, hq⟩ | ⟨rfl, hq⟩ | ⟨rfl, hq⟩
    · have := ngc_lt h4 b1 b2 576 hq; omega
    · have := ngc_lt h5 b1 b2 1152 hq; omega
    · have := ngc_lt h6 b1 b2 120 hq; omega
    · have := ngc_lt h7 b1 b2 10 hq; omega
theorem NEG.hi : NEG m ≤ 1858 := by
  have := ngc_le (f := m 404) 576
  have := ngc_le (f := m 405) 1152
  have := ngc_le (f := m 406) 120
  have := ngc_le (f := m 407) 10
  unfold NEG
  omega
/-- a call goes only where its arguments fit -/
def GM (p : Nat) (m : yM) : Prop := ∀ o : Nat, (o : Int) < m 390 p → m 403 (1000 * p + 8 * o) = 7 → ∀ i : Nat, (i : Int) < m 384 p → 0 ≤ m 406 (10 * (m 403 (1000 * p + 8 * o + 5) / 16).toNat + i) → m 397 (10 * p + i) = m 403 (1000 * p + 8 * o + 5) % 16
def wAn (a q : Nat) : Bool := (a == 376 && q == 46) || decide (404 ≤ a ∧ a ≤ 407)
def wAm (a q : Nat) : Bool := (a == 376 && q == 46) || a == 404 || a == 405 || a == 407
theorem wAm_wAn : ∀ a q, wAm a q = true → wAn a q = true := by
  intro a q h
  simp [wAm] at h
  simp [wAn]
  omega
theorem wAn_G : ∀ a q, vGq p a q = true → wAn a q = false := by
  intro a q h
  cases e : wAn a q with
  | false => rfl
  | true => simp [wAn] at e; simp [vGq] at h; omega
theorem GM.fr (h : GM p m) (F : Fr wAm m m') : GM p m' := by
  have e3 : ∀ q, m' 403 q = m 403 q := fun q => F 403 q rfl
  have e6 : ∀ q, m' 406 q = m 406 q := fun q => F 406 q rfl
  have e7 : ∀ q, m' 397 q = m 397 q := fun q => F 397 q rfl
  have s1 : m' 390 p = m 390 p := F 390 p rfl
  have s2 : m' 384 p = m 384 p := F 384 p rfl
  unfold GM at h ⊢
  simp only [e3, e6, e7, s1, s2]
  exact h
theorem GM.up {a q : Nat} {v : Int} (h : GM p m) (ha : a ≠ 403 ∧ a ≠ 406 ∧ a ≠ 397 ∧ a ≠ 390 ∧ a ≠ 384) : GM p (yup m a q v) := by
  intro o ho h7 i hi hne
  rw [yup_na (by omega)] at ho h7 hi
  rw [yup_na (by omega), yup_na (by omega)] at hne
  rw [yup_na (by omega), yup_na (by omega)]
  exact h o ho h7 i hi hne
theorem GM.goes {o i : Nat} {v : Int} (h : GM p m) (hO : OX p m (m 390 p) (m 386 p)) (ho : (o : Int) < m 390 p) (h7 : m 403 (1000 * p + 8 * o) = 7) (hk : m 384 p ≤ 10) (hi : i < 10) (hs : m 397 (10 * p + i) = m 403 (1000 * p + 8 * o + 5) % 16) : GM p (yup m 406 (10 * (m 403 (1000 * p + 8 * o + 5) / 16).toNat + i) v) := by
  intro o2 ho2 h72 i2 hi2 hne
  rw [yup_na (by omega)] at ho2 h72 hi2
  rw [yup_na (by decide), yup_na (by decide)]
  rw [yup_na (b := 403) (by decide)] at hne
  by_cases q : o2 = o ∧ i2 = i
  · obtain ⟨rfl, rfl⟩ := q
    exact hs
  · have w1 := (hO.1 o ho).2.2.2.2.2.2.2.2 h7
    have w2 := (hO.1 o2 ho2).2.2.2.2.2.2.2.2 h72
    rw [yup_nk] at hne
    · exact h o2 ho2 h72 i2 hi2 hne
    · intro e
      have : m 403 (1000 * p + 8 * o2 + 5) / 16 = m 403 (1000 * p + 8 * o + 5) / 16 := by omega
      rcases Nat.lt_trichotomy o2 o with z | z | z
      · have := hO.2.2.2 o2 o z ho h72 h7; omega
      · exact q ⟨z, by subst z; omega⟩
      · have := hO.2.2.2 o o2 z ho2 h7 h72; omega
end GQL

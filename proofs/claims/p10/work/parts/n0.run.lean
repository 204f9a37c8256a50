/-! THE MODEL: a run -/
theorem MI.fr {m m' : yM} (h : MI m) (hT : Ty gT m') (e : ∀ a q, (a = 376 ∧ (q = 18 ∨ q = 19)) ∨ vGq 0 a q = true ∨ vGq 1 a q = true → m' a q = m a q) : MI m' := by
  obtain ⟨h0, h1⟩ := h
  refine ⟨hT, ?_⟩
  rw [e 376 19 (Or.inl ⟨rfl, Or.inr rfl⟩), e 376 18 (Or.inl ⟨rfl, Or.inl rfl⟩)]
  rcases h1 with q | ⟨q1, q2⟩ | ⟨q1, q2⟩
  · exact Or.inl q
  · exact Or.inr (Or.inl ⟨q1, q2.fr h0 (by decide) (fun a q ha => e a q (Or.inr (Or.inl ha)))⟩)
  · exact Or.inr (Or.inr ⟨q1, q2.fr h0 (by decide) (fun a q ha => e a q (Or.inr (Or.inr ha)))⟩)
def BRm (p : Nat) (m : yM) : Prop := ∀ f : Nat, 1 ≤ f → (f : Int) < m 376 54 → 0 ≤ m 412 f ∧ m 412 f < m 390 p ∧ m 403 (1000 * p + 8 * (m 412 f).toNat) = 7
def RN (p : Nat) (m : yM) : Prop := 1 ≤ m 376 54 ∧ m 376 55 < m 390 p ∧ m 376 57 = 0 ∧ m 376 56 ≤ 200 ∧ BRm p m
def rk (p : Nat) (m : yM) (o : Int) : Int := if m 403 (1000 * p + 8 * o.toNat) = 11 then (if o < m 403 (1000 * p + 8 * o.toNat + 3) then 126 - o else 1) else 0
def MR (p : Nat) (m : yM) : Int := (201 - m 376 56) * 1000 + m 376 54 * 200 + rk p m (m 376 55)
theorem rk_lo {p : Nat} {m : yM} {o : Int} (h : 0 ≤ o ∧ o ≤ 124) : 0 ≤ rk p m o ∧ rk p m o ≤ 126 := by
  unfold rk
  split
  · split <;> omega
  · omega
theorem rk_jump {p : Nat} {m : yM} {o t : Int} (h : 0 ≤ o ∧ o ≤ 124) (ho : m 403 (1000 * p + 8 * o.toNat) = 11) (ht : m 403 (1000 * p + 8 * o.toNat + 3) = t) (h0 : 0 ≤ t) (hj : o < t ∨ m 403 (1000 * p + 8 * t.toNat) = 10) : rk p m t < rk p m o := by
  unfold rk
  rw [if_pos ho, ht]
  by_cases q : o < t
  · rw [if_pos q]
    split
    · split <;> omega
    · omega
  · rw [if_neg q, if_neg (by omega)]
    omega
theorem rk_fr {p : Nat} {m m' : yM} {o : Int} (e : ∀ q, m' 403 q = m 403 q) : rk p m' o = rk p m o := by
  unfold rk
  rw [e, e]
def wGv (a _q : Nat) : Bool := a == 411 || a == 408
def wMk (a q : Nat) : Bool := (a == 376 && (q == 51 || q == 57)) || a == 409 || a == 410
def wPl (a q : Nat) : Bool := (a == 376 && (q == 51 || q == 57)) || decide (408 ≤ a ∧ a ≤ 411)
def wEn (a q : Nat) : Bool := (a == 376 && (q == 54 || q == 55 || q == 57)) || a == 408 || a == 411 || a == 412
def wRn (a q : Nat) : Bool := (a == 376 && (q == 51 || (decide (54 ≤ q) && decide (q ≤ 57)))) || decide (408 ≤ a ∧ a ≤ 412)
theorem wGv_wPl : ∀ a q, wGv a q = true → wPl a q = true := by
  intro a q h; simp [wGv] at h; simp [wPl]; omega
theorem wMk_wPl : ∀ a q, wMk a q = true → wPl a q = true := by
  intro a q h; simp [wMk] at h; simp [wPl]; omega
theorem wGv_wEn : ∀ a q, wGv a q = true → wEn a q = true := by
  intro a q h; simp [wGv] at h; simp [wEn]; omega
theorem wGv_wRn : ∀ a q, wGv a q = true → wRn a q = true := by
  intro a q h; simp [wGv] at h; simp [wRn]; omega
theorem wMk_wRn : ∀ a q, wMk a q = true → wRn a q = true := by
  intro a q h; simp [wMk] at h; simp [wRn]; omega
theorem wPl_wRn : ∀ a q, wPl a q = true → wRn a q = true := by
  intro a q h; simp [wPl] at h; simp [wRn]; omega
theorem wEn_wRn : ∀ a q, wEn a q = true → wRn a q = true := by
  intro a q h; simp [wEn] at h; simp [wRn]; omega
theorem wRo_wEn {R : Nat} (h : R = 411) : ∀ a q, wRo R a q = true → wEn a q = true := by
  intro a q e; simp [wRo] at e; simp [wEn]; omega
theorem wRo_wMk {R : Nat} (h : R = 410) : ∀ a q, wRo R a q = true → wMk a q = true := by
  intro a q e; simp [wRo] at e; simp [wMk]; omega
theorem wRn_wML : ∀ a q, wRn a q = true → wML a q = true := wML_of (fun a q h => by simp [wRn] at h; omega)
theorem wRn_G {p : Nat} : ∀ a q, vGq p a q = true → wRn a q = false := by
  intro a q h
  cases e : wRn a q with
  | false => rfl
  | true => simp [wRn] at e; simp [vGq] at h; omega
/-- what the variables and the fields hold was made; the objects are of the program's sites -/
def VX (p : Nat) (m : yM) : Prop := (∀ q : Nat, (q : Int) < 48 * m 376 54 → m 411 q ≤ m 376 51) ∧ (∀ q : Nat, (q : Int) < 8 * m 376 51 → m 410 q ≤ m 376 51) ∧ (∀ q : Nat, (q : Int) < m 376 51 → m 409 q < m 388 p)
section VXL
variable {p : Nat} {m m' : yM} {k a q : Nat} {x v : Int}
theorem VX.up1 (h : VX p m) (hx : x ≤ m 376 51) : VX p (yup m 411 k x) := by
  refine ⟨fun q hq => ?_, fun q hq => ?_, fun q hq => ?_⟩
  · rw [show yup m 411 k x 376 51 = m 376 51 from yup_na (by decide)]
    rw [show yup m 411 k x 376 54 = m 376 54 from yup_na (by decide)] at hq
    by_cases e : q = k
    · subst e; rw [yup_eq]; exact hx
    · rw [yup_nk e]; exact h.1 q hq
  · rw [yup_na (by decide)] at hq
    rw [yup_na (by decide), yup_na (by decide)]
    exact h.2.1 q hq
  · rw [yup_na (by decide)] at hq
    rw [yup_na (by decide), yup_na (by decide)]
    exact h.2.2 q hq
theorem VX.up0 (h : VX p m) (hx : x ≤ m 376 51) : VX p (yup m 410 k x) := by
  refine ⟨fun q hq => ?_, fun q hq => ?_, fun q hq => ?_⟩
  · rw [yup_na (by decide)] at hq
    rw [yup_na (by decide), yup_na (by decide)]
    exact h.1 q hq
  · rw [show yup m 410 k x 376 51 = m 376 51 from yup_na (by decide)]
    rw [show yup m 410 k x 376 51 = m 376 51 from yup_na (by decide)] at hq
    by_cases e : q = k
    · subst e; rw [yup_eq]; exact hx
    · rw [yup_nk e]; exact h.2.1 q hq
  · rw [yup_na (by decide)] at hq
    rw [yup_na (by decide), yup_na (by decide)]
    exact h.2.2 q hq
theorem VX.fr (h : VX p m) (e1 : m' 376 51 = m 376 51) (e4 : m' 376 54 ≤ m 376 54) (e8 : m' 388 p = m 388 p) (f1 : ∀ q, m' 411 q = m 411 q) (f0 : ∀ q, m' 410 q = m 410 q) (f9 : ∀ q, m' 409 q = m 409 q) : VX p m' := by
  refine ⟨fun q hq => ?_, fun q hq => ?_, fun q hq => ?_⟩
  · rw [f1, e1]; exact h.1 q (by omega)
  · rw [e1] at hq ⊢; rw [f0]; exact h.2.1 q hq
  · rw [e1] at hq; rw [f9, e8]; exact h.2.2 q hq
theorem VX.na (h : VX p m) (ha : a ≠ 376 ∧ a ≠ 388 ∧ a ≠ 409 ∧ a ≠ 410 ∧ a ≠ 411) : VX p (yup m a q v) := h.fr (yup_na (by omega)) (by rw [yup_na (by omega)]; exact Int.le_refl _) (yup_na (by omega)) (fun _ => yup_na (by omega)) (fun _ => yup_na (by omega)) (fun _ => yup_na (by omega))
theorem VX.sc (h : VX p m) (hq : q ≠ 51 ∧ q ≠ 54) : VX p (yup m 376 q v) := h.fr (yup_nk (by omega)) (by rw [yup_nk (by omega)]; exact Int.le_refl _) (yup_na (by decide)) (fun _ => yup_na (by decide)) (fun _ => yup_na (by decide)) (fun _ => yup_na (by decide))
theorem VX.dn (h : VX p m) (hv : v ≤ m 376 54) : VX p (yup m 376 54 v) := h.fr (yup_nk (by decide)) (by rw [yup_eq]; exact hv) (yup_na (by decide)) (fun _ => yup_na (by decide)) (fun _ => yup_na (by decide)) (fun _ => yup_na (by decide))
theorem VX.up1e (h : VX p m) {w : Int} (e : m 376 51 = w) (hx : x ≤ w) : VX p (yup m 411 k x) := h.up1 (e ▸ hx)
theorem VX.up0e (h : VX p m) {w : Int} (e : m 376 51 = w) (hx : x ≤ w) : VX p (yup m 410 k x) := h.up0 (e ▸ hx)
theorem VX.dne (h : VX p m) {w : Int} (e : m 376 54 = w) (hv : v ≤ w) : VX p (yup m 376 54 v) := h.dn (e ▸ hv)
theorem VX.ent (h : VX p m) (h0 : 0 ≤ m 376 51) (h54 : m' 376 54 = m 376 54 + 1) (h51 : m' 376 51 = m 376 51) (e8 : m' 388 p = m 388 p) (e1 : ∀ q : Nat, (q : Int) < 48 * m 376 54 → m' 411 q = m 411 q) (e2 : ∀ q : Nat, 48 * m 376 54 ≤ (q : Int) → (q : Int) < 48 * m 376 54 + 48 → m' 411 q = 0) (f0 : ∀ q, m' 410 q = m 410 q) (f9 : ∀ q, m' 409 q = m 409 q) : VX p m' := by
  refine ⟨fun q hq => ?_, fun q hq => ?_, fun q hq => ?_⟩
  · rw [h51]
    by_cases z : (q : Int) < 48 * m 376 54
    · rw [e1 q z]; exact h.1 q z
    · rw [e2 q (by omega) (by omega)]; exact h0
  · rw [h51] at hq ⊢; rw [f0]; exact h.2.1 q hq
  · rw [h51] at hq; rw [f9, e8]; exact h.2.2 q hq
theorem VX.mk (h : VX p m) (h0 : 0 ≤ m 376 51) (h51 : m' 376 51 = m 376 51 + 1) (h54 : m' 376 54 = m 376 54) (e8 : m' 388 p = m 388 p) (f1 : ∀ q, m' 411 q = m 411 q) (e1 : ∀ q : Nat, (q : Int) < 8 * m 376 51 → m' 410 q = m 410 q) (e2 : ∀ q : Nat, 8 * m 376 51 ≤ (q : Int) → (q : Int) < 8 * m 376 51 + 8 → m' 410 q = 0) (f9 : ∀ q, q ≠ (m 376 51).toNat → m' 409 q = m 409 q) (hs : m' 409 (m 376 51).toNat < m 388 p) : VX p m' := by
  refine ⟨fun q hq => ?_, fun q hq => ?_, fun q hq => ?_⟩
  · rw [h54] at hq; rw [f1, h51]; have := h.1 q hq; omega
  · rw [h51] at hq ⊢
    by_cases z : (q : Int) < 8 * m 376 51
    · rw [e1 q z]; have := h.2.1 q z; omega
    · rw [e2 q (by omega) (by omega)]; omega
  · rw [h51] at hq; rw [e8]
    by_cases z : q = (m 376 51).toNat
    · subst z; exact hs
    · rw [f9 q z]; exact h.2.2 q (by omega)
end VXL
def wLv (a q : Nat) : Bool := (a == 376 && (q == 54 || q == 55)) || a == 408 || a == 411
theorem wGv_wLv : ∀ a q, wGv a q = true → wLv a q = true := by
  intro a q h; simp [wGv] at h; simp [wLv]; omega
theorem wLv_wRn : ∀ a q, wLv a q = true → wRn a q = true := by
  intro a q h; simp [wLv] at h; simp [wRn]; omega
theorem wLv_G2 {p : Nat} : ∀ a q, vGq p a q = true → wLv a q = false := by
  intro a q h
  cases e : wLv a q with
  | false => rfl
  | true => simp [wLv] at e; simp [vGq] at h; omega
/-- the start -/
def FI (p : Nat) (m : yM) (r : Int) : Prop := 0 ≤ r ∧ r < m 384 p ∧ m 396 (10 * p + r.toNat) = 0 ∧ m 395 (10 * p + r.toNat) = 204 ∧ ∀ j : Nat, (j : Int) < r → ¬ (m 396 (10 * p + j) = 0 ∧ m 395 (10 * p + j) = 204)
def NF (p : Nat) (m : yM) : Prop := ∀ j : Nat, (j : Int) < m 384 p → ¬ (m 396 (10 * p + j) = 0 ∧ m 395 (10 * p + j) = 204)
def SG (p : Nat) (m : yM) (r : Int) : Prop := FI p m r ∧ m 397 (10 * p + r.toNat) = 0
theorem FI.uniq {p : Nat} {m : yM} {r s : Int} (h : FI p m r) (h' : FI p m s) : r = s := by
  obtain ⟨a1, a2, a3, a4, a5⟩ := h
  obtain ⟨b1, b2, b3, b4, b5⟩ := h'
  rcases Int.lt_trichotomy r s with q | q | q
  · exact absurd ⟨a3, a4⟩ (b5 r.toNat (by omega))
  · exact q
  · exact absurd ⟨b3, b4⟩ (a5 s.toNat (by omega))
theorem NF.no {p : Nat} {m : yM} (h : NF p m) {r : Int} (h' : FI p m r) : False := h r.toNat (by have := h'.1; have := h'.2.1; omega) ⟨h'.2.2.1, h'.2.2.2.1⟩
theorem SG.fr {p : Nat} {m m' : yM} {r : Int} (h : SG p m r) (e4 : m' 384 p = m 384 p) (e5 : ∀ q, m' 395 q = m 395 q) (e6 : ∀ q, m' 396 q = m 396 q) (e7 : ∀ q, m' 397 q = m 397 q) : SG p m' r := by
  unfold SG FI at h ⊢
  simp only [e4, e5, e6, e7]
  exact h

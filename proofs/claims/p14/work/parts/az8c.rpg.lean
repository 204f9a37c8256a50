section
/-! THE PROGRAM AS IT STANDS: class and model, names looked up -/
def OPZ (A p s b : Nat) (mc mm : yM) : Prop :=
  (mm 403 (b + 1) = mc (A + 20 + s) 1 ∧ 0 ≤ mc (A + 20 + s) 1 ∧ mc (A + 20 + s) 1 < 10) ∧ (
  (mc (A + 20 + s) 0 = 2 ∧ mm 403 b = 6 ∧ mm 403 (b + 2) = mc (A + 20 + s) 3 ∧ vB (mc A 15) (mc (A + 20 + s) 3) ∧ mc (A + 20 + s) 2 = mm 398 (10 * p + (mc (A + 20 + s) 1).toNat) ∧ vB (mc A 15) (mc (A + 20 + s) 2))
  ∨ (mc (A + 20 + s) 0 = 3 ∧ mm 403 b = 5 ∧ mm 403 (b + 2) = mc (A + 20 + s) 2 ∧ mm 403 (b + 3) = mc (A + 20 + s) 3 ∧ vB (mc A 15) (mc (A + 20 + s) 2) ∧ vB (mc A 15) (mc (A + 20 + s) 3) ∧ mm 403 (b + 4) = mc (A + 20 + s) 6 ∧ -1 ≤ mc (A + 20 + s) 6 ∧ mc (A + 20 + s) 6 < 8)
  ∨ (mc (A + 20 + s) 0 = 4 ∧ mm 403 b = 7 ∧ mm 403 (b + 2) = mc (A + 20 + s) 2 ∧ mm 403 (b + 3) = mc (A + 20 + s) 3 ∧ (mc (A + 20 + s) 2 = -1 ∨ vB (mc A 15) (mc (A + 20 + s) 2)) ∧ vB (mc A 15) (mc (A + 20 + s) 3) ∧ Nm (mc (A + 20 + s) 4) (mm 403 (b + 4)) ∧ mm 403 (b + 5) = 16 * mc (A + 20 + s) 6 + mc (A + 20 + s) 8 ∧ 0 ≤ mc (A + 20 + s) 8 ∧ mc (A + 20 + s) 8 ≤ 2 ∧ 0 ≤ mc (A + 20 + s) 6 ∧ mc (A + 20 + s) 6 < 12 ∧ (0 < mc (A + 20 + s) 8 → mm 403 (b + 6) = mc (A + 20 + s) 9 ∧ vB (mc A 15) (mc (A + 20 + s) 9)) ∧ (1 < mc (A + 20 + s) 8 → mm 403 (b + 7) = mc (A + 20 + s) 10 ∧ vB (mc A 15) (mc (A + 20 + s) 10)))
  ∨ (mc (A + 20 + s) 0 = 5 ∧ mm 403 b = 1 ∧ mm 403 (b + 2) = mc (A + 20 + s) 2 ∧ mm 403 (b + 3) = mc (A + 20 + s) 6 ∧ vB (mc A 15) (mc (A + 20 + s) 2) ∧ 1 ≤ mc (A + 20 + s) 6 ∧ mc (A + 20 + s) 6 < 12 ∧ mc (A + 20 + s) 6 < mc A 14)
  ∨ (mc (A + 20 + s) 0 = 6 ∧ mm 403 b = 8 ∧ mm 403 (b + 2) = mc (A + 20 + s) 2 ∧ vB (mc A 15) (mc (A + 20 + s) 2))
  ∨ (mc (A + 20 + s) 0 = 7 ∧ mm 403 b = 3 ∧ mm 403 (b + 2) = mc (A + 20 + s) 2 ∧ mm 403 (b + 3) = mc (A + 20 + s) 3 ∧ vB (mc A 15) (mc (A + 20 + s) 2) ∧ vB (mc A 15) (mc (A + 20 + s) 3) ∧ 0 ≤ mm 403 (b + 4) ∧ mm 403 (b + 4) < 8 ∧ mm 403 (b + 4) < mc A 13 ∧ mc (A + 9) (mm 403 (b + 4)).toNat = s ∧ mm 401 (8 * p + (mm 403 (b + 4)).toNat) = mc (A + 20 + s) 3 ∧ mm 402 (8 * p + (mm 403 (b + 4)).toNat) = mc (A + 20 + s) 7 ∧ 0 ≤ mc (A + 20 + s) 7 ∧ mc (A + 20 + s) 7 < mc A 9)
  ∨ (mc (A + 20 + s) 0 = 8 ∧ mm 403 b = 2 ∧ mm 403 (b + 2) = mc (A + 20 + s) 2 ∧ mm 403 (b + 3) = mc (A + 20 + s) 3 ∧ vB (mc A 15) (mc (A + 20 + s) 2) ∧ vB (mc A 15) (mc (A + 20 + s) 3))
  ∨ (mc (A + 20 + s) 0 = 9 ∧ mm 403 b = 4 ∧ mm 403 (b + 2) = mc (A + 20 + s) 2 ∧ mm 403 (b + 3) = mc (A + 20 + s) 3 ∧ vB (mc A 15) (mc (A + 20 + s) 2) ∧ vB (mc A 15) (mc (A + 20 + s) 3) ∧ mm 403 (b + 4) = mc (A + 20 + s) 6 ∧ -1 ≤ mc (A + 20 + s) 6 ∧ mc (A + 20 + s) 6 < 8))
/-- the parameters of every method are variables that stand -/
def VN (A : Nat) (mc : yM) : Prop := ∀ j : Nat, (j : Int) < mc A 10 → mc (A + 10 + j) 2 + 2 + mc (A + 10 + j) 3 ≤ mc A 15
def GEN (A s : Nat) (mc : yM) (x : Nat) : Prop := x = 0 ∨ ∃ t : Nat, t < s ∧ mc (A + 20 + t) 0 = 5 ∧ mc (A + 20 + t) 6 = x
/-- SEG, names looked up -/
def SGZ (A p : Nat) (mc mm : yM) : Nat → Nat → Nat → Nat → Nat → Prop
  | 0, s0, s1, o0, o1 => s0 = s1 ∧ o0 = o1
  | f + 1, s0, s1, o0, o1 => (s0 = s1 ∧ o0 = o1) ∨ ∃ s2 o2 : Nat, s0 < s2 ∧ s2 ≤ s1 ∧ o0 < o2 ∧ o2 ≤ o1 ∧ mc (A + 20 + s0) 12 = s2 ∧ SGZ A p mc mm f s2 s1 o2 o1 ∧ ((s2 = s0 + 1 ∧ o2 = o0 + 1 ∧ OPZ A p s0 (1000 * p + 8 * o0) mc mm) ∨ (BRH A p s0 o0 1 10 mc mm ∧ ∃ o3 : Nat, o2 = o3 + 1 ∧ o0 < o3 ∧ mc (A + 20 + s0) 11 = s2 ∧ mm 403 (1000 * p + 8 * o0 + 3) = o2 ∧ mm 403 (1000 * p + 8 * o3) = 11 ∧ mm 403 (1000 * p + 8 * o3 + 3) = o0 ∧ SGZ A p mc mm f (s0 + 1) s2 (o0 + 1) o3) ∨ (BRH A p s0 o0 0 9 mc mm ∧ mc (A + 20 + s0) 11 = s2 ∧ mm 403 (1000 * p + 8 * o0 + 3) = o2 ∧ SGZ A p mc mm f (s0 + 1) s2 (o0 + 1) o2) ∨ (BRH A p s0 o0 0 9 mc mm ∧ ∃ s3 o3 : Nat, s0 < s3 ∧ s3 ≤ s2 ∧ o0 < o3 ∧ o3 < o2 ∧ mc (A + 20 + s0) 11 = s3 ∧ mm 403 (1000 * p + 8 * o0 + 3) = (o3 : Int) + 1 ∧ mm 403 (1000 * p + 8 * o3) = 11 ∧ mm 403 (1000 * p + 8 * o3 + 3) = o2 ∧ SGZ A p mc mm f (s0 + 1) s3 (o0 + 1) o3 ∧ SGZ A p mc mm f s3 s2 (o3 + 1) o2))
/-- every method: its statements and its ops -/
def MCZ (A p s o : Nat) (mc mm : yM) : Prop := ∀ j : Nat, (j : Int) < mc A 10 → ∃ s0 s1 o0 o1 fu : Nat, mc (A + 10 + j) 4 = s0 ∧ mc (A + 10 + j) 5 = s1 ∧ mm 399 (10 * p + j) = o0 ∧ s1 ≤ s ∧ o1 < o ∧ SGZ A p mc mm fu s0 s1 o0 o1 ∧ mm 403 (1000 * p + 8 * o1) = 12 ∧ mm 403 (1000 * p + 8 * o1 + 1) = j
section SZ
variable {A p s o k a : Nat} {mc mm mc' mm' M N : yM}
theorem SGZ.le : ∀ {f s0 s1 o0 o1 : Nat}, SGZ A p mc mm f s0 s1 o0 o1 → s0 ≤ s1 ∧ o0 ≤ o1 := by
  intro f
  cases f with
  | zero => intro s0 s1 o0 o1 h; obtain ⟨rfl, rfl⟩ := h; omega
  | succ f =>
    intro s0 s1 o0 o1 h
    rcases h with ⟨rfl, rfl⟩ | ⟨s2, o2, h1, h2, h3, h4, -⟩ <;> omega
theorem SEG.leO : ∀ {f s0 s1 o0 o1 a0 a1 : Nat}, SEG A p mc mm f s0 s1 o0 o1 a0 a1 → s0 ≤ s1 ∧ o0 ≤ o1 := fun h => ⟨h.le.1, h.le.2.1⟩
theorem BRH.fz {t u : Nat} {kc ko : Int} (h : BRH A p t u kc ko mc mm) (e1 : ∀ q, q < 4 → mc' (A + 20 + t) q = mc (A + 20 + t) q) (e3 : ∀ q, q < 4 → mm' 403 (1000 * p + 8 * u + q) = mm 403 (1000 * p + 8 * u + q)) : BRH A p t u kc ko mc' mm' := by
  have e0 : mm' 403 (1000 * p + 8 * u) = mm 403 (1000 * p + 8 * u) := e3 0 (by decide)
  unfold BRH at h ⊢
  rw [e1 0 (by decide), e1 1 (by decide), e1 3 (by decide), e0, e3 1 (by decide), e3 2 (by decide)]
  exact h
theorem SGZ.fr : ∀ {f s0 s1 o0 o1 : Nat}, SGZ A p mc mm f s0 s1 o0 o1 → (∀ t u, t < s1 → u < o1 → OPZ A p t (1000 * p + 8 * u) mc mm → OPZ A p t (1000 * p + 8 * u) mc' mm') → (∀ t q, t < s1 → (q < 4 ∨ q = 11 ∨ q = 12) → mc' (A + 20 + t) q = mc (A + 20 + t) q) → (∀ u q, u < o1 → q < 4 → mm' 403 (1000 * p + 8 * u + q) = mm 403 (1000 * p + 8 * u + q)) → SGZ A p mc' mm' f s0 s1 o0 o1 := by
  intro f
  induction f with
  | zero => intro s0 s1 o0 o1 h _ _ _; exact h
  | succ f ih =>
    intro s0 s1 o0 o1 h hz e1 e3
    rcases h with h | ⟨s2, o2, h1, h2, h3, h4, h7, h8, h9⟩
    · exact Or.inl h
    · have e30 : ∀ u, u < o1 → mm' 403 (1000 * p + 8 * u) = mm 403 (1000 * p + 8 * u) := fun u hu => e3 u 0 hu (by decide)
      refine Or.inr ⟨s2, o2, h1, h2, h3, h4, by rw [e1 s0 12 (by omega) (by omega)]; exact h7, ih h8 hz e1 e3, ?_⟩
      have b1 : ∀ q, q < 4 → mc' (A + 20 + s0) q = mc (A + 20 + s0) q := fun q hq => e1 s0 q (by omega) (by omega)
      have b3 : ∀ q, q < 4 → mm' 403 (1000 * p + 8 * o0 + q) = mm 403 (1000 * p + 8 * o0 + q) := fun q hq => e3 o0 q (by omega) hq
      rcases h9 with ⟨g1, g2, g3⟩ | ⟨g1, o3, g2, g2', g3, g4, g5, g6, g7⟩ | ⟨g1, g2, g3, g4⟩ | ⟨g1, s3, o3, g2, g3, g4, g5, g8, g9, g10, g11, g12, g13⟩
      · exact Or.inl ⟨g1, g2, hz s0 o0 (by omega) (by omega) g3⟩
      · exact Or.inr (Or.inl ⟨g1.fz b1 b3, o3, g2, g2', by rw [e1 s0 11 (by omega) (by omega)]; exact g3, by rw [e3 o0 3 (by omega) (by decide)]; exact g4, by rw [e30 o3 (by omega)]; exact g5, by rw [e3 o3 3 (by omega) (by decide)]; exact g6, ih g7 (fun t u t1 u1 => hz t u (by omega) (by omega)) (fun t q t1 q1 => e1 t q (by omega) q1) (fun u q u1 q1 => e3 u q (by omega) q1)⟩)
      · exact Or.inr (Or.inr (Or.inl ⟨g1.fz b1 b3, by rw [e1 s0 11 (by omega) (by omega)]; exact g2, by rw [e3 o0 3 (by omega) (by decide)]; exact g3, ih g4 (fun t u t1 u1 => hz t u (by omega) (by omega)) (fun t q t1 q1 => e1 t q (by omega) q1) (fun u q u1 q1 => e3 u q (by omega) q1)⟩))
      · exact Or.inr (Or.inr (Or.inr ⟨g1.fz b1 b3, s3, o3, g2, g3, g4, g5, by rw [e1 s0 11 (by omega) (by omega)]; exact g8, by rw [e3 o0 3 (by omega) (by decide)]; exact g9, by rw [e30 o3 (by omega)]; exact g10, by rw [e3 o3 3 (by omega) (by decide)]; exact g11, ih g12 (fun t u t1 u1 => hz t u (by omega) (by omega)) (fun t q t1 q1 => e1 t q (by omega) q1) (fun u q u1 q1 => e3 u q (by omega) q1), ih g13 (fun t u t1 u1 => hz t u (by omega) (by omega)) (fun t q t1 q1 => e1 t q (by omega) q1) (fun u q u1 q1 => e3 u q (by omega) q1)⟩))
theorem SEG.z : ∀ {f s0 s1 o0 o1 a0 a1 : Nat}, SEG A p mc mm f s0 s1 o0 o1 a0 a1 → (∀ t u, t < s1 → u < o1 → (∃ a a', OPR A p t u a a' mc mm) → OPZ A p t (1000 * p + 8 * u) mc' mm') → (∀ t q, t < s1 → (q < 4 ∨ q = 11 ∨ q = 12) → mc' (A + 20 + t) q = mc (A + 20 + t) q) → (∀ u q, u < o1 → q < 4 → mm' 403 (1000 * p + 8 * u + q) = mm 403 (1000 * p + 8 * u + q)) → SGZ A p mc' mm' f s0 s1 o0 o1 := by
  intro f
  induction f with
  | zero => intro s0 s1 o0 o1 a0 a1 h _ _ _; exact ⟨h.1, h.2.1⟩
  | succ f ih =>
    intro s0 s1 o0 o1 a0 a1 h hz e1 e3
    rcases h with h | ⟨s2, o2, a2, h1, h2, h3, h4, h5, h6, h7, h8, h9⟩
    · exact Or.inl ⟨h.1, h.2.1⟩
    · have e30 : ∀ u, u < o1 → mm' 403 (1000 * p + 8 * u) = mm 403 (1000 * p + 8 * u) := fun u hu => e3 u 0 hu (by decide)
      refine Or.inr ⟨s2, o2, h1, h2, h3, h4, by rw [e1 s0 12 (by omega) (by omega)]; exact h7, ih h8 hz e1 e3, ?_⟩
      have b1 : ∀ q, q < 4 → mc' (A + 20 + s0) q = mc (A + 20 + s0) q := fun q hq => e1 s0 q (by omega) (by omega)
      have b3 : ∀ q, q < 4 → mm' 403 (1000 * p + 8 * o0 + q) = mm 403 (1000 * p + 8 * o0 + q) := fun q hq => e3 o0 q (by omega) hq
      rcases h9 with ⟨g1, g2, g3⟩ | ⟨g1, o3, g2, g2', g3, g4, g5, g6, g7⟩ | ⟨g1, g2, g3, g4⟩ | ⟨g1, s3, o3, a3, g2, g3, g4, g5, g6, g7, g8, g9, g10, g11, g12, g13⟩
      · exact Or.inl ⟨g1, g2, hz s0 o0 (by omega) (by omega) ⟨_, _, g3⟩⟩
      · exact Or.inr (Or.inl ⟨g1.fz b1 b3, o3, g2, g2', by rw [e1 s0 11 (by omega) (by omega)]; exact g3, by rw [e3 o0 3 (by omega) (by decide)]; exact g4, by rw [e30 o3 (by omega)]; exact g5, by rw [e3 o3 3 (by omega) (by decide)]; exact g6, ih g7 (fun t u t1 u1 => hz t u (by omega) (by omega)) (fun t q t1 q1 => e1 t q (by omega) q1) (fun u q u1 q1 => e3 u q (by omega) q1)⟩)
      · exact Or.inr (Or.inr (Or.inl ⟨g1.fz b1 b3, by rw [e1 s0 11 (by omega) (by omega)]; exact g2, by rw [e3 o0 3 (by omega) (by decide)]; exact g3, ih g4 (fun t u t1 u1 => hz t u (by omega) (by omega)) (fun t q t1 q1 => e1 t q (by omega) q1) (fun u q u1 q1 => e3 u q (by omega) q1)⟩))
      · exact Or.inr (Or.inr (Or.inr ⟨g1.fz b1 b3, s3, o3, g2, g3, g4, g5, by rw [e1 s0 11 (by omega) (by omega)]; exact g8, by rw [e3 o0 3 (by omega) (by decide)]; exact g9, by rw [e30 o3 (by omega)]; exact g10, by rw [e3 o3 3 (by omega) (by decide)]; exact g11, ih g12 (fun t u t1 u1 => hz t u (by omega) (by omega)) (fun t q t1 q1 => e1 t q (by omega) q1) (fun u q u1 q1 => e3 u q (by omega) q1), ih g13 (fun t u t1 u1 => hz t u (by omega) (by omega)) (fun t q t1 q1 => e1 t q (by omega) q1) (fun u q u1 q1 => e3 u q (by omega) q1)⟩))
theorem MCH.each : ∀ {k s o a : Nat}, MCH A p mc mm k s o a → ∀ j, j < k → ∃ s0 s1 o0 o1 a0 a1 fu : Nat, mc (A + 10 + j) 4 = s0 ∧ mc (A + 10 + j) 5 = s1 ∧ mm 399 (10 * p + j) = o0 ∧ s1 ≤ s ∧ o1 < o ∧ SEG A p mc mm fu s0 s1 o0 o1 a0 a1 ∧ mm 403 (1000 * p + 8 * o1) = 12 ∧ mm 403 (1000 * p + 8 * o1 + 1) = j := by
  intro k
  induction k with
  | zero => intro s o a h j hj; omega
  | succ k ih =>
    intro s o a h j hj
    obtain ⟨s0, o0, a0, o1, fu, h1, h2, h3, h4, h5, h6, h7, h8⟩ := h
    by_cases z : j = k
    · subst z
      exact ⟨s0, s, o0, o1, a0, a, fu, h2, h3, h4, by omega, by omega, h6, h7, h8⟩
    · obtain ⟨t0, t1, u0, u1, b0, b1, fv, g1, g2, g3, g4, g5, g6, g7, g8⟩ := ih h1 j (by omega)
      have l := h6.le
      exact ⟨t0, t1, u0, u1, b0, b1, fv, g1, g2, g3, by omega, by omega, g6, g7, g8⟩
theorem MCZ.fr (h : MCZ A p s o mc mm) (e10 : mc' A 10 = mc A 10) (eM : ∀ j q : Nat, (j : Int) < mc A 10 → mc' (A + 10 + j) q = mc (A + 10 + j) q) (e399 : ∀ j : Nat, (j : Int) < mc A 10 → mm' 399 (10 * p + j) = mm 399 (10 * p + j)) (hz : ∀ t u, t < s → u < o → OPZ A p t (1000 * p + 8 * u) mc mm → OPZ A p t (1000 * p + 8 * u) mc' mm') (eS : ∀ t q, t < s → mc' (A + 20 + t) q = mc (A + 20 + t) q) (eB : ∀ u q, u < o → q < 8 → mm' 403 (1000 * p + 8 * u + q) = mm 403 (1000 * p + 8 * u + q)) : MCZ A p s o mc' mm' := fun j hj => by
  rw [e10] at hj
  obtain ⟨s0, s1, o0, o1, fu, h1, h2, h3, h4, h5, h6, h7, h8⟩ := h j hj
  exact ⟨s0, s1, o0, o1, fu, by rw [eM j 4 hj]; exact h1, by rw [eM j 5 hj]; exact h2, by rw [e399 j hj]; exact h3, h4, h5, h6.fr (fun t u t1 u1 => hz t u (by omega) (by omega)) (fun t q t1 _ => eS t q (by omega)) (fun u q u1 q1 => eB u q (by omega) (by omega)), by rw [show mm' 403 (1000 * p + 8 * o1) = mm 403 (1000 * p + 8 * o1) from eB o1 0 h5 (by decide)]; exact h7, by rw [eB o1 1 h5 (by decide)]; exact h8⟩
end SZ
def RPG (A p s o : Nat) (mc mm : yM) : Prop := rCl A p mc mm ∧ rMe A p mc mm ∧ rCo A p mc mm ∧ (mc A 11 = mm 385 p ∧ 0 ≤ mc A 11 ∧ mc A 11 ≤ 8) ∧ (mc A 15 = mm 389 p ∧ 0 ≤ mc A 15 ∧ mc A 15 ≤ 48 ∧ CAS A s mc ∧ VN A mc ∧ OWM A (mc A 10).toNat s mc ∧ MCZ A p s o mc mm) ∧ (mc A 16 = s ∧ s ≤ 40 ∧ mm 390 p = o ∧ o ≤ 120 ∧ 1 ≤ mc A 9) ∧ (∃ n, ALN (fun t u => OPZ A p t (1000 * p + 8 * u) mc mm) (qB A p mc mm) (qZ p mm) n 0 s 0 o) ∧ (∀ x, GEN A s mc x → mc (A + 8) x = mm 400 (12 * p + x) ∧ 0 ≤ mc (A + 8) x ∧ mc (A + 8) x < mc A 9)
section RG
variable {A p k s o a f g : Nat} {mc mm mc' mm' M N : yM}
theorem IX.same {n : Int} {P : Nat → Prop} {r r' : Int} (h : IX n P r) (h' : IX n P r') : r = r' := h.eq h' (fun _ _ => Iff.rfl)
/-- a class's name -/
theorem cls_i (hr : rCl A p M N) {x y r r' : Int} (hN : Nm x y) (h : IX (M A 9) (fun q => M (A + 1) q = x) r) (h' : IX (N 383 p) (fun q => N 391 (6 * p + q) = y) r') : r = r' := by
  rw [← hr.1] at h'
  exact h.eq h' (fun q hq => (hr.2.2.2 q hq).1.eq hN)
theorem fld_i (hr : rFd A p M N) {x y r r' : Int} (hN : Nm x y) (h : IX (M A 11) (fun q => M (A + 4) q = x) r) (h' : IX (N 385 p) (fun q => N 394 (8 * p + q) = y) r') : r = r' := by
  rw [← hr.1] at h'
  exact h.eq h' (fun q hq => (hr.2.2.2 q hq).eq hN)
theorem OPR.z {t u a' : Nat} (hs : s ≤ 40) (h : OPR A p t u a a' M N) (ht : t < s) (hu : (u : Int) < N 390 p) (h1 : rCl A p M N) (h2 : rFd A p M N) (h3 : rMe A p M N) (h4 : rCo A p M N) (hc : RSc A s M mc') (fc : fNc A M mc') (hm : RSm p N mm') (hV : VN A M) : OPZ A p t (1000 * p + 8 * u) mc' mm' := by
  obtain ⟨w1, w2, w3, w4⟩ := h
  obtain ⟨c1, c2, c3, c4⟩ := hc t ht
  obtain ⟨m1, m2, m3, m4, m5, m6, m7⟩ := hm
  have S : ∀ q, q ≠ 6 → q ≠ 7 → mc' (A + 20 + t) q = M (A + 20 + t) q := fun q z1 z2 => fc _ _ (by omega) (by omega) (by omega)
  have O : ∀ q, q < 8 → q ≠ 4 → mm' 403 (1000 * p + 8 * u + q) = N 403 (1000 * p + 8 * u + q) := fun q z1 z2 => m6 _ (fun ⟨v, v1, v2, v3⟩ => by omega)
  have O0 : mm' 403 (1000 * p + 8 * u) = N 403 (1000 * p + 8 * u) := O 0 (by decide) (by decide)
  have O4 : ¬ (N 403 (1000 * p + 8 * u) = 4 ∨ N 403 (1000 * p + 8 * u) = 5) → mm' 403 (1000 * p + 8 * u + 4) = N 403 (1000 * p + 8 * u + 4) := fun z => m6 _ (fun ⟨v, v1, v2, v3⟩ => z (by have e : v = u := (by omega); rw [e] at v3; exact v3))
  have A9 : mc' A 9 = M A 9 := fc _ _ (by omega) (by omega) (by omega)
  have A13 : mc' A 13 = M A 13 := fc _ _ (by omega) (by omega) (by omega)
  have A14 : mc' A 14 = M A 14 := fc _ _ (by omega) (by omega) (by omega)
  have A15 : mc' A 15 = M A 15 := fc _ _ (by omega) (by omega) (by omega)
  have A9' : ∀ q, mc' (A + 9) q = M (A + 9) q := fun q => fc _ _ (by omega) (by omega) (by omega)
  have h398 : ∀ q, mm' 398 q = N 398 q := fun q => m7 _ _ (by decide) (by decide) (by decide) (by omega)
  have h401 : ∀ q, mm' 401 q = N 401 q := fun q => m7 _ _ (by decide) (by decide) (by decide) (by omega)
  have h13 := h4.2.2.2.1
  have h14 := h4.2.2.2.2.2.2.1
  have h11 := h2.2.2.1
  have h9 := h1.2.2.1
  refine ⟨⟨by rw [O 1 (by decide) (by decide), S 1 (by decide) (by decide)]; exact w1, by rw [S 1 (by decide) (by decide)]; exact w2, by rw [S 1 (by decide) (by decide)]; exact w3⟩, ?_⟩
  rw [S 0 (by decide) (by decide), S 1 (by decide) (by decide), S 2 (by decide) (by decide), S 3 (by decide) (by decide), S 4 (by decide) (by decide), S 8 (by decide) (by decide), S 9 (by decide) (by decide), S 10 (by decide) (by decide), O0, O 2 (by decide) (by decide), O 3 (by decide) (by decide), O 5 (by decide) (by decide), O 6 (by decide) (by decide), O 7 (by decide) (by decide), A9, A13, A14, A15, h398]
  rcases w4 with h | h | h | h | h | h | h | h
  · obtain ⟨g1, g2, g3, g4, g5, g6, g7⟩ := h
    have hb := h3.2.2.2 (M (A + 20 + t) 1).toNat (by omega)
    obtain ⟨-, -, -, b4, -, -, b7, -, b9, b10⟩ := hb
    have hv := hV (M (A + 20 + t) 1).toNat (by omega)
    exact Or.inl ⟨g1, g2, g3, g4, g5, by rw [g5, ← b4]; exact ⟨b9, by omega, by omega⟩⟩
  · obtain ⟨g1, g2, g3, g4, g5, g6, g7, g8⟩ := h
    have I1 := c1 (Or.inl g1)
    have e := fld_i h2 g7 I1 (m5 u hu (Or.inr g2))
    have l := I1.lt
    exact Or.inr (Or.inl ⟨g1, g2, g3, g4, g5, g6, e.symm, by omega, by omega⟩)
  · obtain ⟨g1, g2, g3, g4, g5, g6, g7, g8, g9, g10, g11, g12, g13, g14, g15⟩ := h
    rw [c2 (by omega), O4 (by omega)]
    exact Or.inr (Or.inr (Or.inl ⟨g1, g2, g3, g4, g5, g6, g7, g8, g9, g10, g11, g12, g13, g14⟩))
  · obtain ⟨g1, g2, g3, g4, g5, g6, g7, g8, g9, g10, g11, g12, g13⟩ := h
    rw [c2 (by omega)]
    exact Or.inr (Or.inr (Or.inr (Or.inl ⟨g1, g2, g3, g4, g5, g6, g7, g8⟩)))
  · obtain ⟨g1, g2, g3, g4, g5⟩ := h
    exact Or.inr (Or.inr (Or.inr (Or.inr (Or.inl ⟨g1, g2, g3, g4⟩))))
  · obtain ⟨g1, g2, g3, g4, g5, g6, g7, g8, g9, g10, g11, g12, g13, g14, g15, g16⟩ := h
    obtain ⟨I1, n1⟩ := c3 (Or.inr g1)
    have hm3 := m3 (N 403 (1000 * p + 8 * u + 4)).toNat (by omega)
    have e := cls_i h1 g11 I1 hm3
    have l := I1.lt
    rw [O4 (by omega), A9', h401]
    exact Or.inr (Or.inr (Or.inr (Or.inr (Or.inr (Or.inl ⟨g1, g2, g3, g4, g5, g6, g7, g8, g9, g10, g12, e.symm, by omega, by omega⟩)))))
  · obtain ⟨g1, g2, g3, g4, g5, g6, g7⟩ := h
    exact Or.inr (Or.inr (Or.inr (Or.inr (Or.inr (Or.inr (Or.inl ⟨g1, g2, g3, g4, g5, g6⟩))))))
  · obtain ⟨g1, g2, g3, g4, g5, g6, g7, g8⟩ := h
    have I1 := c1 (Or.inr g1)
    have e := fld_i h2 g7 I1 (m5 u hu (Or.inl g2))
    have l := I1.lt
    exact Or.inr (Or.inr (Or.inr (Or.inr (Or.inr (Or.inr (Or.inr ⟨g1, g2, g3, g4, g5, g6, e.symm, by omega, by omega⟩))))))
theorem OPR.k5 {t u a' : Nat} (h : OPR A p t u a a' M N) (h5 : M (A + 20 + t) 0 = 5) : 1 ≤ M (A + 20 + t) 6 ∧ M (A + 20 + t) 6 < 12 ∧ M (A + 20 + t) 6 < M A 14 ∧ Nm (M (A + 20 + t) 4) (N 400 (12 * p + (M (A + 20 + t) 6).toNat)) := by
  obtain ⟨-, -, -, h⟩ := h
  rcases h with h | h | h | h | h | h | h | h
  · have := h.1; omega
  · have := h.1; omega
  · have := h.1; omega
  · obtain ⟨g1, g2, g3, g4, g5, g6, g7, g8, g9, -⟩ := h
    exact ⟨g6, g7, g8, g9⟩
  · have := h.1; omega
  · have := h.1; omega
  · have := h.1; omega
  · have := h.1; omega
theorem OPR.k57 {t u a' : Nat} (h : OPR A p t u a a' M N) (h5 : M (A + 20 + t) 0 = 5 ∨ M (A + 20 + t) 0 = 7) : 0 ≤ M (A + 20 + t) 5 := by
  obtain ⟨-, -, -, h⟩ := h
  rcases h with h | h | h | h | h | h | h | h
  · have := h.1; omega
  · have := h.1; omega
  · have := h.1; omega
  · obtain ⟨g1, g2, g3, g4, g5, g6, g7, g8, g9, g10, g11, g12, g13⟩ := h
    exact g12
  · have := h.1; omega
  · obtain ⟨g1, g2, g3, g4, g5, g6, g7, g8, g9, g10, g11, g12, g13, g14, g15, g16⟩ := h
    exact g15
  · have := h.1; omega
  · have := h.1; omega
theorem qB.kd {t u : Nat} (h : qB A p M N t u) : M (A + 20 + t) 0 = 0 ∨ M (A + 20 + t) 0 = 1 := by
  rcases h with h | h
  · exact Or.inl h.1
  · exact Or.inr h.1
theorem PRG.st (hP : PRG A p k s o a M N) : (∀ t : Nat, t < s → M (A + 20 + t) 0 = 5 → 1 ≤ M (A + 20 + t) 6 ∧ M (A + 20 + t) 6 < 12 ∧ M (A + 20 + t) 6 < M A 14 ∧ Nm (M (A + 20 + t) 4) (N 400 (12 * p + (M (A + 20 + t) 6).toNat))) ∧ (∀ t : Nat, t < s → (M (A + 20 + t) 0 = 5 ∨ M (A + 20 + t) 0 = 7) → 0 ≤ M (A + 20 + t) 5) := by
  obtain ⟨p1, p2, p3, p4, p5, p6, p7, q, p8⟩ := hP
  obtain ⟨n, hn⟩ := p8.aln
  refine ⟨fun t ht h5 => ?_, fun t ht h5 => ?_⟩
  · obtain ⟨u, -, ⟨a, a', h⟩ | h⟩ := hn.all t (by omega) ht
    · exact h.k5 h5
    · have := qB.kd h; omega
  · obtain ⟨u, -, ⟨a, a', h⟩ | h⟩ := hn.all t (by omega) ht
    · exact h.k57 h5
    · have := qB.kd h; omega
/-- the program, its names looked up -/
theorem PRG.rpg (hp : p ≤ 1) (hP : PRG A p k s o a M N) (h9 : 1 ≤ M A 9) (h8 : M (A + 8) 0 = 0) (e1 : F73 f A M = some (-1, mc')) (e2 : F141 g p N = some mm') (hw : mm' 376 8 = -1) : RPG A p s o mc' mm' ∧ fNc A M mc' ∧ RSm p N mm' ∧ mc' (A + 8) 0 = 0 ∧ (∃ m1, F72 f A 0 239 0 m1 = some (mc' A 17) ∧ fNc A M m1) := by
  have hst := hP.st
  obtain ⟨p1, p2, p3, p4, p5, p6, p7, ⟨q1, q2, q3, q4, q5, q6, q7, q8⟩, p8⟩ := hP
  have hco := p5
  unfold rCo at hco
  have hU : ∀ t u : Nat, t < s → u < s → M (A + 20 + t) 0 = 5 → M (A + 20 + u) 0 = 5 → (M (A + 20 + t) 6).toNat = (M (A + 20 + u) 6).toNat → M (A + 20 + t) 4 = M (A + 20 + u) 4 := by
    intro t u ht hu h5 h5' e
    obtain ⟨-, -, -, b1⟩ := hst.1 t ht h5
    obtain ⟨-, -, -, b2⟩ := hst.1 u hu h5'
    rw [e] at b1
    exact (b1.eq b2).mpr rfl
  obtain ⟨hc, fc, hF, h80⟩ := res_c q5 q1 ⟨p1.2.1, p1.2.2.1⟩ ⟨p2.2.1, p2.2.2.1⟩ hU e1 rfl hst.2
  have kb : k ≤ 10 := by have := p4.2.2.1; omega
  have hm := res_m hp (by rw [← p1.1]; exact ⟨p1.2.1, p1.2.2.1⟩) (by rw [← p2.1]; exact ⟨p2.2.1, p2.2.2.1⟩) (by omega) (by omega) (by omega) e2 hw
  have c80 : mc' (A + 8) 0 = 0 := by
    rw [h80 0 (fun t ht h5 => by have := (hst.1 t ht h5).1; omega)]; exact h8
  refine ⟨?_, fc, hm, c80, hF⟩
  have hm' := hm
  obtain ⟨m1, m2, m3, m4, m5, m6, m7⟩ := hm
  have cA : ∀ q, q ≠ 17 → mc' A q = M A q := fun q hq => fc _ _ (by omega) (by omega) (by omega)
  have mF : ∀ b q, b ≠ 400 → b ≠ 402 → b ≠ 403 → b ≠ 376 → mm' b q = N b q := fun b q z1 z2 z3 z4 => m7 b q z1 z2 z3 (by omega)
  refine ⟨p1.fr (cA 9 (by decide)) (fun b q hb => fc _ _ (by omega) (by omega) (by omega)) (fun b q hb => mF _ _ (by omega) (by omega) (by omega) (by omega)), p4.fr (cA 10 (by decide)) (Int.le_of_eq (cA 9 (by decide)).symm) (fun z q z1 z2 => fc _ _ (by omega) (by omega) (by omega)) (fun b q hb => mF _ _ (by omega) (by omega) (by omega) (by omega)), p5.fr (fun q z1 z2 => cA q (by omega)) (fun b z1 z2 => mF _ _ (by omega) (by omega) (by omega) (by omega)), ?_, ?_, ?_, ?_, ?_⟩
  · rw [cA 11 (by decide), mF 385 p (by decide) (by decide) (by decide) (by decide)]
    exact ⟨p2.1, p2.2.1, p2.2.2.1⟩
  · refine ⟨by rw [cA 15 (by decide), mF 389 p (by decide) (by decide) (by decide) (by decide)]; exact p7.1, by rw [cA 15 (by decide)]; exact p7.2.1, by rw [cA 15 (by decide)]; exact p7.2.2, q8.2.1.fr (cA 13 (by decide)) (fun q _ => fc _ _ (by omega) (by omega) (by omega)) (fun t _ => fc _ _ (by omega) (by omega) (by omega)), fun j hj => ?_, ?_, fun j hj => ?_⟩
    · rw [cA 10 (by decide)] at hj
      rw [cA 15 (by decide), fc (A + 10 + j) 2 (by omega) (by omega) (by omega), fc (A + 10 + j) 3 (by omega) (by omega) (by omega)]
      exact q8.2.2.1 j (by omega)
    · have e : (mc' A 10).toNat = k := by rw [cA 10 (by decide), p6]; omega
      rw [e]
      exact q8.2.2.2.fr (fun j q hj => fc _ _ (by omega) (by omega) (by omega)) (fun t q ht hq => fc _ _ (by omega) (by omega) (by omega))
    · rw [cA 10 (by decide)] at hj
      obtain ⟨s0, s1, o0, o1, a0, a1, fu, h1, h2, h3, h4, h5, h6, h7, h8⟩ := p8.each j (by omega)
      have O : ∀ u q, u < o → q < 4 → mm' 403 (1000 * p + 8 * u + q) = N 403 (1000 * p + 8 * u + q) := fun u q u1 z1 => m6 _ (fun ⟨v, v1, v2, v3⟩ => by omega)
      refine ⟨s0, s1, o0, o1, fu, by rw [fc _ _ (by omega) (by omega) (by omega)]; exact h1, by rw [fc _ _ (by omega) (by omega) (by omega)]; exact h2, by rw [mF 399 _ (by decide) (by decide) (by decide) (by decide)]; exact h3, h4, h5, ?_, by rw [show mm' 403 (1000 * p + 8 * o1) = N 403 (1000 * p + 8 * o1) from O o1 0 h5 (by decide)]; exact h7, by rw [O o1 1 h5 (by decide)]; exact h8⟩
      refine h6.z (fun t u t1 u1 hq => ?_) (fun t q t1 q1 => fc _ _ (by omega) (by omega) (by omega)) (fun u q u1 q1 => O u q (by omega) q1)
      obtain ⟨b0, b1, hq⟩ := hq
      exact hq.z q5 (by omega) (by omega) p1 p2 p4 p5 hc fc hm' (fun j hj => q8.2.2.1 j (by omega))
  · rw [cA 16 (by decide), cA 9 (by decide), mF 390 p (by decide) (by decide) (by decide) (by decide)]
    exact ⟨q1, q5, q3, by omega, h9⟩
  · obtain ⟨n, hn⟩ := p8.aln
    refine ⟨n, hn.mp (fun t u ht hu hq => ?_) (fun t u ht hu hq => ?_) (fun u hu hq => ?_)⟩
    · obtain ⟨a0, a1, hq⟩ := hq
      exact hq.z q5 ht (by omega) p1 p2 p4 p5 hc fc hm' (fun j hj => q8.2.2.1 j (by omega))
    · have O : ∀ q, q < 3 → mm' 403 (1000 * p + 8 * u + q) = N 403 (1000 * p + 8 * u + q) := fun q z1 => m6 _ (fun ⟨v, v1, v2, v3⟩ => by omega)
      have O0 : mm' 403 (1000 * p + 8 * u) = N 403 (1000 * p + 8 * u) := O 0 (by decide)
      have S : ∀ q, q < 4 → mc' (A + 20 + t) q = M (A + 20 + t) q := fun q z1 => fc _ _ (by omega) (by omega) (by omega)
      unfold qB BRH at hq ⊢
      rw [S 0 (by decide), S 1 (by decide), S 3 (by decide), O0, O 1 (by decide), O 2 (by decide)]
      exact hq
    · have O0 : mm' 403 (1000 * p + 8 * u) = N 403 (1000 * p + 8 * u) := m6 _ (fun ⟨v, v1, v2, v3⟩ => by omega)
      unfold qZ at hq ⊢
      rw [O0]
      exact hq
  · intro x hx
    rw [cA 9 (by decide)]
    rcases hx with rfl | ⟨t, ht, h5, h6⟩
    · have e400 : mm' 400 (12 * p + 0) = 0 := by rw [m2 (12 * p + 0) (by omega)]; exact q8.1
      rw [c80, e400]
      exact ⟨rfl, by omega, by omega⟩
    · have S0 : mc' (A + 20 + t) 0 = M (A + 20 + t) 0 := fc _ _ (by omega) (by omega) (by omega)
      rw [S0] at h5
      obtain ⟨c1, c2, c3, c4⟩ := hc t ht
      rw [c2 (by omega)] at h6
      obtain ⟨d1, d2, d3, d4⟩ := hst.1 t ht h5
      have I1 := c4 h5
      obtain ⟨I2, n2⟩ := c3 (Or.inl h5)
      have hx1 : (M (A + 20 + t) 6).toNat = x := by omega
      rw [hx1] at I1 d4
      have e := cls_i p1 d4 I1 (m1 x (by omega) (by omega))
      have e' := I1.same I2
      have l := I1.lt
      exact ⟨e, by omega, by omega⟩
end RG
end
section
/-! FACTS: the class's rows and the model's, side by side. t: 0 variables, 1 fields, 2 calls, 3 methods -/
def cc (t i : Nat) : Nat := if t = 0 then 10 + i else if t = 1 then 73 + i else if t = 2 then 59 + i else 71
def ww (t : Nat) : Nat := if t < 2 then 12 else 10
def fN (t : Nat) : Nat := if t = 0 then 48 else if t = 1 then 96 else if t = 2 then 12 else 1
def FR (G : Nat → Prop) (V : Int) (mc mm : yM) : Prop := (∀ t i j : Nat, t < 4 → i < fN t → j < ww t → mc (cc t i) j = mm (404 + t) (ww t * i + j) ∧ (-1 ≤ mc (cc t i) j ∧ mc (cc t i) j ≤ 2001) ∧ (t < 2 → mc (cc t i) j ≠ -1 → G j) ∧ (t = 0 → mc (cc t i) j ≠ -1 → (i : Int) < V)) ∧ mm 376 45 = mc 8 5 + 1 ∧ 0 ≤ mc 8 5 ∧ mc 8 5 ≤ 2000 ∧ ((mc 8 6 = mc 8 5 + 1 ∧ mm 376 46 = 1) ∨ (mc 8 6 = mc 8 5 ∧ mm 376 46 = 0))
def CF (mc mc' : yM) : Prop := ∀ a q : Nat, 169 ≤ a ∨ (a = 8 ∧ q ≠ 6) → mc' a q = mc a q
def MF (mm mm' : yM) : Prop := ∀ a q : Nat, a < 404 → ¬ (a = 376 ∧ q = 46) → mm' a q = mm a q
def tlc (mc : yM) (a j : Nat) : yM := if mc a j = -1 then yup (yup mc a j (mc 8 5 + 1)) 8 6 (mc 8 5 + 1) else mc
def tlm (mm : yM) (b j : Nat) : yM := if mm b j < 0 then yup (yup mm b j (mm 376 45)) 376 46 1 else mm
/-- between two steps of a round -/
def fL : List (Nat × Nat) := (List.range 4).flatMap (fun t => (List.range (fN t)).flatMap (fun i => (List.range (ww t)).map (fun j => (cc t i, j))))
/-- how many facts are not there -/
def fU (mc : yM) : Nat := fL.countP (fun x => decide (mc x.1 x.2 = -1))
def UB (mc0 mc : yM) : Prop := fU mc ≤ fU mc0 ∧ (mc 8 6 = mc 8 5 + 1 → fU mc < fU mc0)
def FS (G : Nat → Prop) (V : Int) (mc0 mm0 mc mm : yM) : Prop := FR G V mc mm ∧ CF mc0 mc ∧ MF mm0 mm ∧ UB mc0 mc
section FA
variable {G : Nat → Prop} {V : Int} {A p f g : Nat} {mc mm mc' mm' mc0 mm0 : yM}
theorem cc_inj {t t' i i' : Nat} (h1 : t < 4) (h2 : t' < 4) (h3 : i < fN t) (h4 : i' < fN t') (e : cc t i = cc t' i') : t = t' ∧ i = i' := by
  rcases (show t = 0 ∨ t = 1 ∨ t = 2 ∨ t = 3 by omega) with rfl | rfl | rfl | rfl <;> rcases (show t' = 0 ∨ t' = 1 ∨ t' = 2 ∨ t' = 3 by omega) with rfl | rfl | rfl | rfl <;> simp [cc, fN] at h3 h4 e ⊢ <;> omega
theorem cc_rng {t i : Nat} (h1 : t < 4) (h3 : i < fN t) : 10 ≤ cc t i ∧ cc t i < 169 := by
  rcases (show t = 0 ∨ t = 1 ∨ t = 2 ∨ t = 3 by omega) with rfl | rfl | rfl | rfl <;> simp [cc, fN] at h3 ⊢ <;> omega
theorem ww_inj {t i i' j j' : Nat} (h : j < ww t) (h' : j' < ww t) (e : ww t * i + j = ww t * i' + j') : i = i' ∧ j = j' := by
  unfold ww at h h' e
  split at h
  · rw [if_pos ‹_›] at h' e; omega
  · rw [if_neg ‹_›] at h' e; omega
theorem tlc_fr {a j : Nat} (ha : 10 ≤ a ∧ a < 169) : CF mc (tlc mc a j) := by
  intro b q hb
  unfold tlc
  split
  · rw [yup_ne (by omega), yup_na (by omega)]
  · rfl
theorem tlm_fr {b j : Nat} (hb : 404 ≤ b) : MF mm (tlm mm b j) := by
  intro a q ha hq
  unfold tlm
  split
  · rw [yup_ne hq, yup_na (by omega)]
  · rfl
theorem CF.tr {m1 : yM} (h : CF mc m1) (h' : CF m1 mc') : CF mc mc' := fun a q ha => (h' a q ha).trans (h a q ha)
theorem MF.tr {m1 : yM} (h : MF mm m1) (h' : MF m1 mm') : MF mm mm' := fun a q ha hq => (h' a q ha hq).trans (h a q ha hq)
theorem CF.rf : CF mc mc := fun _ _ _ => rfl
theorem MF.rf : MF mm mm := fun _ _ _ _ => rfl
theorem FR.tell {t i j : Nat} (h : FR G V mc mm) (h1 : t < 4) (h3 : i < fN t) (hj : j < ww t) (hG : t < 2 → G j) (hV : t = 0 → (i : Int) < V) : FR G V (tlc mc (cc t i) j) (tlm mm (404 + t) (ww t * i + j)) := by
  have hr := cc_rng h1 h3
  obtain ⟨k1, k2, k3, k4, k5⟩ := h
  obtain ⟨e1, e2, e3⟩ := k1 t i j h1 h3 hj
  unfold tlc tlm
  by_cases z : mc (cc t i) j = -1
  · rw [if_pos z, if_pos (by omega)]
    refine ⟨fun t' i' j' g1 g2 g3 => ?_, ?_, ?_, ?_, Or.inl ⟨?_, ?_⟩⟩
    · have hr' := cc_rng g1 g2
      obtain ⟨d1, d2, d3⟩ := k1 t' i' j' g1 g2 g3
      rw [yup_na (show cc t' i' ≠ 8 by omega), yup_na (show 404 + t' ≠ 376 by omega)]
      by_cases w : cc t' i' = cc t i ∧ j' = j
      · obtain ⟨rfl, rfl⟩ := cc_inj g1 h1 g2 h3 w.1
        obtain rfl := w.2
        rw [yup_eq, yup_eq]
        exact ⟨by omega, by omega, fun h2 _ => hG h2, fun h2 _ => hV h2⟩
      · have w' : ¬ (404 + t' = 404 + t ∧ ww t' * i' + j' = ww t * i + j) := by
          rintro ⟨y1, y2⟩
          obtain rfl : t' = t := by omega
          obtain ⟨rfl, rfl⟩ := ww_inj g3 hj y2
          exact w ⟨rfl, rfl⟩
        rw [yup_ne w, yup_ne w']
        exact ⟨d1, d2, d3⟩
    · rw [yup_nk (by decide), yup_na (by omega), yup_nk (by decide), yup_na (by omega)]; exact k2
    · rw [yup_nk (by decide), yup_na (by omega)]; exact k3
    · rw [yup_nk (by decide), yup_na (by omega)]; exact k4
    · rw [yup_eq, yup_nk (by decide), yup_na (by omega)]
    · rw [yup_eq]
  · rw [if_neg z, if_neg (by omega)]
    exact ⟨k1, k2, k3, k4, k5⟩
theorem cP_le {α : Type} {p q : α → Bool} : ∀ (l : List α), (∀ x, x ∈ l → q x = true → p x = true) → l.countP q ≤ l.countP p := by
  intro l
  induction l with
  | nil => intro _; exact Nat.le_refl _
  | cons x l ih =>
    intro h
    have h1 := ih (fun y hy => h y (List.mem_cons_of_mem _ hy))
    have h2 := h x (List.mem_cons_self ..)
    rw [List.countP_cons, List.countP_cons]
    cases hq : q x with
    | false =>
      simp
      omega
    | true =>
      rw [h2 hq]
      simp
      omega
theorem cP_lt {α : Type} {p q : α → Bool} : ∀ (l : List α), (∀ x, x ∈ l → q x = true → p x = true) → (∃ x, x ∈ l ∧ p x = true ∧ q x = false) → l.countP q < l.countP p := by
  intro l
  induction l with
  | nil => intro _ ⟨x, hx, _⟩; cases hx
  | cons x l ih =>
    intro h ⟨y, hy, hp, hq⟩
    have h0 : ∀ y, y ∈ l → q y = true → p y = true := fun y hy => h y (List.mem_cons_of_mem _ hy)
    rw [List.countP_cons, List.countP_cons]
    rcases List.mem_cons.mp hy with e | e
    · subst e
      have h1 := cP_le l h0
      rw [hp, hq]
      simp
      omega
    · have h1 := ih h0 ⟨y, e, hp, hq⟩
      have h2 := h x (List.mem_cons_self ..)
      cases hqx : q x with
      | false =>
        simp
        omega
      | true =>
        rw [h2 hqx]
        simp
        omega
theorem fL_in {t i j : Nat} (h1 : t < 4) (h3 : i < fN t) (hj : j < ww t) : (cc t i, j) ∈ fL := by
  unfold fL
  rw [List.mem_flatMap]
  refine ⟨t, List.mem_range.mpr h1, ?_⟩
  rw [List.mem_flatMap]
  refine ⟨i, List.mem_range.mpr h3, ?_⟩
  rw [List.mem_map]
  exact ⟨j, List.mem_range.mpr hj, rfl⟩
theorem fL_no8 {x : Nat × Nat} (h : x ∈ fL) : x.1 ≠ 8 := by
  unfold fL at h
  rw [List.mem_flatMap] at h
  obtain ⟨t, ht, h⟩ := h
  rw [List.mem_flatMap] at h
  obtain ⟨i, hi, h⟩ := h
  rw [List.mem_map] at h
  obtain ⟨j, hj, rfl⟩ := h
  have := cc_rng (List.mem_range.mp ht) (List.mem_range.mp hi)
  show cc t i ≠ 8
  omega
theorem fL_len : fL.length = 1858 := by decide +kernel
theorem fU_le : fU mc ≤ 1858 := by
  rw [← fL_len]
  exact List.countP_le_length
theorem fU_eq (h : ∀ x, x ∈ fL → mc' x.1 x.2 = mc x.1 x.2) : fU mc' = fU mc := by
  apply Nat.le_antisymm
  · exact cP_le _ (fun x hx hq => by rw [h x hx] at hq; exact hq)
  · exact cP_le _ (fun x hx hq => by rw [h x hx]; exact hq)
theorem UB.tell {t i j : Nat} (h85 : 0 ≤ mc 8 5) (h : UB mc0 mc) (h1 : t < 4) (h3 : i < fN t) (hj : j < ww t) : UB mc0 (tlc mc (cc t i) j) := by
  unfold tlc
  by_cases z : mc (cc t i) j = -1
  · rw [if_pos z]
    have lt : fU (yup (yup mc (cc t i) j (mc 8 5 + 1)) 8 6 (mc 8 5 + 1)) < fU mc := by
      refine cP_lt _ (fun x hx hq => ?_) ⟨_, fL_in h1 h3 hj, ?_, ?_⟩
      · have hq := of_decide_eq_true hq
        rw [yup_na (fL_no8 hx)] at hq
        refine decide_eq_true ?_
        by_cases w : x.1 = cc t i ∧ x.2 = j
        · rw [w.1, w.2]; exact z
        · rw [yup_ne w] at hq; exact hq
      · exact decide_eq_true z
      · refine decide_eq_false ?_
        have hr := cc_rng h1 h3
        show ¬ (yup (yup mc (cc t i) j (mc 8 5 + 1)) 8 6 (mc 8 5 + 1) (cc t i) j = -1)
        rw [yup_na (by omega), yup_eq]
        omega
    exact ⟨by have := h.1; omega, fun _ => by have := h.1; omega⟩
  · rw [if_neg z]
    exact h
theorem FS.tell {t i j : Nat} (h : FS G V mc0 mm0 mc mm) (h1 : t < 4) (h3 : i < fN t) (hj : j < ww t) (hG : t < 2 → G j) (hV : t = 0 → (i : Int) < V) : FS G V mc0 mm0 (tlc mc (cc t i) j) (tlm mm (404 + t) (ww t * i + j)) := ⟨h.1.tell h1 h3 hj hG hV, h.2.1.tr (tlc_fr (cc_rng h1 h3)), h.2.2.1.tr (tlm_fr (by omega)), h.2.2.2.tell h.1.2.2.1 h1 h3 hj⟩
theorem FR.old {t i j : Nat} (h : FR G V mc mm) (h1 : t < 4) (h3 : i < fN t) (hj : j < ww t) : F78 (mc (cc t i) j) mc = F144 (mm (404 + t) (ww t * i + j)) mm ∧ (F78 (mc (cc t i) j) mc ≠ 0 → t < 2 → G j) := by
  obtain ⟨k1, k2, k3, k4, k5⟩ := h
  obtain ⟨e1, e2, e3⟩ := k1 t i j h1 h3 hj
  rw [← e1]
  unfold F78 F144
  refine ⟨?_, fun hz h2 => e3.1 h2 (fun w => hz (by rw [if_pos w]))⟩
  by_cases z : mc (cc t i) j = -1
  · rw [if_pos z, if_pos (by omega)]
  · rw [if_neg z, if_neg (show ¬ mc (cc t i) j < 0 by omega)]
    by_cases y : mc 8 5 < mc (cc t i) j
    · rw [if_pos y, if_neg (by omega)]
    · rw [if_neg y, if_pos (by omega)]
theorem F79_12_t {a : Nat} {x : Int} (h : 0 ≤ mc 8 5 ∧ mc 8 5 ≤ 2000) (e : F79_12 f a x mc = some mc') : mc' = tlc mc a x.toNat := by
  unfold F79_12 at e
  unfold tlc
  rw [wr_i (by omega) (by omega)] at e
  rcases ite1 e with ⟨q, e⟩ | ⟨q, e⟩
  · cases e; rw [if_pos q]
  · cases e; rw [if_neg q]
theorem F79_10_t {a : Nat} {x : Int} (h : 0 ≤ mc 8 5 ∧ mc 8 5 ≤ 2000) (e : F79_10 f a x mc = some mc') : mc' = tlc mc a x.toNat := by
  unfold F79_10 at e
  unfold tlc
  rw [wr_i (by omega) (by omega)] at e
  rcases ite1 e with ⟨q, e⟩ | ⟨q, e⟩
  · cases e; rw [if_pos q]
  · cases e; rw [if_neg q]
theorem ix12 {v x : Nat} (hv : v < 48) (hx : x ≤ 12) : (wr ((wr (12 * (v : Int))) + (x : Int))).toNat = 12 * v + x := by
  rw [wr_i (x := 12 * (v : Int)) (by omega) (by omega), wr_i (by omega) (by omega)]; omega
theorem F145_t {v x : Nat} (hv : v < 48) (hx : x < 12) (e : F145 g (v : Int) (x : Int) mm = some mm') : mm' = tlm mm 404 (12 * v + x) := by
  unfold F145 at e
  unfold tlm
  rw [ix12 hv (by omega)] at e
  rcases ite1 e with ⟨q, e⟩ | ⟨q, e⟩
  · cases e; rw [if_pos q]
  · cases e; rw [if_neg q]
/-- two loops side by side -/
theorem yl2 {α β γ δ : Type} {B1 : α → yM → Option ((α × yM) ⊕ ((α × yM) ⊕ (γ × yM)))} {B2 : β → yM → Option ((β × yM) ⊕ ((β × yM) ⊕ (δ × yM)))} (R : α → yM → β → yM → Prop) (E : (α × yM) ⊕ (γ × yM) → (β × yM) ⊕ (δ × yM) → Prop) (hB : ∀ l m l' m' y y', R l m l' m' → B1 l m = some y → B2 l' m' = some y' → (∃ l1 m1 l2 m2, y = .inl (l1, m1) ∧ y' = .inl (l2, m2) ∧ R l1 m1 l2 m2) ∨ (∃ x x', y = .inr x ∧ y' = .inr x' ∧ E x x')) : ∀ (f g : Nat) (l : α) (m : yM) (l' : β) (m' : yM) (r : (α × yM) ⊕ (γ × yM)) (r' : (β × yM) ⊕ (δ × yM)), R l m l' m' → yloop B1 f l m = some r → yloop B2 g l' m' = some r' → E r r' := by
  intro f
  induction f with
  | zero => intro g l m l' m' r r' _ h; cases h
  | succ f ih =>
    intro g l m l' m' r r' hR h h'
    obtain ⟨f1, hf, h1⟩ := yloop_s h
    obtain rfl : f = f1 := by omega
    obtain ⟨g1, hg, h2⟩ := yloop_s h'
    rcases h1 with ⟨l1, m1, a1, a2⟩ | a1
    · rcases h2 with ⟨l2, m2, b1, b2⟩ | b1
      · rcases hB _ _ _ _ _ _ hR a1 b1 with ⟨u1, u2, u3, u4, w1, w2, w3⟩ | ⟨x, x', w1, -⟩
        · cases w1; cases w2
          exact ih _ _ _ _ _ _ _ w3 a2 b2
        · cases w1
      · rcases hB _ _ _ _ _ _ hR a1 b1 with ⟨u1, u2, u3, u4, w1, w2, w3⟩ | ⟨x, x', w1, -⟩
        · cases w2
        · cases w1
    · rcases h2 with ⟨l2, m2, b1, b2⟩ | b1
      · rcases hB _ _ _ _ _ _ hR a1 b1 with ⟨u1, u2, u3, u4, w1, w2, w3⟩ | ⟨x, x', w1, w2, w3⟩
        · cases w1
        · cases w2
      · rcases hB _ _ _ _ _ _ hR a1 b1 with ⟨u1, u2, u3, u4, w1, w2, w3⟩ | ⟨x, x', w1, w2, w3⟩
        · cases w1
        · cases w1; cases w2
          exact w3
/-- what a fact's row holds goes to another row. Bm: the model's loop for it -/
theorem copy_r {t i t' i' n : Nat} {Bm : Int → yM → Option ((Int × yM) ⊕ ((Int × yM) ⊕ (Unit × yM)))} {F H : Nat} {rc rm : (Int × yM) ⊕ (Unit × yM)} (hA : A = 256 ∨ A = 316) (h : FS G V mc0 mm0 mc mm) (h1 : t < 2) (h2 : i < fN t) (h3 : t' < 2) (h4 : i' < fN t') (hV : t' = 0 → (i' : Int) < V) (hn : mc0 A 14 = n) (hn2 : n ≤ 12) (hB : ∀ (l : Nat) (m : yM) y, l ≤ n → MF mm0 m → Bm (l : Int) m = some y → (l = n ∧ y = .inr (.inl ((l : Int), m))) ∨ (l < n ∧ F144 (m (404 + t) (12 * i + l)) m = 0 ∧ y = .inl (((l + 1 : Nat) : Int), m)) ∨ (l < n ∧ F144 (m (404 + t) (12 * i + l)) m ≠ 0 ∧ y = .inl (((l + 1 : Nat) : Int), tlm m (404 + t') (12 * i' + l)))) (e1 : yloop (fun (l : Int) ml => B80_12_12_2 f A (cc t i) (cc t' i') l ml) F 0 mc = some rc) (e2 : yloop Bm H 0 mm = some rm) : ∃ l m l' m', rc = .inl (l, m) ∧ rm = .inl (l', m') ∧ FS G V mc0 mm0 m m' := by
  have w1 : ww t = 12 := by unfold ww; rw [if_pos h1]
  have w2 : ww t' = 12 := by unfold ww; rw [if_pos h3]
  refine yl2 (fun (l : Int) m (l' : Int) m' => ∃ k : Nat, l = k ∧ l' = k ∧ k ≤ n ∧ FS G V mc0 mm0 m m') (fun r r' => ∃ l m l' m', r = .inl (l, m) ∧ r' = .inl (l', m') ∧ FS G V mc0 mm0 m m') (fun l m l' m' y y' hR a1 a2 => ?_) F H 0 mc 0 mm rc rm ⟨0, rfl, rfl, by omega, h⟩ e1 e2
  obtain ⟨k, rfl, rfl, hk, hS⟩ := hR
  have m14 : m A 14 = n := by rw [hS.2.1 A 14 (by omega)]; exact hn
  have m85 : 0 ≤ m 8 5 ∧ m 8 5 ≤ 2000 := ⟨hS.1.2.2.1, hS.1.2.2.2.1⟩
  have k1 : wr ((k : Int) + 1) = ((k + 1 : Nat) : Int) := by rw [wr_i (by omega) (by omega)]; omega
  simp only [B80_12_12_2, J80_12_12_29, m14, Int.toNat_natCast, k1] at a1
  rcases hB k m' y' hk hS.2.2.1 a2 with ⟨z1, z2⟩ | ⟨z1, z2, z3⟩ | ⟨z1, z2, z3⟩
  · rw [if_neg (by omega)] at a1
    cases a1
    exact Or.inr ⟨_, _, rfl, z2, _, _, _, _, rfl, rfl, hS⟩
  · have ho := hS.1.old (t := t) (i := i) (j := k) (by omega) h2 (by omega)
    rw [w1, z2] at ho
    rw [if_pos (by omega), if_pos ho.1] at a1
    cases a1
    exact Or.inl ⟨_, _, _, _, rfl, z3, k + 1, rfl, rfl, by omega, hS⟩
  · have ho := hS.1.old (t := t) (i := i) (j := k) (by omega) h2 (by omega)
    rw [w1] at ho
    have hz : F78 (m (cc t i) k) m ≠ 0 := by rw [ho.1]; exact z2
    rw [if_pos (by omega), if_neg hz] at a1
    replace a1 := bU_e a1
    obtain ⟨m3, a3, a1⟩ := a1
    cases a1
    have e3 := F79_12_t m85 a3
    rw [Int.toNat_natCast] at e3
    subst e3
    have T := hS.tell (t := t') (i := i') (j := k) (by omega) h4 (by omega) (fun _ => ho.2 hz h1) hV
    rw [w2] at T
    exact Or.inl ⟨_, _, _, _, rfl, z3, k + 1, rfl, rfl, by omega, T⟩
/-- the class's loop, whole -/
theorem F80_e {a1 a2 : Nat} (h : F80_12_12 f A a1 a2 mc = some mc') : ∃ r, yloop (fun (l : Int) ml => B80_12_12_2 f A a1 a2 l ml) f 0 mc = some r ∧ (∀ l m, r = .inl (l, m) → mc' = m) := by
  unfold F80_12_12 at h
  rcases bL_e h with ⟨l, m, e1, e2⟩ | ⟨l, m, e1, e2⟩
  · cases e2
    exact ⟨_, e1, fun l m e => by cases e; rfl⟩
  · exact ⟨_, e1, fun l m e => by cases e⟩
/-- a variable's sites go to another -/
theorem tellAll_r {u v n : Nat} (hA : A = 256 ∨ A = 316) (h : FS G V mc0 mm0 mc mm) (hu : u < 48) (hv : v < 48) (hvV : (v : Int) < V) (hn : mc0 A 14 = n) (hn2 : n ≤ 12) (hp : mm0 376 18 = p) (h388 : mm0 388 p = n) (e1 : F80_12_12 f A (10 + u) (10 + v) mc = some mc') (e2 : F146 g (v : Int) (u : Int) mm = some mm') : FS G V mc0 mm0 mc' mm' := by
  obtain ⟨r, e3, e4⟩ := F80_e e1
  have key : ∃ r', yloop (fun (l : Int) ml => B146_2 g (v : Int) (u : Int) l ml) g 0 mm = some r' ∧ (∀ l m, r' = .inl (l, m) → mm' = m) := by
    unfold F146 at e2
    rcases bL_e e2 with ⟨l, m, d1, d2⟩ | ⟨l, m, d1, d2⟩
    · cases d2
      exact ⟨_, d1, fun l m e => by cases e; rfl⟩
    · exact ⟨_, d1, fun l m e => by cases e⟩
  obtain ⟨r', e5, e6⟩ := key
  obtain ⟨l, m, l', m', z1, z2, z3⟩ := copy_r (t := 0) (i := u) (t' := 0) (i' := v) hA h (by decide) (by simp [fN]; omega) (by decide) (by simp [fN]; omega) (fun _ => hvV) hn hn2 (fun l m y hl hF e => by
    unfold B146_2 J146_39 at e
    have k18 : m 376 18 = p := by rw [hF 376 18 (by decide) (by decide)]; exact hp
    have k388 : m 388 p = n := by rw [hF 388 p (by decide) (by omega)]; exact h388
    have k1 : wr ((l : Int) + 1) = ((l + 1 : Nat) : Int) := by rw [wr_i (by omega) (by omega)]; omega
    rw [k18, Int.toNat_natCast, k388, ix12 hu (by omega), k1] at e
    rcases ite1 e with ⟨q, e⟩ | ⟨q, e⟩
    · right
      rcases ite1 e with ⟨q2, e⟩ | ⟨q2, e⟩
      · cases e
        exact Or.inl ⟨by omega, q2, rfl⟩
      · replace e := bU_e e
        obtain ⟨m3, e3, e⟩ := e
        cases e
        have := F145_t hv (by omega) e3
        subst this
        exact Or.inr ⟨by omega, q2, rfl⟩
    · cases e
      exact Or.inl ⟨by omega, rfl⟩) e3 e5
  have := e4 _ _ z1
  subst this
  have := e6 _ _ z2
  subst this
  exact z3
end FA
end
section
/-! THE RULES, one by one -/
section RU
variable {G : Nat → Prop} {V : Int} {A p f g s o : Nat} {mc mm mc' mm' mc0 mm0 : yM}
theorem site_r {w n : Nat} {Bc Bm : Int → yM → Option ((Int × yM) ⊕ ((Int × yM) ⊕ (Unit × yM)))} {Pc Pm : Nat → yM → yM → Prop} {F H : Nat} {rc rm : (Int × yM) ⊕ (Unit × yM)} (h : FS G V mc0 mm0 mc mm) (hw : w < 48) (hn : n ≤ 12) (hc : ∀ (k : Nat) (m : yM) y, k ≤ n → CF mc0 m → Bc (k : Int) m = some y → (k = n ∧ y = .inr (.inl ((k : Int), m))) ∨ (k < n ∧ F78 (m (10 + w) k) m = 0 ∧ y = .inl (((k + 1 : Nat) : Int), m)) ∨ (k < n ∧ F78 (m (10 + w) k) m ≠ 0 ∧ ∃ m1, y = .inl (((k + 1 : Nat) : Int), m1) ∧ Pc k m m1)) (hm : ∀ (k : Nat) (m : yM) y, k ≤ n → MF mm0 m → Bm (k : Int) m = some y → (k = n ∧ y = .inr (.inl ((k : Int), m))) ∨ (k < n ∧ F144 (m 404 (12 * w + k)) m = 0 ∧ y = .inl (((k + 1 : Nat) : Int), m)) ∨ (k < n ∧ F144 (m 404 (12 * w + k)) m ≠ 0 ∧ ∃ m1, y = .inl (((k + 1 : Nat) : Int), m1) ∧ Pm k m m1)) (hs : ∀ (k : Nat) (m m' m1 m1' : yM), k < n → G k → FS G V mc0 mm0 m m' → Pc k m m1 → Pm k m' m1' → FS G V mc0 mm0 m1 m1') (e1 : yloop Bc F 0 mc = some rc) (e2 : yloop Bm H 0 mm = some rm) : ∃ l m l' m', rc = .inl (l, m) ∧ rm = .inl (l', m') ∧ FS G V mc0 mm0 m m' := by
  refine yl2 (fun (l : Int) m (l' : Int) m' => ∃ k : Nat, l = k ∧ l' = k ∧ k ≤ n ∧ FS G V mc0 mm0 m m') (fun r r' => ∃ l m l' m', r = .inl (l, m) ∧ r' = .inl (l', m') ∧ FS G V mc0 mm0 m m') (fun l m l' m' y y' hR a1 a2 => ?_) F H 0 mc 0 mm rc rm ⟨0, rfl, rfl, by omega, h⟩ e1 e2
  obtain ⟨k, rfl, rfl, hk, hS⟩ := hR
  rcases hc k m y hk hS.2.1 a1 with ⟨z1, z2⟩ | ⟨z1, z2, z3⟩ | ⟨z1, z2, m1, z3, z4⟩
  · rcases hm k m' y' hk hS.2.2.1 a2 with ⟨w1, w2⟩ | ⟨w1, -⟩ | ⟨w1, -⟩
    · exact Or.inr ⟨_, _, z2, w2, _, _, _, _, rfl, rfl, hS⟩
    · omega
    · omega
  · have ho := hS.1.old (t := 0) (i := w) (j := k) (by decide) (by simp [fN]; omega) (by simp [ww]; omega)
    have ho1 : F78 (m (10 + w) k) m = F144 (m' 404 (12 * w + k)) m' := ho.1
    rcases hm k m' y' hk hS.2.2.1 a2 with ⟨w1, w2⟩ | ⟨w1, w2, w3⟩ | ⟨w1, w2, -⟩
    · omega
    · exact Or.inl ⟨_, _, _, _, z3, w3, k + 1, rfl, rfl, by omega, hS⟩
    · exact absurd (ho1 ▸ z2) w2
  · have ho := hS.1.old (t := 0) (i := w) (j := k) (by decide) (by simp [fN]; omega) (by simp [ww]; omega)
    have ho1 : F78 (m (10 + w) k) m = F144 (m' 404 (12 * w + k)) m' := ho.1
    have hG : G k := ho.2 z2 (by decide)
    rcases hm k m' y' hk hS.2.2.1 a2 with ⟨w1, w2⟩ | ⟨w1, w2, w3⟩ | ⟨w1, w2, m2, w3, w4⟩
    · omega
    · exact absurd (ho1.trans w2) z2
    · exact Or.inl ⟨_, _, _, _, z3, w3, k + 1, rfl, rfl, by omega, hs k m m' m1 m2 z1 hG hS z4 w4⟩
theorem F83_e {k d : Nat} (hk : k ≤ 12) (hd : d < 8) : F83 (k : Int) (d : Int) = cc 1 (8 * k + d) := by
  unfold F83 cc
  rw [if_neg (by decide), if_pos rfl, wr_i (x := (k : Int) * 8) (by omega) (by omega), wr_i (by omega) (by omega)]
  omega
theorem ix96 {k d l : Nat} (hk : k < 12) (hd : d < 8) (hl : l ≤ 12) : (wr ((wr ((wr (96 * (k : Int))) + (wr (12 * (d : Int))))) + (l : Int))) = ((12 * (8 * k + d) + l : Nat) : Int) := by
  rw [wr_i (x := 96 * (k : Int)) (by omega) (by omega), wr_i (x := 12 * (d : Int)) (by omega) (by omega), wr_i (x := 96 * (k : Int) + 12 * (d : Int)) (by omega) (by omega), wr_i (by omega) (by omega)]
  omega
/-- what the program's rows are, seen from a memory of the round -/
theorem RPG.cl (h : RPG A p s o mc0 mm0) (hF : MF mm0 mm) : rCl A p mc0 mm := h.1.fr rfl (fun _ _ _ => rfl) (fun b q hb => hF _ _ (by omega) (by omega))
theorem RPG.me (h : RPG A p s o mc0 mm0) (hF : MF mm0 mm) : rMe A p mc0 mm := h.2.1.fr rfl (Int.le_refl _) (fun _ _ _ _ => rfl) (fun b q hb => hF _ _ (by omega) (by omega))
theorem rCl.cf (hA : A = 256 ∨ A = 316) (h : rCl A p mc0 mm) (hF : CF mc0 mc) : rCl A p mc mm := h.fr (hF _ _ (by omega)) (fun b q hb => hF _ _ (by omega)) (fun _ _ _ => rfl)
theorem rMe.cf (hA : A = 256 ∨ A = 316) (h : rMe A p mc0 mm) (hF : CF mc0 mc) : rMe A p mc mm := h.fr (hF _ _ (by omega)) (Int.le_of_eq (hF _ _ (by omega)).symm) (fun k q k1 k2 => hF _ _ (by omega)) (fun _ _ _ => rfl)
theorem bL_u {γ : Type} {o : Option ((Int × yM) ⊕ (γ × yM))} {m : yM} (h : bL o (fun _ m => some m) (fun _ mr => some mr) = some m) : ∃ r, o = some r ∧ (∀ l m2, r = .inl (l, m2) → m = m2) := by
  rcases bL_e h with ⟨l, m, d1, d2⟩ | ⟨l, m, d1, d2⟩
  · cases d2
    exact ⟨_, d1, fun l m e => by cases e; rfl⟩
  · exact ⟨_, d1, fun l m e => by cases e⟩
/-- v . f = w -/
theorem store_r {S b v2 v3 n : Nat} {fd : Int} (hA : A = 256 ∨ A = 316) (hp : p ≤ 1) (hR : RPG A p s o mc0 mm0) (hG : ∀ k, G k → mc0 (A + 8) k = mm0 400 (12 * p + k) ∧ 0 ≤ mc0 (A + 8) k ∧ mc0 (A + 8) k < mc0 A 9) (h18 : mm0 376 18 = p) (hn : mc0 A 14 = n) (hn2 : n ≤ 12) (h388 : mm0 388 p = n) (hS : 169 ≤ S) (hb : b ≤ 2000) (s2 : mc0 S 2 = v2) (s3 : mc0 S 3 = v3) (s6 : mc0 S 6 = fd) (hv2 : v2 < 48) (hv3 : v3 < 48) (hf : -1 ≤ fd ∧ fd < 8) (b0 : mm0 403 b = 5) (b2 : mm0 403 (b + 2) = v2) (b3 : mm0 403 (b + 3) = v3) (b4 : mm0 403 (b + 4) = fd) (h : FS G V mc0 mm0 mc mm) (e1 : F85 f A S mc = some mc') (e2 : F147 g (b : Int) mm = some mm') : FS G V mc0 mm0 mc' mm' := by
  have bb : ∀ {m : yM} (q : Nat), q < 8 → MF mm0 m → m 403 (wr ((b : Int) + (q : Int))).toNat = mm0 403 (b + q) := fun q hq hF => by
    rw [wr_i (by omega) (by omega), show ((b : Int) + (q : Int)).toNat = b + q by omega]
    exact hF _ _ (by decide) (by omega)
  unfold F147 at e2
  rw [Int.toNat_natCast, h.2.2.1 403 b (by decide) (by omega), b0, if_neg (by decide)] at e2
  unfold J147_15 at e2
  rw [if_pos rfl, show (b : Int) + 4 = (b : Int) + ((4 : Nat) : Int) by rfl, show (b : Int) + 2 = (b : Int) + ((2 : Nat) : Int) by rfl, bb 4 (by decide) h.2.2.1, bb 2 (by decide) h.2.2.1, b4, b2] at e2
  unfold J147_48 at e2
  obtain ⟨rm, e3, e4⟩ := bL_u e2
  unfold F85 at e1
  obtain ⟨rc, e5, e6⟩ := bL_u e1
  have k1 : ∀ k : Nat, k ≤ 12 → wr ((k : Int) + 1) = ((k + 1 : Nat) : Int) := fun k hk => by rw [wr_i (by omega) (by omega)]; omega
  by_cases fz : fd = -1
  · -- no such field
    have hm0 : rm = .inl (0, mm) := by
      have hB : B147_53 g (b : Int) 0 fd (v2 : Int) 0 mm = some (.inr (.inl (0, mm))) := by
        unfold B147_53
        by_cases q : (0 : Int) < mm 388 (mm 376 18).toNat
        · rw [if_pos q, if_pos (by omega)]
        · rw [if_neg q]
      obtain ⟨f', -, ⟨l', m', a1, a2⟩ | a1⟩ := yloop_s e3
      · rw [hB] at a1; cases a1
      · rw [hB] at a1; cases a1; rfl
    have hc0 : ∃ l, rc = .inl (l, mc) := by
      have st : ∀ (l : Int) (m : yM) y, m = mc → B85_2 f A S l m = some y → (∃ l', y = .inl (l', m)) ∨ y = .inr (.inl (l, m)) := by
        intro l m y hm e
        subst hm
        unfold B85_2 J85_76 at e
        rcases ite1 e with ⟨-, e⟩ | ⟨-, e⟩
        · rcases ite1 e with ⟨-, e⟩ | ⟨-, e⟩
          · rcases ite1 e with ⟨-, e⟩ | ⟨-, e⟩
            · cases e; exact Or.inl ⟨_, rfl⟩
            · have h47 : F47 A (m (A + 8) l.toNat) (m S 6) m = 0 := by
                unfold F47
                rw [h.2.1 S 6 (by omega), s6, if_pos fz]
              rw [if_pos h47] at e
              cases e; exact Or.inl ⟨_, rfl⟩
          · cases e
        · cases e; exact Or.inr rfl
      obtain ⟨l', m', hI, a1⟩ := yloop_inv (fun _ m => m = mc) (fun l m l' m' hI hB => by
        rcases st l m _ hI hB with ⟨l2, z⟩ | z
        · cases z; exact hI
        · cases z) _ _ _ _ rfl e5
      rcases st l' m' _ hI a1 with ⟨l2, z⟩ | z
      · cases z
      · cases z; exact ⟨_, by rw [hI]⟩
    obtain ⟨l, hc0⟩ := hc0
    have z1 := e6 _ _ hc0
    have z2 := e4 _ _ hm0
    rw [z1, z2]
    exact h
  · obtain ⟨d, hd⟩ : ∃ d : Nat, fd = d := ⟨fd.toNat, by omega⟩
    subst hd
    obtain ⟨l, m, l', m', z1, z2, z3⟩ := site_r (w := v2) (n := n) (Pc := fun k m m1 => (F47 A (m (A + 8) k) (d : Int) m = 0 ∧ m1 = m) ∨ (F47 A (m (A + 8) k) (d : Int) m ≠ 0 ∧ F80_12_12 f A (10 + v3) (cc 1 (8 * k + d)) m = some m1)) (Pm := fun k m m1 => ∃ r : (Int × yM) ⊕ (Unit × yM), yloop (fun (l : Int) ml => B147_94 g (b : Int) 0 (d : Int) (v2 : Int) (k : Int) l ml) g 0 m = some r ∧ (∀ l m2, r = .inl (l, m2) → m1 = m2)) h hv2 hn2 (fun k m y hk hF e => by
        have S2 : m S 2 = v2 := by rw [hF S 2 (by omega)]; exact s2
        have S3 : m S 3 = v3 := by rw [hF S 3 (by omega)]; exact s3
        have S6 : m S 6 = d := by rw [hF S 6 (by omega)]; exact s6
        have A14 : m A 14 = n := by rw [hF A 14 (by omega)]; exact hn
        unfold B85_2 J85_76 at e
        rw [A14, S2, S3, S6, Int.toNat_natCast, Int.toNat_natCast, Int.toNat_natCast, F83_e (by omega) (by omega), k1 k (by omega)] at e
        rcases ite1 e with ⟨q, e⟩ | ⟨q, e⟩
        · right
          rw [if_pos (by omega)] at e
          rcases ite1 e with ⟨q2, e⟩ | ⟨q2, e⟩
          · cases e; exact Or.inl ⟨by omega, q2, rfl⟩
          · refine Or.inr ⟨by omega, q2, ?_⟩
            rcases ite1 e with ⟨q3, e⟩ | ⟨q3, e⟩
            · cases e; exact ⟨_, rfl, Or.inl ⟨q3, rfl⟩⟩
            · rw [if_pos (by omega)] at e
              rcases ite1 e with ⟨q4, e⟩ | ⟨q4, e⟩
              · replace e := bU_e e
                obtain ⟨m2, e2, e⟩ := e
                cases e
                exact ⟨_, rfl, Or.inr ⟨q3, e2⟩⟩
              · cases e
        · cases e; exact Or.inl ⟨by omega, rfl⟩) (fun k m y hk hF e => by
        have k18 : m 376 18 = p := by rw [hF 376 18 (by decide) (by omega)]; exact h18
        have k388 : m 388 p = n := by rw [hF 388 p (by decide) (by omega)]; exact h388
        unfold B147_53 J147_244 at e
        rw [k18, Int.toNat_natCast, k388, ix12 hv2 (by omega), k1 k (by omega)] at e
        rcases ite1 e with ⟨q, e⟩ | ⟨q, e⟩
        · right
          rw [if_neg (by omega)] at e
          rcases ite1 e with ⟨q2, e⟩ | ⟨q2, e⟩
          · cases e; exact Or.inl ⟨by omega, q2, rfl⟩
          · refine Or.inr ⟨by omega, q2, ?_⟩
            rcases bL_e e with ⟨l, m2, a1, a2⟩ | ⟨l, m2, a1, a2⟩
            · cases a2
              exact ⟨_, rfl, _, a1, fun l m e => by cases e; rfl⟩
            · exfalso
              obtain ⟨l', m', -, i3⟩ := yloop_inv (fun _ _ => True) (fun _ _ _ _ _ _ => trivial) _ _ _ _ trivial a1
              unfold B147_94 J147_155 J147_238 at i3
              rcases ite1 i3 with ⟨-, i3⟩ | ⟨-, i3⟩
              · rw [if_pos rfl, if_pos rfl] at i3
                rcases ite1 i3 with ⟨-, i3⟩ | ⟨-, i3⟩
                · cases i3
                rcases ite1 i3 with ⟨-, i3⟩ | ⟨-, i3⟩
                · replace i3 := bP_e i3
                  obtain ⟨r, -, i3⟩ := i3
                  rcases ite1 i3 with ⟨-, i3⟩ | ⟨-, i3⟩ <;> cases i3
                · cases i3
              · cases i3
        · cases e; exact Or.inl ⟨by omega, rfl⟩) (fun k m m' m1 m1' hk hGk hS0 hPc hPm => by
        obtain ⟨r, a1, a2⟩ := hPm
        obtain ⟨c1, c2, c3⟩ := hG k hGk
        have hmc : m (A + 8) k = mc0 (A + 8) k := hS0.2.1 _ _ (by omega)
        obtain ⟨cn, hcn⟩ : ∃ cn : Nat, mc0 (A + 8) k = cn := ⟨(mc0 (A + 8) k).toNat, by omega⟩
        have b47 : F47 A (m (A + 8) k) (d : Int) m = 0 ↔ ¬ bt (mc0 (A + 3) cn) d := by
          rw [F47_r, hmc, hcn, Int.toNat_natCast, hS0.2.1 (A + 3) cn (by omega)]
        -- the model's inner loop
        have sp : ∀ (l : Nat) (m2 : yM) y, l ≤ n → MF mm0 m2 → B147_94 g (b : Int) 0 (d : Int) (v2 : Int) (k : Int) (l : Int) m2 = some y → (l = n ∧ y = .inr (.inl ((l : Int), m2))) ∨ (l < n ∧ F144 (m2 404 (12 * v3 + l)) m2 = 0 ∧ y = .inl (((l + 1 : Nat) : Int), m2)) ∨ (l < n ∧ F144 (m2 404 (12 * v3 + l)) m2 ≠ 0 ∧ ((bt (mc0 (A + 3) cn) d ∧ y = .inl (((l + 1 : Nat) : Int), tlm m2 405 (12 * (8 * k + d) + l))) ∨ (¬ bt (mc0 (A + 3) cn) d ∧ y = .inl (((l + 1 : Nat) : Int), m2)))) := by
          intro l m2 y hl hF e
          have k18 : m2 376 18 = p := by rw [hF 376 18 (by decide) (by omega)]; exact h18
          have k388 : m2 388 p = n := by rw [hF 388 p (by decide) (by omega)]; exact h388
          have k400 : m2 400 (12 * p + k) = cn := by rw [hF 400 _ (by decide) (by omega), ← c1]; exact hcn
          have ixp : (wr ((wr (12 * (p : Int))) + (k : Int))).toNat = 12 * p + k := by
            rw [wr_i (x := 12 * (p : Int)) (by omega) (by omega), wr_i (by omega) (by omega)]; omega
          unfold B147_94 J147_155 J147_238 at e
          rw [if_pos rfl, if_pos rfl, ix96 (by omega) (by omega) (by omega), k18, Int.toNat_natCast, Int.toNat_natCast, k388, show (b : Int) + 3 = (b : Int) + ((3 : Nat) : Int) by rfl, bb 3 (by decide) hF, b3, ix12 hv3 (by omega), ixp, k400, k1 l (by omega)] at e
          rcases ite1 e with ⟨q, e⟩ | ⟨q, e⟩
          · right
            rcases ite1 e with ⟨q2, e⟩ | ⟨q2, e⟩
            · cases e; exact Or.inl ⟨by omega, q2, rfl⟩
            · refine Or.inr ⟨by omega, q2, ?_⟩
              rcases ite1 e with ⟨q3, e⟩ | ⟨q3, e⟩
              · replace e := bP_e e
                obtain ⟨r, er, e⟩ := e
                obtain ⟨r1, r2⟩ := (hR.cl hF).has hp (by omega) (by omega) er
                rcases ite1 e with ⟨q4, e⟩ | ⟨q4, e⟩
                · cases e
                  exact Or.inr ⟨fun z => by have := r2.mpr z; omega, rfl⟩
                · cases e
                  refine Or.inl ⟨r2.mp (by omega), ?_⟩
                  unfold tlm
                  rw [if_pos q3]
              · cases e
                by_cases z : bt (mc0 (A + 3) cn) d
                · refine Or.inl ⟨z, ?_⟩
                  unfold tlm
                  rw [if_neg q3]
                · exact Or.inr ⟨z, rfl⟩
          · cases e; exact Or.inl ⟨by omega, rfl⟩
        rcases hPc with ⟨y1, rfl⟩ | ⟨y1, y2⟩
        · rw [b47] at y1
          -- nothing is told
          have st : ∀ (l : Int) (m2 : yM) y, (∃ l' : Nat, l = l' ∧ l' ≤ n) ∧ m2 = m' → B147_94 g (b : Int) 0 (d : Int) (v2 : Int) (k : Int) l m2 = some y → (∃ l' : Nat, y = .inl ((l' : Int), m2) ∧ l' ≤ n) ∨ y = .inr (.inl (l, m2)) := by
            rintro l m2 y ⟨⟨l', rfl, hl⟩, rfl⟩ e
            rcases sp l' _ y hl hS0.2.2.1 e with ⟨-, z⟩ | ⟨z0, -, z⟩ | ⟨z0, -, ⟨z1, -⟩ | ⟨-, z⟩⟩
            · exact Or.inr z
            · exact Or.inl ⟨_, z, by omega⟩
            · exact absurd z1 y1
            · exact Or.inl ⟨_, z, by omega⟩
          obtain ⟨l', m2, hI, i3⟩ := yloop_inv (fun (l : Int) (m2 : yM) => (∃ l' : Nat, l = l' ∧ l' ≤ n) ∧ m2 = m') (fun l m2 l' m2' hI hB => by
            rcases st l m2 _ hI hB with ⟨l2, z, z2⟩ | z
            · cases z; exact ⟨⟨l2, rfl, z2⟩, hI.2⟩
            · cases z) _ _ _ _ ⟨⟨0, rfl, by omega⟩, rfl⟩ a1
          rcases st l' m2 _ hI i3 with ⟨l2, z, -⟩ | z
          · cases z
          · cases z
            have := a2 _ _ rfl
            rw [this, hI.2]
            exact hS0
        · have hbt : bt (mc0 (A + 3) cn) d := by
            by_cases z : bt (mc0 (A + 3) cn) d
            · exact z
            · exact absurd (b47.mpr z) y1
          obtain ⟨rc2, a3, a4⟩ := F80_e y2
          obtain ⟨l5, m5, l6, m6, w1, w2, w3⟩ := copy_r (t := 0) (i := v3) (t' := 1) (i' := 8 * k + d) hA hS0 (by decide) (by simp [fN]; omega) (by decide) (by simp [fN]; omega) (fun z => absurd z (by decide)) hn hn2 (fun l m2 y hl hF e => by
            rcases sp l m2 y hl hF e with z | z | ⟨z0, z1, ⟨-, z⟩ | ⟨z2, -⟩⟩
            · exact Or.inl z
            · exact Or.inr (Or.inl z)
            · exact Or.inr (Or.inr ⟨z0, z1, z⟩)
            · exact absurd hbt z2) a3 a1
          rw [a4 _ _ w1, a2 _ _ w2]
          exact w3) e5 e3
    rw [e6 _ _ z1, e4 _ _ z2]
    exact z3
/-- v = w . f -/
theorem load_r {S b v2 v3 n : Nat} {fd : Int} (hA : A = 256 ∨ A = 316) (hp : p ≤ 1) (h18 : mm0 376 18 = p) (hn : mc0 A 14 = n) (hn2 : n ≤ 12) (h388 : mm0 388 p = n) (hS : 169 ≤ S) (hb : b ≤ 2000) (s2 : mc0 S 2 = v2) (s3 : mc0 S 3 = v3) (s6 : mc0 S 6 = fd) (hv2 : v2 < 48) (hv2V : (v2 : Int) < V) (hv3 : v3 < 48) (hf : -1 ≤ fd ∧ fd < 8) (b0 : mm0 403 b = 4) (b2 : mm0 403 (b + 2) = v2) (b3 : mm0 403 (b + 3) = v3) (b4 : mm0 403 (b + 4) = fd) (h : FS G V mc0 mm0 mc mm) (e1 : F84 f A S mc = some mc') (e2 : F147 g (b : Int) mm = some mm') : FS G V mc0 mm0 mc' mm' := by
  have bb : ∀ {m : yM} (q : Nat), q < 8 → MF mm0 m → m 403 (wr ((b : Int) + (q : Int))).toNat = mm0 403 (b + q) := fun q hq hF => by
    rw [wr_i (by omega) (by omega), show ((b : Int) + (q : Int)).toNat = b + q by omega]
    exact hF _ _ (by decide) (by omega)
  unfold F147 at e2
  rw [Int.toNat_natCast, h.2.2.1 403 b (by decide) (by omega), b0, if_pos rfl] at e2
  unfold J147_15 at e2
  rw [if_neg (by decide), show (b : Int) + 4 = (b : Int) + ((4 : Nat) : Int) by rfl, show (b : Int) + 3 = (b : Int) + ((3 : Nat) : Int) by rfl, bb 4 (by decide) h.2.2.1, bb 3 (by decide) h.2.2.1, b4, b3] at e2
  unfold J147_48 at e2
  obtain ⟨rm, e3, e4⟩ := bL_u e2
  unfold F84 at e1
  obtain ⟨rc, e5, e6⟩ := bL_u e1
  have k1 : ∀ k : Nat, k ≤ 12 → wr ((k : Int) + 1) = ((k + 1 : Nat) : Int) := fun k hk => by rw [wr_i (by omega) (by omega)]; omega
  by_cases fz : fd = -1
  · have hm0 : rm = .inl (0, mm) := by
      have hB : B147_53 g (b : Int) 1 fd (v3 : Int) 0 mm = some (.inr (.inl (0, mm))) := by
        unfold B147_53
        by_cases q : (0 : Int) < mm 388 (mm 376 18).toNat
        · rw [if_pos q, if_pos (by omega)]
        · rw [if_neg q]
      obtain ⟨f', -, ⟨l', m', a1, a2⟩ | a1⟩ := yloop_s e3
      · rw [hB] at a1; cases a1
      · rw [hB] at a1; cases a1; rfl
    have hc0 : ∃ l, rc = .inl (l, mc) := by
      have st : ∀ (l : Int) (m : yM) y, m = mc → B84_2 f A S l m = some y → (∃ l', y = .inl (l', m)) ∨ y = .inr (.inl (l, m)) := by
        intro l m y hm e
        subst hm
        unfold B84_2 J84_61 at e
        rcases ite1 e with ⟨-, e⟩ | ⟨-, e⟩
        · rcases ite1 e with ⟨-, e⟩ | ⟨-, e⟩
          · rcases ite1 e with ⟨-, e⟩ | ⟨-, e⟩
            · cases e; exact Or.inl ⟨_, rfl⟩
            · rw [h.2.1 S 6 (by omega), s6, if_pos fz] at e
              cases e; exact Or.inl ⟨_, rfl⟩
          · cases e
        · cases e; exact Or.inr rfl
      obtain ⟨l', m', hI, a1⟩ := yloop_inv (fun _ m => m = mc) (fun l m l' m' hI hB => by
        rcases st l m _ hI hB with ⟨l2, z⟩ | z
        · cases z; exact hI
        · cases z) _ _ _ _ rfl e5
      rcases st l' m' _ hI a1 with ⟨l2, z⟩ | z
      · cases z
      · cases z; exact ⟨_, by rw [hI]⟩
    obtain ⟨l, hc0⟩ := hc0
    have z1 := e6 _ _ hc0
    have z2 := e4 _ _ hm0
    rw [z1, z2]
    exact h
  · obtain ⟨d, hd⟩ : ∃ d : Nat, fd = d := ⟨fd.toNat, by omega⟩
    subst hd
    obtain ⟨l, m, l', m', z1, z2, z3⟩ := site_r (w := v3) (n := n) (Pc := fun k m m1 => F80_12_12 f A (cc 1 (8 * k + d)) (10 + v2) m = some m1) (Pm := fun k m m1 => ∃ r : (Int × yM) ⊕ (Unit × yM), yloop (fun (l : Int) ml => B147_94 g (b : Int) 1 (d : Int) (v3 : Int) (k : Int) l ml) g 0 m = some r ∧ (∀ l m2, r = .inl (l, m2) → m1 = m2)) h hv3 hn2 (fun k m y hk hF e => by
        have S2 : m S 2 = v2 := by rw [hF S 2 (by omega)]; exact s2
        have S3 : m S 3 = v3 := by rw [hF S 3 (by omega)]; exact s3
        have S6 : m S 6 = d := by rw [hF S 6 (by omega)]; exact s6
        have A14 : m A 14 = n := by rw [hF A 14 (by omega)]; exact hn
        unfold B84_2 J84_61 at e
        rw [A14, S2, S3, S6, Int.toNat_natCast, Int.toNat_natCast, Int.toNat_natCast, F83_e (by omega) (by omega), k1 k (by omega)] at e
        rcases ite1 e with ⟨q, e⟩ | ⟨q, e⟩
        · right
          rw [if_pos (by omega)] at e
          rcases ite1 e with ⟨q2, e⟩ | ⟨q2, e⟩
          · cases e; exact Or.inl ⟨by omega, q2, rfl⟩
          · refine Or.inr ⟨by omega, q2, ?_⟩
            rw [if_neg (by omega)] at e
            rcases ite1 e with ⟨q4, e⟩ | ⟨q4, e⟩
            · rw [if_pos (by omega)] at e
              replace e := bU_e e
              obtain ⟨m2, e2, e⟩ := e
              cases e
              exact ⟨_, rfl, e2⟩
            · cases e
        · cases e; exact Or.inl ⟨by omega, rfl⟩) (fun k m y hk hF e => by
        have k18 : m 376 18 = p := by rw [hF 376 18 (by decide) (by omega)]; exact h18
        have k388 : m 388 p = n := by rw [hF 388 p (by decide) (by omega)]; exact h388
        unfold B147_53 J147_244 at e
        rw [k18, Int.toNat_natCast, k388, ix12 hv3 (by omega), k1 k (by omega)] at e
        rcases ite1 e with ⟨q, e⟩ | ⟨q, e⟩
        · right
          rw [if_neg (by omega)] at e
          rcases ite1 e with ⟨q2, e⟩ | ⟨q2, e⟩
          · cases e; exact Or.inl ⟨by omega, q2, rfl⟩
          · refine Or.inr ⟨by omega, q2, ?_⟩
            rcases bL_e e with ⟨l, m2, a1, a2⟩ | ⟨l, m2, a1, a2⟩
            · cases a2
              exact ⟨_, rfl, _, a1, fun l m e => by cases e; rfl⟩
            · exfalso
              obtain ⟨l', m', -, i3⟩ := yloop_inv (fun _ _ => True) (fun _ _ _ _ _ _ => trivial) _ _ _ _ trivial a1
              unfold B147_94 J147_155 J147_238 at i3
              rcases ite1 i3 with ⟨-, i3⟩ | ⟨-, i3⟩
              · rw [if_neg (by decide)] at i3
                rcases ite1 i3 with ⟨-, i3⟩ | ⟨-, i3⟩
                · cases i3
                · replace i3 := bU_e i3
                  obtain ⟨m5, -, i3⟩ := i3
                  rw [if_neg (by decide)] at i3
                  cases i3
              · cases i3
        · cases e; exact Or.inl ⟨by omega, rfl⟩) (fun k m m' m1 m1' hk hGk hS0 hPc hPm => by
        obtain ⟨r, a1, a2⟩ := hPm
        obtain ⟨rc2, a3, a4⟩ := F80_e hPc
        obtain ⟨l5, m5, l6, m6, w1, w2, w3⟩ := copy_r (t := 1) (i := 8 * k + d) (t' := 0) (i' := v2) hA hS0 (by decide) (by simp [fN]; omega) (by decide) (by simp [fN]; omega) (fun _ => hv2V) hn hn2 (fun l m2 y hl hF e => by
          have k18 : m2 376 18 = p := by rw [hF 376 18 (by decide) (by omega)]; exact h18
          have k388 : m2 388 p = n := by rw [hF 388 p (by decide) (by omega)]; exact h388
          unfold B147_94 J147_155 J147_238 at e
          simp only [if_neg (show ¬ ((1 : Int) = 0) by decide)] at e
          rw [ix96 (by omega) (by omega) (by omega), k18, Int.toNat_natCast, Int.toNat_natCast, k388, show (b : Int) + 2 = (b : Int) + ((2 : Nat) : Int) by rfl, bb 2 (by decide) hF, b2, k1 l (by omega)] at e
          rcases ite1 e with ⟨q, e⟩ | ⟨q, e⟩
          · right
            rcases ite1 e with ⟨q2, e⟩ | ⟨q2, e⟩
            · cases e; exact Or.inl ⟨by omega, q2, rfl⟩
            · replace e := bU_e e
              obtain ⟨m7, e7, e⟩ := e
              have := F145_t hv2 (by omega) e7
              subst this
              cases e
              exact Or.inr ⟨by omega, q2, rfl⟩
          · cases e; exact Or.inl ⟨by omega, rfl⟩) a3 a1
        rw [a4 _ _ w1, a2 _ _ w2]
        exact w3) e5 e3
    rw [e6 _ _ z1, e4 _ _ z2]
    exact z3
end RU
end
section
/-! THE RULES: casts and calls -/
section RV
variable {G : Nat → Prop} {V : Int} {A p f g s o : Nat} {mc mm mc' mm' mc0 mm0 : yM}
theorem ixp12 {k : Nat} (hp : p ≤ 1) (hk : k ≤ 12) : (wr ((wr (12 * (p : Int))) + (k : Int))).toNat = 12 * p + k := by
  rw [wr_i (x := 12 * (p : Int)) (by omega) (by omega), wr_i (by omega) (by omega)]; omega
theorem ixp10 {k : Nat} (hp : p ≤ 1) (hk : k ≤ 12) : (wr ((wr (10 * (p : Int))) + (k : Int))).toNat = 10 * p + k := by
  rw [wr_i (x := 10 * (p : Int)) (by omega) (by omega), wr_i (by omega) (by omega)]; omega
theorem ixp8 {k : Nat} (hp : p ≤ 1) (hk : k ≤ 12) : (wr ((wr (8 * (p : Int))) + (k : Int))).toNat = 8 * p + k := by
  rw [wr_i (x := 8 * (p : Int)) (by omega) (by omega), wr_i (by omega) (by omega)]; omega
/-- v = ( C ) w -/
theorem cast_r2 {S b v2 v3 n c : Nat} {tc : Int} (hA : A = 256 ∨ A = 316) (hp : p ≤ 1) (hR : RPG A p s o mc0 mm0) (hG : ∀ k, G k → mc0 (A + 8) k = mm0 400 (12 * p + k) ∧ 0 ≤ mc0 (A + 8) k ∧ mc0 (A + 8) k < mc0 A 9) (h18 : mm0 376 18 = p) (hn : mc0 A 14 = n) (hn2 : n ≤ 12) (h388 : mm0 388 p = n) (hS : 169 ≤ S) (hb : b ≤ 2000) (s2 : mc0 S 2 = v2) (s3 : mc0 S 3 = v3) (s7 : mc0 S 7 = tc) (ht : 0 ≤ tc) (hv2 : v2 < 48) (hv2V : (v2 : Int) < V) (hv3 : v3 < 48) (hc : c < 8) (b4 : mm0 403 (b + 4) = c) (h402 : mm0 402 (8 * p + c) = tc) (h : FS G V mc0 mm0 mc mm) (e1 : F82 f A S mc = some mc') {rm : (Int × yM) ⊕ (Unit × yM)} (e3 : yloop (fun (l : Int) ml => B150_131 g (b : Int) (v2 : Int) (v3 : Int) l ml) g 0 mm = some rm) (e4 : ∀ l m2, rm = .inl (l, m2) → mm' = m2) : FS G V mc0 mm0 mc' mm' := by
  have bb : ∀ {m : yM} (q : Nat), q < 8 → MF mm0 m → m 403 (wr ((b : Int) + (q : Int))).toNat = mm0 403 (b + q) := fun q hq hF => by
    rw [wr_i (by omega) (by omega), show ((b : Int) + (q : Int)).toNat = b + q by omega]
    exact hF _ _ (by decide) (by omega)
  unfold F82 at e1
  obtain ⟨rc, e5, e6⟩ := bL_u e1
  have k1 : ∀ k : Nat, k ≤ 12 → wr ((k : Int) + 1) = ((k + 1 : Nat) : Int) := fun k hk => by rw [wr_i (by omega) (by omega)]; omega
  obtain ⟨l, m, l', m', z1, z2, z3⟩ := site_r (w := v3) (n := n) (Pc := fun k m m1 => ∃ r, F81 f A (m (A + 8) k) tc m = some r ∧ ((r = 0 ∧ m1 = m) ∨ (r ≠ 0 ∧ F79_12 f (10 + v2) (k : Int) m = some m1))) (Pm := fun k m m1 => ∃ r, F149 g p (mm0 400 (12 * p + k)) tc m = some r ∧ ((r = 0 ∧ m1 = m) ∨ (r ≠ 0 ∧ F145 g (v2 : Int) (k : Int) m = some m1))) h hv3 hn2 (fun k m y hk hF e => by
      have S2 : m S 2 = v2 := by rw [hF S 2 (by omega)]; exact s2
      have S3 : m S 3 = v3 := by rw [hF S 3 (by omega)]; exact s3
      have S7 : m S 7 = tc := by rw [hF S 7 (by omega)]; exact s7
      have A14 : m A 14 = n := by rw [hF A 14 (by omega)]; exact hn
      unfold B82_2 J82_68 at e
      rw [A14, S2, S3, S7, Int.toNat_natCast, Int.toNat_natCast, Int.toNat_natCast, k1 k (by omega)] at e
      rcases ite1 e with ⟨q, e⟩ | ⟨q, e⟩
      · right
        rw [if_pos (by omega)] at e
        rcases ite1 e with ⟨q2, e⟩ | ⟨q2, e⟩
        · cases e; exact Or.inl ⟨by omega, q2, rfl⟩
        · refine Or.inr ⟨by omega, q2, ?_⟩
          replace e := bP_e e
          obtain ⟨r, er, e⟩ := e
          rcases ite1 e with ⟨q3, e⟩ | ⟨q3, e⟩
          · cases e; exact ⟨_, rfl, r, er, Or.inl ⟨q3, rfl⟩⟩
          · rw [if_pos (by omega)] at e
            replace e := bU_e e
            obtain ⟨m2, e2, e⟩ := e
            cases e
            exact ⟨_, rfl, r, er, Or.inr ⟨q3, e2⟩⟩
      · cases e; exact Or.inl ⟨by omega, rfl⟩) (fun k m y hk hF e => by
      have k18 : m 376 18 = p := by rw [hF 376 18 (by decide) (by omega)]; exact h18
      have k388 : m 388 p = n := by rw [hF 388 p (by decide) (by omega)]; exact h388
      unfold B150_131 J150_219 at e
      rw [k18, Int.toNat_natCast, k388, ix12 hv3 (by omega), k1 k (by omega), ixp12 hp (by omega), show (b : Int) + 4 = (b : Int) + ((4 : Nat) : Int) by rfl, bb 4 (by decide) hF, b4, ixp8 hp (by omega), hF 402 _ (by decide) (by omega), h402, hF 400 _ (by decide) (by omega)] at e
      rcases ite1 e with ⟨q, e⟩ | ⟨q, e⟩
      · right
        rcases ite1 e with ⟨q2, e⟩ | ⟨q2, e⟩
        · cases e; exact Or.inl ⟨by omega, q2, rfl⟩
        · refine Or.inr ⟨by omega, q2, ?_⟩
          replace e := bP_e e
          obtain ⟨r, er, e⟩ := e
          rcases ite1 e with ⟨q3, e⟩ | ⟨q3, e⟩
          · cases e; exact ⟨_, rfl, r, er, Or.inl ⟨q3, rfl⟩⟩
          · replace e := bU_e e
            obtain ⟨m2, e2, e⟩ := e
            cases e
            exact ⟨_, rfl, r, er, Or.inr ⟨q3, e2⟩⟩
      · cases e; exact Or.inl ⟨by omega, rfl⟩) (fun k m m' m1 m1' hk hGk hS0 hPc hPm => by
      obtain ⟨r, a1, a2⟩ := hPc
      obtain ⟨r', b1, b2⟩ := hPm
      obtain ⟨c1, c2, c3⟩ := hG k hGk
      have hmc : m (A + 8) k = mc0 (A + 8) k := hS0.2.1 _ _ (by omega)
      have hm9 : m A 9 = mc0 A 9 := hS0.2.1 _ _ (by omega)
      rw [hmc] at a1
      rw [← c1] at b1
      obtain ⟨y1, -⟩ := below_r ((hR.cl hS0.2.2.1).cf hA hS0.2.1) hp ht c2 (by omega) a1 b1
      subst y1
      rcases a2 with ⟨a2, rfl⟩ | ⟨a2, a3⟩
      · rcases b2 with ⟨-, rfl⟩ | ⟨b2, -⟩
        · exact hS0
        · exact absurd a2 b2
      · rcases b2 with ⟨b2, -⟩ | ⟨-, b3⟩
        · exact absurd b2 a2
        · have t1 := F79_12_t ⟨hS0.1.2.2.1, hS0.1.2.2.2.1⟩ a3
          rw [Int.toNat_natCast] at t1
          have t2 := F145_t hv2 (by omega) b3
          subst t1
          subst t2
          exact hS0.tell (t := 0) (i := v2) (j := k) (by decide) (by simp [fN]; omega) (by simp [ww]; omega) (fun _ => hGk) (fun _ => hv2V)) e5 e3
  rw [e6 _ _ z1, e4 _ _ z2]
  exact z3
theorem FS.tell2 {i j : Nat} (h : FS G V mc0 mm0 mc mm) (hi : i < 12) (hj : j < 10) : FS G V mc0 mm0 (tlc mc (59 + i) j) (tlm mm 406 (10 * i + j)) := h.tell (t := 2) (i := i) (j := j) (by decide) (by simp [fN]; omega) (by simp [ww]; omega) (fun z => absurd z (by decide)) (fun z => absurd z (by decide))
theorem FS.tell3 {j : Nat} (h : FS G V mc0 mm0 mc mm) (hj : j < 10) : FS G V mc0 mm0 (tlc mc 71 j) (tlm mm 407 j) := by
  have := h.tell (t := 3) (i := 0) (j := j) (by decide) (by simp [fN]) (by simp [ww]; omega) (fun z => absurd z (by decide)) (fun z => absurd z (by decide))
  simpa [cc, ww] using this
theorem FS.tell0 {i j : Nat} (h : FS G V mc0 mm0 mc mm) (hi : i < 48) (hj : j < 12) (hG : G j) (hV : (i : Int) < V) : FS G V mc0 mm0 (tlc mc (10 + i) j) (tlm mm 404 (12 * i + j)) := h.tell (t := 0) (i := i) (j := j) (by decide) (by simp [fN]; omega) (by simp [ww]; omega) (fun _ => hG) (fun _ => hV)
/-- a call: where it may go -/
theorem call1_r {S b v3 n c na : Nat} {nm nm' : Int} (hA : A = 256 ∨ A = 316) (hp : p ≤ 1) (hR : RPG A p s o mc0 mm0) (hVV : V = mc0 A 15) (hG : ∀ k, G k → mc0 (A + 8) k = mm0 400 (12 * p + k) ∧ 0 ≤ mc0 (A + 8) k ∧ mc0 (A + 8) k < mc0 A 9) (h18 : mm0 376 18 = p) (hn : mc0 A 14 = n) (hn2 : n ≤ 12) (h388 : mm0 388 p = n) (hS : 169 ≤ S) (hb : b ≤ 2000) (s3 : mc0 S 3 = v3) (s4 : mc0 S 4 = nm) (s6 : mc0 S 6 = c) (s8 : mc0 S 8 = na) (hv3 : v3 < 48) (hc : c < 12) (hN : Nm nm nm') (b4 : mm0 403 (b + 4) = nm') (h : FS G V mc0 mm0 mc mm) (e1 : F86 f A S mc = some mc') {rm : (Int × yM) ⊕ (Unit × yM)} (e3 : yloop (fun (l : Int) ml => B148_37 g (b : Int) (v3 : Int) (c : Int) (na : Int) l ml) g 0 mm = some rm) : ∃ l m2, rm = .inl (l, m2) ∧ FS G V mc0 mm0 mc' m2 := by
  have bb : ∀ {m : yM} (q : Nat), q < 8 → MF mm0 m → m 403 (wr ((b : Int) + (q : Int))).toNat = mm0 403 (b + q) := fun q hq hF => by
    rw [wr_i (by omega) (by omega), show ((b : Int) + (q : Int)).toNat = b + q by omega]
    exact hF _ _ (by decide) (by omega)
  unfold F86 at e1
  obtain ⟨rc, e5, e6⟩ := bL_u e1
  have k1 : ∀ k : Nat, k ≤ 12 → wr ((k : Int) + 1) = ((k + 1 : Nat) : Int) := fun k hk => by rw [wr_i (by omega) (by omega)]; omega
  have h10 := hR.2.1.2.2.1
  obtain ⟨l, m, l', m', z1, z2, z3⟩ := site_r (w := v3) (n := n) (Pc := fun k m m1 => ∃ r, F72 f A (m (A + 8) k) nm (na : Int) m = some r ∧ ((r = -1 ∧ m1 = m) ∨ (∃ q : Nat, r = q ∧ q < 10 ∧ ∃ m2 m3, F79_10 f (59 + c) (q : Int) m = some m2 ∧ F79_10 f 71 (q : Int) m2 = some m3 ∧ F79_12 f (10 + (F57 (A + 10 + q) m3).toNat) (k : Int) m3 = some m1 ∧ 0 ≤ F57 (A + 10 + q) m3 ∧ F57 (A + 10 + q) m3 < 48))) (Pm := fun k m m1 => ∃ r, F142 g p (mm0 400 (12 * p + k)) nm' (na : Int) m = some r ∧ J148_107 g (b : Int) (v3 : Int) (c : Int) (na : Int) (k : Int) r m = some (.inl (((k + 1 : Nat) : Int), m1))) h hv3 hn2 (fun k m y hk hF e => by
      have S3 : m S 3 = v3 := by rw [hF S 3 (by omega)]; exact s3
      have S4 : m S 4 = nm := by rw [hF S 4 (by omega)]; exact s4
      have S6 : m S 6 = c := by rw [hF S 6 (by omega)]; exact s6
      have S8 : m S 8 = na := by rw [hF S 8 (by omega)]; exact s8
      have A14 : m A 14 = n := by rw [hF A 14 (by omega)]; exact hn
      unfold B86_2 J86_106 at e
      rw [A14, S3, S4, S6, S8, Int.toNat_natCast, Int.toNat_natCast, Int.toNat_natCast, k1 k (by omega)] at e
      rcases ite1 e with ⟨q, e⟩ | ⟨q, e⟩
      · right
        rw [if_pos (by omega)] at e
        rcases ite1 e with ⟨q2, e⟩ | ⟨q2, e⟩
        · cases e; exact Or.inl ⟨by omega, q2, rfl⟩
        · refine Or.inr ⟨by omega, q2, ?_⟩
          replace e := bP_e e
          obtain ⟨r, er, e⟩ := e
          rcases ite1 e with ⟨q3, e⟩ | ⟨q3, e⟩
          · cases e; exact ⟨_, rfl, r, er, Or.inl ⟨q3, rfl⟩⟩
          · rw [if_pos (by omega)] at e
            replace e := bU_e e
            obtain ⟨m2, e2, e⟩ := e
            replace e := bU_e e
            obtain ⟨m3, e3, e⟩ := e
            rcases ite1 e with ⟨q4, e⟩ | ⟨q4, e⟩
            · obtain ⟨rn, rfl⟩ : ∃ rn : Nat, r = rn := ⟨r.toNat, by omega⟩
              rw [Int.toNat_natCast] at e
              rcases ite1 e with ⟨q5, e⟩ | ⟨q5, e⟩
              · replace e := bU_e e
                obtain ⟨m4, e4, e⟩ := e
                cases e
                exact ⟨_, rfl, _, er, Or.inr ⟨rn, rfl, by omega, m2, m3, e2, e3, e4, q5.1, q5.2⟩⟩
              · cases e
            · cases e
      · cases e; exact Or.inl ⟨by omega, rfl⟩) (fun k m y hk hF e => by
      have k18 : m 376 18 = p := by rw [hF 376 18 (by decide) (by omega)]; exact h18
      have k388 : m 388 p = n := by rw [hF 388 p (by decide) (by omega)]; exact h388
      unfold B148_37 at e
      rw [k18, Int.toNat_natCast, k388, ix12 hv3 (by omega), ixp12 hp (by omega), show (b : Int) + 4 = (b : Int) + ((4 : Nat) : Int) by rfl, bb 4 (by decide) hF, b4, hF 400 _ (by decide) (by omega)] at e
      have J1 : ∀ {r : Int} {m2 : yM} {y : (Int × yM) ⊕ ((Int × yM) ⊕ (Unit × yM))}, J148_107 g (b : Int) (v3 : Int) (c : Int) (na : Int) (k : Int) r m2 = some y → ∃ m3, y = .inl (((k + 1 : Nat) : Int), m3) := by
        intro r m2 y e
        have J2 : ∀ {m2 : yM} {y : (Int × yM) ⊕ ((Int × yM) ⊕ (Unit × yM))}, J148_176 g (b : Int) (v3 : Int) (c : Int) (na : Int) (k : Int) r m2 = some y → ∃ m3, y = .inl (((k + 1 : Nat) : Int), m3) := by
          intro m2 y e
          unfold J148_176 J148_199 at e
          rw [k1 k (by omega)] at e
          replace e := bU_e e
          obtain ⟨m3, -, e⟩ := e
          cases e
          exact ⟨_, rfl⟩
        have J3 : ∀ {m2 : yM} {y : (Int × yM) ⊕ ((Int × yM) ⊕ (Unit × yM))}, J148_150 g (b : Int) (v3 : Int) (c : Int) (na : Int) (k : Int) r m2 = some y → ∃ m3, y = .inl (((k + 1 : Nat) : Int), m3) := by
          intro m2 y e
          unfold J148_150 at e
          rcases ite1 e with ⟨-, e⟩ | ⟨-, e⟩ <;> exact J2 e
        unfold J148_107 at e
        rcases ite1 e with ⟨-, e⟩ | ⟨-, e⟩
        · unfold J148_199 at e
          rw [k1 k (by omega)] at e
          cases e
          exact ⟨_, rfl⟩
        · rcases ite1 e with ⟨-, e⟩ | ⟨-, e⟩ <;> exact J3 e
      rcases ite1 e with ⟨q, e⟩ | ⟨q, e⟩
      · right
        rcases ite1 e with ⟨q2, e⟩ | ⟨q2, e⟩
        · unfold J148_107 J148_199 at e
          rw [if_pos (by decide), k1 k (by omega)] at e
          cases e; exact Or.inl ⟨by omega, q2, rfl⟩
        · refine Or.inr ⟨by omega, q2, ?_⟩
          replace e := bP_e e
          obtain ⟨r, er, e⟩ := e
          obtain ⟨m3, z⟩ := J1 e
          subst z
          exact ⟨_, rfl, r, er, e⟩
      · cases e; exact Or.inl ⟨by omega, rfl⟩) (fun k m m' m1 m1' hk hGk hS0 hPc hPm => by
      obtain ⟨c1, c2, c3⟩ := hG k hGk
      have hI : (169 ≤ A + 8 ∧ 169 ≤ A) ∧ k ≤ 12 := by clear hPc hPm; omega
      have hmc : m (A + 8) k = mc0 (A + 8) k := hS0.2.1 _ _ (Or.inl hI.1.1)
      have hm9 : m A 9 = mc0 A 9 := hS0.2.1 _ _ (Or.inl hI.1.2)
      have hm10 : m A 10 = mc0 A 10 := hS0.2.1 _ _ (Or.inl hI.1.2)
      have c3' : mc0 (A + 8) k < m A 9 := by rw [hm9]; exact c3
      obtain ⟨r, a1, a2⟩ := hPc
      obtain ⟨r', b1, b2⟩ := hPm
      rw [hmc] at a1
      rw [← c1] at b1
      obtain ⟨y1, y2⟩ := found_r ((hR.cl hS0.2.2.1).cf hA hS0.2.1) ((hR.me hS0.2.2.1).cf hA hS0.2.1) hp hN c2 c3' a1 b1
      subst y1
      have F8 : 0 ≤ m 8 5 ∧ m 8 5 ≤ 2000 := ⟨hS0.1.2.2.1, hS0.1.2.2.2.1⟩
      rcases a2 with ⟨a2, rfl⟩ | ⟨q, rfl, q10, m2, m3, a3, a4, a5, a6, a7⟩
      · unfold J148_107 J148_199 at b2
        rw [if_pos (by omega), k1 k hI.2] at b2
        cases b2
        exact hS0
      · have t2 := F79_10_t F8 a3
        rw [Int.toNat_natCast] at t2
        have M' : ∀ b q, ¬ (b = 376 ∧ q = 46) → b < 404 → m' b q = mm0 b q := fun b q z1 z2 => hS0.2.2.1 b q z2 z1
        have ix6 : (wr ((wr (10 * (c : Int))) + (q : Int))).toNat = 10 * c + q := by
          rw [wr_i (x := 10 * (c : Int)) (by omega) (by omega), wr_i (by omega) (by omega)]; omega
        have T2 := hS0.tell2 hc q10
        have T3 := T2.tell3 q10
        have F82 : 0 ≤ m2 8 5 ∧ m2 8 5 ≤ 2000 := by rw [t2]; exact ⟨T2.1.2.2.1, T2.1.2.2.2.1⟩
        have t3 := F79_10_t F82 a4
        rw [Int.toNat_natCast, t2] at t3
        have F83 : 0 ≤ m3 8 5 ∧ m3 8 5 ≤ 2000 := by rw [t3]; exact ⟨T3.1.2.2.1, T3.1.2.2.2.1⟩
        have t4 := F79_12_t F83 a5
        rw [Int.toNat_natCast] at t4
        obtain ⟨self, hself⟩ : ∃ self : Nat, F57 (A + 10 + q) m3 = self := ⟨(F57 (A + 10 + q) m3).toNat, by omega⟩
        rw [hself, Int.toNat_natCast, t3] at t4
        -- the model
        unfold J148_107 at b2
        rw [if_neg (by omega), ix6] at b2
        have u2 : (if m' 406 (10 * c + q) < 0 then J148_150 g (b : Int) (v3 : Int) (c : Int) (na : Int) (k : Int) (q : Int) (yup (yup m' 406 (10 * c + q) (m' 376 45)) 376 46 1) else J148_150 g (b : Int) (v3 : Int) (c : Int) (na : Int) (k : Int) (q : Int) m') = J148_150 g (b : Int) (v3 : Int) (c : Int) (na : Int) (k : Int) (q : Int) (tlm m' 406 (10 * c + q)) := by
          unfold tlm
          split <;> rfl
        rw [u2] at b2
        unfold J148_150 at b2
        rw [Int.toNat_natCast] at b2
        have u3 : ∀ m5 : yM, (if m5 407 q < 0 then J148_176 g (b : Int) (v3 : Int) (c : Int) (na : Int) (k : Int) (q : Int) (yup (yup m5 407 q (m5 376 45)) 376 46 1) else J148_176 g (b : Int) (v3 : Int) (c : Int) (na : Int) (k : Int) (q : Int) m5) = J148_176 g (b : Int) (v3 : Int) (c : Int) (na : Int) (k : Int) (q : Int) (tlm m5 407 q) := by
          intro m5
          unfold tlm
          split <;> rfl
        rw [u3] at b2
        unfold J148_176 J148_199 at b2
        rw [k1 k hI.2] at b2
        replace b2 := bU_e b2
        obtain ⟨m6, b3, b2⟩ := b2
        cases b2
        have k18 : tlm (tlm m' 406 (10 * c + q)) 407 q 376 18 = p := by rw [T3.2.2.1 376 18 (by decide) (by omega)]; exact h18
        rw [k18, ixp10 hp (by omega), T3.2.2.1 398 _ (by decide) (by omega)] at b3
        obtain ⟨-, -, -, g4, -, -, g7, -, g9, g10⟩ := hR.2.1.2.2.2 q (by omega)
        have hs2 : F57 (A + 10 + q) m3 = mc0 (A + 10 + q) 2 + 1 := by
          unfold F57
          rw [t3, T3.2.1 (A + 10 + q) 2 (by omega), wr_i (by omega) (by omega)]
        have hv : wr (mm0 398 (10 * p + q) + 1) = (self : Int) := by
          rw [← g4, wr_i (by omega) (by omega)]; omega
        rw [hv] at b3
        have t5 := F145_t (by omega) (by omega) b3
        rw [t4, t5]
        have hvn := hR.2.2.2.2.1.2.2.2.2.1 q (by omega)
        exact T3.tell0 (by omega) (by omega) hGk (by omega)) e5 e3
  have := e6 _ _ z1
  subst this
  exact ⟨_, _, z2, z3⟩
end RV
end
section
/-! THE RULES: what a call hands over; an op, whole -/
section RW
variable {G : Nat → Prop} {V : Int} {A p f g s o : Nat} {mc mm mc' mm' mc0 mm0 : yM}
theorem iDiv16 {c na : Nat} (hc : c < 12) (hna : na ≤ 2) : iDiv ((16 * c + na : Nat) : Int) 16 = c ∧ iRem ((16 * c + na : Nat) : Int) 16 = na := by
  have : ∀ (c : Fin 12) (na : Fin 3), iDiv ((16 * (c : Nat) + (na : Nat) : Nat) : Int) 16 = (c : Nat) ∧ iRem ((16 * (c : Nat) + (na : Nat) : Nat) : Int) 16 = (na : Nat) := by decide +kernel
  exact this ⟨c, hc⟩ ⟨na, by omega⟩
/-- the arguments and the result of a call, for a method that it may go to -/
theorem call2_r {S b v2' n c na : Nat} {v2 : Int} (hA : A = 256 ∨ A = 316) (hp : p ≤ 1) (hR : RPG A p s o mc0 mm0) (hVV : V = mc0 A 15) (h18 : mm0 376 18 = p) (hn : mc0 A 14 = n) (hn2 : n ≤ 12) (h388 : mm0 388 p = n) (hS : 169 ≤ S) (hb : b ≤ 2000) (s2 : mc0 S 2 = v2) (s6 : mc0 S 6 = c) (s8 : mc0 S 8 = na) (hc : c < 12) (hna : na ≤ 2) (hv2 : v2 = -1 ∨ (v2 = v2' ∧ v2' < 48 ∧ (v2' : Int) < V)) (b2 : mm0 403 (b + 2) = v2) (h6 : 0 < na → mm0 403 (b + 6) = mc0 S 9 ∧ vB (mc0 A 15) (mc0 S 9)) (h7 : 1 < na → mm0 403 (b + 7) = mc0 S 10 ∧ vB (mc0 A 15) (mc0 S 10)) (h : FS G V mc0 mm0 mc mm) (e1 : F89 f A S mc = some mc') {rm : (Int × yM) ⊕ (Unit × yM)} (e3 : yloop (fun (l : Int) ml => B148_208 g (b : Int) (c : Int) (na : Int) l ml) g 0 mm = some rm) (e4 : ∀ l m2, rm = .inl (l, m2) → mm' = m2) : FS G V mc0 mm0 mc' mm' := by
  have bb : ∀ {m : yM} (q : Nat), q < 8 → MF mm0 m → m 403 (wr ((b : Int) + (q : Int))).toNat = mm0 403 (b + q) := fun q hq hF => by
    rw [wr_i (by omega) (by omega), show ((b : Int) + (q : Int)).toNat = b + q by omega]
    exact hF _ _ (by decide) (by omega)
  unfold F89 at e1
  obtain ⟨rc, e5, e6⟩ := bL_u e1
  have k1 : ∀ k : Nat, k ≤ 12 → wr ((k : Int) + 1) = ((k + 1 : Nat) : Int) := fun k hk => by rw [wr_i (by omega) (by omega)]; omega
  have h10a := hR.2.1.2.1
  have h10 := hR.2.1.2.2.1
  have h10e := hR.2.1.1
  obtain ⟨nk, hnk⟩ : ∃ nk : Nat, mc0 A 10 = nk := ⟨(mc0 A 10).toNat, by omega⟩
  have key : ∃ l m l' m', rc = .inl (l, m) ∧ rm = .inl (l', m') ∧ FS G V mc0 mm0 m m' := by
    refine yl2 (fun (l : Int) m (l' : Int) m' => ∃ k : Nat, l = k ∧ l' = k ∧ k ≤ nk ∧ FS G V mc0 mm0 m m') (fun r r' => ∃ l m l' m', r = .inl (l, m) ∧ r' = .inl (l', m') ∧ FS G V mc0 mm0 m m') (fun l m l' m' y y' hRR a1 a2 => ?_) f g 0 mc 0 mm rc rm ⟨0, rfl, rfl, by omega, h⟩ e5 e3
    obtain ⟨k, rfl, rfl, hk, hS0⟩ := hRR
    have A10 : m A 10 = nk := by rw [hS0.2.1 A 10 (by omega)]; exact hnk
    have S6 : m S 6 = c := by rw [hS0.2.1 S 6 (by omega)]; exact s6
    have k18 : m' 376 18 = p := by rw [hS0.2.2.1 376 18 (by decide) (by omega)]; exact h18
    have k384 : m' 384 p = nk := by rw [hS0.2.2.1 384 p (by decide) (by omega), ← h10e]; exact hnk
    have ix6 : (wr ((wr (10 * (c : Int))) + (k : Int))).toNat = 10 * c + k := by
      rw [wr_i (x := 10 * (c : Int)) (by omega) (by omega), wr_i (by omega) (by omega)]; omega
    unfold B89_2 J89_45 at a1
    unfold B148_208 J148_322 at a2
    rw [A10, S6, Int.toNat_natCast, Int.toNat_natCast, k1 k (by omega)] at a1
    rw [k18, Int.toNat_natCast, k384, ix6, ixp10 hp (by omega), k1 k (by omega)] at a2
    rcases ite1 a1 with ⟨q, a1⟩ | ⟨q, a1⟩
    case inr =>
      cases a1
      rw [if_neg q] at a2
      cases a2
      exact Or.inr ⟨_, _, rfl, rfl, _, _, _, _, rfl, rfl, hS0⟩
    rw [if_pos q] at a2
    rw [if_pos (by omega)] at a1
    have ho : F78 (m (59 + c) k) m = F144 (m' 406 (10 * c + k)) m' := (hS0.1.old (t := 2) (i := c) (j := k) (by decide) (by simp [fN]; omega) (by simp [ww]; omega)).1
    rcases ite1 a1 with ⟨q2, a1⟩ | ⟨q2, a1⟩
    · cases a1
      rw [if_pos (by rw [← ho]; exact q2)] at a2
      cases a2
      exact Or.inl ⟨_, _, _, _, rfl, rfl, k + 1, rfl, rfl, by omega, hS0⟩
    · rw [if_neg (by rw [← ho]; exact q2)] at a2
      rw [if_pos (by omega)] at a1
      replace a1 := bU_e a1
      obtain ⟨m8, a3, a1⟩ := a1
      cases a1
      obtain ⟨-, -, -, g4, -, -, g7, g8, g9, g10⟩ := hR.2.1.2.2.2 k (by omega)
      have hvn := hR.2.2.2.2.1.2.2.2.2.1 k (by omega)
      obtain ⟨res, hres⟩ : ∃ res : Nat, mc0 (A + 10 + k) 2 = res := ⟨(mc0 (A + 10 + k) 2).toNat, by omega⟩
      have h398 : m' 398 (10 * p + k) = res := by rw [hS0.2.2.1 398 _ (by decide) (by omega), ← g4]; exact hres
      rw [h398] at a2
      have a2res : ∀ {mx : yM}, CF mc0 mx → mx (A + 10 + k) 2 = res := fun hF => by rw [hF _ _ (by omega)]; exact hres
      -- the result goes to the variable
      have last : ∀ {x x' m9 : yM} {y' : (Int × yM) ⊕ ((Int × yM) ⊕ (Unit × yM))}, FS G V mc0 mm0 x x' → J88_61 f A S (A + 10 + k) x = some m9 → (if x' 403 (wr ((b : Int) + 2)).toNat < 0 then some (.inl (((k + 1 : Nat) : Int), x')) else bU (F146 g (x' 403 (wr ((b : Int) + 2)).toNat) (res : Int) x') (fun m5639 => some (.inl (((k + 1 : Nat) : Int), m5639)))) = some y' → ∃ m9', y' = .inl (((k + 1 : Nat) : Int), m9') ∧ FS G V mc0 mm0 m9 m9' := by
        intro x x' m9 y' hx c1 c2
        unfold J88_61 at c1
        rw [show (b : Int) + 2 = (b : Int) + ((2 : Nat) : Int) by rfl, bb 2 (by decide) hx.2.2.1, b2] at c2
        rw [hx.2.1 S 2 (by omega), s2, a2res hx.2.1] at c1
        rcases hv2 with z | ⟨z, z2, z3⟩
        · rw [if_pos z] at c1
          rw [if_pos (by omega)] at c2
          cases c1
          cases c2
          exact ⟨_, rfl, hx⟩
        · rw [if_neg (by omega), if_pos (by omega), if_pos (by omega), Int.toNat_natCast, z, Int.toNat_natCast] at c1
          rw [if_neg (by omega), z] at c2
          replace c1 := bU_e c1
          obtain ⟨m5, c3, c1⟩ := c1
          cases c1
          replace c2 := bU_e c2
          obtain ⟨m6, c4, c2⟩ := c2
          cases c2
          exact ⟨_, rfl, tellAll_r hA hx (by omega) z2 z3 hn hn2 h18 h388 c3 c4⟩
      -- the model's loop over arguments
      have stp : ∀ (j : Nat) (x' : yM) (r : (Int × yM) ⊕ (Unit × yM)) (H : Nat), yloop (fun (l : Int) ml => B148_261 g (b : Int) (c : Int) (na : Int) (k : Int) (res : Int) l ml) H (j : Int) x' = some r → (¬ j < na ∧ r = .inl ((j : Int), x')) ∨ (j < na ∧ ∃ x2 H', F146 g (wr ((wr ((res : Int) + 2)) + (j : Int))) (x' 403 (wr ((wr ((b : Int) + 6)) + (j : Int))).toNat) x' = some x2 ∧ yloop (fun (l : Int) ml => B148_261 g (b : Int) (c : Int) (na : Int) (k : Int) (res : Int) l ml) H' (((j + 1 : Nat) : Int)) x2 = some r) := by
        intro j x' r H e
        obtain ⟨f', -, e⟩ := yloop_s e
        by_cases hj : j < na
        · have K : ∀ y, B148_261 g (b : Int) (c : Int) (na : Int) (k : Int) (res : Int) (j : Int) x' = some y → ∃ x2, F146 g (wr ((wr ((res : Int) + 2)) + (j : Int))) (x' 403 (wr ((wr ((b : Int) + 6)) + (j : Int))).toNat) x' = some x2 ∧ y = .inl (((j + 1 : Nat) : Int), x2) := by
            intro y e
            unfold B148_261 at e
            rw [if_pos (by omega), k1 j (by omega)] at e
            replace e := bU_e e
            obtain ⟨x2, e2, e⟩ := e
            cases e
            exact ⟨x2, e2, rfl⟩
          rcases e with ⟨l2, m2, d1, d2⟩ | d1
          · obtain ⟨x2, d3, d4⟩ := K _ d1
            cases d4
            exact Or.inr ⟨hj, _, f', d3, d2⟩
          · obtain ⟨x2, d3, d4⟩ := K _ d1
            cases d4
        · have K : B148_261 g (b : Int) (c : Int) (na : Int) (k : Int) (res : Int) (j : Int) x' = some (.inr (.inl ((j : Int), x'))) := by
            unfold B148_261
            rw [if_neg (by omega)]
          rcases e with ⟨l2, m2, d1, d2⟩ | d1
          · rw [K] at d1; cases d1
          · rw [K] at d1; cases d1
            exact Or.inl ⟨hj, rfl⟩
      have S8 : ∀ {x : yM}, CF mc0 x → x S 8 = na := fun hF => by rw [hF S 8 (by omega)]; exact s8
      have pidx : ∀ j : Nat, j < 2 → wr ((wr ((res : Int) + 2)) + (j : Int)) = ((res + 2 + j : Nat) : Int) := fun j hj => by
        rw [wr_i (x := (res : Int) + 2) (by omega) (by omega), wr_i (by omega) (by omega)]; omega
      have bidx : ∀ (j : Nat) {x' : yM}, j < 2 → MF mm0 x' → x' 403 (wr ((wr ((b : Int) + 6)) + (j : Int))).toNat = mm0 403 (b + 6 + j) := fun j x' hj hF => by
        rw [wr_i (x := (b : Int) + 6) (by omega) (by omega), wr_i (by omega) (by omega), show ((b : Int) + 6 + (j : Int)).toNat = b + 6 + j by omega]
        exact hF _ _ (by decide) (by omega)
      have f87 : ∀ (j : Nat) {x : yM}, j < 2 → CF mc0 x → 0 ≤ F87 (A + 10 + k) (j : Int) x → F87 (A + 10 + k) (j : Int) x = ((res + 2 + j : Nat) : Int) ∧ (j : Int) < mc0 (A + 10 + k) 3 := fun j x hj hF hz => by
        unfold F87 at hz ⊢
        by_cases q : (j : Int) < x (A + 10 + k) 3
        · refine ⟨?_, by rw [hF _ _ (by omega)] at q; exact q⟩
          rw [if_pos q, a2res hF, wr_i (x := (res : Int) + 2) (by omega) (by omega), wr_i (by omega) (by omega)]; omega
        · rw [if_neg q] at hz; omega
      -- the second argument, then the result
      have third : ∀ {x x' m9 : yM} {r : (Int × yM) ⊕ (Unit × yM)} {H : Nat}, FS G V mc0 mm0 x x' → J88_30 f A S (A + 10 + k) x = some m9 → (na = 0 ∨ 1 ≤ na) → ∀ j : Nat, (na = 0 ∧ j = 0) ∨ (1 ≤ na ∧ j = 1) → yloop (fun (l : Int) ml => B148_261 g (b : Int) (c : Int) (na : Int) (k : Int) (res : Int) l ml) H (j : Int) x' = some r → ∃ l3 x3 x3', r = .inl (l3, x3') ∧ FS G V mc0 mm0 x3 x3' ∧ J88_61 f A S (A + 10 + k) x3 = some m9 := by
        intro x x' m9 r H hx c1 _ j hj c2
        unfold J88_30 at c1
        rw [S8 hx.2.1] at c1
        rcases stp j x' r H c2 with ⟨d1, d2⟩ | ⟨d1, x2, H', d2, d3⟩
        · rw [if_neg (by omega)] at c1
          exact ⟨_, _, _, d2, hx, c1⟩
        · obtain rfl : j = 1 := by omega
          obtain ⟨y1, y2⟩ := h7 (by omega)
          obtain ⟨v10, hv10⟩ : ∃ v10 : Nat, mc0 S 10 = v10 := ⟨(mc0 S 10).toNat, by have := y2.1; omega⟩
          have y2' := y2.2.1
          rw [if_pos (by omega), hx.2.1 S 10 (by omega), hv10, Int.toNat_natCast, if_pos (by omega)] at c1
          rcases ite1 c1 with ⟨q5, c1⟩ | ⟨q5, c1⟩
          · obtain ⟨q6, q7⟩ := f87 1 (by decide) hx.2.1 q5.1
            rw [show ((1 : Nat) : Int) = 1 from rfl] at q6
            rw [q6, Int.toNat_natCast] at c1
            replace c1 := bU_e c1
            obtain ⟨x5, c3, c1⟩ := c1
            rw [pidx 1 (by decide), bidx 1 (by decide) hx.2.2.1, y1, hv10] at d2
            have q5' := q5.2
            have N1 := tellAll_r hA hx (by omega) (by omega) (by omega) hn hn2 h18 h388 c3 d2
            rcases stp 2 x2 r H' d3 with ⟨d4, d5⟩ | ⟨d4, -⟩
            · exact ⟨_, _, _, d5, N1, c1⟩
            · omega
          · cases c1
      -- the first one
      have hB : ∃ r, yloop (fun (l : Int) ml => B148_261 g (b : Int) (c : Int) (na : Int) (k : Int) (res : Int) l ml) g ((0 : Nat) : Int) m' = some r ∧ (∀ l3 x3, r = .inl (l3, x3) → (if x3 403 (wr ((b : Int) + 2)).toNat < 0 then some (.inl (((k + 1 : Nat) : Int), x3)) else bU (F146 g (x3 403 (wr ((b : Int) + 2)).toNat) (res : Int) x3) (fun m5639 => some (.inl (((k + 1 : Nat) : Int), m5639)))) = some y') := by
        rcases bL_e a2 with ⟨l3, x3, d1, d2⟩ | ⟨l3, x3, d1, d2⟩
        · exact ⟨_, d1, fun l4 x4 e => by cases e; exact d2⟩
        · exact ⟨_, d1, fun l4 x4 e => by cases e⟩
      obtain ⟨r, hB1, hB2⟩ := hB
      have fin : ∃ m9', y' = .inl (((k + 1 : Nat) : Int), m9') ∧ FS G V mc0 mm0 m8 m9' := by
        unfold F88 at a3
        rw [S8 hS0.2.1] at a3
        by_cases hz : na = 0
        · rw [if_neg (by omega)] at a3
          obtain ⟨l3, x3, x3', c1, c2, c3⟩ := third hS0 a3 (Or.inl hz) 0 (Or.inl ⟨hz, rfl⟩) hB1
          exact last c2 c3 (hB2 _ _ c1)
        · obtain ⟨y1, y2⟩ := h6 (by omega)
          obtain ⟨v9, hv9⟩ : ∃ v9 : Nat, mc0 S 9 = v9 := ⟨(mc0 S 9).toNat, by have := y2.1; omega⟩
          have y2' := y2.2.1
          rw [if_pos (by omega), hS0.2.1 S 9 (by omega), hv9, Int.toNat_natCast, if_pos (by omega)] at a3
          rcases ite1 a3 with ⟨q5, a3⟩ | ⟨q5, a3⟩
          · obtain ⟨q6, q7⟩ := f87 0 (by decide) hS0.2.1 q5.1
            rw [show ((0 : Nat) : Int) = 0 from rfl] at q6
            rw [q6, Int.toNat_natCast] at a3
            replace a3 := bU_e a3
            obtain ⟨x5, c3, a3⟩ := a3
            rcases stp 0 m' r g hB1 with ⟨d1, -⟩ | ⟨-, x2, H', d2, d3⟩
            · omega
            · rw [pidx 0 (by decide), bidx 0 (by decide) hS0.2.2.1, Nat.add_zero, y1, hv9] at d2
              have q5' := q5.2
              have N1 := tellAll_r hA hS0 (by omega) (by omega) (by omega) hn hn2 h18 h388 c3 d2
              obtain ⟨l3, x3, x3', c1, c2, c3⟩ := third N1 a3 (Or.inr (by omega)) 1 (Or.inr ⟨by omega, rfl⟩) d3
              exact last c2 c3 (hB2 _ _ c1)
          · cases a3
      obtain ⟨m9', w1, w2⟩ := fin
      exact Or.inl ⟨_, _, _, _, rfl, w1, k + 1, rfl, rfl, by omega, w2⟩
  obtain ⟨l, m, l', m', z1, z2, z3⟩ := key
  rw [e6 _ _ z1, e4 _ _ z2]
  exact z3
theorem vB.nat {N x : Int} (h : vB N x) : ∃ v : Nat, x = v ∧ v < 48 ∧ (v : Int) < N := ⟨x.toNat, by have := h.1; omega, by have := h.2.1; have := h.1; omega, by have := h.2.2; have := h.1; omega⟩
/-- an op and its statement do the same -/
theorem op_r {t b n : Nat} (hA : A = 256 ∨ A = 316) (hp : p ≤ 1) (ht : t < 40) (hR : RPG A p s o mc0 mm0) (hVV : V = mc0 A 15) (hG : ∀ k, G k → mc0 (A + 8) k = mm0 400 (12 * p + k) ∧ 0 ≤ mc0 (A + 8) k ∧ mc0 (A + 8) k < mc0 A 9) (hgn : mc0 (A + 20 + t) 0 = 5 → ∀ x : Nat, mc0 (A + 20 + t) 6 = x → G x) (h18 : mm0 376 18 = p) (hn : mc0 A 14 = n) (hn2 : n ≤ 12) (h388 : mm0 388 p = n) (hb : b ≤ 2000) (hZ : OPZ A p t b mc0 mm0) (h : FS G V mc0 mm0 mc mm) (e1 : F90 f A (A + 20 + t) mc = some mc') (e2 : F150 g (b : Int) mm = some mm') : FS G V mc0 mm0 mc' mm' := by
  have bb : ∀ (q : Nat), q < 8 → mm 403 (wr ((b : Int) + (q : Int))).toNat = mm0 403 (b + q) := fun q hq => by
    rw [wr_i (by omega) (by omega), show ((b : Int) + (q : Int)).toNat = b + q by omega]
    exact h.2.2.1 _ _ (by decide) (by omega)
  have S : ∀ q, mc (A + 20 + t) q = mc0 (A + 20 + t) q := fun q => h.2.1 _ _ (by omega)
  have B0 : mm 403 b = mm0 403 b := h.2.2.1 _ _ (by decide) (by omega)
  have k18 : mm 376 18 = p := by rw [h.2.2.1 376 18 (by decide) (by omega)]; exact h18
  obtain ⟨⟨w1, w2, w3⟩, hZ⟩ := hZ
  have F8 : 0 ≤ mc 8 5 ∧ mc 8 5 ≤ 2000 := ⟨h.1.2.2.1, h.1.2.2.2.1⟩
  unfold F90 at e1
  unfold F150 at e2
  rw [S 0, S 2, S 3, S 6] at e1
  rw [Int.toNat_natCast, B0, show (b : Int) + 2 = (b : Int) + ((2 : Nat) : Int) by rfl, show (b : Int) + 3 = (b : Int) + ((3 : Nat) : Int) by rfl, show (b : Int) + 1 = (b : Int) + ((1 : Nat) : Int) by rfl, bb 1 (by decide), bb 2 (by decide), bb 3 (by decide), k18] at e2
  rcases hZ with hZ | hZ | hZ | hZ | hZ | hZ | hZ | hZ
  · obtain ⟨g1, g2, g3, g4, g5, g6⟩ := hZ
    obtain ⟨v3, hv3, l3, r3⟩ := g4.nat
    obtain ⟨v2, hv2, l2, r2⟩ := g6.nat
    obtain ⟨ow, how⟩ : ∃ ow : Nat, mc0 (A + 20 + t) 1 = ow := ⟨(mc0 (A + 20 + t) 1).toNat, by omega⟩
    rw [g1, if_pos rfl, hv2, hv3, if_pos (by omega), if_pos (by omega), Int.toNat_natCast, Int.toNat_natCast] at e1
    rw [how, Int.toNat_natCast] at g5
    rw [g2, if_neg (by decide), if_neg (by decide), if_pos rfl, w1, how, ixp10 hp (by omega), h.2.2.1 398 _ (by decide) (by omega), ← g5, g3, hv2, hv3] at e2
    replace e1 := bU_e e1
    obtain ⟨m1, e3, e1⟩ := e1
    cases e1
    replace e2 := bU_e e2
    obtain ⟨m2, e4, e2⟩ := e2
    cases e2
    exact tellAll_r hA h l3 l2 (by omega) hn hn2 h18 h388 e3 e4
  · obtain ⟨g1, g2, g3, g4, g5, g6, g7, g8, g9⟩ := hZ
    obtain ⟨v2, hv2, l2, r2⟩ := g5.nat
    obtain ⟨v3, hv3, l3, r3⟩ := g6.nat
    rw [g1, if_neg (by decide), if_pos rfl] at e1
    rw [g2, if_neg (by decide), if_neg (by decide), if_neg (by decide), if_neg (by decide), if_pos rfl] at e2
    replace e1 := bU_e e1
    obtain ⟨m1, e3, e1⟩ := e1
    cases e1
    unfold J150_101 at e2
    replace e2 := bU_e e2
    obtain ⟨m2, e4, e2⟩ := e2
    cases e2
    exact store_r hA hp hR hG h18 hn hn2 h388 (by omega) hb hv2 hv3 rfl l2 l3 ⟨g8, g9⟩ g2 (g3.trans hv2) (g4.trans hv3) g7 h e3 e4
  · obtain ⟨g1, g2, g3, g4, g5, g6, g7, g8, g9, g10, g11, g12, g13, g14⟩ := hZ
    obtain ⟨v3, hv3, l3, r3⟩ := g6.nat
    obtain ⟨c, hc⟩ : ∃ c : Nat, mc0 (A + 20 + t) 6 = c := ⟨(mc0 (A + 20 + t) 6).toNat, by omega⟩
    obtain ⟨na, hna⟩ : ∃ na : Nat, mc0 (A + 20 + t) 8 = na := ⟨(mc0 (A + 20 + t) 8).toNat, by omega⟩
    rw [g1, if_neg (by decide), if_neg (by decide), if_pos rfl] at e1
    rw [g2, if_neg (by decide), if_neg (by decide), if_neg (by decide), if_neg (by decide), if_neg (by decide), if_pos rfl] at e2
    replace e1 := bU_e e1
    obtain ⟨m1, e3, e1⟩ := e1
    replace e1 := bU_e e1
    obtain ⟨m1', e3', e1⟩ := e1
    cases e1
    replace e2 := bU_e e2
    obtain ⟨m2, e4, e2⟩ := e2
    cases e2
    have h5 : mm 403 (wr ((b : Int) + 5)).toNat = ((16 * c + na : Nat) : Int) := by
      rw [show (b : Int) + 5 = (b : Int) + ((5 : Nat) : Int) by rfl, bb 5 (by decide), g8, hc, hna]; omega
    obtain ⟨d1, d2⟩ := iDiv16 (c := c) (na := na) (by omega) (by omega)
    unfold F148 at e4
    rw [h5, d1, d2, show (b : Int) + 3 = (b : Int) + ((3 : Nat) : Int) by rfl, bb 3 (by decide), g4, hv3] at e4
    have key : ∃ r, yloop (fun (l : Int) ml => B148_37 g (b : Int) (v3 : Int) (c : Int) (na : Int) l ml) g 0 mm = some r ∧ (∀ l m5, r = .inl (l, m5) → ∃ r', yloop (fun (l : Int) ml => B148_208 g (b : Int) (c : Int) (na : Int) l ml) g 0 m5 = some r' ∧ (∀ l m6, r' = .inl (l, m6) → mm' = m6)) := by
      rcases bL_e e4 with ⟨l, m5, a1, a2⟩ | ⟨l, m5, a1, a2⟩
      · exact ⟨_, a1, fun l m5 e => by cases e; exact bL_u a2⟩
      · exact ⟨_, a1, fun l m5 e => by cases e⟩
    obtain ⟨r, a1, a2⟩ := key
    obtain ⟨l5, m5, a3, hS5⟩ := call1_r (nm' := mm0 403 (b + 4)) hA hp hR hVV hG h18 hn hn2 h388 (by omega) hb hv3 rfl hc hna l3 (by omega) g7 rfl h e3 a1
    obtain ⟨r', a4, a5⟩ := a2 _ _ a3
    exact call2_r (v2' := (mc0 (A + 20 + t) 2).toNat) hA hp hR hVV h18 hn hn2 h388 (by omega) hb rfl hc hna (by omega) (by omega) (by
      rcases g5 with z | z
      · exact Or.inl z
      · right
        have := z.1
        have := z.2
        omega) g3 (fun z => g13 (by omega)) (fun z => g14 (by omega)) hS5 e3' a4 a5
  · obtain ⟨g1, g2, g3, g4, g5, g6, g7, g8⟩ := hZ
    obtain ⟨v2, hv2, l2, r2⟩ := g5.nat
    obtain ⟨x, hx⟩ : ∃ x : Nat, mc0 (A + 20 + t) 6 = x := ⟨(mc0 (A + 20 + t) 6).toNat, by omega⟩
    rw [g1, if_neg (by decide), if_neg (by decide), if_neg (by decide), if_pos rfl, hv2, if_pos (by omega), Int.toNat_natCast, hx] at e1
    rw [g2, if_pos rfl, g3, g4, hv2, hx] at e2
    replace e1 := bU_e e1
    obtain ⟨m1, e3, e1⟩ := e1
    cases e1
    replace e2 := bU_e e2
    obtain ⟨m2, e4, e2⟩ := e2
    cases e2
    have t1 := F79_12_t F8 e3
    rw [Int.toNat_natCast] at t1
    have t2 := F145_t l2 (by omega) e4
    rw [t1, t2]
    exact h.tell0 l2 (by omega) (hgn g1 x hx) (by omega)
  · obtain ⟨g1, g2, g3, g4⟩ := hZ
    rw [g1, if_neg (by decide), if_neg (by decide), if_neg (by decide), if_neg (by decide), if_pos rfl] at e1
    rw [g2, if_neg (by decide), if_neg (by decide), if_neg (by decide), if_neg (by decide), if_neg (by decide), if_neg (by decide), if_neg (by decide)] at e2
    cases e1
    cases e2
    exact h
  · obtain ⟨g1, g2, g3, g4, g5, g6, g7, g8, g9, g10, g11, g12, g13, g14⟩ := hZ
    obtain ⟨v2, hv2, l2, r2⟩ := g5.nat
    obtain ⟨v3, hv3, l3, r3⟩ := g6.nat
    obtain ⟨c, hc⟩ : ∃ c : Nat, mm0 403 (b + 4) = c := ⟨(mm0 403 (b + 4)).toNat, by omega⟩
    rw [g1, if_neg (by decide), if_neg (by decide), if_neg (by decide), if_neg (by decide), if_neg (by decide), if_pos rfl] at e1
    rw [g2, if_neg (by decide), if_neg (by decide), if_neg (by decide), if_neg (by decide), if_neg (by decide), if_neg (by decide), if_pos rfl, g3, g4, hv2, hv3] at e2
    replace e1 := bU_e e1
    obtain ⟨m1, e3, e1⟩ := e1
    cases e1
    obtain ⟨rm, a1, a2⟩ := bL_u e2
    rw [hc, Int.toNat_natCast] at g12
    exact cast_r2 hA hp hR hG h18 hn hn2 h388 (by omega) hb hv2 hv3 rfl g13 l2 (by omega) l3 (by omega) hc g12 h e3 a1 a2
  · obtain ⟨g1, g2, g3, g4, g5, g6⟩ := hZ
    obtain ⟨v2, hv2, l2, r2⟩ := g5.nat
    obtain ⟨v3, hv3, l3, r3⟩ := g6.nat
    rw [g1, if_neg (by decide), if_neg (by decide), if_neg (by decide), if_neg (by decide), if_neg (by decide), if_neg (by decide), if_pos rfl, hv2, hv3, if_pos (by omega), if_pos (by omega), Int.toNat_natCast, Int.toNat_natCast] at e1
    rw [g2, if_neg (by decide), if_pos rfl, g3, g4, hv2, hv3] at e2
    replace e1 := bU_e e1
    obtain ⟨m1, e3, e1⟩ := e1
    cases e1
    replace e2 := bU_e e2
    obtain ⟨m2, e4, e2⟩ := e2
    cases e2
    exact tellAll_r hA h l3 l2 (by omega) hn hn2 h18 h388 e3 e4
  · obtain ⟨g1, g2, g3, g4, g5, g6, g7, g8, g9⟩ := hZ
    obtain ⟨v2, hv2, l2, r2⟩ := g5.nat
    obtain ⟨v3, hv3, l3, r3⟩ := g6.nat
    rw [g1, if_neg (by decide), if_neg (by decide), if_neg (by decide), if_neg (by decide), if_neg (by decide), if_neg (by decide), if_neg (by decide), if_pos rfl] at e1
    rw [g2, if_neg (by decide), if_neg (by decide), if_neg (by decide), if_pos rfl] at e2
    replace e1 := bU_e e1
    obtain ⟨m1, e3, e1⟩ := e1
    cases e1
    unfold J150_101 at e2
    replace e2 := bU_e e2
    obtain ⟨m2, e4, e2⟩ := e2
    cases e2
    exact load_r hA hp h18 hn hn2 h388 (by omega) hb hv2 hv3 rfl l2 (by omega) l3 ⟨g8, g9⟩ g2 (g3.trans hv2) (g4.trans hv3) g7 h e3 e4
end RW
end
section
/-! ROUNDS: all ops of a round, all rounds, the analysis whole -/
section RX
variable {G : Nat → Prop} {V : Int} {A p f g s o : Nat} {mc mm mc' mm' mc0 mm0 : yM}
theorem ixop {u : Nat} (hp : p ≤ 1) (hu : u ≤ 120) : wr ((wr (1000 * (p : Int))) + (wr (8 * (u : Int)))) = ((1000 * p + 8 * u : Nat) : Int) := by
  rw [wr_i (x := 1000 * (p : Int)) (by omega) (by omega), wr_i (x := 8 * (u : Int)) (by omega) (by omega), wr_i (by omega) (by omega)]
  omega
/-- the model at an op -/
theorem opm {u : Nat} {y : (Int × yM) ⊕ ((Int × yM) ⊕ (Unit × yM))} (hp : p ≤ 1) (hu : u < o) (ho : o ≤ 120) (h18 : mm 376 18 = p) (h390 : mm 390 p = o) (e : B151_167 g (u : Int) mm = some y) : ∃ m1, y = .inl (((u + 1 : Nat) : Int), m1) ∧ ((F144 (mm 407 (mm 403 (1000 * p + 8 * u + 1)).toNat) mm = 0 ∧ m1 = mm) ∨ (F144 (mm 407 (mm 403 (1000 * p + 8 * u + 1)).toNat) mm ≠ 0 ∧ F150 g ((1000 * p + 8 * u : Nat) : Int) mm = some m1)) := by
  unfold B151_167 J151_219 at e
  have k1 : wr ((u : Int) + 1) = ((u + 1 : Nat) : Int) := by rw [wr_i (by omega) (by omega)]; omega
  have ix1 : (wr (((1000 * p + 8 * u : Nat) : Int) + 1)).toNat = 1000 * p + 8 * u + 1 := by
    rw [wr_i (by omega) (by omega)]; omega
  rw [h18, Int.toNat_natCast, h390, ixop hp (by omega), ix1, k1, if_pos (by omega)] at e
  rcases ite1 e with ⟨q, e⟩ | ⟨q, e⟩
  · cases e
    exact ⟨_, rfl, Or.inl ⟨q, rfl⟩⟩
  · replace e := bU_e e
    obtain ⟨m1, e1, e⟩ := e
    cases e
    exact ⟨_, rfl, Or.inr ⟨q, e1⟩⟩
theorem F150_nop {b : Nat} (h : mm 403 b = 9 ∨ mm 403 b = 10 ∨ mm 403 b = 11 ∨ mm 403 b = 12) (e : F150 g (b : Int) mm = some mm') : mm' = mm := by
  unfold F150 at e
  rw [Int.toNat_natCast] at e
  rw [if_neg (by omega), if_neg (by omega), if_neg (by omega), if_neg (by omega), if_neg (by omega), if_neg (by omega), if_neg (by omega)] at e
  cases e
  rfl
theorem round_l {n : Nat} (hA : A = 256 ∨ A = 316) (hp : p ≤ 1) (hR : RPG A p s o mc0 mm0) (hVV : V = mc0 A 15) (hG : ∀ k, G k → mc0 (A + 8) k = mm0 400 (12 * p + k) ∧ 0 ≤ mc0 (A + 8) k ∧ mc0 (A + 8) k < mc0 A 9) (hgn : ∀ t : Nat, t < s → mc0 (A + 20 + t) 0 = 5 → ∀ x : Nat, mc0 (A + 20 + t) 6 = x → G x) (h18 : mm0 376 18 = p) (hn : mc0 A 14 = n) (hn2 : n ≤ 12) (h388 : mm0 388 p = n) : ∀ (N t u F H : Nat) (mc mm : yM) (rc rm : (Int × yM) ⊕ (Unit × yM)), ALN (fun t u => OPZ A p t (1000 * p + 8 * u) mc0 mm0) (qB A p mc0 mm0) (qZ p mm0) N t s u o → FS G V mc0 mm0 mc mm → yloop (fun (l : Int) ml => B91_88 f A l ml) F (t : Int) mc = some rc → yloop (fun (l : Int) ml => B151_167 g l ml) H (u : Int) mm = some rm → ∃ l m l' m', rc = .inl (l, m) ∧ rm = .inl (l', m') ∧ FS G V mc0 mm0 m m' := by
  have hR0 := hR
  obtain ⟨r1, r2, r3, r4, r5, ⟨q1, q2, q3, q4, q5⟩, -, -⟩ := hR
  intro N
  induction N with
  | zero =>
    intro t u F H mc mm rc rm hN h e1 e2
    obtain ⟨rfl, rfl⟩ := hN
    have B1 : B91_88 f A (t : Int) mc = some (.inr (.inl ((t : Int), mc))) := by
      unfold B91_88
      rw [h.2.1 A 16 (by omega), q1, if_neg (by omega)]
    have B2 : B151_167 g (u : Int) mm = some (.inr (.inl ((u : Int), mm))) := by
      unfold B151_167
      rw [h.2.2.1 376 18 (by decide) (by omega), h18, Int.toNat_natCast, h.2.2.1 390 p (by decide) (by omega), q3, if_neg (by omega)]
    obtain ⟨f', -, ⟨l', m', a1, -⟩ | a1⟩ := yloop_s e1
    · rw [B1] at a1; cases a1
    · rw [B1] at a1; cases a1
      obtain ⟨f', -, ⟨l', m', a1, -⟩ | a1⟩ := yloop_s e2
      · rw [B2] at a1; cases a1
      · rw [B2] at a1; cases a1
        exact ⟨_, _, _, _, rfl, rfl, h⟩
  | succ N ih =>
    intro t u F H mc mm rc rm hN h e1 e2
    have k18 : mm 376 18 = p := by rw [h.2.2.1 376 18 (by decide) (by omega)]; exact h18
    have k390 : mm 390 p = o := by rw [h.2.2.1 390 p (by decide) (by omega)]; exact q3
    have kb : ∀ q, mm 403 q = mm0 403 q := fun q => h.2.2.1 403 q (by decide) (by omega)
    rcases hN with ⟨hQ, hN⟩ | ⟨hZ, hN⟩
    · have l := hN.le
      have ht : t < s := by omega
      have hu : u < o := by omega
      -- the owner
      have ow : mm0 403 (1000 * p + 8 * u + 1) = mc0 (A + 20 + t) 1 ∧ 0 ≤ mc0 (A + 20 + t) 1 ∧ mc0 (A + 20 + t) 1 < 10 := by
        rcases hQ with hQ | hQ | hQ
        · exact hQ.1
        · exact ⟨hQ.2.2.1, hQ.2.2.2.1, hQ.2.2.2.2.1⟩
        · exact ⟨hQ.2.2.1, hQ.2.2.2.1, hQ.2.2.2.2.1⟩
      obtain ⟨w, hw⟩ : ∃ w : Nat, mc0 (A + 20 + t) 1 = w := ⟨(mc0 (A + 20 + t) 1).toNat, by omega⟩
      have hold : F78 (mc 71 w) mc = F144 (mm 407 w) mm := by
        have := (h.1.old (t := 3) (i := 0) (j := w) (by decide) (by simp [fN]) (by simp [ww]; omega)).1
        simpa [cc, ww] using this
      have k1 : wr ((t : Int) + 1) = ((t + 1 : Nat) : Int) := by rw [wr_i (by omega) (by omega)]; omega
      have cls : ∀ y, B91_88 f A (t : Int) mc = some y → ∃ m1, y = .inl (((t + 1 : Nat) : Int), m1) ∧ ((F78 (mc 71 w) mc = 0 ∧ m1 = mc) ∨ (F78 (mc 71 w) mc ≠ 0 ∧ F90 f A (A + 20 + t) mc = some m1)) := by
        intro y e
        unfold B91_88 J91_130 at e
        rw [h.2.1 A 16 (by omega), q1, if_pos (by omega), if_pos (by omega), Int.toNat_natCast, h.2.1 (A + 20 + t) 1 (by omega), hw, Int.toNat_natCast, k1] at e
        rcases ite1 e with ⟨q, e⟩ | ⟨q, e⟩
        · cases e; exact ⟨_, rfl, Or.inl ⟨q, rfl⟩⟩
        · replace e := bU_e e
          obtain ⟨m1, e3, e⟩ := e
          cases e
          exact ⟨_, rfl, Or.inr ⟨q, e3⟩⟩
      have step : ∀ {m1 m1' : yM}, ((F78 (mc 71 w) mc = 0 ∧ m1 = mc) ∨ (F78 (mc 71 w) mc ≠ 0 ∧ F90 f A (A + 20 + t) mc = some m1)) → ((F144 (mm 407 (mm 403 (1000 * p + 8 * u + 1)).toNat) mm = 0 ∧ m1' = mm) ∨ (F144 (mm 407 (mm 403 (1000 * p + 8 * u + 1)).toNat) mm ≠ 0 ∧ F150 g ((1000 * p + 8 * u : Nat) : Int) mm = some m1')) → FS G V mc0 mm0 m1 m1' := by
        intro m1 m1' a b
        rw [kb, ow.1, hw, Int.toNat_natCast, ← hold] at b
        rcases a with ⟨a1, rfl⟩ | ⟨a1, a2⟩
        · rcases b with ⟨-, rfl⟩ | ⟨b1, -⟩
          · exact h
          · exact absurd a1 b1
        · rcases b with ⟨b1, -⟩ | ⟨-, b2⟩
          · exact absurd b1 a1
          · have S0 : mc (A + 20 + t) 0 = mc0 (A + 20 + t) 0 := h.2.1 _ _ (by omega)
            have nopc : (mc0 (A + 20 + t) 0 = 0 ∨ mc0 (A + 20 + t) 0 = 1) → m1 = mc := by
              intro z
              unfold F90 at a2
              rw [S0, if_neg (by omega), if_neg (by omega), if_neg (by omega), if_neg (by omega), if_neg (by omega), if_neg (by omega), if_neg (by omega), if_neg (by omega)] at a2
              cases a2
              rfl
            rcases hQ with hQ | hQ | hQ
            · exact op_r hA hp (by omega) hR0 hVV hG (hgn t ht) h18 hn hn2 h388 (by omega) hQ h a2 b2
            · have e3 := nopc (Or.inl hQ.1)
              have e4 := F150_nop (by rw [kb]; exact Or.inl hQ.2.1) b2
              rw [e3, e4]; exact h
            · have e3 := nopc (Or.inr hQ.1)
              have e4 := F150_nop (by rw [kb]; exact Or.inr (Or.inl hQ.2.1)) b2
              rw [e3, e4]; exact h
      obtain ⟨f', -, ⟨l1, m1, a1, a2⟩ | a1⟩ := yloop_s e1
      · obtain ⟨m2, z, c1⟩ := cls _ a1
        cases z
        obtain ⟨g', -, ⟨l2, m3, b1, b2⟩ | b1⟩ := yloop_s e2
        · obtain ⟨m4, z, c2⟩ := opm hp hu q4 k18 k390 b1
          cases z
          exact ih (t + 1) (u + 1) _ _ _ _ rc rm hN (step c1 c2) a2 b2
        · obtain ⟨m4, z, c2⟩ := opm hp hu q4 k18 k390 b1
          cases z
      · obtain ⟨m2, z, c1⟩ := cls _ a1
        cases z
    · have l := hN.le
      have hu : u < o := by omega
      obtain ⟨g', -, ⟨l2, m3, b1, b2⟩ | b1⟩ := yloop_s e2
      · obtain ⟨m4, z, c2⟩ := opm hp hu q4 k18 k390 b1
        cases z
        have e4 : m3 = mm := by
          rcases c2 with ⟨-, c2⟩ | ⟨-, c2⟩
          · exact c2
          · refine F150_nop ?_ c2
            rw [kb]
            rcases hZ with z | z
            · exact Or.inr (Or.inr (Or.inl z))
            · exact Or.inr (Or.inr (Or.inr z))
        subst e4
        exact ih t (u + 1) _ _ _ _ rc rm hN h e1 b2
      · obtain ⟨m4, z, c2⟩ := opm hp hu q4 k18 k390 b1
        cases z
/-- facts that are the same -/
def FQ (G : Nat → Prop) (V : Int) (mc mm : yM) : Prop := ∀ t i j : Nat, t < 4 → i < fN t → j < ww t → mc (cc t i) j = mm (404 + t) (ww t * i + j) ∧ (-1 ≤ mc (cc t i) j ∧ mc (cc t i) j ≤ 2001) ∧ (t < 2 → mc (cc t i) j ≠ -1 → G j) ∧ (t = 0 → mc (cc t i) j ≠ -1 → (i : Int) < V)
/-- at the head of the loop over rounds -/
def HD (G : Nat → Prop) (V : Int) (mc0 mm0 mc mm : yM) : Prop := FQ G V mc mm ∧ (∀ a q : Nat, 169 ≤ a ∨ (a = 8 ∧ q ≠ 5 ∧ q ≠ 6) → mc a q = mc0 a q) ∧ (∀ a q : Nat, a < 404 → ¬ (a = 376 ∧ 45 ≤ q ∧ q ≤ 47) → mm a q = mm0 a q) ∧ mm 376 45 = mc 8 5 ∧ mm 376 47 = mc 8 6 ∧ 0 ≤ mc 8 5 ∧ mc 8 5 ≤ 1859 ∧ ((mc 8 6 = mc 8 5 ∧ mm 376 46 = 1 ∧ (fU mc : Int) + mc 8 5 ≤ 1858) ∨ (mc 8 6 + 1 = mc 8 5 ∧ mm 376 46 = 0))
theorem RPG.fr (hA : A = 256 ∨ A = 316) (h : RPG A p s o mc0 mm0) (ec : ∀ a q : Nat, 256 ≤ a → mc a q = mc0 a q) (em : ∀ a q : Nat, 383 ≤ a → a < 404 → mm a q = mm0 a q) : RPG A p s o mc mm := by
  obtain ⟨r1, r2, r3, r4, r5, r6, ⟨n, r7⟩, r8⟩ := h
  have S : ∀ t q, mc (A + 20 + t) q = mc0 (A + 20 + t) q := fun t q => ec _ _ (by omega)
  have A_ : ∀ q, mc A q = mc0 A q := fun q => ec _ _ (by omega)
  have B : ∀ q, mm 403 q = mm0 403 q := fun q => em _ _ (by decide) (by omega)
  have hz : ∀ t u : Nat, OPZ A p t (1000 * p + 8 * u) mc0 mm0 → OPZ A p t (1000 * p + 8 * u) mc mm := fun t u hq => by
    unfold OPZ at hq ⊢
    simp only [S, B, A_, em 398 _ (by decide) (by omega), em 401 _ (by decide) (by omega), em 402 _ (by decide) (by omega), ec (A + 9) _ (by omega)]
    exact hq
  refine ⟨r1.fr (A_ _) (fun b q hb => ec _ _ (by omega)) (fun b q hb => em _ _ (by omega) (by omega)), r2.fr (A_ _) (Int.le_of_eq (A_ _).symm) (fun k q _ _ => ec _ _ (by omega)) (fun b q hb => em _ _ (by omega) (by omega)), r3.fr (fun q _ _ => A_ q) (fun b z1 z2 => em _ _ (by omega) (by omega)), by rw [A_, em 385 p (by decide) (by omega)]; exact r4, ⟨by rw [A_, em 389 p (by decide) (by omega)]; exact r5.1, by rw [A_]; exact r5.2.1, by rw [A_]; exact r5.2.2.1, r5.2.2.2.1.fr (A_ _) (fun q _ => ec _ _ (by omega)) (fun t _ => S t 0), fun j hj => by rw [A_] at hj; rw [A_, ec (A + 10 + j) 2 (by omega), ec (A + 10 + j) 3 (by omega)]; exact r5.2.2.2.2.1 j hj, by rw [A_]; exact r5.2.2.2.2.2.1.fr (fun j q _ => ec _ _ (by omega)) (fun t q _ _ => S t q), r5.2.2.2.2.2.2.fr (A_ _) (fun j q _ => ec _ _ (by omega)) (fun j _ => em _ _ (by decide) (by omega)) (fun t u _ _ hq => hz t u hq) (fun t q _ => S t q) (fun u q _ _ => B _)⟩, by rw [A_, A_, em 390 p (by decide) (by omega)]; exact r6, ⟨n, r7.mp (fun t u _ _ hq => hz t u hq) (fun t u _ _ hq => ?_) (fun u _ hq => ?_)⟩, fun x hx => ?_⟩
  · unfold qB BRH at hq ⊢
    simp only [S, B]
    exact hq
  · unfold qZ at hq ⊢
    rw [B]
    exact hq
  · rw [ec (A + 8) x (by omega), em 400 _ (by decide) (by omega), A_]
    refine r8 x ?_
    rcases hx with hx | ⟨t, t1, t2, t3⟩
    · exact Or.inl hx
    · exact Or.inr ⟨t, t1, by rw [← S]; exact t2, by rw [← S]; exact t3⟩
theorem GEN.eq {k : Nat} (h : GEN A s mc k) (ec : ∀ a q : Nat, 256 ≤ a → mc a q = mc0 a q) (hA : A = 256 ∨ A = 316) : GEN A s mc0 k := by
  rcases h with h | ⟨t, t1, t2, t3⟩
  · exact Or.inl h
  · exact Or.inr ⟨t, t1, by rw [← ec _ _ (by omega)]; exact t2, by rw [← ec _ _ (by omega)]; exact t3⟩
theorem rounds_r (hA : A = 256 ∨ A = 316) (hp : p ≤ 1) (hR : RPG A p s o mc0 mm0) (h18 : mm0 376 18 = p) : ∀ (F H : Nat) (mc mm : yM) (rc rm : (Unit × yM) ⊕ (Unit × yM)), HD (GEN A s mc0) (mc0 A 15) mc0 mm0 mc mm → yloop (fun (_ : Unit) ml => B91_65 f A ml) F () mc = some rc → yloop (fun (_ : Unit) ml => B151_143 g ml) H () mm = some rm → ∃ m m', rc = .inl ((), m) ∧ rm = .inl ((), m') ∧ HD (GEN A s mc0) (mc0 A 15) mc0 mm0 m m' := by
  intro F H mc mm rc rm h0 e1 e2
  refine yl2 (fun (_ : Unit) m (_ : Unit) m' => HD (GEN A s mc0) (mc0 A 15) mc0 mm0 m m') (fun r r' => ∃ m m', r = .inl ((), m) ∧ r' = .inl ((), m') ∧ HD (GEN A s mc0) (mc0 A 15) mc0 mm0 m m') (fun l m l' m' y y' h a1 a2 => ?_) F H () mc () mm rc rm h0 e1 e2
  have h0 := h
  obtain ⟨k1, k2, k3, k4, k5, k6, k7, k8⟩ := h
  unfold B91_65 at a1
  unfold B151_143 at a2
  rw [if_pos (by omega)] at a1
  rcases k8 with ⟨c1, c2, c3⟩ | ⟨c1, c2⟩
  case inr =>
    rw [if_neg (by omega)] at a1
    rw [if_pos c2] at a2
    cases a1
    cases a2
    exact Or.inr ⟨_, _, rfl, rfl, _, _, rfl, rfl, h0⟩
  rw [if_pos (by omega)] at a1
  rw [if_neg (by omega), k4, wr_i (x := m 8 5 + 1) (by omega) (by omega)] at a2
  -- the round
  have hRm : RPG A p s o m (yup (yup m' 376 46 0) 376 45 (m 8 5 + 1)) := hR.fr hA (fun a q ha => k2 a q (by omega)) (fun a q z1 z2 => by rw [yup_na (by omega), yup_na (by omega)]; exact k3 a q z2 (by omega))
  have hm18 : yup (yup m' 376 46 0) 376 45 (m 8 5 + 1) 376 18 = p := by rw [yup_nk (by decide), yup_nk (by decide), k3 376 18 (by decide) (by omega)]; exact h18
  have hS : FS (GEN A s mc0) (mc0 A 15) m (yup (yup m' 376 46 0) 376 45 (m 8 5 + 1)) m (yup (yup m' 376 46 0) 376 45 (m 8 5 + 1)) := by
    refine ⟨⟨fun t i j g1 g2 g3 => ?_, by rw [yup_eq], by omega, by omega, Or.inr ⟨c1, by rw [yup_nk (by decide), yup_eq]⟩⟩, CF.rf, MF.rf, Nat.le_refl _, fun z => by omega⟩
    rw [yup_na (by omega), yup_na (by omega)]
    exact k1 t i j g1 g2 g3
  have hco := hRm.2.2.1
  unfold rCo at hco
  obtain ⟨n, hn⟩ : ∃ n : Nat, m A 14 = n := ⟨(m A 14).toNat, by omega⟩
  have ecx : ∀ a q : Nat, 256 ≤ a → m a q = mc0 a q := fun a q ha => k2 a q (by omega)
  have hG : ∀ x, GEN A s mc0 x → m (A + 8) x = yup (yup m' 376 46 0) 376 45 (m 8 5 + 1) 400 (12 * p + x) ∧ 0 ≤ m (A + 8) x ∧ m (A + 8) x < m A 9 := fun x hx => hRm.2.2.2.2.2.2.2 x (GEN.eq hx (fun a q ha => (ecx a q ha).symm) hA)
  have hgn : ∀ t : Nat, t < s → m (A + 20 + t) 0 = 5 → ∀ x : Nat, m (A + 20 + t) 6 = x → GEN A s mc0 x := fun t ht z1 x z2 => Or.inr ⟨t, ht, by rw [← ecx _ _ (by omega)]; exact z1, by rw [← ecx _ _ (by omega)]; exact z2⟩
  obtain ⟨N, hN⟩ := hRm.2.2.2.2.2.2.1
  have key : ∃ r r', yloop (fun (l : Int) ml => B91_88 f A l ml) f ((0 : Nat) : Int) m = some r ∧ yloop (fun (l : Int) ml => B151_167 g l ml) g ((0 : Nat) : Int) (yup (yup m' 376 46 0) 376 45 (m 8 5 + 1)) = some r' ∧ (∀ l m3, r = .inl (l, m3) → y = .inl ((), yup m3 8 5 (wr (m3 8 5 + 1)))) ∧ (∀ l m3, r' = .inl (l, m3) → y' = (if m3 376 46 = 0 then .inl ((), m3) else .inl ((), yup m3 376 47 (m3 376 45)))) := by
    have a1' : ∃ r, yloop (fun (l : Int) ml => B91_88 f A l ml) f ((0 : Nat) : Int) m = some r ∧ (∀ l m3, r = .inl (l, m3) → y = .inl ((), yup m3 8 5 (wr (m3 8 5 + 1)))) := by
      rcases bL_e a1 with ⟨l, m3, d1, d2⟩ | ⟨l, m3, d1, d2⟩
      · cases d2
        exact ⟨_, d1, fun l m e => by cases e; rfl⟩
      · exact ⟨_, d1, fun l m e => by cases e⟩
    have a2' : ∃ r', yloop (fun (l : Int) ml => B151_167 g l ml) g ((0 : Nat) : Int) (yup (yup m' 376 46 0) 376 45 (m 8 5 + 1)) = some r' ∧ (∀ l m3, r' = .inl (l, m3) → y' = (if m3 376 46 = 0 then .inl ((), m3) else .inl ((), yup m3 376 47 (m3 376 45)))) := by
      rcases bL_e a2 with ⟨l, m3, d1, d2⟩ | ⟨l, m3, d1, d2⟩
      · refine ⟨_, d1, fun l m e => ?_⟩
        cases e
        rcases ite1 d2 with ⟨q, d2⟩ | ⟨q, d2⟩
        · cases d2; rw [if_pos q]
        · cases d2; rw [if_neg q]
      · exact ⟨_, d1, fun l m e => by cases e⟩
    obtain ⟨r, b1, b2⟩ := a1'
    obtain ⟨r', b3, b4⟩ := a2'
    exact ⟨r, r', b1, b3, b2, b4⟩
  obtain ⟨r, r', b1, b2, b3, b4⟩ := key
  obtain ⟨l1, m1, l2, m2, z1, z2, z3⟩ := round_l hA hp hRm (ecx A 15 (by omega)).symm hG hgn hm18 hn (by omega) (by omega) N 0 0 f g m _ r r' hN hS b1 b2
  have y1 := b3 _ _ z1
  have y2 := b4 _ _ z2
  obtain ⟨⟨w1, w2, w3, w4, w5⟩, w6, w7, w8, w9⟩ := z3
  have m85 : m1 8 5 = m 8 5 := w6 8 5 (by omega)
  have e45 : m2 376 45 = m 8 5 + 1 := by omega
  rw [wr_i (x := m1 8 5 + 1) (by omega) (by omega)] at y1
  have fUe : fU (yup m1 8 5 (m1 8 5 + 1)) = fU m1 := fU_eq (fun x hx => yup_na (fL_no8 hx))
  left
  have fr1 : ∀ a q : Nat, 169 ≤ a ∨ (a = 8 ∧ q ≠ 5 ∧ q ≠ 6) → yup m1 8 5 (m1 8 5 + 1) a q = mc0 a q := fun a q ha => by rw [yup_ne (by omega), w6 a q (by omega)]; exact k2 a q ha
  have fr2 : ∀ a q : Nat, a < 404 → ¬ (a = 376 ∧ 45 ≤ q ∧ q ≤ 47) → m2 a q = mm0 a q := fun a q ha hq => by rw [w7 a q ha (by omega), yup_ne (by omega), yup_ne (by omega)]; exact k3 a q ha hq
  have e47 : m2 376 47 = m 8 6 := by rw [w7 376 47 (by decide) (by omega), yup_nk (by decide), yup_nk (by decide)]; exact k5
  rcases w5 with ⟨v1, v2⟩ | ⟨v1, v2⟩
  · rw [if_neg (by omega)] at y2
    have := w9 v1
    refine ⟨_, _, _, _, y1, y2, fun t i j g1 g2 g3 => ?_, fr1, fun a q ha hq => by rw [yup_ne (by omega)]; exact fr2 a q ha hq, ?_, ?_, ?_, ?_, Or.inl ⟨?_, ?_, ?_⟩⟩
    · have hr := cc_rng g1 g2
      rw [yup_na (by omega), yup_na (by omega)]
      exact w1 t i j g1 g2 g3
    · rw [yup_nk (by decide), yup_eq]; omega
    · rw [yup_eq, yup_nk (by decide)]; omega
    · rw [yup_eq]; omega
    · rw [yup_eq]; omega
    · rw [yup_nk (by decide), yup_eq]; omega
    · rw [yup_nk (by decide)]; exact v2
    · rw [fUe, yup_eq]; omega
  · rw [if_pos v2] at y2
    refine ⟨_, _, _, _, y1, y2, fun t i j g1 g2 g3 => ?_, fr1, fr2, ?_, ?_, ?_, ?_, Or.inr ⟨?_, v2⟩⟩
    · have hr := cc_rng g1 g2
      rw [yup_na (by omega)]
      exact w1 t i j g1 g2 g3
    · rw [yup_eq]; omega
    · rw [yup_nk (by decide)]; omega
    · rw [yup_eq]; omega
    · rw [yup_eq]; omega
    · rw [yup_nk (by decide), yup_eq]; omega
end RX
end
section
/-! THE ANALYSIS, whole: the same facts -/
section RY
variable {A p f g s o : Nat} {mc mm mc' mm' mc0 mm0 : yM}
/-- a row is filled -/
theorem F75_12_r {a : Nat} {v : Int} (h : F75_12 f a v mc = some mc') : (∀ j, j < 12 → mc' a j = v) ∧ (∀ b q, ¬ (b = a ∧ q < 12) → mc' b q = mc b q) := by
  unfold F75_12 at h
  obtain ⟨r, e1, e2⟩ := bL_u h
  have st : ∀ (l : Int) (m : yM) y, (∃ k : Nat, l = k ∧ k ≤ 12 ∧ (∀ j, j < k → m a j = v) ∧ (∀ b q, ¬ (b = a ∧ q < 12) → m b q = mc b q)) → B75_12_5 f a v 12 l m = some y → (∃ l' m', y = .inl (l', m') ∧ (∃ k : Nat, l' = k ∧ k ≤ 12 ∧ (∀ j, j < k → m' a j = v) ∧ (∀ b q, ¬ (b = a ∧ q < 12) → m' b q = mc b q))) ∨ (y = .inr (.inl (l, m)) ∧ l = 12) := by
    rintro l m y ⟨k, rfl, k1, k2, k3⟩ e
    unfold B75_12_5 at e
    rcases ite1 e with ⟨q, e⟩ | ⟨q, e⟩
    · rw [Int.toNat_natCast, wr_i (by omega) (by omega)] at e
      cases e
      refine Or.inl ⟨_, _, rfl, k + 1, by omega, by omega, fun j hj => ?_, fun b q hb => ?_⟩
      · by_cases z : j = k
        · subst z; rw [yup_eq]
        · rw [yup_nk z]; exact k2 j (by omega)
      · rw [yup_ne (by omega)]; exact k3 b q hb
    · cases e; exact Or.inr ⟨rfl, by omega⟩
  obtain ⟨l', m', hI, e3⟩ := yloop_inv _ (fun l m l' m' hI hB => by
    rcases st l m _ hI hB with ⟨l2, m2, z, z2⟩ | ⟨z, -⟩
    · cases z; exact z2
    · cases z) _ _ _ _ (show (∃ k : Nat, (0 : Int) = k ∧ k ≤ 12 ∧ (∀ j, j < k → mc a j = v) ∧ (∀ b q, ¬ (b = a ∧ q < 12) → mc b q = mc b q)) from ⟨0, rfl, by omega, fun j hj => by omega, fun _ _ _ => rfl⟩) e1
  rcases st l' m' _ hI e3 with ⟨l2, m2, z, -⟩ | ⟨z, zl⟩
  · cases z
  · cases z
    have := e2 _ _ rfl
    subst this
    obtain ⟨k, k0, k1, k2, k3⟩ := hI
    exact ⟨fun j hj => k2 j (by omega), k3⟩
theorem F75_10_r {a : Nat} {v : Int} (h : F75_10 f a v mc = some mc') : (∀ j, j < 10 → mc' a j = v) ∧ (∀ b q, ¬ (b = a ∧ q < 10) → mc' b q = mc b q) := by
  unfold F75_10 at h
  obtain ⟨r, e1, e2⟩ := bL_u h
  have st : ∀ (l : Int) (m : yM) y, (∃ k : Nat, l = k ∧ k ≤ 10 ∧ (∀ j, j < k → m a j = v) ∧ (∀ b q, ¬ (b = a ∧ q < 10) → m b q = mc b q)) → B75_10_5 f a v 10 l m = some y → (∃ l' m', y = .inl (l', m') ∧ (∃ k : Nat, l' = k ∧ k ≤ 10 ∧ (∀ j, j < k → m' a j = v) ∧ (∀ b q, ¬ (b = a ∧ q < 10) → m' b q = mc b q))) ∨ (y = .inr (.inl (l, m)) ∧ l = 10) := by
    rintro l m y ⟨k, rfl, k1, k2, k3⟩ e
    unfold B75_10_5 at e
    rcases ite1 e with ⟨q, e⟩ | ⟨q, e⟩
    · rw [Int.toNat_natCast, wr_i (by omega) (by omega)] at e
      cases e
      refine Or.inl ⟨_, _, rfl, k + 1, by omega, by omega, fun j hj => ?_, fun b q hb => ?_⟩
      · by_cases z : j = k
        · subst z; rw [yup_eq]
        · rw [yup_nk z]; exact k2 j (by omega)
      · rw [yup_ne (by omega)]; exact k3 b q hb
    · cases e; exact Or.inr ⟨rfl, by omega⟩
  obtain ⟨l', m', hI, e3⟩ := yloop_inv _ (fun l m l' m' hI hB => by
    rcases st l m _ hI hB with ⟨l2, m2, z, z2⟩ | ⟨z, -⟩
    · cases z; exact z2
    · cases z) _ _ _ _ (show (∃ k : Nat, (0 : Int) = k ∧ k ≤ 10 ∧ (∀ j, j < k → mc a j = v) ∧ (∀ b q, ¬ (b = a ∧ q < 10) → mc b q = mc b q)) from ⟨0, rfl, by omega, fun j hj => by omega, fun _ _ _ => rfl⟩) e1
  rcases st l' m' _ hI e3 with ⟨l2, m2, z, -⟩ | ⟨z, zl⟩
  · cases z
  · cases z
    have := e2 _ _ rfl
    subst this
    obtain ⟨k, k0, k1, k2, k3⟩ := hI
    exact ⟨fun j hj => k2 j (by omega), k3⟩
/-- rows are filled. B: the loop's body, a0: the first row, n: how many, w: how wide -/
theorem rows_r {B : Int → yM → Option ((Int × yM) ⊕ ((Int × yM) ⊕ (Unit × yM)))} {a0 n w H : Nat} {r : (Int × yM) ⊕ (Unit × yM)} (hn : n ≤ 100) (hB : ∀ (k : Nat) (m : yM) y, B (k : Int) m = some y → (k < n ∧ ∃ m1, y = .inl (((k + 1 : Nat) : Int), m1) ∧ (∀ j, j < w → m1 (a0 + k) j = -1) ∧ (∀ b q, ¬ (b = a0 + k ∧ q < w) → m1 b q = m b q)) ∨ (n ≤ k ∧ y = .inr (.inl ((k : Int), m)))) (h : yloop B H 0 mc = some r) : ∃ l m, r = .inl (l, m) ∧ (∀ i j, i < n → j < w → m (a0 + i) j = -1) ∧ (∀ b q, ¬ (a0 ≤ b ∧ b < a0 + n) → m b q = mc b q) := by
  have st : ∀ (l : Int) (m : yM) y, (∃ k : Nat, l = k ∧ k ≤ n ∧ (∀ i j, i < k → j < w → m (a0 + i) j = -1) ∧ (∀ b q, ¬ (a0 ≤ b ∧ b < a0 + n) → m b q = mc b q)) → B l m = some y → (∃ l' m', y = .inl (l', m') ∧ (∃ k : Nat, l' = k ∧ k ≤ n ∧ (∀ i j, i < k → j < w → m' (a0 + i) j = -1) ∧ (∀ b q, ¬ (a0 ≤ b ∧ b < a0 + n) → m' b q = mc b q))) ∨ (y = .inr (.inl (l, m)) ∧ n ≤ l) := by
    rintro l m y ⟨k, rfl, k1, k2, k3⟩ e
    rcases hB k m y e with ⟨z0, m1, z1, z2, z3⟩ | ⟨z0, z1⟩
    · refine Or.inl ⟨_, _, z1, k + 1, rfl, by omega, fun i j hi hj => ?_, fun b q hb => ?_⟩
      · by_cases z : i = k
        · subst z; exact z2 j hj
        · rw [z3 _ _ (by omega)]; exact k2 i j (by omega) hj
      · rw [z3 _ _ (by omega)]; exact k3 b q hb
    · exact Or.inr ⟨z1, by omega⟩
  obtain ⟨l', m', hI, e3⟩ := yloop_inv _ (fun l m l' m' hI hB => by
    rcases st l m _ hI hB with ⟨l2, m2, z, z2⟩ | ⟨z, -⟩
    · cases z; exact z2
    · cases z) _ _ _ _ (show (∃ k : Nat, (0 : Int) = k ∧ k ≤ n ∧ (∀ i j, i < k → j < w → mc (a0 + i) j = -1) ∧ (∀ b q, ¬ (a0 ≤ b ∧ b < a0 + n) → mc b q = mc b q)) from ⟨0, rfl, by omega, fun i j hi => by omega, fun _ _ _ => rfl⟩) h
  rcases st l' m' _ hI e3 with ⟨l2, m2, z, -⟩ | ⟨z, zl⟩
  · cases z
  · cases z
    obtain ⟨k, k0, k1, k2, k3⟩ := hI
    exact ⟨_, _, rfl, fun i j hi hj => k2 i j (by omega) hj, k3⟩
/-- the class begins with no facts -/
theorem F77_r (h : F77 f mc = some mc') : (∀ t i j, t < 4 → i < fN t → j < ww t → mc' (cc t i) j = -1) ∧ mc' 8 6 = 0 ∧ (∀ b q, b < 10 ∨ 169 ≤ b ∨ b = 58 ∨ b = 72 → ¬ (b = 8 ∧ q = 6) → mc' b q = mc b q) := by
  unfold F77 at h
  replace h := bU_e h
  obtain ⟨m1, e1, h⟩ := h
  replace h := bU_e h
  obtain ⟨m2, e2, h⟩ := h
  replace h := bU_e h
  obtain ⟨m3, e3, h⟩ := h
  replace h := bU_e h
  obtain ⟨m4, e4, h⟩ := h
  cases h
  unfold F76_c9 at e1
  unfold F76_c58 at e2
  unfold F76_c72 at e3
  obtain ⟨r1, a1, b1⟩ := bL_u e1
  obtain ⟨r2, a2, b2⟩ := bL_u e2
  obtain ⟨r3, a3, b3⟩ := bL_u e3
  have k1 : ∀ k : Nat, k ≤ 100 → wr ((k : Int) + 1) = ((k + 1 : Nat) : Int) := fun k hk => by rw [wr_i (by omega) (by omega)]; omega
  obtain ⟨l1, x1, c1, d1, f1⟩ := rows_r (a0 := 10) (n := 48) (w := 12) (by decide) (fun k m y e => by
    unfold B76_c9_2 at e
    rcases ite1 e with ⟨q, e⟩ | ⟨q, e⟩
    · rw [if_pos (by omega), Int.toNat_natCast, k1 k (by omega)] at e
      replace e := bU_e e
      obtain ⟨m5, e5, e⟩ := e
      cases e
      obtain ⟨g1, g2⟩ := F75_12_r e5
      exact Or.inl ⟨by omega, _, rfl, g1, g2⟩
    · cases e; exact Or.inr ⟨by omega, rfl⟩) a1
  have := b1 _ _ c1
  subst this
  obtain ⟨l2, x2, c2, d2, f2⟩ := rows_r (a0 := 59) (n := 12) (w := 10) (by decide) (fun k m y e => by
    unfold B76_c58_2 at e
    rcases ite1 e with ⟨q, e⟩ | ⟨q, e⟩
    · rw [if_pos (by omega), Int.toNat_natCast, k1 k (by omega)] at e
      replace e := bU_e e
      obtain ⟨m5, e5, e⟩ := e
      cases e
      obtain ⟨g1, g2⟩ := F75_10_r e5
      exact Or.inl ⟨by omega, _, rfl, g1, g2⟩
    · cases e; exact Or.inr ⟨by omega, rfl⟩) a2
  have := b2 _ _ c2
  subst this
  obtain ⟨l3, x3, c3, d3, f3⟩ := rows_r (a0 := 73) (n := 96) (w := 12) (by decide) (fun k m y e => by
    unfold B76_c72_2 at e
    rcases ite1 e with ⟨q, e⟩ | ⟨q, e⟩
    · rw [if_pos (by omega), Int.toNat_natCast, k1 k (by omega)] at e
      replace e := bU_e e
      obtain ⟨m5, e5, e⟩ := e
      cases e
      obtain ⟨g1, g2⟩ := F75_12_r e5
      exact Or.inl ⟨by omega, _, rfl, g1, g2⟩
    · cases e; exact Or.inr ⟨by omega, rfl⟩) a3
  have := b3 _ _ c3
  subst this
  obtain ⟨d4, f4⟩ := F75_10_r e4
  refine ⟨fun t i j ht hi hj => ?_, yup_eq _ _ _ _, fun b q hb hq => ?_⟩
  · have hr := cc_rng ht hi
    rw [yup_na (by omega)]
    rcases (show t = 0 ∨ t = 1 ∨ t = 2 ∨ t = 3 by omega) with rfl | rfl | rfl | rfl
    · have hi : i < 48 := hi
      have hj : j < 12 := hj
      show m4 (10 + i) j = -1
      rw [f4 _ _ (by omega), f3 _ _ (by omega), f2 _ _ (by omega)]
      exact d1 i j hi hj
    · have hi : i < 96 := hi
      have hj : j < 12 := hj
      show m4 (73 + i) j = -1
      rw [f4 _ _ (by omega)]
      exact d3 i j hi hj
    · have hi : i < 12 := hi
      have hj : j < 10 := hj
      show m4 (59 + i) j = -1
      rw [f4 _ _ (by omega), f3 _ _ (by omega)]
      exact d2 i j hi hj
    · have hj : j < 10 := hj
      show m4 71 j = -1
      exact d4 j hj
  · rw [yup_ne hq, f4 _ _ (by omega), f3 _ _ (by omega), f2 _ _ (by omega), f1 _ _ (by omega)]
/-- a flat row of the model is filled -/
theorem flat_r {B : Int → yM → Option ((Int × yM) ⊕ ((Int × yM) ⊕ (Unit × yM)))} {b0 n H : Nat} {r : (Int × yM) ⊕ (Unit × yM)} (hn : n ≤ 2000) (hB : ∀ (l : Int) (m : yM), B l m = (if l < (n : Int) then some (.inl (wr (l + 1), yup m b0 l.toNat (-1))) else some (.inr (.inl (l, m))))) (h : yloop B H 0 mm = some r) : ∃ l m, r = .inl (l, m) ∧ (∀ j, j < n → m b0 j = -1) ∧ (∀ b q, b ≠ b0 → m b q = mm b q) := by
  have st : ∀ (l : Int) (m : yM) y, (∃ k : Nat, l = k ∧ k ≤ n ∧ (∀ j, j < k → m b0 j = -1) ∧ (∀ b q, b ≠ b0 → m b q = mm b q)) → B l m = some y → (∃ l' m', y = .inl (l', m') ∧ (∃ k : Nat, l' = k ∧ k ≤ n ∧ (∀ j, j < k → m' b0 j = -1) ∧ (∀ b q, b ≠ b0 → m' b q = mm b q))) ∨ (y = .inr (.inl (l, m)) ∧ (n : Int) ≤ l) := by
    rintro l m y ⟨k, rfl, k1, k2, k3⟩ e
    rw [hB] at e
    rcases ite1 e with ⟨q, e⟩ | ⟨q, e⟩
    · rw [Int.toNat_natCast, wr_i (by omega) (by omega)] at e
      cases e
      refine Or.inl ⟨_, _, rfl, k + 1, by omega, by omega, fun j hj => ?_, fun b q hb => by rw [yup_na hb]; exact k3 b q hb⟩
      by_cases z : j = k
      · subst z; rw [yup_eq]
      · rw [yup_nk z]; exact k2 j (by omega)
    · cases e; exact Or.inr ⟨rfl, by omega⟩
  obtain ⟨l', m', hI, e3⟩ := yloop_inv _ (fun l m l' m' hI hB => by
    rcases st l m _ hI hB with ⟨l2, m2, z, z2⟩ | ⟨z, -⟩
    · cases z; exact z2
    · cases z) _ _ _ _ (show (∃ k : Nat, (0 : Int) = k ∧ k ≤ n ∧ (∀ j, j < k → mm b0 j = -1) ∧ (∀ b q, b ≠ b0 → mm b q = mm b q)) from ⟨0, rfl, by omega, fun j hj => by omega, fun _ _ _ => rfl⟩) h
  rcases st l' m' _ hI e3 with ⟨l2, m2, z, -⟩ | ⟨z, zl⟩
  · cases z
  · cases z
    obtain ⟨k, k0, k1, k2, k3⟩ := hI
    exact ⟨_, _, rfl, fun j hj => k2 j (by omega), k3⟩
theorem bL_m {γ β : Type} {o : Option ((Int × yM) ⊕ (γ × yM))} {k : Int → yM → Option β} {t : γ → yM → Option β} {y : β} (h : bL o k t = some y) (hr : ∀ r, o = some r → ∃ l m, r = .inl (l, m)) : ∃ l m, o = some (.inl (l, m)) ∧ k l m = some y := by
  rcases bL_e h with ⟨l, m, d1, d2⟩ | ⟨l, m, d1, d2⟩
  · exact ⟨_, _, d1, d2⟩
  · obtain ⟨l2, m2, z⟩ := hr _ d1
    cases z
/-- the model begins with no facts -/
theorem F151_r (h : F151 g mm = some mm') : ∃ m1, (∀ t i j, t < 4 → i < fN t → j < ww t → m1 (404 + t) (ww t * i + j) = -1) ∧ (∀ a q, a < 404 → m1 a q = mm a q) ∧ ∃ r, F143 g (yup (yup m1 376 47 0) 376 45 0) = some r ∧ ((r < 0 ∧ mm' = yup (yup m1 376 47 0) 376 45 0) ∨ (¬ r < 0 ∧ ∃ rm, yloop (fun (_ : Unit) ml => B151_143 g ml) g () (yup (yup (yup (yup (yup m1 376 47 0) 376 45 0) 407 r.toNat 0) 404 (wr (12 * (wr ((m1 398 (wr ((wr (10 * (m1 376 18))) + r)).toNat) + 1)))).toNat 0) 376 46 1) = some rm ∧ (∀ m2, rm = .inl ((), m2) → mm' = m2))) := by
  unfold F151 at h
  have q1 : ∀ {m : yM} {H : Nat} {r : (Int × yM) ⊕ (Unit × yM)}, yloop (fun (l : Int) ml => B151_2 g l ml) H 0 m = some r → ∃ l m', r = .inl (l, m') ∧ (∀ j, j < 576 → m' 404 j = -1) ∧ (∀ b q, b ≠ 404 → m' b q = m b q) := fun e => flat_r (n := 576) (by decide) (fun l m => by unfold B151_2; rfl) e
  have q2 : ∀ {m : yM} {H : Nat} {r : (Int × yM) ⊕ (Unit × yM)}, yloop (fun (l : Int) ml => B151_24 g l ml) H 0 m = some r → ∃ l m', r = .inl (l, m') ∧ (∀ j, j < 1152 → m' 405 j = -1) ∧ (∀ b q, b ≠ 405 → m' b q = m b q) := fun e => flat_r (n := 1152) (by decide) (fun l m => by unfold B151_24; rfl) e
  have q3 : ∀ {m : yM} {H : Nat} {r : (Int × yM) ⊕ (Unit × yM)}, yloop (fun (l : Int) ml => B151_46 g l ml) H 0 m = some r → ∃ l m', r = .inl (l, m') ∧ (∀ j, j < 120 → m' 406 j = -1) ∧ (∀ b q, b ≠ 406 → m' b q = m b q) := fun e => flat_r (n := 120) (by decide) (fun l m => by unfold B151_46; rfl) e
  have q4 : ∀ {m : yM} {H : Nat} {r : (Int × yM) ⊕ (Unit × yM)}, yloop (fun (l : Int) ml => B151_67 g l ml) H 0 m = some r → ∃ l m', r = .inl (l, m') ∧ (∀ j, j < 10 → m' 407 j = -1) ∧ (∀ b q, b ≠ 407 → m' b q = m b q) := fun e => flat_r (n := 10) (by decide) (fun l m => by unfold B151_67; rfl) e
  obtain ⟨l1, m1, a1, h⟩ := bL_m h (fun r e => by obtain ⟨l, m, z, -⟩ := q1 e; exact ⟨l, m, z⟩)
  obtain ⟨l2, m2, a2, h⟩ := bL_m h (fun r e => by obtain ⟨l, m, z, -⟩ := q2 e; exact ⟨l, m, z⟩)
  obtain ⟨l3, m3, a3, h⟩ := bL_m h (fun r e => by obtain ⟨l, m, z, -⟩ := q3 e; exact ⟨l, m, z⟩)
  obtain ⟨l4, m4, a4, h⟩ := bL_m h (fun r e => by obtain ⟨l, m, z, -⟩ := q4 e; exact ⟨l, m, z⟩)
  obtain ⟨_, _, z1, b1, c1⟩ := q1 a1
  cases z1
  obtain ⟨_, _, z2, b2, c2⟩ := q2 a2
  cases z2
  obtain ⟨_, _, z3, b3, c3⟩ := q3 a3
  cases z3
  obtain ⟨_, _, z4, b4, c4⟩ := q4 a4
  cases z4
  refine ⟨m4, fun t i j ht hi hj => ?_, fun a q ha => by rw [c4 a q (by omega), c3 a q (by omega), c2 a q (by omega), c1 a q (by omega)], ?_⟩
  · rcases (show t = 0 ∨ t = 1 ∨ t = 2 ∨ t = 3 by omega) with rfl | rfl | rfl | rfl
    · have hi : i < 48 := hi
      have hj : j < 12 := hj
      show m4 404 (12 * i + j) = -1
      rw [c4 _ _ (by decide), c3 _ _ (by decide), c2 _ _ (by decide)]
      exact b1 _ (by omega)
    · have hi : i < 96 := hi
      have hj : j < 12 := hj
      show m4 405 (12 * i + j) = -1
      rw [c4 _ _ (by decide), c3 _ _ (by decide)]
      exact b2 _ (by omega)
    · have hi : i < 12 := hi
      have hj : j < 10 := hj
      show m4 406 (10 * i + j) = -1
      rw [c4 _ _ (by decide)]
      exact b3 _ (by omega)
    · have hi : i < 1 := hi
      have hj : j < 10 := hj
      show m4 407 (10 * i + j) = -1
      exact b4 _ (by omega)
  · replace h := bP_e h
    obtain ⟨r, er, h⟩ := h
    refine ⟨r, er, ?_⟩
    rcases ite1 h with ⟨q, h⟩ | ⟨q, h⟩
    · cases h; exact Or.inl ⟨q, rfl⟩
    · refine Or.inr ⟨q, ?_⟩
      rcases bL_e h with ⟨l, m, d1, d2⟩ | ⟨l, m, d1, d2⟩
      · cases d2
        exact ⟨_, d1, fun m2 e => by cases e; rfl⟩
      · exact ⟨_, d1, fun m2 e => by cases e⟩
end RY
end
section
/-! THE ANALYSIS, whole -/
section RZ
variable {A p f g s o : Nat} {mc mm mc' mm' : yM}
theorem facts_r (hA : A = 256 ∨ A = 316) (hp : p ≤ 1) (hR : RPG A p s o mc mm) (h18 : mm 376 18 = p) (h17 : ∃ (f' : Nat) (m1 : yM), F72 f' A 0 239 0 m1 = some (mc A 17) ∧ (∀ a q, (a = A ∧ q ≠ 17) ∨ (A + 1 ≤ a ∧ a < A + 20 ∧ a ≠ A + 8) → m1 a q = mc a q)) (e1 : F91 f A mc = some mc') (e2 : F151 g mm = some mm') : FQ (GEN A s mc) (mc A 15) mc' mm' ∧ mm' 376 47 = mc' 8 6 ∧ mc' 8 4 = pX A ∧ (∀ a q, 169 ≤ a → mc' a q = mc a q) ∧ (∀ a q, a < 404 → ¬ (a = 376 ∧ 45 ≤ q ∧ q ≤ 47) → mm' a q = mm a q) := by
  obtain ⟨m1, c1, c2, r, c3, c4⟩ := F151_r e2
  -- the start
  have hm18 : yup (yup m1 376 47 0) 376 45 0 376 18 = p := by rw [yup_nk (by decide), yup_nk (by decide), c2 376 18 (by decide)]; exact h18
  have fM : ∀ a q, a < 404 → ¬ (a = 376 ∧ 45 ≤ q ∧ q ≤ 47) → yup (yup m1 376 47 0) 376 45 0 a q = mm a q := fun a q z1 z2 => by rw [yup_ne (by omega), yup_ne (by omega)]; exact c2 a q z1
  have hq := hR.2.2.2.2.2.1
  have st : r = mc A 17 ∧ (r = -1 ∨ (0 ≤ r ∧ r < mc A 10)) := by
    obtain ⟨f', x1, d1, d2⟩ := h17
    have r1 : rCl A p x1 (yup (yup m1 376 47 0) 376 45 0) := hR.1.fr (d2 _ _ (by omega)) (fun b q hb => d2 _ _ (by omega)) (fun b q hb => fM _ _ (by omega) (by omega))
    have r2 : rMe A p x1 (yup (yup m1 376 47 0) 376 45 0) := hR.2.1.fr (d2 _ _ (by omega)) (Int.le_of_eq (d2 _ _ (by omega)).symm) (fun k q _ _ => d2 _ _ (by omega)) (fun b q hb => fM _ _ (by omega) (by omega))
    unfold F143 at c3
    replace c3 := bP_e c3
    obtain ⟨r0, d3, c3⟩ := c3
    cases c3
    rw [hm18] at d3
    obtain ⟨z1, z2⟩ := found_r r1 r2 hp go_Nm (by omega) (by rw [d2 A 9 (by omega)]; omega) d1 d3
    rw [d2 A 10 (by omega)] at z2
    rw [z1] at z2
    exact ⟨z1.symm, z2⟩
  obtain ⟨st1, st2⟩ := st
  unfold F91 at e1
  replace e1 := bU_e e1
  obtain ⟨x2, a1, e1⟩ := e1
  obtain ⟨b1, b2, b3⟩ := F77_r a1
  have x17 : x2 A 17 = r := by rw [b3 A 17 (by omega) (by omega), yup_na (by omega)]; exact st1.symm
  have fX : ∀ a q, 169 ≤ a → x2 a q = mc a q := fun a q ha => by rw [b3 a q (by omega) (by omega), yup_na (by omega)]
  rw [x17] at e1
  rcases c4 with ⟨c4, c5⟩ | ⟨c4, rm, c5, c6⟩
  · rw [if_pos (by omega)] at e1
    cases e1
    rw [c5]
    refine ⟨fun t i j g1 g2 g3 => ?_, ?_, by rw [b3 8 4 (by omega) (by omega), yup_eq], fX, fM⟩
    · rw [b1 t i j g1 g2 g3, yup_na (by omega), yup_na (by omega), c1 t i j g1 g2 g3]
      exact ⟨rfl, by omega, fun _ z => absurd rfl z, fun _ z => absurd rfl z⟩
    · rw [yup_nk (by decide), yup_eq, b2]
  · obtain ⟨q, rfl⟩ : ∃ q : Nat, r = q := ⟨r.toNat, by omega⟩
    have h10 := hR.2.1.2.2.1
    obtain ⟨-, -, -, g4, -, -, g7, -, g9, g10⟩ := hR.2.1.2.2.2 q (by omega)
    have hvn := hR.2.2.2.2.1.2.2.2.2.1 q (by omega)
    obtain ⟨res, hres⟩ : ∃ res : Nat, mc (A + 10 + q) 2 = res := ⟨(mc (A + 10 + q) 2).toNat, by omega⟩
    have h57 : F57 (A + 10 + q) (yup x2 71 q 0) = ((res + 1 : Nat) : Int) := by
      unfold F57
      rw [yup_na (by omega), fX _ _ (by omega), hres, wr_i (by omega) (by omega)]
      omega
    rw [if_neg (by omega), if_pos (by omega), Int.toNat_natCast, h57, if_pos (by omega), Int.toNat_natCast] at e1
    have ixr : (wr ((wr (10 * (p : Int))) + (q : Int))).toNat = 10 * p + q := ixp10 hp (by omega)
    have ixs : (wr (12 * (wr ((mm 398 (10 * p + q)) + 1)))).toNat = 12 * (res + 1) := by
      rw [← g4, hres, wr_i (x := (res : Int) + 1) (by omega) (by omega), wr_i (by omega) (by omega)]
      omega
    rw [c2 376 18 (by decide), h18, ixr, c2 398 _ (by decide), ixs, Int.toNat_natCast] at c5
    have key : ∃ rc, yloop (fun (_ : Unit) ml => B91_65 f A ml) f () (yup (yup (yup x2 71 q 0) (10 + (res + 1)) 0 0) 8 5 0) = some rc ∧ (∀ m2, rc = .inl ((), m2) → mc' = m2) := by
      rcases bL_e e1 with ⟨l, m, d1, d2⟩ | ⟨l, m, d1, d2⟩
      · cases d2
        exact ⟨_, d1, fun m2 e => by cases e; rfl⟩
      · exact ⟨_, d1, fun m2 e => by cases e⟩
    obtain ⟨rc, d1, d2⟩ := key
    have hR1 : RPG A p s o (yup mc 8 4 (pX A)) mm := hR.fr hA (fun a q ha => yup_na (by omega)) (fun _ _ _ _ => rfl)
    have gE : ∀ {k}, GEN A s (yup mc 8 4 (pX A)) k → GEN A s mc k := fun h => GEN.eq h (fun a q ha => yup_na (by omega)) hA
    have hD : HD (GEN A s (yup mc 8 4 (pX A))) (yup mc 8 4 (pX A) A 15) (yup mc 8 4 (pX A)) mm (yup (yup (yup x2 71 q 0) (10 + (res + 1)) 0 0) 8 5 0) (yup (yup (yup (yup (yup m1 376 47 0) 376 45 0) 407 q 0) 404 (12 * (res + 1)) 0) 376 46 1) := by
      refine ⟨fun t i j g1 g2 g3 => ?_, fun a q' ha => ?_, fun a q' z1 z2 => ?_, ?_, ?_, ?_, ?_, Or.inl ⟨?_, ?_, ?_⟩⟩
      · have hr := cc_rng g1 g2
        rw [yup_na (show cc t i ≠ 8 by omega), yup_na (show 404 + t ≠ 376 by omega)]
        by_cases w0 : t = 0 ∧ i = res + 1 ∧ j = 0
        · obtain ⟨rfl, rfl, rfl⟩ := w0
          have y1 : yup (yup x2 71 q 0) (10 + (res + 1)) 0 0 (cc 0 (res + 1)) 0 = 0 := yup_eq _ _ _ _
          have y2 : yup (yup (yup (yup m1 376 47 0) 376 45 0) 407 q 0) 404 (12 * (res + 1)) 0 (404 + 0) (ww 0 * (res + 1) + 0) = 0 := yup_eq _ _ _ _
          rw [y1, y2]
          exact ⟨rfl, by omega, fun _ _ => Or.inl rfl, fun _ _ => by rw [yup_na (by omega)]; omega⟩
        · have n0 : ¬ (cc t i = 10 + (res + 1) ∧ j = 0) := by
            rintro ⟨y1, y2⟩
            obtain ⟨y3, y4⟩ := cc_inj (t' := 0) (i' := res + 1) g1 (by decide) g2 (by show res + 1 < 48; omega) y1
            exact w0 ⟨y3, y4, y2⟩
          have n1 : ¬ (404 + t = 404 ∧ ww t * i + j = 12 * (res + 1)) := by
            rintro ⟨y1, y2⟩
            obtain rfl : t = 0 := by omega
            obtain ⟨y3, y4⟩ := ww_inj (t := 0) (i' := res + 1) (j' := 0) g3 (by decide) y2
            exact w0 ⟨rfl, y3, y4⟩
          rw [yup_ne n0, yup_ne n1]
          by_cases w3 : t = 3 ∧ j = q
          · obtain ⟨rfl, rfl⟩ := w3
            have hi : i < 1 := g2
            obtain rfl : i = 0 := by omega
            have y1 : yup x2 71 j 0 (cc 3 0) j = 0 := yup_eq _ _ _ _
            have y2 : yup (yup (yup m1 376 47 0) 376 45 0) 407 j 0 (404 + 3) (ww 3 * 0 + j) = 0 := by
              rw [show ww 3 * 0 + j = j by omega]
              exact yup_eq _ _ _ _
            rw [y1, y2]
            exact ⟨rfl, by omega, fun z _ => absurd z (by decide), fun z _ => absurd z (by decide)⟩
          · have n2 : ¬ (cc t i = 71 ∧ j = q) := by
              rintro ⟨y1, y2⟩
              obtain ⟨y3, -⟩ := cc_inj (t' := 3) (i' := 0) g1 (by decide) g2 (by decide) y1
              exact w3 ⟨y3, y2⟩
            have n3 : ¬ (404 + t = 407 ∧ ww t * i + j = q) := by
              rintro ⟨y1, y2⟩
              obtain rfl : t = 3 := by omega
              have hi : i < 1 := g2
              obtain rfl : i = 0 := by omega
              exact w3 ⟨rfl, by omega⟩
            rw [yup_ne n2, yup_ne n3, yup_na (show 404 + t ≠ 376 by omega), yup_na (show 404 + t ≠ 376 by omega), b1 t i j g1 g2 g3, c1 t i j g1 g2 g3]
            exact ⟨rfl, by omega, fun _ z => absurd rfl z, fun _ z => absurd rfl z⟩
      · rw [yup_ne (by omega), yup_na (by omega), yup_na (by omega), b3 a q' (by omega) (by omega)]
      · rw [yup_ne (by omega), yup_na (by omega), yup_na (by omega)]; exact fM a q' z1 z2
      · rw [yup_eq, yup_nk (by decide), yup_na (by decide), yup_na (by decide), yup_eq]
      · rw [yup_nk (by decide), yup_na (by decide), yup_na (by decide), yup_nk (by decide), yup_eq, yup_nk (by decide), yup_na (by omega), yup_na (by omega), b2]
      · rw [yup_eq]; omega
      · rw [yup_eq]; omega
      · rw [yup_eq, yup_nk (by decide), yup_na (by omega), yup_na (by omega), b2]
      · rw [yup_eq]
      · rw [yup_eq]
        have := fU_le (mc := yup (yup (yup x2 71 q 0) (10 + (res + 1)) 0 0) 8 5 0)
        omega
    obtain ⟨y1, y2, w1, w2, w3, w4, w5, w6, w7, -⟩ := rounds_r hA hp hR1 h18 f g _ _ rc rm hD d1 c5
    have z1 := d2 _ w1
    have z2 := c6 _ w2
    subst z1
    subst z2
    refine ⟨fun t i j g1 g2 g3 => ?_, w7, by rw [w4 8 4 (by omega), yup_eq], fun a q ha => by rw [w4 a q (by omega), yup_na (by omega)], w5⟩
    obtain ⟨v1, v2, v3⟩ := w3 t i j g1 g2 g3
    exact ⟨v1, v2, fun h1 h2 => gE (v3.1 h1 h2), fun h1 h2 => by have z := v3.2 h1 h2; rw [yup_na (by omega)] at z; exact z⟩
end RZ
end

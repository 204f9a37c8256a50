/-! THE PROGRAM AS IT STANDS: class and model, names looked up -/
def OPZ (A p s b : Nat) (mc mm : yM) : Prop :=
  (mm 403 (b + 1) = mc (A + 20 + s) 1 ∧ 0 ≤ mc (A + 20 + s) 1 ∧ mc (A + 20 + s) 1 < 10) ∧ (
  (mc (A + 20 + s) 0 = 2 ∧ mm 403 b = 6 ∧ mm 403 (b + 2) = mc (A + 20 + s) 3 ∧ vB (mc A 15) (mc (A + 20 + s) 3) ∧ mc (A + 20 + s) 2 = mm 398 (10 * p + (mc (A + 20 + s) 1).toNat) ∧ vB (mc A 15) (mc (A + 20 + s) 2))
  ∨ (mc (A + 20 + s) 0 = 3 ∧ mm 403 b = 5 ∧ mm 403 (b + 2) = mc (A + 20 + s) 2 ∧ mm 403 (b + 3) = mc (A + 20 + s) 3 ∧ vB (mc A 15) (mc (A + 20 + s) 2) ∧ vB (mc A 15) (mc (A + 20 + s) 3) ∧ mm 403 (b + 4) = mc (A + 20 + s) 6 ∧ -1 ≤ mc (A + 20 + s) 6 ∧ mc (A + 20 + s) 6 < 8)
  ∨ (mc (A + 20 + s) 0 = 4 ∧ mm 403 b = 7 ∧ mm 403 (b + 2) = mc (A + 20 + s) 2 ∧ mm 403 (b + 3) = mc (A + 20 + s) 3 ∧ (mc (A + 20 + s) 2 = -1 ∨ vB (mc A 15) (mc (A + 20 + s) 2)) ∧ vB (mc A 15) (mc (A + 20 + s) 3) ∧ Nm (mc (A + 20 + s) 4) (mm 403 (b + 4)) ∧ mm 403 (b + 5) = 16 * mc (A + 20 + s) 6 + mc (A + 20 + s) 8 ∧ 0 ≤ mc (A + 20 + s) 8 ∧ mc (A + 20 + s) 8 ≤ 2 ∧ 0 ≤ mc (A + 20 + s) 6 ∧ mc (A + 20 + s) 6 < 12 ∧ (0 < mc (A + 20 + s) 8 → mm 403 (b + 6) = mc (A + 20 + s) 9 ∧ vB (mc A 15) (mc (A + 20 + s) 9)) ∧ (1 < mc (A + 20 + s) 8 → mm 403 (b + 7) = mc (A + 20 + s) 10 ∧ vB (mc A 15) (mc (A + 20 + s) 10)))
  ∨ (mc (A + 20 + s) 0 = 5 ∧ mm 403 b = 1 ∧ mm 403 (b + 2) = mc (A + 20 + s) 2 ∧ mm 403 (b + 3) = mc (A + 20 + s) 6 ∧ vB (mc A 15) (mc (A + 20 + s) 2) ∧ 1 ≤ mc (A + 20 + s) 6 ∧ mc (A + 20 + s) 6 < 12 ∧ mc (A + 20 + s) 6 < mc A 14)
  ∨ (mc (A + 20 + s) 0 = 6 ∧ mm 403 b = 8 ∧ mm 403 (b + 2) = mc (A + 20 + s) 2 ∧ vB (mc A 15) (mc (A + 20 + s) 2))
  ∨ (mc (A + 20 + s) 0 = 7 ∧ mm 403 b = 3 ∧ mm 403 (b + 2) = mc (A + 20 + s) 2 ∧ mm 403 (b + 3) = mc (A + 20 + s) 3 ∧ vB (mc A 15) (mc (A + 20 + s) 2) ∧ vB (mc A 15) (mc (A + 20 + s) 3) ∧ 0 ≤ mm 403 (b + 4) ∧ mm 403 (b + 4) < 8 ∧ mm 403 (b + 4) < mc A 13 ∧ mc (A + 9) (mm 403 (b + 4)).toNat = s ∧ mm 401 (8 * p + (mm 403 (b + 4)).toNat) = mc (A + 20 + s) 3 ∧ mm 402 (8 * p + (mm 403 (b + 4)).toNat) = mc (A + 20 + s) 7 ∧ 0 ≤ mc (A + 20 + s) 7 ∧ mc (A + 20 + s) 7 < mc A 9)
  ∨ (mc (A + 20 + s) 0 = 8 ∧ mm 403 b = 2 ∧ mm 403 (b + 2) = mc (A + 20 + s) 2 ∧ mm 403 (b + 3) = mc (A + 20 + s) 3 ∧ vB (mc A 15) (mc (A + 20 + s) 2) ∧ vB (mc A 15) (mc (A + 20 + s) 3))
  ∨ (mc (A + 20 + s) 0 = 9 ∧ mm 403 b = 4 ∧ mm 403 (b + 2) = mc (A + 20 + s) 2 ∧ mm 403 (b + 3) = mc (A + 20 + s) 3 ∧ vB (mc A 15) (mc (A + 20 + s) 2) ∧ vB (mc A 15) (mc (A + 20 + s) 3) ∧ mm 403 (b + 4) = mc (A + 20 + s) 6 ∧ -1 ≤ mc (A + 20 + s) 6 ∧ mc (A + 20 + s) 6 < 8))
/-- the parameters of every method are variables that stand -/
def VN (A : Nat) (mc : yM) : Prop := ∀ j : Nat, (j : Int) < mc A 10 → mc (A + 10 + j) 2 + 2 + mc (A + 10 + j) 3 ≤ mc A 15
def GEN (A s : Nat) (mc : yM) (x : Nat) : Prop := x = 0 ∨ ∃ t : Nat, t < s ∧ mc (A + 20 + t) 0 = 5 ∧ mc (A + 20 + t) 6 = x
/-- SEG, names looked up -/
def SGZ (A p : Nat) (mc mm : yM) : Nat → Nat → Nat → Nat → Nat → Prop
  | 0, s0, s1, o0, o1 => s0 = s1 ∧ o0 = o1
  | f + 1, s0, s1, o0, o1 => (s0 = s1 ∧ o0 = o1) ∨ ∃ s2 o2 : Nat, s0 < s2 ∧ s2 ≤ s1 ∧ o0 < o2 ∧ o2 ≤ o1 ∧ mc (A + 20 + s0) 12 = s2 ∧ SGZ A p mc mm f s2 s1 o2 o1 ∧ ((s2 = s0 + 1 ∧ o2 = o0 + 1 ∧ OPZ A p s0 (1000 * p + 8 * o0) mc mm) ∨ (BRH A p s0 o0 1 10 mc mm ∧ ∃ o3 : Nat, o2 = o3 + 1 ∧ o0 < o3 ∧ mc (A + 20 + s0) 11 = s2 ∧ mm 403 (1000 * p + 8 * o0 + 3) = o2 ∧ mm 403 (1000 * p + 8 * o3) = 11 ∧ mm 403 (1000 * p + 8 * o3 + 3) = o0 ∧ SGZ A p mc mm f (s0 + 1) s2 (o0 + 1) o3) ∨ (BRH A p s0 o0 0 9 mc mm ∧ mc (A + 20 + s0) 11 = s2 ∧ mm 403 (1000 * p + 8 * o0 + 3) = o2 ∧ SGZ A p mc mm f (s0 + 1) s2 (o0 + 1) o2) ∨ (BRH A p s0 o0 0 9 mc mm ∧ ∃ s3 o3 : Nat, s0 < s3 ∧ s3 ≤ s2 ∧ o0 < o3 ∧ o3 < o2 ∧ mc (A + 20 + s0) 11 = s3 ∧ mm 403 (1000 * p + 8 * o0 + 3) = (o3 : Int) + 1 ∧ mm 403 (1000 * p + 8 * o3) = 11 ∧ mm 403 (1000 * p + 8 * o3 + 3) = o2 ∧ SGZ A p mc mm f (s0 + 1) s3 (o0 + 1) o3 ∧ SGZ A p mc mm f s3 s2 (o3 + 1) o2))
/-- every method: its statements and its ops -/
def MCZ (A p s o : Nat) (mc mm : yM) : Prop := ∀ j : Nat, (j : Int) < mc A 10 → ∃ s0 s1 o0 o1 fu : Nat, mc (A + 10 + j) 4 = s0 ∧ mc (A + 10 + j) 5 = s1 ∧ mm 399 (10 * p + j) = o0 ∧ s1 ≤ s ∧ o1 < o ∧ SGZ A p mc mm fu s0 s1 o0 o1 ∧ mm 403 (1000 * p + 8 * o1) = 12 ∧ mm 403 (1000 * p + 8 * o1 + 1) = j
section SZ
variable {A p s o k a : Nat} {mc mm mc' mm' M N : yM}
theorem SGZ.le : ∀ {f s0 s1 o0 o1 : Nat}, SGZ A p mc mm f s0 s1 o0 o1 → s0 ≤ s1 ∧ o0 ≤ o1 := by
  intro f
  cases f with
  | zero => intro s0 s1 o0 o1 h; obtain ⟨rfl, rfl⟩ := h; omega
  | succ f =>
    intro s0 s1 o0 o1 h
    rcases h with ⟨rfl, rfl⟩ | ⟨s2, o2, h1, h2, h3, h4, -⟩ <;> omega
theorem SEG.leO : ∀ {f s0 s1 o0 o1 a0 a1 : Nat}, SEG A p mc mm f s0 s1 o0 o1 a0 a1 → s0 ≤ s1 ∧ o0 ≤ o1 := fun h => ⟨h.le.1, h.le.2.1⟩
theorem BRH.fz {t u : Nat} {kc ko : Int} (h : BRH A p t u kc ko mc mm) (e1 : ∀ q, q < 4 → mc' (A + 20 + t) q = mc (A + 20 + t) q) (e3 : ∀ q, q < 4 → mm' 403 (1000 * p + 8 * u + q) = mm 403 (1000 * p + 8 * u + q)) : BRH A p t u kc ko mc' mm' := by
  have e0 : mm' 403 (1000 * p + 8 * u) = mm 403 (1000 * p + 8 * u) := e3 0 (by decide)
  unfold BRH at h ⊢
  rw [e1 0 (by decide), e1 1 (by decide), e1 3 (by decide), e0, e3 1 (by decide), e3 2 (by decide)]
  exact h
theorem SGZ.fr : ∀ {f s0 s1 o0 o1 : Nat}, SGZ A p mc mm f s0 s1 o0 o1 → (∀ t u, t < s1 → u < o1 → OPZ A p t (1000 * p + 8 * u) mc mm → OPZ A p t (1000 * p + 8 * u) mc' mm') → (∀ t q, t < s1 → (q < 4 ∨ q = 11 ∨ q = 12) → mc' (A + 20 + t) q = mc (A + 20 + t) q) → (∀ u q, u < o1 → q < 4 → mm' 403 (1000 * p + 8 * u + q) = mm 403 (1000 * p + 8 * u + q)) → SGZ A p mc' mm' f s0 s1 o0 o1 := by
  intro f
  induction f with
  | zero => intro s0 s1 o0 o1 h _ _ _; exact h
  | succ f ih =>
    intro s0 s1 o0 o1 h hz e1 e3
    rcases h with h | ⟨s2, o2, h1, h2, h3, h4, h7, h8, h9⟩
    · exact Or.inl h
    · have e30 : ∀ u, u < o1 → mm' 403 (1000 * p + 8 * u) = mm 403 (1000 * p + 8 * u) := fun u hu => e3 u 0 hu (by decide)
      refine Or.inr ⟨s2, o2, h1, h2, h3, h4, by rw [e1 s0 12 (by omega) (by omega)]; exact h7, ih h8 hz e1 e3, ?_⟩
      have b1 : ∀ q, q < 4 → mc' (A + 20 + s0) q = mc (A + 20 + s0) q := fun q hq => e1 s0 q (by omega) (by omega)
      have b3 : ∀ q, q < 4 → mm' 403 (1000 * p + 8 * o0 + q) = mm 403 (1000 * p + 8 * o0 + q) := fun q hq => e3 o0 q (by omega) hq
      rcases h9 with ⟨g1, g2, g3⟩ | ⟨g1, o3, g2, g2', g3, g4, g5, g6, g7⟩ | ⟨g1, g2, g3, g4⟩ | ⟨g1, s3, o3, g2, g3, g4, g5, g8, g9, g10, g11, g12, g13⟩
      · exact Or.inl ⟨g1, g2, hz s0 o0 (by omega) (by omega) g3⟩
      · exact Or.inr (Or.inl ⟨g1.fz b1 b3, o3, g2, g2', by rw [e1 s0 11 (by omega) (by omega)]; exact g3, by rw [e3 o0 3 (by omega) (by decide)]; exact g4, by rw [e30 o3 (by omega)]; exact g5, by rw [e3 o3 3 (by omega) (by decide)]; exact g6, ih g7 (fun t u t1 u1 => hz t u (by omega) (by omega)) (fun t q t1 q1 => e1 t q (by omega) q1) (fun u q u1 q1 => e3 u q (by omega) q1)⟩)
      · exact Or.inr (Or.inr (Or.inl ⟨g1.fz b1 b3, by rw [e1 s0 11 (by omega) (by omega)]; exact g2, by rw [e3 o0 3 (by omega) (by decide)]; exact g3, ih g4 (fun t u t1 u1 => hz t u (by omega) (by omega)) (fun t q t1 q1 => e1 t q (by omega) q1) (fun u q u1 q1 => e3 u q (by omega) q1)⟩))
      · exact Or.inr (Or.inr (Or.inr ⟨g1.fz b1 b3, s3, o3, g2, g3, g4, g5, by rw [e1 s0 11 (by omega) (by omega)]; exact g8, by rw [e3 o0 3 (by omega) (by decide)]; exact g9, by rw [e30 o3 (by omega)]; exact g10, by rw [e3 o3 3 (by omega) (by decide)]; exact g11, ih g12 (fun t u t1 u1 => hz t u (by omega) (by omega)) (fun t q t1 q1 => e1 t q (by omega) q1) (fun u q u1 q1 => e3 u q (by omega) q1), ih g13 (fun t u t1 u1 => hz t u (by omega) (by omega)) (fun t q t1 q1 => e1 t q (by omega) q1) (fun u q u1 q1 => e3 u q (by omega) q1)⟩))
theorem SEG.z : ∀ {f s0 s1 o0 o1 a0 a1 : Nat}, SEG A p mc mm f s0 s1 o0 o1 a0 a1 → (∀ t u, t < s1 → u < o1 → (∃ a a', OPR A p t u a a' mc mm) → OPZ A p t (1000 * p + 8 * u) mc' mm') → (∀ t q, t < s1 → (q < 4 ∨ q = 11 ∨ q = 12) → mc' (A + 20 + t) q = mc (A + 20 + t) q) → (∀ u q, u < o1 → q < 4 → mm' 403 (1000 * p + 8 * u + q) = mm 403 (1000 * p + 8 * u + q)) → SGZ A p mc' mm' f s0 s1 o0 o1 := by
  intro f
  induction f with
  | zero => intro s0 s1 o0 o1 a0 a1 h _ _ _; exact ⟨h.1, h.2.1⟩
  | succ f ih =>
    intro s0 s1 o0 o1 a0 a1 h hz e1 e3
    rcases h with h | ⟨s2, o2, a2, h1, h2, h3, h4, h5, h6, h7, h8, h9⟩
    · exact Or.inl ⟨h.1, h.2.1⟩
    · have e30 : ∀ u, u < o1 → mm' 403 (1000 * p + 8 * u) = mm 403 (1000 * p + 8 * u) := fun u hu => e3 u 0 hu (by decide)
      refine Or.inr ⟨s2, o2, h1, h2, h3, h4, by rw [e1 s0 12 (by omega) (by omega)]; exact h7, ih h8 hz e1 e3, ?_⟩
      have b1 : ∀ q, q < 4 → mc' (A + 20 + s0) q = mc (A + 20 + s0) q := fun q hq => e1 s0 q (by omega) (by omega)
      have b3 : ∀ q, q < 4 → mm' 403 (1000 * p + 8 * o0 + q) = mm 403 (1000 * p + 8 * o0 + q) := fun q hq => e3 o0 q (by omega) hq
      rcases h9 with ⟨g1, g2, g3⟩ | ⟨g1, o3, g2, g2', g3, g4, g5, g6, g7⟩ | ⟨g1, g2, g3, g4⟩ | ⟨g1, s3, o3, a3, g2, g3, g4, g5, g6, g7, g8, g9, g10, g11, g12, g13⟩
      · exact Or.inl ⟨g1, g2, hz s0 o0 (by omega) (by omega) ⟨_, _, g3⟩⟩
      · exact Or.inr (Or.inl ⟨g1.fz b1 b3, o3, g2, g2', by rw [e1 s0 11 (by omega) (by omega)]; exact g3, by rw [e3 o0 3 (by omega) (by decide)]; exact g4, by rw [e30 o3 (by omega)]; exact g5, by rw [e3 o3 3 (by omega) (by decide)]; exact g6, ih g7 (fun t u t1 u1 => hz t u (by omega) (by omega)) (fun t q t1 q1 => e1 t q (by omega) q1) (fun u q u1 q1 => e3 u q (by omega) q1)⟩)
      · exact Or.inr (Or.inr (Or.inl ⟨g1.fz b1 b3, by rw [e1 s0 11 (by omega) (by omega)]; exact g2, by rw [e3 o0 3 (by omega) (by decide)]; exact g3, ih g4 (fun t u t1 u1 => hz t u (by omega) (by omega)) (fun t q t1 q1 => e1 t q (by omega) q1) (fun u q u1 q1 => e3 u q (by omega) q1)⟩))
      · exact Or.inr (Or.inr (Or.inr ⟨g1.fz b1 b3, s3, o3, g2, g3, g4, g5, by rw [e1 s0 11 (by omega) (by omega)]; exact g8, by rw [e3 o0 3 (by omega) (by decide)]; exact g9, by rw [e30 o3 (by omega)]; exact g10, by rw [e3 o3 3 (by omega) (by decide)]; exact g11, ih g12 (fun t u t1 u1 => hz t u (by omega) (by omega)) (fun t q t1 q1 => e1 t q (by omega) q1) (fun u q u1 q1 => e3 u q (by omega) q1), ih g13 (fun t u t1 u1 => hz t u (by omega) (by omega)) (fun t q t1 q1 => e1 t q (by omega) q1) (fun u q u1 q1 => e3 u q (by omega) q1)⟩))
theorem MCH.each : ∀ {k s o a : Nat}, MCH A p mc mm k s o a → ∀ j, j < k → ∃ s0 s1 o0 o1 a0 a1 fu : Nat, mc (A + 10 + j) 4 = s0 ∧ mc (A + 10 + j) 5 = s1 ∧ mm 399 (10 * p + j) = o0 ∧ s1 ≤ s ∧ o1 < o ∧ SEG A p mc mm fu s0 s1 o0 o1 a0 a1 ∧ mm 403 (1000 * p + 8 * o1) = 12 ∧ mm 403 (1000 * p + 8 * o1 + 1) = j := by
  intro k
  induction k with
  | zero => intro s o a h j hj; omega
  | succ k ih =>
    intro s o a h j hj
    obtain ⟨s0, o0, a0, o1, fu, h1, h2, h3, h4, h5, h6, h7, h8⟩ := h
    by_cases z : j = k
    · subst z
      exact ⟨s0, s, o0, o1, a0, a, fu, h2, h3, h4, by omega, by omega, h6, h7, h8⟩
    · obtain ⟨t0, t1, u0, u1, b0, b1, fv, g1, g2, g3, g4, g5, g6, g7, g8⟩ := ih h1 j (by omega)
      have l := h6.le
      exact ⟨t0, t1, u0, u1, b0, b1, fv, g1, g2, g3, by omega, by omega, g6, g7, g8⟩
theorem MCZ.fr (h : MCZ A p s o mc mm) (e10 : mc' A 10 = mc A 10) (eM : ∀ j q : Nat, (j : Int) < mc A 10 → mc' (A + 10 + j) q = mc (A + 10 + j) q) (e399 : ∀ j : Nat, (j : Int) < mc A 10 → mm' 399 (10 * p + j) = mm 399 (10 * p + j)) (hz : ∀ t u, t < s → u < o → OPZ A p t (1000 * p + 8 * u) mc mm → OPZ A p t (1000 * p + 8 * u) mc' mm') (eS : ∀ t q, t < s → mc' (A + 20 + t) q = mc (A + 20 + t) q) (eB : ∀ u q, u < o → q < 8 → mm' 403 (1000 * p + 8 * u + q) = mm 403 (1000 * p + 8 * u + q)) : MCZ A p s o mc' mm' := fun j hj => by
  rw [e10] at hj
  obtain ⟨s0, s1, o0, o1, fu, h1, h2, h3, h4, h5, h6, h7, h8⟩ := h j hj
  exact ⟨s0, s1, o0, o1, fu, by rw [eM j 4 hj]; exact h1, by rw [eM j 5 hj]; exact h2, by rw [e399 j hj]; exact h3, h4, h5, h6.fr (fun t u t1 u1 => hz t u (by omega) (by omega)) (fun t q t1 _ => eS t q (by omega)) (fun u q u1 q1 => eB u q (by omega) (by omega)), by rw [show mm' 403 (1000 * p + 8 * o1) = mm 403 (1000 * p + 8 * o1) from eB o1 0 h5 (by decide)]; exact h7, by rw [eB o1 1 h5 (by decide)]; exact h8⟩
end SZ
def RPG (A p s o : Nat) (mc mm : yM) : Prop := rCl A p mc mm ∧ rMe A p mc mm ∧ rCo A p mc mm ∧ (mc A 11 = mm 385 p ∧ 0 ≤ mc A 11 ∧ mc A 11 ≤ 8) ∧ (mc A 15 = mm 389 p ∧ 0 ≤ mc A 15 ∧ mc A 15 ≤ 48 ∧ CAS A s mc ∧ VN A mc ∧ OWM A (mc A 10).toNat s mc ∧ MCZ A p s o mc mm) ∧ (mc A 16 = s ∧ s ≤ 40 ∧ mm 390 p = o ∧ o ≤ 120 ∧ 1 ≤ mc A 9) ∧ (∃ n, ALN (fun t u => OPZ A p t (1000 * p + 8 * u) mc mm) (qB A p mc mm) (qZ p mm) n 0 s 0 o) ∧ (∀ x, GEN A s mc x → mc (A + 8) x = mm 400 (12 * p + x) ∧ 0 ≤ mc (A + 8) x ∧ mc (A + 8) x < mc A 9)
section RG
variable {A p k s o a f g : Nat} {mc mm mc' mm' M N : yM}
theorem IX.same {n : Int} {P : Nat → Prop} {r r' : Int} (h : IX n P r) (h' : IX n P r') : r = r' := h.eq h' (fun _ _ => Iff.rfl)
/-- a class's name -/
theorem cls_i (hr : rCl A p M N) {x y r r' : Int} (hN : Nm x y) (h : IX (M A 9) (fun q => M (A + 1) q = x) r) (h' : IX (N 383 p) (fun q => N 391 (6 * p + q) = y) r') : r = r' := by
  rw [← hr.1] at h'
  exact h.eq h' (fun q hq => (hr.2.2.2 q hq).1.eq hN)
theorem fld_i (hr : rFd A p M N) {x y r r' : Int} (hN : Nm x y) (h : IX (M A 11) (fun q => M (A + 4) q = x) r) (h' : IX (N 385 p) (fun q => N 394 (8 * p + q) = y) r') : r = r' := by
  rw [← hr.1] at h'
  exact h.eq h' (fun q hq => (hr.2.2.2 q hq).eq hN)
theorem OPR.z {t u a' : Nat} (hs : s ≤ 40) (h : OPR A p t u a a' M N) (ht : t < s) (hu : (u : Int) < N 390 p) (h1 : rCl A p M N) (h2 : rFd A p M N) (h3 : rMe A p M N) (h4 : rCo A p M N) (hc : RSc A s M mc') (fc : fNc A M mc') (hm : RSm p N mm') (hV : VN A M) : OPZ A p t (1000 * p + 8 * u) mc' mm' := by
  obtain ⟨w1, w2, w3, w4⟩ := h
  obtain ⟨c1, c2, c3, c4⟩ := hc t ht
  obtain ⟨m1, m2, m3, m4, m5, m6, m7⟩ := hm
  have S : ∀ q, q ≠ 6 → q ≠ 7 → mc' (A + 20 + t) q = M (A + 20 + t) q := fun q z1 z2 => fc _ _ (by omega) (by omega) (by omega)
  have O : ∀ q, q < 8 → q ≠ 4 → mm' 403 (1000 * p + 8 * u + q) = N 403 (1000 * p + 8 * u + q) := fun q z1 z2 => m6 _ (fun ⟨v, v1, v2, v3⟩ => by omega)
  have O0 : mm' 403 (1000 * p + 8 * u) = N 403 (1000 * p + 8 * u) := O 0 (by decide) (by decide)
  have O4 : ¬ (N 403 (1000 * p + 8 * u) = 4 ∨ N 403 (1000 * p + 8 * u) = 5) → mm' 403 (1000 * p + 8 * u + 4) = N 403 (1000 * p + 8 * u + 4) := fun z => m6 _ (fun ⟨v, v1, v2, v3⟩ => z (by have e : v = u := (by omega); rw [e] at v3; exact v3))
  have A9 : mc' A 9 = M A 9 := fc _ _ (by omega) (by omega) (by omega)
  have A13 : mc' A 13 = M A 13 := fc _ _ (by omega) (by omega) (by omega)
  have A14 : mc' A 14 = M A 14 := fc _ _ (by omega) (by omega) (by omega)
  have A15 : mc' A 15 = M A 15 := fc _ _ (by omega) (by omega) (by omega)
  have A9' : ∀ q, mc' (A + 9) q = M (A + 9) q := fun q => fc _ _ (by omega) (by omega) (by omega)
  have h398 : ∀ q, mm' 398 q = N 398 q := fun q => m7 _ _ (by decide) (by decide) (by decide) (by omega)
  have h401 : ∀ q, mm' 401 q = N 401 q := fun q => m7 _ _ (by decide) (by decide) (by decide) (by omega)
  have h13 := h4.2.2.2.1
  have h14 := h4.2.2.2.2.2.2.1
  have h11 := h2.2.2.1
  have h9 := h1.2.2.1
  refine ⟨⟨by rw [O 1 (by decide) (by decide), S 1 (by decide) (by decide)]; exact w1, by rw [S 1 (by decide) (by decide)]; exact w2, by rw [S 1 (by decide) (by decide)]; exact w3⟩, ?_⟩
  rw [S 0 (by decide) (by decide), S 1 (by decide) (by decide), S 2 (by decide) (by decide), S 3 (by decide) (by decide), S 4 (by decide) (by decide), S 8 (by decide) (by decide), S 9 (by decide) (by decide), S 10 (by decide) (by decide), O0, O 2 (by decide) (by decide), O 3 (by decide) (by decide), O 5 (by decide) (by decide), O 6 (by decide) (by decide), O 7 (by decide) (by decide), A9, A13, A14, A15, h398]
  rcases w4 with h | h | h | h | h | h | h | h
  · obtain ⟨g1, g2, g3, g4, g5, g6, g7⟩ := h
    have hb := h3.2.2.2 (M (A + 20 + t) 1).toNat (by omega)
    obtain ⟨-, -, -, b4, -, -, b7, -, b9, b10⟩ := hb
    have hv := hV (M (A + 20 + t) 1).toNat (by omega)
    exact Or.inl ⟨g1, g2, g3, g4, g5, by rw [g5, ← b4]; exact ⟨b9, by omega, by omega⟩⟩
  · obtain ⟨g1, g2, g3, g4, g5, g6, g7, g8⟩ := h
    have I1 := c1 (Or.inl g1)
    have e := fld_i h2 g7 I1 (m5 u hu (Or.inr g2))
    have l := I1.lt
    exact Or.inr (Or.inl ⟨g1, g2, g3, g4, g5, g6, e.symm, by omega, by omega⟩)
  · obtain ⟨g1, g2, g3, g4, g5, g6, g7, g8, g9, g10, g11, g12, g13, g14, g15⟩ := h
    rw [c2 (by omega), O4 (by omega)]
    exact Or.inr (Or.inr (Or.inl ⟨g1, g2, g3, g4, g5, g6, g7, g8, g9, g10, g11, g12, g13, g14⟩))
  · obtain ⟨g1, g2, g3, g4, g5, g6, g7, g8, g9, g10, g11, g12, g13⟩ := h
    rw [c2 (by omega)]
    exact Or.inr (Or.inr (Or.inr (Or.inl ⟨g1, g2, g3, g4, g5, g6, g7, g8⟩)))
  · obtain ⟨g1, g2, g3, g4, g5⟩ := h
    exact Or.inr (Or.inr (Or.inr (Or.inr (Or.inl ⟨g1, g2, g3, g4⟩))))
  · obtain ⟨g1, g2, g3, g4, g5, g6, g7, g8, g9, g10, g11, g12, g13, g14, g15, g16⟩ := h
    obtain ⟨I1, n1⟩ := c3 (Or.inr g1)
    have hm3 := m3 (N 403 (1000 * p + 8 * u + 4)).toNat (by omega)
    have e := cls_i h1 g11 I1 hm3
    have l := I1.lt
    rw [O4 (by omega), A9', h401]
    exact Or.inr (Or.inr (Or.inr (Or.inr (Or.inr (Or.inl ⟨g1, g2, g3, g4, g5, g6, g7, g8, g9, g10, g12, e.symm, by omega, by omega⟩)))))
  · obtain ⟨g1, g2, g3, g4, g5, g6, g7⟩ := h
    exact Or.inr (Or.inr (Or.inr (Or.inr (Or.inr (Or.inr (Or.inl ⟨g1, g2, g3, g4, g5, g6⟩))))))
  · obtain ⟨g1, g2, g3, g4, g5, g6, g7, g8⟩ := h
    have I1 := c1 (Or.inr g1)
    have e := fld_i h2 g7 I1 (m5 u hu (Or.inl g2))
    have l := I1.lt
    exact Or.inr (Or.inr (Or.inr (Or.inr (Or.inr (Or.inr (Or.inr ⟨g1, g2, g3, g4, g5, g6, e.symm, by omega, by omega⟩))))))
theorem OPR.k5 {t u a' : Nat} (h : OPR A p t u a a' M N) (h5 : M (A + 20 + t) 0 = 5) : 1 ≤ M (A + 20 + t) 6 ∧ M (A + 20 + t) 6 < 12 ∧ M (A + 20 + t) 6 < M A 14 ∧ Nm (M (A + 20 + t) 4) (N 400 (12 * p + (M (A + 20 + t) 6).toNat)) := by
  obtain ⟨-, -, -, h⟩ := h
  rcases h with h | h | h | h | h | h | h | h
  · have := h.1; omega
  · have := h.1; omega
  · have := h.1; omega
  · obtain ⟨g1, g2, g3, g4, g5, g6, g7, g8, g9, -⟩ := h
    exact ⟨g6, g7, g8, g9⟩
  · have := h.1; omega
  · have := h.1; omega
  · have := h.1; omega
  · have := h.1; omega
theorem OPR.k57 {t u a' : Nat} (h : OPR A p t u a a' M N) (h5 : M (A + 20 + t) 0 = 5 ∨ M (A + 20 + t) 0 = 7) : 0 ≤ M (A + 20 + t) 5 := by
  obtain ⟨-, -, -, h⟩ := h
  rcases h with h | h | h | h | h | h | h | h
  · have := h.1; omega
  · have := h.1; omega
  · have := h.1; omega
  · obtain ⟨g1, g2, g3, g4, g5, g6, g7, g8, g9, g10, g11, g12, g13⟩ := h
    exact g12
  · have := h.1; omega
  · obtain ⟨g1, g2, g3, g4, g5, g6, g7, g8, g9, g10, g11, g12, g13, g14, g15, g16⟩ := h
    exact g15
  · have := h.1; omega
  · have := h.1; omega
theorem qB.kd {t u : Nat} (h : qB A p M N t u) : M (A + 20 + t) 0 = 0 ∨ M (A + 20 + t) 0 = 1 := by
  rcases h with h | h
  · exact Or.inl h.1
  · exact Or.inr h.1
theorem PRG.st (hP : PRG A p k s o a M N) : (∀ t : Nat, t < s → M (A + 20 + t) 0 = 5 → 1 ≤ M (A + 20 + t) 6 ∧ M (A + 20 + t) 6 < 12 ∧ M (A + 20 + t) 6 < M A 14 ∧ Nm (M (A + 20 + t) 4) (N 400 (12 * p + (M (A + 20 + t) 6).toNat))) ∧ (∀ t : Nat, t < s → (M (A + 20 + t) 0 = 5 ∨ M (A + 20 + t) 0 = 7) → 0 ≤ M (A + 20 + t) 5) := by
  obtain ⟨p1, p2, p3, p4, p5, p6, p7, q, p8⟩ := hP
  obtain ⟨n, hn⟩ := p8.aln
  refine ⟨fun t ht h5 => ?_, fun t ht h5 => ?_⟩
  · obtain ⟨u, -, ⟨a, a', h⟩ | h⟩ := hn.all t (by omega) ht
    · exact h.k5 h5
    · have := qB.kd h; omega
  · obtain ⟨u, -, ⟨a, a', h⟩ | h⟩ := hn.all t (by omega) ht
    · exact h.k57 h5
    · have := qB.kd h; omega
/-- the program, its names looked up -/
theorem PRG.rpg (hp : p ≤ 1) (hP : PRG A p k s o a M N) (h9 : 1 ≤ M A 9) (h8 : M (A + 8) 0 = 0) (e1 : F73 f A M = some (-1, mc')) (e2 : F141 g p N = some mm') (hw : mm' 376 8 = -1) : RPG A p s o mc' mm' ∧ fNc A M mc' ∧ RSm p N mm' ∧ mc' (A + 8) 0 = 0 ∧ (∃ m1, F72 f A 0 239 0 m1 = some (mc' A 17) ∧ fNc A M m1) := by
  have hst := hP.st
  obtain ⟨p1, p2, p3, p4, p5, p6, p7, ⟨q1, q2, q3, q4, q5, q6, q7, q8⟩, p8⟩ := hP
  have hco := p5
  unfold rCo at hco
  have hU : ∀ t u : Nat, t < s → u < s → M (A + 20 + t) 0 = 5 → M (A + 20 + u) 0 = 5 → (M (A + 20 + t) 6).toNat = (M (A + 20 + u) 6).toNat → M (A + 20 + t) 4 = M (A + 20 + u) 4 := by
    intro t u ht hu h5 h5' e
    obtain ⟨-, -, -, b1⟩ := hst.1 t ht h5
    obtain ⟨-, -, -, b2⟩ := hst.1 u hu h5'
    rw [e] at b1
    exact (b1.eq b2).mpr rfl
  obtain ⟨hc, fc, hF, h80⟩ := res_c q5 q1 ⟨p1.2.1, p1.2.2.1⟩ ⟨p2.2.1, p2.2.2.1⟩ hU e1 rfl hst.2
  have kb : k ≤ 10 := by have := p4.2.2.1; omega
  have hm := res_m hp (by rw [← p1.1]; exact ⟨p1.2.1, p1.2.2.1⟩) (by rw [← p2.1]; exact ⟨p2.2.1, p2.2.2.1⟩) (by omega) (by omega) (by omega) e2 hw
  have c80 : mc' (A + 8) 0 = 0 := by
    rw [h80 0 (fun t ht h5 => by have := (hst.1 t ht h5).1; omega)]; exact h8
  refine ⟨?_, fc, hm, c80, hF⟩
  have hm' := hm
  obtain ⟨m1, m2, m3, m4, m5, m6, m7⟩ := hm
  have cA : ∀ q, q ≠ 17 → mc' A q = M A q := fun q hq => fc _ _ (by omega) (by omega) (by omega)
  have mF : ∀ b q, b ≠ 400 → b ≠ 402 → b ≠ 403 → b ≠ 376 → mm' b q = N b q := fun b q z1 z2 z3 z4 => m7 b q z1 z2 z3 (by omega)
  refine ⟨p1.fr (cA 9 (by decide)) (fun b q hb => fc _ _ (by omega) (by omega) (by omega)) (fun b q hb => mF _ _ (by omega) (by omega) (by omega) (by omega)), p4.fr (cA 10 (by decide)) (Int.le_of_eq (cA 9 (by decide)).symm) (fun z q z1 z2 => fc _ _ (by omega) (by omega) (by omega)) (fun b q hb => mF _ _ (by omega) (by omega) (by omega) (by omega)), p5.fr (fun q z1 z2 => cA q (by omega)) (fun b z1 z2 => mF _ _ (by omega) (by omega) (by omega) (by omega)), ?_, ?_, ?_, ?_, ?_⟩
  · rw [cA 11 (by decide), mF 385 p (by decide) (by decide) (by decide) (by decide)]
    exact ⟨p2.1, p2.2.1, p2.2.2.1⟩
  · refine ⟨by rw [cA 15 (by decide), mF 389 p (by decide) (by decide) (by decide) (by decide)]; exact p7.1, by rw [cA 15 (by decide)]; exact p7.2.1, by rw [cA 15 (by decide)]; exact p7.2.2, q8.2.1.fr (cA 13 (by decide)) (fun q _ => fc _ _ (by omega) (by omega) (by omega)) (fun t _ => fc _ _ (by omega) (by omega) (by omega)), fun j hj => ?_, ?_, fun j hj => ?_⟩
    · rw [cA 10 (by decide)] at hj
      rw [cA 15 (by decide), fc (A + 10 + j) 2 (by omega) (by omega) (by omega), fc (A + 10 + j) 3 (by omega) (by omega) (by omega)]
      exact q8.2.2.1 j (by omega)
    · have e : (mc' A 10).toNat = k := by rw [cA 10 (by decide), p6]; omega
      rw [e]
      exact q8.2.2.2.fr (fun j q hj => fc _ _ (by omega) (by omega) (by omega)) (fun t q ht hq => fc _ _ (by omega) (by omega) (by omega))
    · rw [cA 10 (by decide)] at hj
      obtain ⟨s0, s1, o0, o1, a0, a1, fu, h1, h2, h3, h4, h5, h6, h7, h8⟩ := p8.each j (by omega)
      have O : ∀ u q, u < o → q < 4 → mm' 403 (1000 * p + 8 * u + q) = N 403 (1000 * p + 8 * u + q) := fun u q u1 z1 => m6 _ (fun ⟨v, v1, v2, v3⟩ => by omega)
      refine ⟨s0, s1, o0, o1, fu, by rw [fc _ _ (by omega) (by omega) (by omega)]; exact h1, by rw [fc _ _ (by omega) (by omega) (by omega)]; exact h2, by rw [mF 399 _ (by decide) (by decide) (by decide) (by decide)]; exact h3, h4, h5, ?_, by rw [show mm' 403 (1000 * p + 8 * o1) = N 403 (1000 * p + 8 * o1) from O o1 0 h5 (by decide)]; exact h7, by rw [O o1 1 h5 (by decide)]; exact h8⟩
      refine h6.z (fun t u t1 u1 hq => ?_) (fun t q t1 q1 => fc _ _ (by omega) (by omega) (by omega)) (fun u q u1 q1 => O u q (by omega) q1)
      obtain ⟨b0, b1, hq⟩ := hq
      exact hq.z q5 (by omega) (by omega) p1 p2 p4 p5 hc fc hm' (fun j hj => q8.2.2.1 j (by omega))
  · rw [cA 16 (by decide), cA 9 (by decide), mF 390 p (by decide) (by decide) (by decide) (by decide)]
    exact ⟨q1, q5, q3, by omega, h9⟩
  · obtain ⟨n, hn⟩ := p8.aln
    refine ⟨n, hn.mp (fun t u ht hu hq => ?_) (fun t u ht hu hq => ?_) (fun u hu hq => ?_)⟩
    · obtain ⟨a0, a1, hq⟩ := hq
      exact hq.z q5 ht (by omega) p1 p2 p4 p5 hc fc hm' (fun j hj => q8.2.2.1 j (by omega))
    · have O : ∀ q, q < 3 → mm' 403 (1000 * p + 8 * u + q) = N 403 (1000 * p + 8 * u + q) := fun q z1 => m6 _ (fun ⟨v, v1, v2, v3⟩ => by omega)
      have O0 : mm' 403 (1000 * p + 8 * u) = N 403 (1000 * p + 8 * u) := O 0 (by decide)
      have S : ∀ q, q < 4 → mc' (A + 20 + t) q = M (A + 20 + t) q := fun q z1 => fc _ _ (by omega) (by omega) (by omega)
      unfold qB BRH at hq ⊢
      rw [S 0 (by decide), S 1 (by decide), S 3 (by decide), O0, O 1 (by decide), O 2 (by decide)]
      exact hq
    · have O0 : mm' 403 (1000 * p + 8 * u) = N 403 (1000 * p + 8 * u) := m6 _ (fun ⟨v, v1, v2, v3⟩ => by omega)
      unfold qZ at hq ⊢
      rw [O0]
      exact hq
  · intro x hx
    rw [cA 9 (by decide)]
    rcases hx with rfl | ⟨t, ht, h5, h6⟩
    · have e400 : mm' 400 (12 * p + 0) = 0 := by rw [m2 (12 * p + 0) (by omega)]; exact q8.1
      rw [c80, e400]
      exact ⟨rfl, by omega, by omega⟩
    · have S0 : mc' (A + 20 + t) 0 = M (A + 20 + t) 0 := fc _ _ (by omega) (by omega) (by omega)
      rw [S0] at h5
      obtain ⟨c1, c2, c3, c4⟩ := hc t ht
      rw [c2 (by omega)] at h6
      obtain ⟨d1, d2, d3, d4⟩ := hst.1 t ht h5
      have I1 := c4 h5
      obtain ⟨I2, n2⟩ := c3 (Or.inl h5)
      have hx1 : (M (A + 20 + t) 6).toNat = x := by omega
      rw [hx1] at I1 d4
      have e := cls_i p1 d4 I1 (m1 x (by omega) (by omega))
      have e' := I1.same I2
      have l := I1.lt
      exact ⟨e, by omega, by omega⟩
end RG

/-! BODIES: how statements lie at ops -/
def BRH (A p s o : Nat) (kc ko : Int) (mc mm : yM) : Prop := mc (A + 20 + s) 0 = kc ∧ mm 403 (1000 * p + 8 * o) = ko ∧ mm 403 (1000 * p + 8 * o + 1) = mc (A + 20 + s) 1 ∧ 0 ≤ mc (A + 20 + s) 1 ∧ mc (A + 20 + s) 1 < 10 ∧ mm 403 (1000 * p + 8 * o + 2) = mc (A + 20 + s) 3 ∧ vC (mc (A + 20 + s) 3)
/-- the statements s0 to s1 lie at the ops o0 to o1; the names asked for go from a0 to a1 -/
def SEG (A p : Nat) (mc mm : yM) : Nat → Nat → Nat → Nat → Nat → Nat → Nat → Prop
  | 0, s0, s1, o0, o1, a0, a1 => s0 = s1 ∧ o0 = o1 ∧ a0 = a1
  | f + 1, s0, s1, o0, o1, a0, a1 => (s0 = s1 ∧ o0 = o1 ∧ a0 = a1) ∨ ∃ s2 o2 a2 : Nat, s0 < s2 ∧ s2 ≤ s1 ∧ o0 < o2 ∧ o2 ≤ o1 ∧ a0 ≤ a2 ∧ a2 ≤ a1 ∧ mc (A + 20 + s0) 12 = s2 ∧ SEG A p mc mm f s2 s1 o2 o1 a2 a1 ∧ ((s2 = s0 + 1 ∧ o2 = o0 + 1 ∧ OPR A p s0 o0 a0 a2 mc mm) ∨ (BRH A p s0 o0 1 10 mc mm ∧ ∃ o3 : Nat, o2 = o3 + 1 ∧ o0 < o3 ∧ mc (A + 20 + s0) 11 = s2 ∧ mm 403 (1000 * p + 8 * o0 + 3) = o2 ∧ mm 403 (1000 * p + 8 * o3) = 11 ∧ mm 403 (1000 * p + 8 * o3 + 3) = o0 ∧ SEG A p mc mm f (s0 + 1) s2 (o0 + 1) o3 a0 a2) ∨ (BRH A p s0 o0 0 9 mc mm ∧ mc (A + 20 + s0) 11 = s2 ∧ mm 403 (1000 * p + 8 * o0 + 3) = o2 ∧ SEG A p mc mm f (s0 + 1) s2 (o0 + 1) o2 a0 a2) ∨ (BRH A p s0 o0 0 9 mc mm ∧ ∃ s3 o3 a3 : Nat, s0 < s3 ∧ s3 ≤ s2 ∧ o0 < o3 ∧ o3 < o2 ∧ a0 ≤ a3 ∧ a3 ≤ a2 ∧ mc (A + 20 + s0) 11 = s3 ∧ mm 403 (1000 * p + 8 * o0 + 3) = (o3 : Int) + 1 ∧ mm 403 (1000 * p + 8 * o3) = 11 ∧ mm 403 (1000 * p + 8 * o3 + 3) = o2 ∧ SEG A p mc mm f (s0 + 1) s3 (o0 + 1) o3 a0 a3 ∧ SEG A p mc mm f s3 s2 (o3 + 1) o2 a3 a2))
section SG
variable {A p : Nat} {mc mm mc' mm' : yM}
theorem SEG.ni {f s o a : Nat} : SEG A p mc mm f s s o o a a := by
  cases f with
  | zero => exact ⟨rfl, rfl, rfl⟩
  | succ f => exact Or.inl ⟨rfl, rfl, rfl⟩
theorem SEG.le : ∀ {f s0 s1 o0 o1 a0 a1 : Nat}, SEG A p mc mm f s0 s1 o0 o1 a0 a1 → s0 ≤ s1 ∧ o0 ≤ o1 ∧ a0 ≤ a1 := by
  intro f
  cases f with
  | zero => intro s0 s1 o0 o1 a0 a1 h; obtain ⟨rfl, rfl, rfl⟩ := h; omega
  | succ f =>
    intro s0 s1 o0 o1 a0 a1 h
    rcases h with ⟨rfl, rfl, rfl⟩ | ⟨s2, o2, a2, h1, h2, h3, h4, h5, h6, -⟩ <;> omega
theorem SEG.mo : ∀ {f s0 s1 o0 o1 a0 a1 : Nat}, SEG A p mc mm f s0 s1 o0 o1 a0 a1 → SEG A p mc mm (f + 1) s0 s1 o0 o1 a0 a1 := by
  intro f
  induction f with
  | zero =>
    intro s0 s1 o0 o1 a0 a1 h
    obtain ⟨rfl, rfl, rfl⟩ := h
    exact SEG.ni
  | succ f ih =>
    intro s0 s1 o0 o1 a0 a1 h
    rcases h with h | ⟨s2, o2, a2, h1, h2, h3, h4, h5, h6, h7, h8, h9⟩
    · exact Or.inl h
    · refine Or.inr ⟨s2, o2, a2, h1, h2, h3, h4, h5, h6, h7, ih h8, ?_⟩
      rcases h9 with h | ⟨g1, o3, g2, g2', g3, g4, g5, g6, g7⟩ | ⟨g1, g2, g3, g4⟩ | ⟨g1, s3, o3, a3, g2, g3, g4, g5, g6, g7, g8, g9, g10, g11, g12, g13⟩
      · exact Or.inl h
      · exact Or.inr (Or.inl ⟨g1, o3, g2, g2', g3, g4, g5, g6, ih g7⟩)
      · exact Or.inr (Or.inr (Or.inl ⟨g1, g2, g3, ih g4⟩))
      · exact Or.inr (Or.inr (Or.inr ⟨g1, s3, o3, a3, g2, g3, g4, g5, g6, g7, g8, g9, g10, g11, ih g12, ih g13⟩))
theorem SEG.mn {f g s0 s1 o0 o1 a0 a1 : Nat} (h : SEG A p mc mm f s0 s1 o0 o1 a0 a1) : SEG A p mc mm (f + g) s0 s1 o0 o1 a0 a1 := by
  induction g with
  | zero => exact h
  | succ g ih => exact ih.mo
theorem SEG.app : ∀ {f g s0 s1 s2 o0 o1 o2 a0 a1 a2 : Nat}, SEG A p mc mm f s0 s1 o0 o1 a0 a1 → SEG A p mc mm g s1 s2 o1 o2 a1 a2 → SEG A p mc mm (f + g) s0 s2 o0 o2 a0 a2 := by
  intro f
  induction f with
  | zero =>
    intro g s0 s1 s2 o0 o1 o2 a0 a1 a2 h h'
    obtain ⟨rfl, rfl, rfl⟩ := h
    rw [Nat.zero_add]
    exact h'
  | succ f ih =>
    intro g s0 s1 s2 o0 o1 o2 a0 a1 a2 h h'
    rcases h with ⟨rfl, rfl, rfl⟩ | ⟨s3, o3, a3, h1, h2, h3, h4, h5, h6, h7, h8, h9⟩
    · rw [Nat.add_comm]
      exact h'.mn
    · have l := h'.le
      rw [show f + 1 + g = (f + g) + 1 by omega]
      refine Or.inr ⟨s3, o3, a3, h1, by omega, h3, by omega, h5, by omega, h7, ih h8 h', ?_⟩
      rcases h9 with h | ⟨g1, o3, g2, g2', g3, g4, g5, g6, g7⟩ | ⟨g1, g2, g3, g4⟩ | ⟨g1, s3, o3, a3, g2, g3, g4, g5, g6, g7, g8, g9, g10, g11, g12, g13⟩
      · exact Or.inl h
      · exact Or.inr (Or.inl ⟨g1, o3, g2, g2', g3, g4, g5, g6, g7.mn⟩)
      · exact Or.inr (Or.inr (Or.inl ⟨g1, g2, g3, g4.mn⟩))
      · exact Or.inr (Or.inr (Or.inr ⟨g1, s3, o3, a3, g2, g3, g4, g5, g6, g7, g8, g9, g10, g11, g12.mn, g13.mn⟩))
theorem BRH.fr {s o : Nat} {kc ko : Int} (h : BRH A p s o kc ko mc mm) (e1 : ∀ q, mc' (A + 20 + s) q = mc (A + 20 + s) q) (e3 : ∀ q, 1000 * p + 8 * o ≤ q → q < 1000 * p + 8 * o + 3 → mm' 403 q = mm 403 q) : BRH A p s o kc ko mc' mm' := by
  unfold BRH at h ⊢
  rw [e1, e1, e1, e3 _ (by omega) (by omega), e3 _ (by omega) (by omega), e3 _ (by omega) (by omega)]
  exact h
theorem SEG.fr : ∀ {f s0 s1 o0 o1 a0 a1 : Nat}, SEG A p mc mm f s0 s1 o0 o1 a0 a1 → (∀ t q, s0 ≤ t → t < s1 → mc' (A + 20 + t) q = mc (A + 20 + t) q) → mc A 13 ≤ mc' A 13 → mc A 14 ≤ mc' A 14 → mc A 15 ≤ mc' A 15 → mc A 10 ≤ mc' A 10 → (∀ q : Nat, (q : Int) < mc A 13 → mc' (A + 9) q = mc (A + 9) q) → (∀ q, 1000 * p + 8 * o0 ≤ q → q < 1000 * p + 8 * o1 → mm' 403 q = mm 403 q) → (∀ q : Nat, q < 12 * p + 12 → (q : Int) < 12 * p + mc A 14 → mm' 400 q = mm 400 q) → (∀ b q : Nat, b = 401 ∨ b = 402 → q < 8 * p + 8 → (q : Int) < 8 * p + mc A 13 → mm' b q = mm b q) → (∀ b q, b = 381 ∨ b = 382 → q < a1 → mm' b q = mm b q) → (∀ q : Nat, (q : Int) < 10 * p + mc A 10 → mm' 398 q = mm 398 q) → SEG A p mc' mm' f s0 s1 o0 o1 a0 a1 := by
  intro f
  induction f with
  | zero => intro s0 s1 o0 o1 a0 a1 h _ _ _ _ _ _ _ _ _ _ _; exact h
  | succ f ih =>
    intro s0 s1 o0 o1 a0 a1 h e1 e13 e14 e15 e10 e2 e3 e4 e5 e6 e7
    rcases h with h | ⟨s2, o2, a2, h1, h2, h3, h4, h5, h6, h7, h8, h9⟩
    · exact Or.inl h
    · have e1' : ∀ q, mc' (A + 20 + s0) q = mc (A + 20 + s0) q := fun q => e1 s0 q (by omega) (by omega)
      have l8 := h8.le
      refine Or.inr ⟨s2, o2, a2, h1, h2, h3, h4, h5, h6, by rw [e1']; exact h7, ih h8 (fun t q t1 t2 => e1 t q (by omega) t2) e13 e14 e15 e10 e2 (fun q q1 q2 => e3 q (by omega) q2) e4 e5 e6 e7, ?_⟩
      rcases h9 with ⟨g1, g2, g3⟩ | ⟨g1, o3, g2, g2', g3, g4, g5, g6, g7⟩ | ⟨g1, g2, g3, g4⟩ | ⟨g1, s3, o3, a3, g2, g3, g4, g5, g6, g7, g8, g9, g10, g11, g12, g13⟩
      · exact Or.inl ⟨g1, g2, g3.fr e1' e13 e14 e15 e10 e2 (fun q q1 q2 => e3 q (by omega) (by omega)) e4 e5 (fun b q hb hq => e6 b q hb (by omega)) e7⟩
      · refine Or.inr (Or.inl ⟨g1.fr e1' (fun q q1 q2 => e3 q (by omega) (by omega)), o3, g2, g2', by rw [e1']; exact g3, by rw [e3 _ (by omega) (by omega)]; exact g4, by rw [e3 _ (by omega) (by omega)]; exact g5, by rw [e3 _ (by omega) (by omega)]; exact g6, ?_⟩)
        exact ih g7 (fun t q t1 t2 => e1 t q (by omega) (by omega)) e13 e14 e15 e10 e2 (fun q q1 q2 => e3 q (by omega) (by omega)) e4 e5 (fun b q hb hq => e6 b q hb (by omega)) e7
      · refine Or.inr (Or.inr (Or.inl ⟨g1.fr e1' (fun q q1 q2 => e3 q (by omega) (by omega)), by rw [e1']; exact g2, by rw [e3 _ (by omega) (by omega)]; exact g3, ?_⟩))
        exact ih g4 (fun t q t1 t2 => e1 t q (by omega) (by omega)) e13 e14 e15 e10 e2 (fun q q1 q2 => e3 q (by omega) (by omega)) e4 e5 (fun b q hb hq => e6 b q hb (by omega)) e7
      · refine Or.inr (Or.inr (Or.inr ⟨g1.fr e1' (fun q q1 q2 => e3 q (by omega) (by omega)), s3, o3, a3, g2, g3, g4, g5, g6, g7, by rw [e1']; exact g8, by rw [e3 _ (by omega) (by omega)]; exact g9, by rw [e3 _ (by omega) (by omega)]; exact g10, by rw [e3 _ (by omega) (by omega)]; exact g11, ?_, ?_⟩))
        · exact ih g12 (fun t q t1 t2 => e1 t q (by omega) (by omega)) e13 e14 e15 e10 e2 (fun q q1 q2 => e3 q (by omega) (by omega)) e4 e5 (fun b q hb hq => e6 b q hb (by omega)) e7
        · exact ih g13 (fun t q t1 t2 => e1 t q (by omega) (by omega)) e13 e14 e15 e10 e2 (fun q q1 q2 => e3 q (by omega) (by omega)) e4 e5 (fun b q hb hq => e6 b q hb (by omega)) e7
end SG

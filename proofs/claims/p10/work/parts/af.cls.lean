/-! CLASSES AND THEIR FIELDS -/
def bt (x : Int) (f : Nat) : Prop := iAnd (iShr x f) 1 = 1
theorem bt_all : ((List.range 256).all (fun x => (List.range 8).all (fun f => decide (0 ≤ iOr (x : Int) (iShl 1 (f : Int)) ∧ iOr (x : Int) (iShl 1 (f : Int)) < 256) && (List.range 8).all (fun g => decide ((iAnd (iShr (iOr (x : Int) (iShl 1 (f : Int))) (g : Int)) 1 = 1) ↔ (iAnd (iShr (x : Int) (g : Int)) 1 = 1 ∨ g = f)))))) = true := by decide +kernel
theorem bt_or {x : Int} {f : Nat} (h0 : 0 ≤ x) (h1 : x < 256) (hf : f < 8) : (0 ≤ iOr x (iShl 1 f) ∧ iOr x (iShl 1 f) < 256) ∧ ∀ g, g < 8 → (bt (iOr x (iShl 1 f)) g ↔ (bt x g ∨ g = f)) := by
  have a1 := List.all_eq_true.mp bt_all x.toNat (List.mem_range.mpr (by omega))
  have a2 := List.all_eq_true.mp a1 f (List.mem_range.mpr hf)
  rw [Bool.and_eq_true] at a2
  have e : ((x.toNat : Nat) : Int) = x := by omega
  rw [e] at a2
  refine ⟨of_decide_eq_true a2.1, fun g hg => ?_⟩
  have a3 := of_decide_eq_true (List.all_eq_true.mp a2.2 g (List.mem_range.mpr hg))
  exact a3
theorem bt_0 {g : Nat} (hg : g < 8) : ¬ bt 0 g := by
  have : ∀ g : Fin 8, ¬ (iAnd (iShr 0 ((g : Nat) : Int)) 1 = 1) := by decide +kernel
  exact this ⟨g, hg⟩
section RC
variable (A p : Nat)
def rCl (mc mm : yM) : Prop := mc A 9 = mm 383 p ∧ 0 ≤ mc A 9 ∧ mc A 9 ≤ 6 ∧ ∀ k : Nat, (k : Int) < mc A 9 → Nm (mc (A + 1) k) (mm 391 (6 * p + k)) ∧ mc (A + 2) k = mm 392 (6 * p + k) ∧ -1 ≤ mc (A + 2) k ∧ mc (A + 2) k < k ∧ 0 ≤ mc (A + 3) k ∧ mc (A + 3) k < 256 ∧ ∀ f : Nat, f < 8 → (bt (mc (A + 3) k) f ↔ (mm 393 (48 * p + 8 * k + f) ≠ 0 ∨ (0 ≤ mc (A + 2) k ∧ bt (mc (A + 3) (mc (A + 2) k).toNat) f)))
def rFd (mc mm : yM) : Prop := mc A 11 = mm 385 p ∧ 0 ≤ mc A 11 ∧ mc A 11 ≤ 8 ∧ ∀ k : Nat, (k : Int) < mc A 11 → Nm (mc (A + 4) k) (mm 394 (8 * p + k))
end RC
section RC1
variable {A p : Nat} {mc mm mc' mm' : yM}
theorem rCl.fr (h : rCl A p mc mm) (e1 : mc' A 9 = mc A 9) (e2 : ∀ a q, a = A + 1 ∨ a = A + 2 ∨ a = A + 3 → mc' a q = mc a q) (e3 : ∀ a q, a = 383 ∨ a = 391 ∨ a = 392 ∨ a = 393 → mm' a q = mm a q) : rCl A p mc' mm' := by
  obtain ⟨h1, h2, h3, h4⟩ := h
  refine ⟨by rw [e1, e3 383 _ (by omega)]; exact h1, by omega, by omega, fun k hk => ?_⟩
  obtain ⟨g1, g2, g3, g4, g5, g6, g7⟩ := h4 k (by omega)
  rw [e2 (A + 1) _ (by omega), e2 (A + 2) _ (by omega), e2 (A + 3) k (by omega), e3 391 _ (by omega), e3 392 _ (by omega)]
  refine ⟨g1, g2, g3, g4, g5, g6, fun f hf => ?_⟩
  rw [e2 (A + 3) _ (by omega), e3 393 _ (by omega)]
  exact g7 f hf
theorem rFd.fr (h : rFd A p mc mm) (e1 : mc' A 11 = mc A 11) (e2 : ∀ q, mc' (A + 4) q = mc (A + 4) q) (e3 : ∀ a q, a = 385 ∨ a = 394 → mm' a q = mm a q) : rFd A p mc' mm' := by
  obtain ⟨h1, h2, h3, h4⟩ := h
  refine ⟨by rw [e1, e3 385 _ (by omega)]; exact h1, by omega, by omega, fun k hk => ?_⟩
  rw [e2, e3 394 _ (by omega)]
  exact h4 k (by omega)
/-- both find the same class -/
theorem rCl.find (h : rCl A p mc mm) (hp : p ≤ 1) {f g : Nat} {x t r r' : Int} (hx : Nm x t) (h1 : F41 f A x mc = some r) (h2 : F116 g p t mm = some r') : r = r' ∧ (r = -1 ∨ (0 ≤ r ∧ r < mc A 9)) := by
  obtain ⟨e1, e2, e3, e4⟩ := h
  have a := F41_r e2 e3 h1
  have b := F116_r hp (by omega) (by omega) h2
  rw [← e1] at b
  have := a.lt
  exact ⟨a.eq b (fun k hk => (e4 k hk).1.eq hx), by omega⟩
theorem rFd.find (h : rFd A p mc mm) (hp : p ≤ 1) {f g : Nat} {x t r r' : Int} (hx : Nm x t) (h1 : F46 f A x mc = some r) (h2 : F120 g p t mm = some r') : r = r' ∧ (r = -1 ∨ (0 ≤ r ∧ r < mc A 11)) := by
  obtain ⟨e1, e2, e3, e4⟩ := h
  have a := F46_r e2 e3 h1
  have b := F120_r hp (by omega) (by omega) h2
  rw [← e1] at b
  have := a.lt
  exact ⟨a.eq b (fun k hk => (e4 k hk).eq hx), by omega⟩
/-- does a class have a field? -/
theorem rCl.has (h : rCl A p mc mm) (hp : p ≤ 1) {g k f : Nat} {r : Int} (hk : (k : Int) < mc A 9) (hf : f < 8) (h2 : F121 g p k f mm = some r) : (r = 0 ∨ r = 1) ∧ (r = 1 ↔ bt (mc (A + 3) k) f) := by
  obtain ⟨e1, e2, e3, e4⟩ := h
  unfold F121 at h2
  rw [if_neg (by omega)] at h2
  have ix : ∀ l : Int, 0 ≤ l → l < 6 → (wr (wr (wr (48 * (p : Int)) + wr (8 * l)) + (f : Int))).toNat = 48 * p + 8 * l.toNat + f ∧ (wr (wr (6 * (p : Int)) + l)).toNat = 6 * p + l.toNat := by
    intro l l1 l2
    rw [wr_i (x := 48 * (p : Int)) (by omega) (by omega), wr_i (x := 8 * l) (by omega) (by omega), wr_i (x := 48 * (p : Int) + 8 * l) (by omega) (by omega), wr_i (x := 48 * (p : Int) + 8 * l + f) (by omega) (by omega), wr_i (x := 6 * (p : Int)) (by omega) (by omega), wr_i (x := 6 * (p : Int) + l) (by omega) (by omega)]
    omega
  have K : ∀ {r : Int ⊕ Int}, ploop (fun (l : Int) => B121_9 g p f l mm) g k = some r → (∃ l, r = .inl l ∧ ¬ bt (mc (A + 3) k) f) ∨ (r = .inr 1 ∧ bt (mc (A + 3) k) f) := by
    intro r hh
    obtain ⟨l', hI, hE⟩ := ploop_inv (fun l : Int => -1 ≤ l ∧ l < mc A 9 ∧ (bt (mc (A + 3) k) f ↔ (0 ≤ l ∧ bt (mc (A + 3) l.toNat) f))) (fun l l' hI hE => by
      obtain ⟨i1, i2, i3⟩ := hI
      simp only [B121_9] at hE
      rcases ite1 hE with ⟨q, hE⟩ | ⟨q, hE⟩
      · cases hE
      · obtain ⟨x1, x2⟩ := ix l (by omega) (by omega)
        rw [x1, x2] at hE
        have E := e4 l.toNat (by omega)
        rcases ite1 hE with ⟨q2, hE⟩ | ⟨q2, hE⟩
        · cases hE
          rw [← E.2.1]
          have E7 := E.2.2.2.2.2.2 f hf
          refine ⟨E.2.2.1, by have := E.2.2.2.1; omega, ?_⟩
          rw [i3]
          constructor
          · intro z
            rcases E7.mp z.2 with y | y
            · exact absurd q2 y
            · exact y
          · intro z
            exact ⟨by omega, E7.mpr (Or.inr z)⟩
        · cases hE) g k r ⟨by omega, hk, by simp⟩ hh
    obtain ⟨i1, i2, i3⟩ := hI
    simp only [B121_9] at hE
    rcases ite1 hE with ⟨q, hE⟩ | ⟨q, hE⟩
    · cases hE
      exact Or.inl ⟨l', rfl, fun z => by have := (i3.mp z).1; omega⟩
    · obtain ⟨x1, x2⟩ := ix l' (by omega) (by omega)
      rw [x1, x2] at hE
      rcases ite1 hE with ⟨q2, hE⟩ | ⟨q2, hE⟩
      · cases hE
      · cases hE
        have E := e4 l'.toNat (by omega)
        exact Or.inr ⟨rfl, i3.mpr ⟨by omega, (E.2.2.2.2.2.2 f hf).mpr (Or.inl q2)⟩⟩
  rcases bQ_e h2 with ⟨l, a1, h2⟩ | ⟨l, a1, h2⟩
  · rcases K a1 with ⟨l2, z, z2⟩ | ⟨z, z2⟩
    · cases h2
      exact ⟨Or.inl rfl, fun q => by omega, fun q => absurd q z2⟩
    · cases z
  · rcases K a1 with ⟨l2, z, z2⟩ | ⟨z, z2⟩
    · cases z
    · cases z
      cases h2
      exact ⟨Or.inr rfl, fun _ => z2, fun _ => rfl⟩
theorem F47_r {x1 : Int} {f : Nat} : F47 A x1 f mc = 0 ↔ ¬ bt (mc (A + 3) x1.toNat) f := by
  unfold F47
  rw [if_neg (by omega)]
  unfold bt
  split
  · rename_i q
    simp [q]
  · rename_i q
    simp [q]
end RC1

/-! METHOD HEADS -/
section MH
variable {tx : Int → Int} {len : Int} {n : Nat} {en tk tp tn : Nat → Int} {A p k res : Nat} {mc mm mc' mm' : yM}
theorem fPm.tok {m3 m4 : yM} (h : fPm p k mm m3) (h' : ∀ a q, ¬ (a = 376 ∧ 3 ≤ q ∧ q ≤ 7) → m4 a q = m3 a q) : fPm p k mm m4 := fun a q a1 a2 a3 a4 => (h' a q a1).trans (h a q a1 a2 a3 a4)
theorem rPa.fr {s : Nat} (hA : A = 256 ∨ A = 316) (h : rPa A p k res s mc mm) (e1 : ∀ a q, ¬ (a = 2 ∧ q = 2) → mc' a q = mc a q) (e2 : ∀ a q, ¬ (a = 376 ∧ 3 ≤ q ∧ q ≤ 7) → mm' a q = mm a q) : rPa A p k res s mc' mm' := by
  obtain ⟨h1, h2, h3, h4⟩ := h
  refine ⟨h1.fr hA (e1 _ _ (by omega)) (e1 _ _ (by omega)) (e1 _ _ (by omega)) (fun q => e1 _ _ (by omega)) (e2 _ _ (by omega)) (e2 _ _ (by omega)) (fun q => e2 _ _ (by omega)), ?_, ?_, ?_⟩
  · rw [e1 A 15 (by omega)]; exact h2
  · rw [e1 (A + 10 + k) 3 (by omega)]; exact h3
  · rw [e2 397 _ (by omega)]; exact h4
theorem params_r {f g i : Nat} {r : Int} (T : TOK tx len n en tk tp tn) (hl : len ≤ 320) (hA : A = 256 ∨ A = 316) (hp : p ≤ 1) (hC : CT tk tp tn i mc) (hM : MT tx len n en tk tp tn p i mm) (hP : rPa A p k res 0 mc mm) (h1 : F55 f A mc = some (r, mc')) (h2 : (tk i ≠ 11 ∧ mm' = mm) ∨ (tk i = 11 ∧ F125 g ((10 * p + k : Nat) : Int) mm = some mm')) : (r = 0 ∧ (tk i = 11 → Flt mc' mm') ∧ (tk i ≠ 11 → tk i ≠ 41 ∧ mc' = yup mc 2 4 (tp i)) ∧ FrC A mc mc' ∧ FrM p mm mm') ∨ (r = 1 ∧ ∃ i' s, s ≤ 2 ∧ i ≤ i' ∧ CT tk tp tn i' mc' ∧ MT tx len n en tk tp tn p i' mm' ∧ rPa A p k res s mc' mm' ∧ fPc A k mc mc' ∧ fPm p k mm mm') := by
  have hi := hM.le T hl
  have hk := hP.1.2.1
  unfold F55 at h1
  rw [hC.kind] at h1
  rcases h2 with ⟨t1, rfl⟩ | ⟨t1, h2⟩
  · by_cases t2 : tk i = 41
    · rw [if_pos t2] at h1
      cases h1
      exact Or.inr ⟨rfl, i, 0, by omega, by omega, hC, hM, hP, fun _ _ _ _ _ _ => rfl, fun _ _ _ _ _ _ => rfl⟩
    · rw [if_neg t2] at h1
      replace h1 := bI_e h1
      obtain ⟨r1, m1, e1, h1⟩ := h1
      unfold F54 at e1
      rw [hC.kind, if_neg t1] at e1
      unfold J54_23 at e1
      replace e1 := bI_e e1
      obtain ⟨r2, m2, e3, e1⟩ := e1
      unfold F43 at e3
      rw [hC.plc] at e3
      cases e3
      cases e1
      rw [if_pos rfl] at h1
      cases h1
      exact Or.inl ⟨rfl, fun z => absurd z t1, fun _ => ⟨t2, rfl⟩, FrC.rf.u2, FrM.rf⟩
  · rw [if_neg (by omega)] at h1
    replace h1 := bI_e h1
    obtain ⟨r1, m1, e1, h1⟩ := h1
    unfold F125 at h2
    rw [hM.pp hp] at h2
    -- the loop, its first turn
    have L : ∀ {rr : (Int × yM) ⊕ (Unit × yM)}, yloop (fun (l : Int) ml => B125_7 g ((10 * p + k : Nat) : Int) p l ml) g 1 mm = some rr → ∃ g' o, g = g' + 1 ∧ B125_7 g ((10 * p + k : Nat) : Int) p 1 mm = some o ∧ (∀ l m, o = .inl (l, m) → yloop (fun (l : Int) ml => B125_7 g ((10 * p + k : Nat) : Int) p l ml) g' l m = some rr) ∧ (∀ x, o = .inr x → rr = x) := by
      intro rr hh
      obtain ⟨g', hg⟩ : ∃ g', g = g' + 1 := by
        cases g with
        | zero => cases hh
        | succ g' => exact ⟨g', rfl⟩
      have hh' : yloop (fun (l : Int) ml => B125_7 g ((10 * p + k : Nat) : Int) p l ml) (g' + 1) 1 mm = some rr := by rw [← hg]; exact hh
      simp only [yloop] at hh'
      split at hh'
      · cases hh'
      · rename_i l' m' e
        exact ⟨g', _, hg, e, fun l m z => (by cases z; exact hh'), fun x z => (by cases z)⟩
      · rename_i x e
        cases hh'
        exact ⟨g', _, hg, e, fun l m z => (by cases z), fun y z => (by cases z; rfl)⟩
    have L2 : ∀ {g' : Nat} {m : yM} {rr : (Int × yM) ⊕ (Unit × yM)}, yloop (fun (l : Int) ml => B125_7 g ((10 * p + k : Nat) : Int) p l ml) g' 0 m = some rr → rr = .inl (0, m) := by
      intro g' m rr hh
      cases g' with
      | zero => cases hh
      | succ g' =>
        simp only [yloop, B125_7, if_true] at hh
        cases hh
        rfl
    have key : ∃ rr, yloop (fun (l : Int) ml => B125_7 g ((10 * p + k : Nat) : Int) p l ml) g 1 mm = some rr ∧ ((∃ l, rr = .inl (l, mm')) ∨ rr = .inr ((), mm')) := by
      rcases bL_e h2 with ⟨l, m2, a1, h2⟩ | ⟨l, m2, a1, h2⟩
      · cases h2
        exact ⟨_, a1, Or.inl ⟨l, rfl⟩⟩
      · cases h2
        exact ⟨_, a1, Or.inr rfl⟩
    clear h2
    obtain ⟨rr, k1, k2⟩ := key
    obtain ⟨g', o, hg, b1, b2, b3⟩ := L k1
    rcases par_r T hl hA hp hC hM hP (by omega) e1 b1 with ⟨rfl, m', ho, hF, fc, fm⟩ | ⟨rfl, fc, hC1, m3, fm, hM3, hP1, hh⟩
    · have hrr := b3 _ ho
      rw [if_pos rfl] at h1
      cases h1
      have : mm' = m' := by
        rcases k2 with ⟨l, z⟩ | z
        · rw [hrr] at z; cases z
        · rw [hrr] at z; cases z; rfl
      subst this
      exact Or.inl ⟨rfl, fun _ => hF, fun z => absurd t1 z, fc, fm⟩
    · rw [if_neg (by decide), hC1.kind] at h1
      rcases hh with ⟨-, t2, m4, ho, hM4, f4⟩ | ⟨t2, ho⟩
      · rw [if_pos t2] at h1
        replace h1 := bI_e h1
        obtain ⟨r2, m5, e2, h1⟩ := h1
        cases h1
        have hi1 := hM3.le T hl
        rw [hC1.1, wr_i (by omega) (by omega)] at e2
        have hC2 : CT tk tp tn (i + 1 + 1) (yup m1 2 2 (((i + 1 : Nat) : Int) + 1)) := hC1.at (by rw [yup_eq]; omega) (fun a q ha => yup_na (by omega))
        have hP2 : rPa A p k res 1 (yup m1 2 2 (((i + 1 : Nat) : Int) + 1)) m4 := hP1.fr hA (fun a q ha => yup_ne ha) f4
        have k3 := b2 _ _ ho
        -- the second turn
        obtain ⟨g2, hg2⟩ : ∃ g2, g' = g2 + 1 := by
          cases g' with
          | zero => cases k3
          | succ g2 => exact ⟨g2, rfl⟩
        rw [hg2] at k3
        simp only [yloop] at k3
        have fcc : fPc A k mc (yup m1 2 2 (((i + 1 : Nat) : Int) + 1)) := fun a q a1 a2 a3 a4 => by rw [yup_ne a1]; exact fc a q a1 a2 a3 a4
        have fmm : fPm p k mm m4 := fm.tok f4
        split at k3
        · cases k3
        · rename_i l' m' e
          rcases par_r T hl hA hp hC2 hM4 hP2 (by omega) e2 e with ⟨-, m'', ho2, -⟩ | ⟨rfl, fc2, hC3, m6, fm2, hM6, hP3, hh2⟩
          · cases ho2
          · rcases hh2 with ⟨z, -⟩ | ⟨-, ho2⟩
            · omega
            · cases ho2
              have hrr := L2 k3
              have : mm' = m' := by
                rcases k2 with ⟨l, z⟩ | z
                · rw [hrr] at z; cases z; rfl
                · rw [hrr] at z; cases z
              subst this
              exact Or.inr ⟨rfl, i + 1 + 1 + 1, 2, by omega, by omega, hC3, hM6, hP3, fcc.tr fc2, fmm.tr fm2⟩
        · rename_i x e
          cases k3
          rcases par_r T hl hA hp hC2 hM4 hP2 (by omega) e2 e with ⟨rfl, m'', ho2, hF, fc2, fm2⟩ | ⟨rfl, fc2, hC3, m6, fm2, hM6, hP3, hh2⟩
          · cases ho2
            have : mm' = m'' := by
              rcases k2 with ⟨l, z⟩ | z
              · cases z
              · cases z; rfl
            subst this
            exact Or.inl ⟨rfl, fun _ => hF, fun z => absurd t1 z, (fcc.fr hk).tr fc2, (fmm.fr hk).tr fm2⟩
          · rcases hh2 with ⟨z, -⟩ | ⟨-, ho2⟩
            · omega
            · cases ho2
      · rw [if_neg (fun z => t2 ⟨rfl, z⟩)] at h1
        cases h1
        have hrr := L2 (b2 _ _ ho)
        have : mm' = m3 := by
          rcases k2 with ⟨l, z⟩ | z
          · rw [hrr] at z; cases z; rfl
          · rw [hrr] at z; cases z
        subst this
        exact Or.inr ⟨rfl, i + 1, 1, by omega, by omega, hC1, hM3, hP1, fc, fm⟩
/-- a body that does not begin with its bracket -/
theorem F69_bad {f g i : Nat} {d r : Int} (hi : (i : Int) ≤ 400) (hC : CT tk tp tn i mc) (hd : 3 < d ∨ tk i ≠ 123) (h : F69 f A g d mc = some (r, mc')) : r = 0 ∧ mc' = yup mc 2 4 (tp i) := by
  cases g with
  | zero => cases h
  | succ g =>
    simp only [F69, G69] at h
    by_cases q : 3 < d
    · rw [if_pos q] at h
      replace h := bI_e h
      obtain ⟨r1, m1, e1, h⟩ := h
      unfold F43 at e1
      rw [hC.plc] at e1
      cases e1
      cases h
      exact ⟨rfl, rfl⟩
    · rw [if_neg q] at h
      replace h := bI_e h
      obtain ⟨r1, m1, e1, h⟩ := h
      rcases hC.take hi e1 with ⟨z, -⟩ | ⟨-, rfl, rfl⟩
      · rcases hd with hd | hd
        · exact absurd hd q
        · exact absurd z hd
      · have L : ∀ {rr : ((Int × Int) × yM) ⊕ (Int × yM)}, yloop (fun (l : Int × Int) ml => B69_19 f (F69 f A g) A d l.1 l.2 ml) f (0, 0) (yup mc 2 4 (tp i)) = some rr → rr = .inl ((0, 0), yup mc 2 4 (tp i)) := by
          intro rr hh
          cases f with
          | zero => cases hh
          | succ f =>
            simp only [yloop, B69_19] at hh
            rw [if_neg (by decide), if_pos (by decide)] at hh
            cases hh
            rfl
        rcases bL_e h with ⟨l, m2, a1, h⟩ | ⟨l, m2, a1, h⟩
        · have := L a1
          cases this
          unfold J69_180 at h
          rw [if_pos (by decide)] at h
          cases h
          exact ⟨rfl, rfl⟩
        · have := L a1
          cases this
end MH

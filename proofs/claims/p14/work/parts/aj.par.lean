section
/-! METHODS AND THEIR PARAMETERS -/
def rMe (A p : Nat) (mc mm : yM) : Prop := mc A 10 = mm 384 p ∧ 0 ≤ mc A 10 ∧ mc A 10 ≤ 10 ∧ ∀ k : Nat, (k : Int) < mc A 10 → Nm (mc (A + 10 + k) 0) (mm 395 (10 * p + k)) ∧ mc (A + 10 + k) 1 = mm 396 (10 * p + k) ∧ mc (A + 10 + k) 3 = mm 397 (10 * p + k) ∧ mc (A + 10 + k) 2 = mm 398 (10 * p + k) ∧ 0 ≤ mc (A + 10 + k) 1 ∧ mc (A + 10 + k) 1 < mc A 9 ∧ 0 ≤ mc (A + 10 + k) 3 ∧ mc (A + 10 + k) 3 ≤ 2 ∧ 0 ≤ mc (A + 10 + k) 2 ∧ mc (A + 10 + k) 2 + 2 + mc (A + 10 + k) 3 ≤ 48
section PA
variable {tx : Int → Int} {len : Int} {n : Nat} {en tk tp tn : Nat → Int} {A p k res : Nat} {mc mm mc' mm' : yM}
theorem rMe.fr (h : rMe A p mc mm) (e1 : mc' A 10 = mc A 10) (e9 : mc A 9 ≤ mc' A 9) (e2 : ∀ k q : Nat, k < 10 → q < 4 → mc' (A + 10 + k) q = mc (A + 10 + k) q) (e3 : ∀ a q, a = 384 ∨ (395 ≤ a ∧ a ≤ 398) → mm' a q = mm a q) : rMe A p mc' mm' := by
  obtain ⟨h1, h2, h3, h4⟩ := h
  refine ⟨by rw [e1, e3 384 _ (by omega)]; exact h1, by omega, by omega, fun k hk => ?_⟩
  obtain ⟨g1, g2, g3, g4, g5, g6, g7, g8, g9, g10⟩ := h4 k (by omega)
  rw [e2 k 0 (by omega) (by omega), e2 k 1 (by omega) (by omega), e2 k 2 (by omega) (by omega), e2 k 3 (by omega) (by omega), e3 395 _ (by omega), e3 396 _ (by omega), e3 397 _ (by omega), e3 398 _ (by omega)]
  exact ⟨g1, g2, g3, g4, g5, by omega, g7, g8, g9, by omega⟩
/-- what a parameter's reading changes -/
def fPc (A k : Nat) (mc mc' : yM) : Prop := ∀ a q, ¬ (a = 2 ∧ q = 2) → ¬ (a = A ∧ q = 15) → a ≠ A + 5 → ¬ (a = A + 10 + k ∧ q = 3) → mc' a q = mc a q
def fPm (p k : Nat) (mm mm' : yM) : Prop := ∀ a q, ¬ (a = 376 ∧ 3 ≤ q ∧ q ≤ 7) → ¬ (a = 389 ∧ q = p) → a ≠ 380 → ¬ (a = 397 ∧ q = 10 * p + k) → mm' a q = mm a q
theorem fPc.fr (h : fPc A k mc mc') (hk : k < 10) : FrC A mc mc' := fun a q h1 h2 => h a q (by omega) (by omega) (by omega) (by omega)
theorem fPm.fr (h : fPm p k mm mm') (hk : k < 10) : FrM p mm mm' := fun a q h1 => h a q (fun e => h1 (by unfold arM; omega)) (fun e => h1 (by unfold arM; omega)) (fun e => h1 (by unfold arM; omega)) (fun e => h1 (by unfold arM; omega))
theorem fPc.tr {m1 : yM} (h : fPc A k mc m1) (h' : fPc A k m1 mc') : fPc A k mc mc' := fun a q a1 a2 a3 a4 => (h' a q a1 a2 a3 a4).trans (h a q a1 a2 a3 a4)
theorem fPm.tr {m1 : yM} (h : fPm p k mm m1) (h' : fPm p k m1 mm') : fPm p k mm mm' := fun a q a1 a2 a3 a4 => (h' a q a1 a2 a3 a4).trans (h a q a1 a2 a3 a4)
/-- the state while parameters are read: s of them stand -/
def rPa (A p k res s : Nat) (mc mm : yM) : Prop := rV A p k res mc mm ∧ mc A 15 = (res : Int) + 2 + s ∧ mc (A + 10 + k) 3 = s ∧ mm 397 (10 * p + k) = s
theorem par_r {f g i s : Nat} {r : Int} {o : (Int × yM) ⊕ ((Int × yM) ⊕ (Unit × yM))} (T : TOK tx len n en tk tp tn) (hl : len ≤ 320) (hA : A = 256 ∨ A = 316) (hp : p ≤ 1) (hC : CT tk tp tn i mc) (hM : MT tx len n en tk tp tn p i mm) (hP : rPa A p k res s mc mm) (hs : s ≤ 1) (h1 : F54 f A mc = some (r, mc')) (h2 : B125_7 g ((10 * p + k : Nat) : Int) p 1 mm = some o) : (r = 0 ∧ ∃ m', o = .inr (.inr ((), m')) ∧ Flt mc' m' ∧ FrC A mc mc' ∧ FrM p mm m') ∨ (r = 1 ∧ fPc A k mc mc' ∧ CT tk tp tn (i + 1) mc' ∧ ∃ m3, fPm p k mm m3 ∧ MT tx len n en tk tp tn p (i + 1) m3 ∧ rPa A p k res (s + 1) mc' m3 ∧ ((s = 0 ∧ tk (i + 1) = 44 ∧ ∃ m4, o = .inl (1, m4) ∧ MT tx len n en tk tp tn p (i + 1 + 1) m4 ∧ (∀ a q, ¬ (a = 376 ∧ 3 ≤ q ∧ q ≤ 7) → m4 a q = m3 a q)) ∨ (¬ (s = 0 ∧ tk (i + 1) = 44) ∧ o = .inl (0, m3)))) := by
  have hi := hM.le T hl
  obtain ⟨hV, p15, p3, p397⟩ := hP
  have hV0 := hV
  obtain ⟨v1, v2, v3, v4, v5, v6, v7, v8, v9, v10, v11⟩ := hV
  unfold F54 at h1
  rw [hC.kind, hC.nam] at h1
  unfold B125_7 at h2
  rw [if_neg (by decide), hM.2.2.2.2.isName T, Int.toNat_natCast, Int.toNat_natCast, ← v5, p397, v4, wr_i (x := (res : Int) + 2) (by omega) (by omega), show ((res : Int) + 2).toNat = res + 2 by omega] at h2
  have badc : J54_23 f A mc = some (r, mc') → r = 0 ∧ mc' = yup mc 2 4 (tp i) := by
    intro b
    unfold J54_23 at b
    obtain ⟨r2, m2, e3, b⟩ := bI_e b
    unfold F43 at e3
    rw [hC.plc] at e3
    cases e3
    cases b
    exact ⟨rfl, rfl⟩
  have badm : J125_61 g ((10 * p + k : Nat) : Int) p 0 mm = some o → o = .inr (.inr ((), yup mm 376 8 (tp i))) := by
    intro b
    unfold J125_61 at b
    obtain ⟨s2, n2, e3, b⟩ := bI_e b
    obtain ⟨rfl, rfl⟩ := goOn0 T hl hM e3
    rw [if_pos rfl] at b
    cases b
    rfl
  by_cases t1 : tk i = 11
  case neg =>
    rw [if_neg t1] at h1
    rw [if_neg t1, if_pos rfl] at h2
    obtain ⟨rfl, rfl⟩ := badc h1
    have := badm h2
    exact Or.inl ⟨rfl, _, this, Flt.mk (hM.tp0 T), FrC.rf.u2, FrM.rf.w8⟩
  rw [if_pos t1] at h1
  rw [if_pos t1, if_neg (by decide)] at h2
  have hN := hM.2.2.2.2.name (by omega) T.2.2.1
  have hN0 := hN.pos
  replace h1 := bI_e h1
  obtain ⟨r1, m1, e1, h1⟩ := h1
  unfold F53 at e1
  replace e1 := bI_e e1
  obtain ⟨r0, m0, e0, e1⟩ := e1
  -- the name stands already, or there is no room
  have bad : m0 = mc → J125_61 g ((10 * p + k : Nat) : Int) p 0 mm = some o → (r = 0 ∧ ∃ m', o = .inr (.inr ((), m')) ∧ Flt mc' m' ∧ FrC A mc mc' ∧ FrM p mm m') := by
    intro b1 b2
    subst b1
    rw [if_pos rfl] at e1
    cases e1
    rw [if_pos rfl] at h1
    obtain ⟨rfl, rfl⟩ := badc h1
    have := badm b2
    exact ⟨rfl, _, this, Flt.mk (hM.tp0 T), FrC.rf.u2, FrM.rf.w8⟩
  rcases F52_r hA hV0 (by omega) e0 with ⟨x, rfl, y1, y2, y3, y4⟩ | ⟨y0, y⟩
  · left
    have hs1 : s = 1 := by omega
    have hx : x = res + 2 := by omega
    rw [if_neg (show ¬ (s : Int) = 0 by omega)] at h2
    have E := (v10 (res + 2) (by omega) (by omega)).eq hN
    rw [if_pos (E.mp (by rw [← hx]; exact y3))] at h2
    refine bad y4 ?_
    by_cases z : mc A 15 < 48
    · rw [if_pos z] at h2; exact h2
    · rw [if_neg z] at h2; exact h2
  rcases y with ⟨y1, -, y2⟩ | ⟨y1, -, rfl⟩
  · left
    rw [if_neg (by omega)] at h2
    exact bad y2 h2
  right
  rw [if_pos y1] at h2
  have h2' : J125_61 g ((10 * p + k : Nat) : Int) p 1 mm = some o := by
    by_cases z : (s : Int) = 0
    · rw [if_pos z] at h2; exact h2
    · rw [if_neg z] at h2
      have E := (v10 (res + 2) (by omega) (by omega)).eq hN
      rw [if_neg (fun w => y0 (res + 2) (by omega) (by omega) (E.mpr w))] at h2
      exact h2
  clear h2
  obtain ⟨y, hy⟩ : ∃ y : Nat, mc A 15 = y := ⟨(mc A 15).toNat, by omega⟩
  have c15 : yup (yup mc (A + 5) (mc A 15).toNat (tn i)) A 15 (mc A 15 + 1) A 15 = mc A 15 + 1 := yup_eq _ _ _ _
  have c10 : yup (yup mc (A + 5) (mc A 15).toNat (tn i)) A 15 (mc A 15 + 1) A 10 = (k : Int) + 1 := by rw [yup_nk (by decide), yup_na (by omega)]; exact v1
  rw [c15, if_neg (by omega), c10, wr_i (x := (k : Int) + 1 - 1) (by omega) (by omega), show ((k : Int) + 1 - 1).toNat = k by omega] at e1
  have ck3 : yup (yup mc (A + 5) (mc A 15).toNat (tn i)) A 15 (mc A 15 + 1) (A + 10 + k) 3 = s := by rw [yup_na (by omega), yup_na (by omega)]; exact p3
  rw [ck3, wr_i (x := (s : Int) + 1) (by omega) (by omega), hy, Int.toNat_natCast] at e1
  cases e1
  rw [if_neg (by decide)] at h1
  have c22 : yup (yup (yup mc (A + 5) y (tn i)) A 15 ((y : Int) + 1)) (A + 10 + k) 3 ((s : Int) + 1) 2 2 = i := by rw [yup_na (by omega), yup_na (by omega), yup_na (by omega)]; exact hC.1
  rw [c22, wr_i (by omega) (by omega)] at h1
  cases h1
  unfold J125_61 at h2'
  replace h2' := bI_e h2'
  obtain ⟨s2, n2, e3, h2'⟩ := h2'
  obtain ⟨rfl, hM1, f1⟩ := goOn1 T hl hM (by omega) e3
  rw [if_neg (by decide)] at h2'
  replace h2' := bI_e h2'
  obtain ⟨s3, n3, e4, h2'⟩ := h2'
  unfold F124 at e4
  have n389 : n2 389 p = y := by rw [f1 389 p (by omega), ← v5]; exact hy
  rw [hM1.pp hp, Int.toNat_natCast, n389, Int.toNat_natCast, wr_i (x := (y : Int) + 1) (by omega) (by omega), wr_i (by omega) (by omega)] at e4
  cases e4
  have n397 : yup (yup n2 380 y (mm 376 4)) 389 p ((y : Int) + 1) 397 (10 * p + k) = s := by rw [yup_na (by decide), yup_na (by decide), f1 397 _ (by omega)]; exact p397
  rw [Int.toNat_natCast, n397, wr_i (x := (s : Int) + 1) (by omega) (by omega)] at h2'
  obtain ⟨m3, hm3⟩ : ∃ m3, m3 = yup (yup (yup n2 380 y (mm 376 4)) 389 p ((y : Int) + 1)) 397 (10 * p + k) ((s : Int) + 1) := ⟨_, rfl⟩
  rw [← hm3] at h2'
  have g3 : ∀ a q, ¬ (a = 389 ∧ q = p) → a ≠ 380 → ¬ (a = 397 ∧ q = 10 * p + k) → m3 a q = n2 a q := fun a q b1 b2 b3 => by rw [hm3, yup_ne b3, yup_ne b1, yup_na b2]
  have hM3 : MT tx len n en tk tp tn p (i + 1) m3 := hM1.fr (fun q _ => g3 376 q (by omega) (by decide) (by omega)) (fun q => g3 377 q (by omega) (by decide) (by omega))
  have fc : fPc A k mc (yup (yup (yup (yup mc (A + 5) y (tn i)) A 15 ((y : Int) + 1)) (A + 10 + k) 3 ((s : Int) + 1)) 2 2 ((i : Int) + 1)) := fun a q b1 b2 b3 b4 => by
    rw [yup_ne b1, yup_ne b4, yup_ne b2, yup_na b3]
  have fm : fPm p k mm m3 := fun a q b1 b2 b3 b4 => by rw [g3 a q b2 b3 b4]; exact f1 a q b1
  refine ⟨rfl, fc, hC.at (by rw [yup_eq]; omega) (fun a q ha => fc a q (by omega) (by omega) (by omega) (by omega)), m3, fm, hM3, ⟨?_, ?_, ?_, ?_⟩, ?_⟩
  · have d15 : yup (yup (yup (yup mc (A + 5) y (tn i)) A 15 ((y : Int) + 1)) (A + 10 + k) 3 ((s : Int) + 1)) 2 2 ((i : Int) + 1) A 15 = (y : Int) + 1 := by rw [yup_na (by omega), yup_na (by omega), yup_eq]
    have c5 : ∀ q, yup (yup (yup (yup mc (A + 5) y (tn i)) A 15 ((y : Int) + 1)) (A + 10 + k) 3 ((s : Int) + 1)) 2 2 ((i : Int) + 1) (A + 5) q = if q = y then tn i else mc (A + 5) q := fun q => by
      rw [yup_na (by omega), yup_na (by omega), yup_na (by omega)]
      split
      · rename_i z; rw [z, yup_eq]
      · rename_i z; rw [yup_nk z]
    have d5 : ∀ q, m3 380 q = if q = y then mm 376 4 else mm 380 q := fun q => by
      rw [hm3, yup_na (by decide), yup_na (by decide)]
      split
      · rename_i z; rw [z, yup_eq]
      · rename_i z; rw [yup_nk z]; exact f1 380 q (by omega)
    refine ⟨by rw [fc A 10 (by omega) (by omega) (by omega) (by omega)]; exact v1, v2, by rw [fc (A + 10 + k) 2 (by omega) (by omega) (by omega) (by omega)]; exact v3, by rw [fm 376 14 (by omega) (by omega) (by omega) (by omega)]; exact v4, by rw [d15, hm3, yup_na (by decide), yup_eq], by rw [d15]; omega, by rw [d15]; omega, by rw [c5, if_neg (by omega)]; exact v8, by rw [c5, if_neg (by omega)]; exact v9, fun v vv1 vv2 => ?_, fun v w vv1 vv2 vv3 => ?_⟩
    · rw [d15] at vv2
      rw [c5, d5]
      by_cases z : v = y
      · rw [if_pos z, if_pos z]; exact hN
      · rw [if_neg z, if_neg z]; exact v10 v vv1 (by omega)
    · rw [d15] at vv3
      rw [c5, c5, if_neg (show ¬ v = y by omega)]
      by_cases z : w = y
      · rw [if_pos z]
        exact y0 v vv1 (by omega)
      · rw [if_neg z]
        exact v11 v w vv1 vv2 (by omega)
  · rw [yup_na (by omega), yup_na (by omega), yup_eq]; omega
  · rw [yup_na (by omega), yup_eq]; omega
  · rw [hm3, yup_eq]; omega
  · rw [hM3.2.2.2.2.mark T (by unfold sgn; omega)] at h2'
    by_cases z : s = 0
    · rw [if_pos (by omega)] at h2'
      by_cases z2 : tk (i + 1) = 44
      · left
        rw [if_pos z2, if_neg (by decide)] at h2'
        unfold J125_121 at h2'
        rw [if_neg (by decide)] at h2'
        replace h2' := bU_e h2'
        obtain ⟨n5, e5, h2'⟩ := h2'
        unfold J125_130 at h2'
        cases h2'
        obtain ⟨hM4, f4⟩ := hM3.next T hl (by omega) e5
        exact ⟨z, z2, n5, rfl, hM4, f4⟩
      · right
        rw [if_neg z2, if_pos rfl] at h2'
        unfold J125_120 J125_121 J125_130 at h2'
        rw [if_pos rfl] at h2'
        cases h2'
        exact ⟨fun w => z2 w.2, rfl⟩
    · right
      rw [if_neg (by omega)] at h2'
      unfold J125_120 J125_121 J125_130 at h2'
      rw [if_pos rfl] at h2'
      cases h2'
      exact ⟨fun w => z w.1, rfl⟩
end PA
end
section
/-! METHOD HEADS -/
section MH
variable {tx : Int → Int} {len : Int} {n : Nat} {en tk tp tn : Nat → Int} {A p k res : Nat} {mc mm mc' mm' : yM}
theorem fPm.tok {m3 m4 : yM} (h : fPm p k mm m3) (h' : ∀ a q, ¬ (a = 376 ∧ 3 ≤ q ∧ q ≤ 7) → m4 a q = m3 a q) : fPm p k mm m4 := fun a q a1 a2 a3 a4 => (h' a q a1).trans (h a q a1 a2 a3 a4)
theorem rPa.fr {s : Nat} (hA : A = 256 ∨ A = 316) (h : rPa A p k res s mc mm) (e1 : ∀ a q, ¬ (a = 2 ∧ q = 2) → mc' a q = mc a q) (e2 : ∀ a q, ¬ (a = 376 ∧ 3 ≤ q ∧ q ≤ 7) → mm' a q = mm a q) : rPa A p k res s mc' mm' := by
  obtain ⟨h1, h2, h3, h4⟩ := h
  refine ⟨h1.fr hA (e1 _ _ (by omega)) (e1 _ _ (by omega)) (e1 _ _ (by omega)) (fun q => e1 _ _ (by omega)) (e2 _ _ (by omega)) (e2 _ _ (by omega)) (fun q => e2 _ _ (by omega)), ?_, ?_, ?_⟩
  · rw [e1 A 15 (by omega)]; exact h2
  · rw [e1 (A + 10 + k) 3 (by omega)]; exact h3
  · rw [e2 397 _ (by omega)]; exact h4
theorem params_r {f g i : Nat} {r : Int} (T : TOK tx len n en tk tp tn) (hl : len ≤ 320) (hA : A = 256 ∨ A = 316) (hp : p ≤ 1) (hC : CT tk tp tn i mc) (hM : MT tx len n en tk tp tn p i mm) (hP : rPa A p k res 0 mc mm) (h1 : F55 f A mc = some (r, mc')) (h2 : (tk i ≠ 11 ∧ mm' = mm) ∨ (tk i = 11 ∧ F125 g ((10 * p + k : Nat) : Int) mm = some mm')) : (r = 0 ∧ (tk i = 11 → Flt mc' mm') ∧ (tk i ≠ 11 → tk i ≠ 41 ∧ mc' = yup mc 2 4 (tp i)) ∧ FrC A mc mc' ∧ FrM p mm mm') ∨ (r = 1 ∧ ∃ i' s, s ≤ 2 ∧ i ≤ i' ∧ CT tk tp tn i' mc' ∧ MT tx len n en tk tp tn p i' mm' ∧ rPa A p k res s mc' mm' ∧ fPc A k mc mc' ∧ fPm p k mm mm') := by
  have hi := hM.le T hl
  have hk := hP.1.2.1
  unfold F55 at h1
  rw [hC.kind] at h1
  rcases h2 with ⟨t1, rfl⟩ | ⟨t1, h2⟩
  · by_cases t2 : tk i = 41
    · rw [if_pos t2] at h1
      cases h1
      exact Or.inr ⟨rfl, i, 0, by omega, by omega, hC, hM, hP, fun _ _ _ _ _ _ => rfl, fun _ _ _ _ _ _ => rfl⟩
    · rw [if_neg t2] at h1
      replace h1 := bI_e h1
      obtain ⟨r1, m1, e1, h1⟩ := h1
      unfold F54 at e1
      rw [hC.kind, if_neg t1] at e1
      unfold J54_23 at e1
      replace e1 := bI_e e1
      obtain ⟨r2, m2, e3, e1⟩ := e1
      unfold F43 at e3
      rw [hC.plc] at e3
      cases e3
      cases e1
      rw [if_pos rfl] at h1
      cases h1
      exact Or.inl ⟨rfl, fun z => absurd z t1, fun _ => ⟨t2, rfl⟩, FrC.rf.u2, FrM.rf⟩
  · rw [if_neg (by omega)] at h1
    replace h1 := bI_e h1
    obtain ⟨r1, m1, e1, h1⟩ := h1
    unfold F125 at h2
    rw [hM.pp hp] at h2
    -- the loop, its first turn
    have L : ∀ {rr : (Int × yM) ⊕ (Unit × yM)}, yloop (fun (l : Int) ml => B125_7 g ((10 * p + k : Nat) : Int) p l ml) g 1 mm = some rr → ∃ g' o, g = g' + 1 ∧ B125_7 g ((10 * p + k : Nat) : Int) p 1 mm = some o ∧ (∀ l m, o = .inl (l, m) → yloop (fun (l : Int) ml => B125_7 g ((10 * p + k : Nat) : Int) p l ml) g' l m = some rr) ∧ (∀ x, o = .inr x → rr = x) := by
      intro rr hh
      obtain ⟨g', hg⟩ : ∃ g', g = g' + 1 := by
        cases g with
        | zero => cases hh
        | succ g' => exact ⟨g', rfl⟩
      have hh' : yloop (fun (l : Int) ml => B125_7 g ((10 * p + k : Nat) : Int) p l ml) (g' + 1) 1 mm = some rr := by rw [← hg]; exact hh
      simp only [yloop] at hh'
      split at hh'
      · cases hh'
      · rename_i l' m' e
        exact ⟨g', _, hg, e, fun l m z => (by cases z; exact hh'), fun x z => (by cases z)⟩
      · rename_i x e
        cases hh'
        exact ⟨g', _, hg, e, fun l m z => (by cases z), fun y z => (by cases z; rfl)⟩
    have L2 : ∀ {g' : Nat} {m : yM} {rr : (Int × yM) ⊕ (Unit × yM)}, yloop (fun (l : Int) ml => B125_7 g ((10 * p + k : Nat) : Int) p l ml) g' 0 m = some rr → rr = .inl (0, m) := by
      intro g' m rr hh
      cases g' with
      | zero => cases hh
      | succ g' =>
        simp only [yloop, B125_7, if_true] at hh
        cases hh
        rfl
    have key : ∃ rr, yloop (fun (l : Int) ml => B125_7 g ((10 * p + k : Nat) : Int) p l ml) g 1 mm = some rr ∧ ((∃ l, rr = .inl (l, mm')) ∨ rr = .inr ((), mm')) := by
      rcases bL_e h2 with ⟨l, m2, a1, h2⟩ | ⟨l, m2, a1, h2⟩
      · cases h2
        exact ⟨_, a1, Or.inl ⟨l, rfl⟩⟩
      · cases h2
        exact ⟨_, a1, Or.inr rfl⟩
    clear h2
    obtain ⟨rr, k1, k2⟩ := key
    obtain ⟨g', o, hg, b1, b2, b3⟩ := L k1
    rcases par_r T hl hA hp hC hM hP (by omega) e1 b1 with ⟨rfl, m', ho, hF, fc, fm⟩ | ⟨rfl, fc, hC1, m3, fm, hM3, hP1, hh⟩
    · have hrr := b3 _ ho
      rw [if_pos rfl] at h1
      cases h1
      have : mm' = m' := by
        rcases k2 with ⟨l, z⟩ | z
        · rw [hrr] at z; cases z
        · rw [hrr] at z; cases z; rfl
      subst this
      exact Or.inl ⟨rfl, fun _ => hF, fun z => absurd t1 z, fc, fm⟩
    · rw [if_neg (by decide), hC1.kind] at h1
      rcases hh with ⟨-, t2, m4, ho, hM4, f4⟩ | ⟨t2, ho⟩
      · rw [if_pos t2] at h1
        replace h1 := bI_e h1
        obtain ⟨r2, m5, e2, h1⟩ := h1
        cases h1
        have hi1 := hM3.le T hl
        rw [hC1.1, wr_i (by omega) (by omega)] at e2
        have hC2 : CT tk tp tn (i + 1 + 1) (yup m1 2 2 (((i + 1 : Nat) : Int) + 1)) := hC1.at (by rw [yup_eq]; omega) (fun a q ha => yup_na (by omega))
        have hP2 : rPa A p k res 1 (yup m1 2 2 (((i + 1 : Nat) : Int) + 1)) m4 := hP1.fr hA (fun a q ha => yup_ne ha) f4
        have k3 := b2 _ _ ho
        -- the second turn
        obtain ⟨g2, hg2⟩ : ∃ g2, g' = g2 + 1 := by
          cases g' with
          | zero => cases k3
          | succ g2 => exact ⟨g2, rfl⟩
        rw [hg2] at k3
        simp only [yloop] at k3
        have fcc : fPc A k mc (yup m1 2 2 (((i + 1 : Nat) : Int) + 1)) := fun a q a1 a2 a3 a4 => by rw [yup_ne a1]; exact fc a q a1 a2 a3 a4
        have fmm : fPm p k mm m4 := fm.tok f4
        split at k3
        · cases k3
        · rename_i l' m' e
          rcases par_r T hl hA hp hC2 hM4 hP2 (by omega) e2 e with ⟨-, m'', ho2, -⟩ | ⟨rfl, fc2, hC3, m6, fm2, hM6, hP3, hh2⟩
          · cases ho2
          · rcases hh2 with ⟨z, -⟩ | ⟨-, ho2⟩
            · omega
            · cases ho2
              have hrr := L2 k3
              have : mm' = m' := by
                rcases k2 with ⟨l, z⟩ | z
                · rw [hrr] at z; cases z; rfl
                · rw [hrr] at z; cases z
              subst this
              exact Or.inr ⟨rfl, i + 1 + 1 + 1, 2, by omega, by omega, hC3, hM6, hP3, fcc.tr fc2, fmm.tr fm2⟩
        · rename_i x e
          cases k3
          rcases par_r T hl hA hp hC2 hM4 hP2 (by omega) e2 e with ⟨rfl, m'', ho2, hF, fc2, fm2⟩ | ⟨rfl, fc2, hC3, m6, fm2, hM6, hP3, hh2⟩
          · cases ho2
            have : mm' = m'' := by
              rcases k2 with ⟨l, z⟩ | z
              · cases z
              · cases z; rfl
            subst this
            exact Or.inl ⟨rfl, fun _ => hF, fun z => absurd t1 z, (fcc.fr hk).tr fc2, (fmm.fr hk).tr fm2⟩
          · rcases hh2 with ⟨z, -⟩ | ⟨-, ho2⟩
            · omega
            · cases ho2
      · rw [if_neg (fun z => t2 ⟨rfl, z⟩)] at h1
        cases h1
        have hrr := L2 (b2 _ _ ho)
        have : mm' = m3 := by
          rcases k2 with ⟨l, z⟩ | z
          · rw [hrr] at z; cases z; rfl
          · rw [hrr] at z; cases z
        subst this
        exact Or.inr ⟨rfl, i + 1, 1, by omega, by omega, hC1, hM3, hP1, fc, fm⟩
/-- a body that does not begin with its bracket -/
theorem F69_bad {f g i : Nat} {d r : Int} (hi : (i : Int) ≤ 400) (hC : CT tk tp tn i mc) (hd : 3 < d ∨ tk i ≠ 123) (h : F69 f A g d mc = some (r, mc')) : r = 0 ∧ mc' = yup mc 2 4 (tp i) := by
  cases g with
  | zero => cases h
  | succ g =>
    simp only [F69, G69] at h
    by_cases q : 3 < d
    · rw [if_pos q] at h
      replace h := bI_e h
      obtain ⟨r1, m1, e1, h⟩ := h
      unfold F43 at e1
      rw [hC.plc] at e1
      cases e1
      cases h
      exact ⟨rfl, rfl⟩
    · rw [if_neg q] at h
      replace h := bI_e h
      obtain ⟨r1, m1, e1, h⟩ := h
      rcases hC.take hi e1 with ⟨z, -⟩ | ⟨-, rfl, rfl⟩
      · rcases hd with hd | hd
        · exact absurd hd q
        · exact absurd z hd
      · have L : ∀ {rr : ((Int × Int) × yM) ⊕ (Int × yM)}, yloop (fun (l : Int × Int) ml => B69_19 f (F69 f A g) A d l.1 l.2 ml) f (0, 0) (yup mc 2 4 (tp i)) = some rr → rr = .inl ((0, 0), yup mc 2 4 (tp i)) := by
          intro rr hh
          cases f with
          | zero => cases hh
          | succ f =>
            simp only [yloop, B69_19] at hh
            rw [if_neg (by decide), if_pos (by decide)] at hh
            cases hh
            rfl
        rcases bL_e h with ⟨l, m2, a1, h⟩ | ⟨l, m2, a1, h⟩
        · have := L a1
          cases this
          unfold J69_180 at h
          rw [if_pos (by decide)] at h
          cases h
          exact ⟨rfl, rfl⟩
        · have := L a1
          cases this
end MH
end

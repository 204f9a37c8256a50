section
/-! FIELDS -/
/-- no class has a field whose number is not given yet -/
def rFb (A : Nat) (mc : yM) : Prop := ∀ k : Nat, (k : Int) < mc A 9 → ∀ f : Nat, mc A 11 ≤ f → f < 8 → ¬ bt (mc (A + 3) k) f
section FD
variable {tx : Int → Int} {len : Int} {n : Nat} {en tk tp tn : Nat → Int} {A p : Nat} {mc mm mc' mm' : yM}
/-- a field more, of the newest class -/
theorem rCl_own {c x : Nat} {M M' : yM} (hr : rCl A p mc mm) (hc : mc A 9 = (c : Int) + 1) (hx : x < 8) (g1 : M A 9 = mc A 9) (g2 : ∀ a q, a = A + 1 ∨ a = A + 2 → M a q = mc a q) (g3 : ∀ k, k ≠ c → M (A + 3) k = mc (A + 3) k) (g4 : M (A + 3) c = iOr (mc (A + 3) c) (iShl 1 x)) (e1 : ∀ a q, a = 383 ∨ a = 391 ∨ a = 392 → M' a q = mm a q) (e2 : ∀ q, q ≠ 48 * p + 8 * c + x → M' 393 q = mm 393 q) (e3 : M' 393 (48 * p + 8 * c + x) = 1) : rCl A p M M' := by
  obtain ⟨r1, r2, r3, r4⟩ := hr
  refine ⟨by rw [g1, e1 383 _ (by omega)]; exact r1, by omega, by omega, fun k hk => ?_⟩
  obtain ⟨d1, d2, d3, d4, d5, d6, d7⟩ := r4 k (by omega)
  rw [g2 (A + 1) k (by omega), g2 (A + 2) k (by omega), e1 391 _ (by omega), e1 392 _ (by omega)]
  by_cases q : k = c
  · subst q
    obtain ⟨⟨o1, o2⟩, o3⟩ := bt_or d5 d6 hx
    rw [g4]
    refine ⟨d1, d2, d3, d4, o1, o2, fun f hf => ?_⟩
    rw [o3 f hf]
    have D := d7 f hf
    by_cases w : f = x
    · rw [w, e3]
      exact ⟨fun _ => Or.inl (by decide), fun _ => Or.inr rfl⟩
    · rw [e2 _ (by omega)]
      by_cases v : 0 ≤ mc (A + 2) k
      · rw [g3 _ (by omega)]
        exact ⟨fun z => by rcases z with z | z; exact D.mp z; exact absurd z w, fun z => Or.inl (D.mpr z)⟩
      · exact ⟨fun z => by rcases z with z | z; (rcases D.mp z with z | z; exact Or.inl z; omega); exact absurd z w, fun z => by rcases z with z | z; exact Or.inl (D.mpr (Or.inl z)); omega⟩
  · rw [g3 k q]
    refine ⟨d1, d2, d3, d4, d5, d6, fun f hf => ?_⟩
    rw [e2 _ (by omega)]
    have D := d7 f hf
    by_cases v : 0 ≤ mc (A + 2) k
    · rw [g3 _ (by omega)]
      exact D
    · exact ⟨fun z => by rcases D.mp z with z | z; exact Or.inl z; omega, fun z => by rcases z with z | z; exact D.mpr (Or.inl z); omega⟩
theorem field_r {f g i : Nat} {r : Int} (T : TOK tx len n en tk tp tn) (hl : len ≤ 320) (hA : A = 256 ∨ A = 316) (hp : p ≤ 1) (hC : CT tk tp tn i mc) (hM : MT tx len n en tk tp tn p i mm) (hi : tk i ≠ 0) (hr : rCl A p mc mm) (hf : rFd A p mc mm) (hb : rFb A mc) (h9 : 1 ≤ mc A 9) (h1 : F49 f A mc = some (r, mc')) (h2 : F122 g mm = some mm') : FrC A mc mc' ∧ FrM p mm mm' ∧ ((r = 0 ∧ Flt mc' mm') ∨ (r = 1 ∧ ∃ i', i < i' ∧ CT tk tp tn i' mc' ∧ MT tx len n en tk tp tn p i' mm' ∧ rCl A p mc' mm' ∧ rFd A p mc' mm' ∧ rFb A mc' ∧ mc' A 9 = mc A 9 ∧ (∀ a q, a ≠ 2 → ¬ (a = A ∧ q = 11) → a ≠ A + 3 → a ≠ A + 4 → mc' a q = mc a q) ∧ mc' 2 3 = mc 2 3 ∧ (∀ a q, ¬ (a = 376 ∧ 3 ≤ q ∧ q ≤ 7) → a ≠ 385 → a ≠ 393 → a ≠ 394 → mm' a q = mm a q))) := by
  have hi0 := hM.le T hl
  unfold F122 at h2
  replace h2 := bU_e h2
  obtain ⟨n1, e1, h2⟩ := h2
  obtain ⟨hM1, f1⟩ := hM.next T hl hi e1
  have hi1 := hM1.le T hl
  obtain ⟨c, hc⟩ : ∃ c : Nat, mc A 9 = (c : Int) + 1 := ⟨(mc A 9 - 1).toNat, by omega⟩
  have hr0 := hr
  have hf0 := hf
  obtain ⟨hr1, hr2, hr3, hr4⟩ := hr
  obtain ⟨hf1, hf2, hf3, hf4⟩ := hf
  obtain ⟨x, hx⟩ : ∃ x : Nat, mc A 11 = (x : Int) := ⟨(mc A 11).toNat, by omega⟩
  rw [hM.pp hp, Int.toNat_natCast, ← hr1, hc, wr_i (x := (c : Int) + 1 - 1) (by omega) (by omega), show (c : Int) + 1 - 1 = c by omega, hM1.2.2.2.2.isName T] at h2
  unfold F49 at h1
  rw [hC.1, wr_i (x := (i : Int) + 1) (by omega) (by omega)] at h1
  have hC1 : CT tk tp tn (i + 1) (yup mc 2 2 ((i : Int) + 1)) := hC.at (by rw [yup_eq]; omega) (fun a q ha => yup_na (by omega))
  rw [hC1.kind, hC1.nam] at h1
  have hrc1 : rCl A p (yup mc 2 2 ((i : Int) + 1)) n1 := hr0.fr (yup_na (by omega)) (fun a q ha => yup_na (by omega)) (fun a q ha => f1 a q (by omega))
  have hfd1 : rFd A p (yup mc 2 2 ((i : Int) + 1)) n1 := hf0.fr (yup_na (by omega)) (fun q => yup_na (by omega)) (fun a q ha => f1 a q (by omega))
  have badc : J49_33 f A (yup mc 2 2 ((i : Int) + 1)) = some (r, mc') → r = 0 ∧ mc' = yup (yup mc 2 2 ((i : Int) + 1)) 2 4 (tp (i + 1)) := by
    intro b
    unfold J49_33 at b
    obtain ⟨r2, m2, e3, b⟩ := bI_e b
    unfold F43 at e3
    rw [hC1.plc] at e3
    cases e3
    cases b
    exact ⟨rfl, rfl⟩
  have badm : ∀ {y : Int}, J122_76 g p c y 0 n1 = some mm' → mm' = yup n1 376 8 (tp (i + 1)) := by
    intro y b
    unfold J122_76 at b
    obtain ⟨s2, n2, e3, b⟩ := bI_e b
    obtain ⟨rfl, rfl⟩ := goOn0 T hl hM1 e3
    rw [if_pos rfl] at b
    cases b
    rfl
  have bad : J49_33 f A (yup mc 2 2 ((i : Int) + 1)) = some (r, mc') → ∀ {y : Int}, J122_76 g p c y 0 n1 = some mm' → FrC A mc mc' ∧ FrM p mm mm' ∧ (r = 0 ∧ Flt mc' mm') := by
    intro b1 y b2
    obtain ⟨rfl, rfl⟩ := badc b1
    have := badm b2
    subst this
    exact ⟨FrC.rf.u2.u2, (FrM.rf.tk f1).w8, rfl, Flt.mk (hM1.tp0 T)⟩
  by_cases t1 : tk (i + 1) = 11
  case neg =>
    rw [if_neg t1] at h1
    rw [if_neg t1, if_pos rfl] at h2
    unfold J122_38 at h2
    rw [hM1.2.2.2.2.isName T, if_neg t1, if_pos rfl] at h2
    obtain ⟨b1, b2, b3⟩ := bad h1 h2
    exact ⟨b1, b2, Or.inl b3⟩
  rw [if_pos t1] at h1
  rw [if_pos t1, if_neg (by decide)] at h2
  have hN1 := hM1.2.2.2.2.name (by omega) T.2.2.1
  replace h1 := bI_e h1
  obtain ⟨r2, m2, a1, h1⟩ := h1
  replace h2 := bP_e h2
  obtain ⟨fm, a2, h2⟩ := h2
  unfold F48 at a1
  replace a1 := bP_e a1
  obtain ⟨fc, a3, a1⟩ := a1
  obtain ⟨rfl, hfc⟩ := hfd1.find hp hN1 a3 a2
  have y9 : yup mc 2 2 ((i : Int) + 1) A 9 = (c : Int) + 1 := by rw [yup_na (by omega)]; exact hc
  have y11 : yup mc 2 2 ((i : Int) + 1) A 11 = x := by rw [yup_na (by omega)]; exact hx
  rw [y9, y11, wr_i (x := (c : Int) + 1 - 1) (by omega) (by omega), show (c : Int) + 1 - 1 = c by omega, wr_i (x := (x : Int) + 1) (by omega) (by omega)] at a1
  rw [y11] at hfc
  unfold J122_38 at h2
  rw [hM1.2.2.2.2.isName T, if_pos t1, if_neg (by decide)] at h2
  replace h2 := bP_e h2
  obtain ⟨hm, a4, h2⟩ := h2
  have n385 : n1 385 p = x := by rw [f1 385 p (by omega), ← hf1]; exact hx
  rw [Int.toNat_natCast, n385] at h2
  -- the end of both: the field y
  have fin : ∀ (M nX : yM) (y : Nat), y < 8 → CT tk tp tn (i + 1) M → MT tx len n en tk tp tn p (i + 1 + 1) nX → M A 9 = (c : Int) + 1 → (∀ a q, ¬ (a = 2 ∧ q = 2) → ¬ (a = A ∧ q = 11) → a ≠ A + 4 → M a q = mc a q) → (∀ a q, ¬ (a = 376 ∧ 3 ≤ q ∧ q ≤ 7) → a ≠ 385 → a ≠ 394 → nX a q = mm a q) → FrM p mm nX → rFd A p M nX → (y : Int) < M A 11 → mc A 11 ≤ M A 11 → r2 = 1 → m2 = yup M (A + 3) c (iOr (M (A + 3) c) (iShl 1 y)) → J122_128 g p c y nX = some mm' → FrC A mc mc' ∧ FrM p mm mm' ∧ ((r = 0 ∧ Flt mc' mm') ∨ (r = 1 ∧ ∃ i', i < i' ∧ CT tk tp tn i' mc' ∧ MT tx len n en tk tp tn p i' mm' ∧ rCl A p mc' mm' ∧ rFd A p mc' mm' ∧ rFb A mc' ∧ mc' A 9 = mc A 9 ∧ (∀ a q, a ≠ 2 → ¬ (a = A ∧ q = 11) → a ≠ A + 3 → a ≠ A + 4 → mc' a q = mc a q) ∧ mc' 2 3 = mc 2 3 ∧ (∀ a q, ¬ (a = 376 ∧ 3 ≤ q ∧ q ≤ 7) → a ≠ 385 → a ≠ 393 → a ≠ 394 → mm' a q = mm a q))) := by
    intro M nX y hy hCM hMX u1 u2 u3 u4 u5 u6 u7 k1 k2 k3
    have hj := hMX.le T hl
    subst k1 k2
    rw [if_neg (by decide)] at h1
    replace h1 := bI_e h1
    obtain ⟨r5, m5, e5, h1⟩ := h1
    cases h1
    have v22 : yup M (A + 3) c (iOr (M (A + 3) c) (iShl 1 y)) 2 2 = ((i + 1 : Nat) : Int) := by rw [yup_na (by omega)]; exact hCM.1
    rw [v22, wr_i (by omega) (by omega)] at e5
    have hC2 : CT tk tp tn (i + 1 + 1) (yup (yup M (A + 3) c (iOr (M (A + 3) c) (iShl 1 y))) 2 2 (((i + 1 : Nat) : Int) + 1)) := hCM.at (by rw [yup_eq]; omega) (fun a q ha => by rw [yup_na (by omega), yup_na (by omega)])
    unfold J122_128 at k3
    have ix : (wr (wr (wr (48 * (p : Int)) + wr (8 * (c : Int))) + (y : Int))).toNat = 48 * p + 8 * c + y := by
      rw [wr_i (x := 48 * (p : Int)) (by omega) (by omega), wr_i (x := 8 * (c : Int)) (by omega) (by omega), wr_i (x := 48 * (p : Int) + 8 * c) (by omega) (by omega), wr_i (by omega) (by omega)]
      omega
    rw [ix] at k3
    replace k3 := bI_e k3
    obtain ⟨s6, n6, e6, k3⟩ := k3
    have hm6 : mm' = n6 := by
      rcases ite1 k3 with ⟨-, k3⟩ | ⟨-, k3⟩ <;> (cases k3; rfl)
    subst hm6
    have hMX2 : MT tx len n en tk tp tn p (i + 1 + 1) (yup nX 393 (48 * p + 8 * c + y) 1) := hMX.fr (fun q _ => yup_na (by decide)) (fun q => yup_na (by decide))
    have FC : FrC A mc (yup M (A + 3) c (iOr (M (A + 3) c) (iShl 1 y))) := fun a q b1 b2 => by
      rw [yup_na (by omega)]
      exact u2 a q (by omega) (by omega) (by omega)
    have FX : FrM p mm (yup nX 393 (48 * p + 8 * c + y) 1) := u4.up (by unfold arM; omega)
    have R : rCl A p (yup M (A + 3) c (iOr (M (A + 3) c) (iShl 1 y))) (yup nX 393 (48 * p + 8 * c + y) 1) := rCl_own hr0 hc hy (by rw [yup_na (by omega), u1, hc]) (fun a q ha => by rw [yup_na (by omega)]; exact u2 a q (by omega) (by omega) (by omega)) (fun k hk => by rw [yup_nk hk]; exact u2 _ _ (by omega) (by omega) (by omega)) (by rw [yup_eq, u2 (A + 3) c (by omega) (by omega) (by omega)]) (fun a q ha => by rw [yup_na (by omega)]; exact u3 a q (by omega) (by omega) (by omega)) (fun q hq => by rw [yup_nk hq]; exact u3 _ _ (by omega) (by decide) (by decide)) (yup_eq _ _ _ _)
    rcases hC2.take (by omega) e5 with ⟨z1, rfl, rfl⟩ | ⟨z1, rfl, rfl⟩
    · rcases hMX2.mark T hl (by unfold sgn; omega) e6 with ⟨-, -, y1, y2⟩ | ⟨y0, -⟩
      · refine ⟨FC.u2.u2, FX.tk y2, Or.inr ⟨rfl, i + 1 + 1 + 1, by omega, hC2.at (by rw [yup_eq]; omega) (fun a q ha => yup_na (by omega)), y1, ?_, ?_, ?_, ?_, ?_, ?_, ?_⟩⟩
        · exact R.fr (by rw [yup_na (by omega), yup_na (by omega)]) (fun a q ha => by rw [yup_na (by omega), yup_na (by omega)]) (fun a q ha => y2 a q (by omega))
        · exact u5.fr (by rw [yup_na (by omega), yup_na (by omega), yup_na (by omega)]) (fun q => by rw [yup_na (by omega), yup_na (by omega), yup_na (by omega)]) (fun a q ha => by rw [y2 a q (by omega), yup_na (by omega)])
        · intro k hk f' hf1' hf2'
          rw [yup_na (by omega), yup_na (by omega), yup_na (by omega), u1] at hk
          rw [yup_na (by omega), yup_na (by omega), yup_na (by omega)] at hf1'
          rw [yup_na (by omega), yup_na (by omega)]
          by_cases w : k = c
          · rw [w, yup_eq, u2 (A + 3) c (by omega) (by omega) (by omega)]
            have D := hr4 c (by omega)
            rw [(bt_or D.2.2.2.2.1 D.2.2.2.2.2.1 hy).2 f' hf2']
            intro v
            rcases v with v | v
            · exact hb c (by omega) f' (by omega) hf2' v
            · omega
          · rw [yup_nk w, u2 (A + 3) k (by omega) (by omega) (by omega)]
            exact hb k (by omega) f' (by omega) hf2'
        · rw [yup_na (by omega), yup_na (by omega), yup_na (by omega), u1, hc]
        · intro a q b1 b2 b3 b4
          rw [yup_na b1, yup_na b1, yup_na b3]
          exact u2 a q (by omega) b2 b4
        · rw [yup_nk (by decide), yup_nk (by decide), yup_na (by omega)]
          exact u2 2 3 (by omega) (by omega) (by omega)
        · intro a q b1 b2 b3 b4
          rw [y2 a q b1, yup_na b3]
          exact u3 a q b1 b2 b4
      · exact absurd z1 y0
    · rcases hMX2.mark T hl (by unfold sgn; omega) e6 with ⟨y0, -⟩ | ⟨-, -, rfl⟩
      · exact absurd y0 z1
      · exact ⟨FC.u2.u2, FX.w8, Or.inl ⟨rfl, Flt.mk (hMX2.tp0 T)⟩⟩
  by_cases t2 : fc = -1
  · rw [if_pos t2] at a1
    subst t2
    unfold F121 at a4
    rw [if_pos (by decide)] at a4
    cases a4
    rw [if_pos rfl, if_pos (by decide)] at h2
    by_cases t3 : x = 8
    · rw [if_pos (by omega)] at a1
      cases a1
      rw [if_pos rfl] at h1
      rw [if_neg (by omega)] at h2
      obtain ⟨b1, b2, b3⟩ := bad h1 h2
      exact ⟨b1, b2, Or.inl b3⟩
    · rw [if_neg (by omega)] at a1
      rw [if_pos (by omega)] at h2
      unfold J122_71 J122_76 at h2
      replace h2 := bI_e h2
      obtain ⟨s2, n2, e3, h2⟩ := h2
      obtain ⟨rfl, hM2, f2⟩ := goOn1 T hl hM1 (by omega) e3
      rw [if_neg (by decide), if_pos (by decide), Int.toNat_natCast] at h2
      have f12 : ∀ a q, ¬ (a = 376 ∧ 3 ≤ q ∧ q ≤ 7) → n2 a q = mm a q := fun a q ha => (f2 a q ha).trans (f1 a q ha)
      have n2385 : n2 385 p = x := by rw [f12 385 p (by omega), ← hf1]; exact hx
      have ix8 : (wr (wr (8 * (p : Int)) + (x : Int))).toNat = 8 * p + x := by
        rw [wr_i (x := 8 * (p : Int)) (by omega) (by omega), wr_i (by omega) (by omega)]
        omega
      rw [n2385, ix8, wr_i (x := (x : Int) + 1) (by omega) (by omega)] at h2
      unfold J48_54 at a1
      rw [Int.toNat_natCast, Int.toNat_natCast] at a1
      have b47 : F47 A c x (yup (yup (yup mc 2 2 ((i : Int) + 1)) (A + 4) x (tn (i + 1))) A 11 ((x : Int) + 1)) = 0 := by
        rw [F47_r, Int.toNat_natCast, yup_na (by omega), yup_na (by omega), yup_na (by omega)]
        exact hb c (by omega) x (by omega) (by omega)
      rw [if_pos b47] at a1
      cases a1
      refine fin (yup (yup (yup mc 2 2 ((i : Int) + 1)) (A + 4) x (tn (i + 1))) A 11 ((x : Int) + 1)) _ x (by omega) ?_ (hM2.fr (fun q _ => by rw [yup_na (by decide), yup_na (by decide)]) (fun q => by rw [yup_na (by decide), yup_na (by decide)])) ?_ ?_ ?_ ?_ ?_ ?_ ?_ rfl rfl h2
      · exact hC1.at (by rw [yup_na (by omega), yup_na (by omega)]; exact hC1.1) (fun a q ha => by rw [yup_na (by omega), yup_na (by omega)])
      · rw [yup_nk (by decide), yup_na (by omega)]; exact y9
      · intro a q b1 b2 b3
        rw [yup_ne b2, yup_na b3, yup_ne b1]
      · intro a q b1 b2 b3
        rw [yup_na b2, yup_na b3]
        exact f12 a q b1
      · exact ((FrM.rf.tk f12).up (by unfold arM; omega)).up (by unfold arM; omega)
      · refine ⟨by rw [yup_eq, yup_eq], by rw [yup_eq]; omega, by rw [yup_eq]; omega, fun k hk => ?_⟩
        rw [yup_eq] at hk
        by_cases w : k = x
        · rw [w, yup_na (by omega), yup_eq, yup_na (by omega), yup_eq]
          exact hN1
        · rw [yup_na (by omega), yup_nk (by omega), yup_na (by omega), yup_na (by omega), yup_nk (by omega), f12 394 _ (by omega)]
          exact hf4 k (by omega)
      · rw [yup_eq]; omega
      · rw [yup_eq]; omega
  · rw [if_neg t2] at a1
    obtain ⟨y, rfl⟩ : ∃ y : Nat, fc = y := ⟨fc.toNat, by omega⟩
    have H := hrc1.has hp (k := c) (f := y) (by rw [y9]; omega) (by omega) a4
    unfold J48_54 at a1
    have b47 : F47 A c y (yup mc 2 2 ((i : Int) + 1)) = 0 ↔ ¬ bt (yup mc 2 2 ((i : Int) + 1) (A + 3) c) y := by
      rw [F47_r, Int.toNat_natCast]
    by_cases t3 : bt (yup mc 2 2 ((i : Int) + 1) (A + 3) c) y
    · rw [if_neg (fun w => b47.mp w t3)] at a1
      cases a1
      rw [if_pos rfl] at h1
      rw [if_neg (by have := H.2.mpr t3; omega)] at h2
      obtain ⟨b1, b2, b3⟩ := bad h1 h2
      exact ⟨b1, b2, Or.inl b3⟩
    · rw [if_pos (b47.mpr t3)] at a1
      cases a1
      have hm0 : hm = 0 := by
        rcases H.1 with w | w
        · exact w
        · exact absurd (H.2.mp w) t3
      rw [if_pos hm0, if_neg (by omega)] at h2
      unfold J122_71 J122_76 at h2
      replace h2 := bI_e h2
      obtain ⟨s2, n2, e3, h2⟩ := h2
      obtain ⟨rfl, hM2, f2⟩ := goOn1 T hl hM1 (by omega) e3
      rw [if_neg (by decide), if_neg (by omega)] at h2
      have f12 : ∀ a q, ¬ (a = 376 ∧ 3 ≤ q ∧ q ≤ 7) → n2 a q = mm a q := fun a q ha => (f2 a q ha).trans (f1 a q ha)
      refine fin (yup mc 2 2 ((i : Int) + 1)) n2 y (by omega) hC1 hM2 y9 (fun a q b1 b2 b3 => yup_ne b1) (fun a q b1 b2 b3 => f12 a q b1) (FrM.rf.tk f12) (hf0.fr (yup_na (by omega)) (fun q => yup_na (by omega)) (fun a q ha => f12 a q (by omega))) (by rw [y11]; omega) (by rw [y11]; omega) rfl ?_ h2
      rw [Int.toNat_natCast]
end FD
end
section
/-! VARIABLES of the method k, whose first one is res -/
def rV (A p k res : Nat) (mc mm : yM) : Prop := mc A 10 = (k : Int) + 1 ∧ k < 10 ∧ mc (A + 10 + k) 2 = res ∧ mm 376 14 = res ∧ mc A 15 = mm 389 p ∧ (res : Int) + 2 ≤ mc A 15 ∧ mc A 15 ≤ 48 ∧ mc (A + 5) res = 0 ∧ mc (A + 5) (res + 1) = 0 ∧ (∀ v : Nat, res + 2 ≤ v → (v : Int) < mc A 15 → Nm (mc (A + 5) v) (mm 380 v)) ∧ (∀ v w : Nat, res + 2 ≤ v → v < w → (w : Int) < mc A 15 → mc (A + 5) v ≠ mc (A + 5) w)
/-- what a variable's reading changes: of the class, of the model -/
def fVc (A : Nat) (mc mc' : yM) : Prop := ∀ a q, ¬ (a = 2 ∧ q = 2) → ¬ (a = A ∧ q = 15) → a ≠ A + 5 → mc' a q = mc a q
def fVm (p : Nat) (mm mm' : yM) : Prop := ∀ a q, ¬ (a = 376 ∧ 3 ≤ q ∧ q ≤ 7) → ¬ (a = 389 ∧ q = p) → a ≠ 380 → mm' a q = mm a q
section VA
variable {tx : Int → Int} {len : Int} {n : Nat} {en tk tp tn : Nat → Int} {A p k res : Nat} {mc mm mc' mm' : yM}
theorem fVc.fr (h : fVc A mc mc') : FrC A mc mc' := fun a q h1 h2 => h a q (by omega) (by omega) (by omega)
theorem fVm.fr (h : fVm p mm mm') : FrM p mm mm' := fun a q h1 => h a q (fun e => h1 (by unfold arM; omega)) (fun e => h1 (by unfold arM; omega)) (fun e => h1 (by unfold arM; omega))
theorem rV.fr (h : rV A p k res mc mm) (hA : A = 256 ∨ A = 316) (e1 : mc' A 10 = mc A 10) (e2 : mc' A 15 = mc A 15) (e3 : mc' (A + 10 + k) 2 = mc (A + 10 + k) 2) (e4 : ∀ q, mc' (A + 5) q = mc (A + 5) q) (e5 : mm' 376 14 = mm 376 14) (e6 : mm' 389 p = mm 389 p) (e7 : ∀ q, mm' 380 q = mm 380 q) : rV A p k res mc' mm' := by
  obtain ⟨h1, h2, h3, h4, h5, h6, h7, h8, h9, h10, h11⟩ := h
  refine ⟨by omega, h2, by omega, by omega, by omega, by omega, by omega, by rw [e4]; exact h8, by rw [e4]; exact h9, fun v v1 v2 => ?_, fun v w v1 v2 v3 => ?_⟩
  · rw [e4, e7]
    exact h10 v v1 (by omega)
  · rw [e4, e4]
    exact h11 v w v1 v2 (by omega)
theorem F52_r {f : Nat} {x r : Int} (hA : A = 256 ∨ A = 316) (hV : rV A p k res mc mm) (hx : x ≠ 0) (h : F52 f A x mc = some (r, mc')) : (∃ v : Nat, r = v ∧ res + 2 ≤ v ∧ (v : Int) < mc A 15 ∧ mc (A + 5) v = x ∧ mc' = mc) ∨ ((∀ v : Nat, res + 2 ≤ v → (v : Int) < mc A 15 → mc (A + 5) v ≠ x) ∧ ((mc A 15 = 48 ∧ r = -1 ∧ mc' = mc) ∨ (mc A 15 < 48 ∧ r = mc A 15 ∧ mc' = yup (yup mc (A + 5) (mc A 15).toNat x) A 15 (mc A 15 + 1)))) := by
  obtain ⟨h1, h2, h3, h4, h5, h6, h7, h8, h9, h10, h11⟩ := hV
  unfold F52 at h
  rw [h1, wr_i (x := (k : Int) + 1 - 1) (by omega) (by omega), show ((k : Int) + 1 - 1).toNat = k by omega, h3] at h
  have K : ∀ {r : (Int × yM) ⊕ (Int × yM)}, yloop (fun (l : Int) ml => B52_15 f A x l ml) f (res : Int) mc = some r → (∃ v : Nat, r = .inr ((v : Int), mc) ∧ res + 2 ≤ v ∧ (v : Int) < mc A 15 ∧ mc (A + 5) v = x) ∨ (∃ l, r = .inl (l, mc) ∧ ∀ v : Nat, res + 2 ≤ v → (v : Int) < mc A 15 → mc (A + 5) v ≠ x) := by
    intro r hh
    obtain ⟨l', m1, hI, hE⟩ := yloop_inv (fun (l : Int) m1 => m1 = mc ∧ (res : Int) ≤ l ∧ l ≤ mc A 15 ∧ ∀ v : Nat, res ≤ v → (v : Int) < l → mc (A + 5) v ≠ x) (fun l m1 l' m2 hI hE => by
      obtain ⟨rfl, i1, i2, i3⟩ := hI
      simp only [B52_15] at hE
      rcases ite1 hE with ⟨q, hE⟩ | ⟨q, hE⟩
      · rcases ite1 hE with ⟨q2, hE⟩ | ⟨q2, hE⟩
        · cases hE
        · cases hE
          rw [wr_i (by omega) (by omega)]
          refine ⟨rfl, by omega, by omega, fun v v1 v2 => ?_⟩
          by_cases z : v = l.toNat
          · rw [z]; exact q2
          · exact i3 v v1 (by omega)
      · cases hE) f (res : Int) mc r ⟨rfl, by omega, by omega, fun v v1 v2 => by omega⟩ hh
    obtain ⟨rfl, i1, i2, i3⟩ := hI
    simp only [B52_15] at hE
    rcases ite1 hE with ⟨q, hE⟩ | ⟨q, hE⟩
    · rcases ite1 hE with ⟨q2, hE⟩ | ⟨q2, hE⟩
      · cases hE
        refine Or.inl ⟨l'.toNat, by rw [show ((l'.toNat : Nat) : Int) = l' by omega], ?_, by omega, q2⟩
        by_cases z : l'.toNat = res
        · rw [z, h8] at q2; exact absurd q2.symm hx
        · by_cases z2 : l'.toNat = res + 1
          · rw [z2, h9] at q2; exact absurd q2.symm hx
          · omega
      · cases hE
    · cases hE
      exact Or.inr ⟨l', rfl, fun v v1 v2 => i3 v (by omega) (by omega)⟩
  rcases bL_e h with ⟨l, m1, a1, h⟩ | ⟨r1, m1, a1, h⟩
  · rcases K a1 with ⟨v, z, -⟩ | ⟨l2, z, z2⟩
    · cases z
    · cases z
      refine Or.inr ⟨z2, ?_⟩
      rcases ite1 h with ⟨q, h⟩ | ⟨q, h⟩
      · cases h
        exact Or.inl ⟨q, rfl, rfl⟩
      · cases h
        rw [wr_i (x := mc A 15 + 1) (by omega) (by omega), wr_i (by omega) (by omega)]
        exact Or.inr ⟨by omega, by omega, rfl⟩
  · rcases K a1 with ⟨v, z, z1, z2, z3⟩ | ⟨l2, z, z2⟩
    · cases z
      cases h
      exact Or.inl ⟨v, rfl, z1, z2, z3, rfl⟩
    · cases z
/-- the variable of a name -/
def vFd (A res : Nat) (mc : yM) (x v : Int) : Prop := (v = -1 ∧ ∀ w : Nat, res + 2 ≤ w → (w : Int) < mc A 15 → mc (A + 5) w ≠ x) ∨ (∃ w : Nat, v = w ∧ res + 2 ≤ w ∧ (w : Int) < mc A 15 ∧ mc (A + 5) w = x)
theorem B130_r {f g i : Nat} (T : TOK tx len n en tk tp tn) (hp : p ≤ 1) (hM : MT tx len n en tk tp tn p i mm) (hV : rV A p k res mc mm) {r : ((Int × Int) × yM) ⊕ (Int × yM)} (h : yloop (fun (l : Int × Int) ml => B130_32 f p l.1 l.2 ml) g (-1, (res : Int) + 2) mm = some r) : ∃ v l, r = .inl ((v, l), mm) ∧ (tk i = 11 → vFd A res mc (tn i) v) ∧ (tk i ≠ 11 → v = -1) := by
  obtain ⟨h1, h2, h3, h4, h5, h6, h7, h8, h9, h10, h11⟩ := hV
  have hN := fun z : tk i = 11 => hM.2.2.2.2.name (by omega) T.2.2.1
  obtain ⟨l', m1, hI, hE⟩ := yloop_inv (fun (l : Int × Int) m1 => m1 = mm ∧ (res : Int) + 2 ≤ l.2 ∧ l.2 ≤ mc A 15 ∧ (tk i ≠ 11 → l.1 = -1) ∧ (tk i = 11 → (l.1 = -1 ∧ ∀ w : Nat, res + 2 ≤ w → (w : Int) < l.2 → mc (A + 5) w ≠ tn i) ∨ (0 ≤ l.1 ∧ (res : Int) + 2 ≤ l.1 ∧ l.1 < l.2 ∧ mc (A + 5) l.1.toNat = tn i))) (fun l m1 l' m2 hI hE => by
    obtain ⟨rfl, i1, i2, i3, i4⟩ := hI
    simp only [B130_32, J130_64, Int.toNat_natCast] at hE
    rw [hM.2.2.2.2.isName T] at hE
    rcases ite1 hE with ⟨q, hE⟩ | ⟨q, hE⟩
    · rcases ite1 hE with ⟨q2, hE⟩ | ⟨q2, hE⟩
      · cases hE
      · have t : tk i = 11 := by
          by_cases z : tk i = 11
          · exact z
          · rw [if_neg z] at q2; exact absurd rfl q2
        have E := (h10 l.2.toNat (by omega) (by omega)).eq (hN t)
        rw [wr_i (x := l.2 + 1) (by omega) (by omega)] at hE
        rcases ite1 hE with ⟨q3, hE⟩ | ⟨q3, hE⟩
        · cases hE
          exact ⟨rfl, by omega, by omega, fun z => absurd t z, fun _ => Or.inr ⟨by omega, by omega, by omega, E.mpr q3⟩⟩
        · cases hE
          refine ⟨rfl, by omega, by omega, fun z => absurd t z, fun _ => ?_⟩
          rcases i4 t with ⟨y1, y2⟩ | ⟨y0, y1, y2, y3⟩
          · refine Or.inl ⟨y1, fun w w1 w2 => ?_⟩
            by_cases z : w = l.2.toNat
            · rw [z]; exact fun e => q3 (E.mp e)
            · exact y2 w w1 (by omega)
          · exact Or.inr ⟨y0, y1, by omega, y3⟩
    · cases hE) g _ mm r ⟨rfl, by show (res : Int) + 2 ≤ (res : Int) + 2; omega, by show (res : Int) + 2 ≤ mc A 15; omega, fun _ => rfl, fun _ => Or.inl ⟨rfl, fun w w1 w2 => by have w2 : (w : Int) < (res : Int) + 2 := w2; omega⟩⟩ h
  obtain ⟨rfl, i1, i2, i3, i4⟩ := hI
  simp only [B130_32, J130_64, Int.toNat_natCast] at hE
  rw [hM.2.2.2.2.isName T] at hE
  rcases ite1 hE with ⟨q, hE⟩ | ⟨q, hE⟩
  · rcases ite1 hE with ⟨q2, hE⟩ | ⟨q2, hE⟩
    · have t : tk i ≠ 11 := ite10.mp q2
      cases hE
      exact ⟨l'.1, l'.2, rfl, fun z => absurd z t, i3⟩
    · rcases ite1 hE with ⟨-, hE⟩ | ⟨-, hE⟩ <;> cases hE
  · cases hE
    refine ⟨l'.1, l'.2, rfl, fun t => ?_, i3⟩
    rcases i4 t with ⟨y1, y2⟩ | ⟨y0, y1, y2, y3⟩
    · exact Or.inl ⟨y1, fun w w1 w2 => y2 w w1 (by omega)⟩
    · exact Or.inr ⟨l'.1.toNat, by omega, by omega, by omega, y3⟩
theorem var_r {f g i : Nat} {v w : Int} (T : TOK tx len n en tk tp tn) (hl : len ≤ 320) (hA : A = 256 ∨ A = 316) (hp : p ≤ 1) (hC : CT tk tp tn i mc) (hM : MT tx len n en tk tp tn p i mm) (hV : rV A p k res mc mm) (h1 : F58 f A mc = some (v, mc')) (h2 : F130 g mm = some (w, mm')) : (v = -1 ∧ w = -1 ∧ Flt mc' mm' ∧ FrC A mc mc' ∧ FrM p mm mm') ∨ (∃ x : Nat, v = x ∧ w = x ∧ res < x ∧ (x : Int) < mc' A 15 ∧ (tk i = 10 ∨ tk i = 11) ∧ CT tk tp tn (i + 1) mc' ∧ MT tx len n en tk tp tn p (i + 1) mm' ∧ rV A p k res mc' mm' ∧ mc A 15 ≤ mc' A 15 ∧ fVc A mc mc' ∧ fVm p mm mm') := by
  have hi := hM.le T hl
  have hV0 := hV
  obtain ⟨v1, v2, v3, v4, v5, v6, v7, v8, v9, v10, v11⟩ := hV
  unfold F58 at h1
  rw [hC.kind, hC.nam] at h1
  unfold F130 at h2
  rw [hM.2.2.2.2.isThis T, hM.pp hp] at h2
  have good : ∀ {m0 : yM} {x : Int}, CT tk tp tn i m0 → x ≠ -1 → J58_56 f A x m0 = some (v, mc') → v = x ∧ mc' = yup m0 2 2 ((i : Int) + 1) := by
    intro m0 x c0 hx b
    unfold J58_56 at b
    rw [if_neg hx, c0.1, wr_i (by omega) (by omega)] at b
    cases b
    exact ⟨rfl, rfl⟩
  have badc : ∀ {m0 : yM}, CT tk tp tn i m0 → J58_56 f A (-1) m0 = some (v, mc') → v = -1 ∧ mc' = yup m0 2 4 (tp i) := by
    intro m0 c0 b
    unfold J58_56 at b
    rw [if_pos rfl] at b
    obtain ⟨r2, m2, e3, b⟩ := bI_e b
    unfold F43 at e3
    rw [c0.plc] at e3
    cases e3
    cases b
    exact ⟨rfl, rfl⟩
  by_cases t1 : tk i = 10
  · rw [if_pos t1] at h1
    rw [if_pos t1, if_neg (by decide)] at h2
    replace h2 := bU_e h2
    obtain ⟨n1, e1, h2⟩ := h2
    obtain ⟨hM1, f1⟩ := hM.next T hl (by omega) e1
    cases h2
    have ex : F57 (A + 10 + (wr (mc A 10 - 1)).toNat) mc = (res : Int) + 1 := by
      unfold F57
      rw [v1, wr_i (x := (k : Int) + 1 - 1) (by omega) (by omega), show ((k : Int) + 1 - 1).toNat = k by omega, v3, wr_i (by omega) (by omega)]
    rw [ex] at h1
    obtain ⟨rfl, rfl⟩ := good hC (by omega) h1
    have ew : wr (mm' 376 14 + 1) = (res : Int) + 1 := by
      rw [f1 376 14 (by omega), v4, wr_i (by omega) (by omega)]
    refine Or.inr ⟨res + 1, by omega, by rw [ew]; omega, by omega, by rw [yup_na (by omega)]; omega, Or.inl t1, hC.at (by rw [yup_eq]; omega) (fun a q ha => yup_na (by omega)), hM1, ?_, by rw [yup_na (by omega)]; omega, fun a q b1 b2 b3 => yup_ne b1, fun a q b1 b2 b3 => f1 a q b1⟩
    exact hV0.fr hA (yup_na (by omega)) (yup_na (by omega)) (yup_na (by omega)) (fun q => yup_na (by omega)) (f1 _ _ (by omega)) (f1 _ _ (by omega)) (fun q => f1 _ _ (by omega))
  · rw [if_neg t1] at h1
    rw [if_neg t1, if_pos rfl, v4, wr_i (x := (res : Int) + 2) (by omega) (by omega)] at h2
    have L := fun {r : ((Int × Int) × yM) ⊕ (Int × yM)} hh => B130_r (r := r) (f := g) (g := g) T hp hM hV0 hh
    rcases bL_e h2 with ⟨l, n1, a1, h2⟩ | ⟨l, n1, a1, h2⟩
    case inr => obtain ⟨x1, x2, z, -⟩ := L a1; cases z
    obtain ⟨x1, x2, z, z1, z2⟩ := L a1
    cases z
    unfold J130_70 at h2
    rw [hM.2.2.2.2.isName T, Int.toNat_natCast, ← v5] at h2
    have badm : J130_96 g x1 mm = some (w, mm') → w = -1 ∧ mm' = yup mm 376 8 (tp i) := by
      intro b
      unfold J130_96 J130_97 at b
      rw [if_pos rfl] at b
      unfold J130_115 at b
      obtain ⟨s2, n2, e3, b⟩ := bI_e b
      obtain ⟨rfl, rfl⟩ := goOn0 T hl hM e3
      rw [if_pos rfl] at b
      cases b
      exact ⟨rfl, rfl⟩
    by_cases t2 : tk i = 11
    case neg =>
      rw [if_neg t2] at h1
      rw [if_neg t2, if_pos rfl] at h2
      obtain ⟨rfl, rfl⟩ := badc hC h1
      obtain ⟨rfl, rfl⟩ := badm h2
      exact Or.inl ⟨rfl, rfl, Flt.mk (hM.tp0 T), FrC.rf.u2, FrM.rf.w8⟩
    rw [if_pos t2] at h1
    rw [if_pos t2, if_neg (by decide)] at h2
    have hN := hM.2.2.2.2.name (by omega) T.2.2.1
    have hN0 := hN.pos
    replace h1 := bI_e h1
    obtain ⟨r1, m1, e1, h1⟩ := h1
    rcases F52_r hA hV0 (by omega) e1 with ⟨x, rfl, y1, y2, y3, rfl⟩ | ⟨y0, y⟩
    · obtain ⟨rfl, rfl⟩ := good hC (by omega) h1
      have hx1 : x1 = x := by
        rcases z1 t2 with ⟨-, q⟩ | ⟨w', q1, q2, q3, q4⟩
        · exact absurd y3 (q x y1 y2)
        · have : w' = x := by
            rcases Nat.lt_trichotomy w' x with u | u | u
            · exact absurd (q4.trans y3.symm) (v11 w' x q2 u y2)
            · exact u
            · exact absurd (y3.trans q4.symm) (v11 x w' y1 u q3)
          omega
      rw [if_neg (by omega)] at h2
      unfold J130_92 J130_97 at h2
      rw [if_neg (by decide), if_neg (by omega)] at h2
      unfold J130_115 at h2
      replace h2 := bI_e h2
      obtain ⟨s2, n2, e3, h2⟩ := h2
      obtain ⟨rfl, hM1, f1⟩ := goOn1 T hl hM (by omega) e3
      rw [if_neg (by decide)] at h2
      cases h2
      refine Or.inr ⟨x, rfl, hx1, by omega, by rw [yup_na (by omega)]; omega, Or.inr t2, hC.at (by rw [yup_eq]; omega) (fun a q ha => yup_na (by omega)), hM1, ?_, by rw [yup_na (by omega)]; omega, fun a q b1 b2 b3 => yup_ne b1, fun a q b1 b2 b3 => f1 a q b1⟩
      exact hV0.fr hA (yup_na (by omega)) (yup_na (by omega)) (yup_na (by omega)) (fun q => yup_na (by omega)) (f1 _ _ (by omega)) (f1 _ _ (by omega)) (fun q => f1 _ _ (by omega))
    · have hx1 : x1 = -1 := by
        rcases z1 t2 with ⟨q, -⟩ | ⟨w', q1, q2, q3, q4⟩
        · exact q
        · exact absurd q4 (y0 w' q2 q3)
      rw [if_pos (by omega)] at h2
      rcases y with ⟨y1, rfl, rfl⟩ | ⟨y1, rfl, rfl⟩
      · rw [if_neg (by omega)] at h2
        obtain ⟨rfl, rfl⟩ := badc hC h1
        obtain ⟨rfl, rfl⟩ := badm h2
        exact Or.inl ⟨rfl, rfl, Flt.mk (hM.tp0 T), FrC.rf.u2, FrM.rf.w8⟩
      · rw [if_pos (by omega)] at h2
        obtain ⟨y, hy⟩ : ∃ y : Nat, mc A 15 = y := ⟨(mc A 15).toNat, by omega⟩
        have hC0 : CT tk tp tn i (yup (yup mc (A + 5) (mc A 15).toNat (tn i)) A 15 (mc A 15 + 1)) := hC.fr (by rw [yup_na (by omega), yup_na (by omega)]) (fun a q ha => by rw [yup_na (by omega), yup_na (by omega)])
        obtain ⟨rfl, rfl⟩ := good hC0 (by omega) h1
        unfold J130_92 J130_97 at h2
        rw [if_neg (by decide), if_pos (by omega)] at h2
        replace h2 := bI_e h2
        obtain ⟨s2, n2, e3, h2⟩ := h2
        unfold F124 at e3
        rw [hM.pp hp, Int.toNat_natCast, ← v5, hy, Int.toNat_natCast, wr_i (x := (y : Int) + 1) (by omega) (by omega), wr_i (by omega) (by omega)] at e3
        cases e3
        unfold J130_115 at h2
        replace h2 := bI_e h2
        obtain ⟨s3, n3, e4, h2⟩ := h2
        have hM0 : MT tx len n en tk tp tn p i (yup (yup mm 380 y (mm 376 4)) 389 p ((y : Int) + 1)) := hM.fr (fun q _ => by rw [yup_na (by decide), yup_na (by decide)]) (fun q => by rw [yup_na (by decide), yup_na (by decide)])
        obtain ⟨rfl, hM1, f1⟩ := goOn1 T hl hM0 (by omega) e4
        rw [if_neg (by decide)] at h2
        cases h2
        rw [hy, Int.toNat_natCast]
        refine Or.inr ⟨y, rfl, by omega, by omega, ?_, Or.inr t2, ?_, hM1, ?_, ?_, ?_, ?_⟩
        · rw [yup_na (by omega), yup_eq]; omega
        · exact hC.at (by rw [yup_eq]; omega) (fun a q ha => by rw [yup_na (by omega), yup_na (by omega), yup_na (by omega)])
        · have c15 : yup (yup (yup mc (A + 5) y (tn i)) A 15 ((y : Int) + 1)) 2 2 ((i : Int) + 1) A 15 = (y : Int) + 1 := by rw [yup_na (by omega), yup_eq]
          have c5 : ∀ q, yup (yup (yup mc (A + 5) y (tn i)) A 15 ((y : Int) + 1)) 2 2 ((i : Int) + 1) (A + 5) q = if q = y then tn i else mc (A + 5) q := fun q => by
            rw [yup_na (by omega), yup_na (by omega)]
            split
            · rename_i z; rw [z, yup_eq]
            · rename_i z; rw [yup_nk z]
          have d5 : ∀ q, mm' 380 q = if q = y then mm 376 4 else mm 380 q := fun q => by
            rw [f1 380 q (by omega), yup_na (by decide)]
            split
            · rename_i z; rw [z, yup_eq]
            · rename_i z; rw [yup_nk z]
          refine ⟨by rw [yup_na (by omega), yup_nk (by decide), yup_na (by omega)]; exact v1, v2, by rw [yup_na (by omega), yup_na (by omega), yup_na (by omega)]; exact v3, by rw [f1 376 14 (by omega), yup_na (by decide), yup_na (by decide)]; exact v4, by rw [c15, f1 389 p (by omega), yup_eq], by rw [c15]; omega, by rw [c15]; omega, by rw [c5, if_neg (by omega)]; exact v8, by rw [c5, if_neg (by omega)]; exact v9, fun v vv1 vv2 => ?_, fun v w vv1 vv2 vv3 => ?_⟩
          · rw [c15] at vv2
            rw [c5, d5]
            by_cases z : v = y
            · rw [if_pos z, if_pos z]; exact hN
            · rw [if_neg z, if_neg z]; exact v10 v vv1 (by omega)
          · rw [c15] at vv3
            rw [c5, c5, if_neg (show ¬ v = y by omega)]
            by_cases z : w = y
            · rw [if_pos z]
              exact y0 v vv1 (by omega)
            · rw [if_neg z]
              exact v11 v w vv1 vv2 (by omega)
        · rw [yup_na (by omega), yup_eq]; omega
        · intro a q b1 b2 b3
          rw [yup_ne b1, yup_ne b2, yup_na b3]
        · intro a q b1 b2 b3
          rw [f1 a q b1, yup_ne b2, yup_na b3]
end VA
end

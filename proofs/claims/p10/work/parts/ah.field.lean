/-! FIELDS -/
/-- no class has a field whose number is not given yet -/
def rFb (A : Nat) (mc : yM) : Prop := ∀ k : Nat, (k : Int) < mc A 9 → ∀ f : Nat, mc A 11 ≤ f → f < 8 → ¬ bt (mc (A + 3) k) f
section FD
variable {tx : Int → Int} {len : Int} {n : Nat} {en tk tp tn : Nat → Int} {A p : Nat} {mc mm mc' mm' : yM}
/-- a field more, of the newest class -/
theorem rCl_own {c x : Nat} {M M' : yM} (hr : rCl A p mc mm) (hc : mc A 9 = (c : Int) + 1) (hx : x < 8) (g1 : M A 9 = mc A 9) (g2 : ∀ a q, a = A + 1 ∨ a = A + 2 → M a q = mc a q) (g3 : ∀ k, k ≠ c → M (A + 3) k = mc (A + 3) k) (g4 : M (A + 3) c = iOr (mc (A + 3) c) (iShl 1 x)) (e1 : ∀ a q, a = 383 ∨ a = 391 ∨ a = 392 → M' a q = mm a q) (e2 : ∀ q, q ≠ 48 * p + 8 * c + x → M' 393 q = mm 393 q) (e3 : M' 393 (48 * p + 8 * c + x) = 1) : rCl A p M M' := by
  obtain ⟨r1, r2, r3, r4⟩ := hr
  refine ⟨by rw [g1, e1 383 _ (by omega)]; exact r1, by omega, by omega, fun k hk => ?_⟩
  obtain ⟨d1, d2, d3, d4, d5, d6, d7⟩ := r4 k (by omega)
  rw [g2 (A + 1) k (by omega), g2 (A + 2) k (by omega), e1 391 _ (by omega), e1 392 _ (by omega)]
  by_cases q : k = c
  · subst q
    obtain ⟨⟨o1, o2⟩, o3⟩ := bt_or d5 d6 hx
    rw [g4]
    refine ⟨d1, d2, d3, d4, o1, o2, fun f hf => ?_⟩
    rw [o3 f hf]
    have D := d7 f hf
    by_cases w : f = x
    · rw [w, e3]
      exact ⟨fun _ => Or.inl (by decide), fun _ => Or.inr rfl⟩
    · rw [e2 _ (by omega)]
      by_cases v : 0 ≤ mc (A + 2) k
      · rw [g3 _ (by omega)]
        exact ⟨fun z => by rcases z with z | z; exact D.mp z; exact absurd z w, fun z => Or.inl (D.mpr z)⟩
      · exact ⟨fun z => by rcases z with z | z; (rcases D.mp z with z | z; exact Or.inl z; omega); exact absurd z w, fun z => by rcases z with z | z; exact Or.inl (D.mpr (Or.inl z)); omega⟩
  · rw [g3 k q]
    refine ⟨d1, d2, d3, d4, d5, d6, fun f hf => ?_⟩
    rw [e2 _ (by omega)]
    have D := d7 f hf
    by_cases v : 0 ≤ mc (A + 2) k
    · rw [g3 _ (by omega)]
      exact D
    · exact ⟨fun z => by rcases D.mp z with z | z; exact Or.inl z; omega, fun z => by rcases z with z | z; exact D.mpr (Or.inl z); omega⟩
theorem field_r {f g i : Nat} {r : Int} (T : TOK tx len n en tk tp tn) (hl : len ≤ 320) (hA : A = 256 ∨ A = 316) (hp : p ≤ 1) (hC : CT tk tp tn i mc) (hM : MT tx len n en tk tp tn p i mm) (hi : tk i ≠ 0) (hr : rCl A p mc mm) (hf : rFd A p mc mm) (hb : rFb A mc) (h9 : 1 ≤ mc A 9) (h1 : F49 f A mc = some (r, mc')) (h2 : F122 g mm = some mm') : FrC A mc mc' ∧ FrM p mm mm' ∧ ((r = 0 ∧ Flt mc' mm') ∨ (r = 1 ∧ ∃ i', i < i' ∧ CT tk tp tn i' mc' ∧ MT tx len n en tk tp tn p i' mm' ∧ rCl A p mc' mm' ∧ rFd A p mc' mm' ∧ rFb A mc' ∧ mc' A 9 = mc A 9 ∧ (∀ a q, a ≠ 2 → ¬ (a = A ∧ q = 11) → a ≠ A + 3 → a ≠ A + 4 → mc' a q = mc a q) ∧ mc' 2 3 = mc 2 3 ∧ (∀ a q, ¬ (a = 376 ∧ 3 ≤ q ∧ q ≤ 7) → a ≠ 385 → a ≠ 393 → a ≠ 394 → mm' a q = mm a q))) := by
  have hi0 := hM.le T hl
  unfold F122 at h2
  replace h2 := bU_e h2
  obtain ⟨n1, e1, h2⟩ := h2
  obtain ⟨hM1, f1⟩ := hM.next T hl hi e1
  have hi1 := hM1.le T hl
  obtain ⟨c, hc⟩ : ∃ c : Nat, mc A 9 = (c : Int) + 1 := ⟨(mc A 9 - 1).toNat, by omega⟩
  have hr0 := hr
  have hf0 := hf
  obtain ⟨hr1, hr2, hr3, hr4⟩ := hr
  obtain ⟨hf1, hf2, hf3, hf4⟩ := hf
  obtain ⟨x, hx⟩ : ∃ x : Nat, mc A 11 = (x : Int) := ⟨(mc A 11).toNat, by omega⟩
  rw [hM.pp hp, Int.toNat_natCast, ← hr1, hc, wr_i (x := (c : Int) + 1 - 1) (by omega) (by omega), show (c : Int) + 1 - 1 = c by omega, hM1.2.2.2.2.isName T] at h2
  unfold F49 at h1
  rw [hC.1, wr_i (x := (i : Int) + 1) (by omega) (by omega)] at h1
  have hC1 : CT tk tp tn (i + 1) (yup mc 2 2 ((i : Int) + 1)) := hC.at (by rw [yup_eq]; omega) (fun a q ha => yup_na (by omega))
  rw [hC1.kind, hC1.nam] at h1
  have hrc1 : rCl A p (yup mc 2 2 ((i : Int) + 1)) n1 := hr0.fr (yup_na (by omega)) (fun a q ha => yup_na (by omega)) (fun a q ha => f1 a q (by omega))
  have hfd1 : rFd A p (yup mc 2 2 ((i : Int) + 1)) n1 := hf0.fr (yup_na (by omega)) (fun q => yup_na (by omega)) (fun a q ha => f1 a q (by omega))
  have badc : J49_33 f A (yup mc 2 2 ((i : Int) + 1)) = some (r, mc') → r = 0 ∧ mc' = yup (yup mc 2 2 ((i : Int) + 1)) 2 4 (tp (i + 1)) := by
    intro b
    unfold J49_33 at b
    obtain ⟨r2, m2, e3, b⟩ := bI_e b
    unfold F43 at e3
    rw [hC1.plc] at e3
    cases e3
    cases b
    exact ⟨rfl, rfl⟩
  have badm : ∀ {y : Int}, J122_76 g p c y 0 n1 = some mm' → mm' = yup n1 376 8 (tp (i + 1)) := by
    intro y b
    unfold J122_76 at b
    obtain ⟨s2, n2, e3, b⟩ := bI_e b
    obtain ⟨rfl, rfl⟩ := goOn0 T hl hM1 e3
    rw [if_pos rfl] at b
    cases b
    rfl
  have bad : J49_33 f A (yup mc 2 2 ((i : Int) + 1)) = some (r, mc') → ∀ {y : Int}, J122_76 g p c y 0 n1 = some mm' → FrC A mc mc' ∧ FrM p mm mm' ∧ (r = 0 ∧ Flt mc' mm') := by
    intro b1 y b2
    obtain ⟨rfl, rfl⟩ := badc b1
    have := badm b2
    subst this
    exact ⟨FrC.rf.u2.u2, (FrM.rf.tk f1).w8, rfl, Flt.mk (hM1.tp0 T)⟩
  by_cases t1 : tk (i + 1) = 11
  case neg =>
    rw [if_neg t1] at h1
    rw [if_neg t1, if_pos rfl] at h2
    unfold J122_38 at h2
    rw [hM1.2.2.2.2.isName T, if_neg t1, if_pos rfl] at h2
    obtain ⟨b1, b2, b3⟩ := bad h1 h2
    exact ⟨b1, b2, Or.inl b3⟩
  rw [if_pos t1] at h1
  rw [if_pos t1, if_neg (by decide)] at h2
  have hN1 := hM1.2.2.2.2.name (by omega) T.2.2.1
  replace h1 := bI_e h1
  obtain ⟨r2, m2, a1, h1⟩ := h1
  replace h2 := bP_e h2
  obtain ⟨fm, a2, h2⟩ := h2
  unfold F48 at a1
  replace a1 := bP_e a1
  obtain ⟨fc, a3, a1⟩ := a1
  obtain ⟨rfl, hfc⟩ := hfd1.find hp hN1 a3 a2
  have y9 : yup mc 2 2 ((i : Int) + 1) A 9 = (c : Int) + 1 := by rw [yup_na (by omega)]; exact hc
  have y11 : yup mc 2 2 ((i : Int) + 1) A 11 = x := by rw [yup_na (by omega)]; exact hx
  rw [y9, y11, wr_i (x := (c : Int) + 1 - 1) (by omega) (by omega), show (c : Int) + 1 - 1 = c by omega, wr_i (x := (x : Int) + 1) (by omega) (by omega)] at a1
  rw [y11] at hfc
  unfold J122_38 at h2
  rw [hM1.2.2.2.2.isName T, if_pos t1, if_neg (by decide)] at h2
  replace h2 := bP_e h2
  obtain ⟨hm, a4, h2⟩ := h2
  have n385 : n1 385 p = x := by rw [f1 385 p (by omega), ← hf1]; exact hx
  rw [Int.toNat_natCast, n385] at h2
  -- the end of both: the field y
  have fin : ∀ (M nX : yM) (y : Nat), y < 8 → CT tk tp tn (i + 1) M → MT tx len n en tk tp tn p (i + 1 + 1) nX → M A 9 = (c : Int) + 1 → (∀ a q, ¬ (a = 2 ∧ q = 2) → ¬ (a = A ∧ q = 11) → a ≠ A + 4 → M a q = mc a q) → (∀ a q, ¬ (a = 376 ∧ 3 ≤ q ∧ q ≤ 7) → a ≠ 385 → a ≠ 394 → nX a q = mm a q) → FrM p mm nX → rFd A p M nX → (y : Int) < M A 11 → mc A 11 ≤ M A 11 → r2 = 1 → m2 = yup M (A + 3) c (iOr (M (A + 3) c) (iShl 1 y)) → J122_128 g p c y nX = some mm' → FrC A mc mc' ∧ FrM p mm mm' ∧ ((r = 0 ∧ Flt mc' mm') ∨ (r = 1 ∧ ∃ i', i < i' ∧ CT tk tp tn i' mc' ∧ MT tx len n en tk tp tn p i' mm' ∧ rCl A p mc' mm' ∧ rFd A p mc' mm' ∧ rFb A mc' ∧ mc' A 9 = mc A 9 ∧ (∀ a q, a ≠ 2 → ¬ (a = A ∧ q = 11) → a ≠ A + 3 → a ≠ A + 4 → mc' a q = mc a q) ∧ mc' 2 3 = mc 2 3 ∧ (∀ a q, ¬ (a = 376 ∧ 3 ≤ q ∧ q ≤ 7) → a ≠ 385 → a ≠ 393 → a ≠ 394 → mm' a q = mm a q))) := by
    intro M nX y hy hCM hMX u1 u2 u3 u4 u5 u6 u7 k1 k2 k3
    have hj := hMX.le T hl
    subst k1 k2
    rw [if_neg (by decide)] at h1
    replace h1 := bI_e h1
    obtain ⟨r5, m5, e5, h1⟩ := h1
    cases h1
    have v22 : yup M (A + 3) c (iOr (M (A + 3) c) (iShl 1 y)) 2 2 = ((i + 1 : Nat) : Int) := by rw [yup_na (by omega)]; exact hCM.1
    rw [v22, wr_i (by omega) (by omega)] at e5
    have hC2 : CT tk tp tn (i + 1 + 1) (yup (yup M (A + 3) c (iOr (M (A + 3) c) (iShl 1 y))) 2 2 (((i + 1 : Nat) : Int) + 1)) := hCM.at (by rw [yup_eq]; omega) (fun a q ha => by rw [yup_na (by omega), yup_na (by omega)])
    unfold J122_128 at k3
    have ix : (wr (wr (wr (48 * (p : Int)) + wr (8 * (c : Int))) + (y : Int))).toNat = 48 * p + 8 * c + y := by
      rw [wr_i (x := 48 * (p : Int)) (by omega) (by omega), wr_i (x := 8 * (c : Int)) (by omega) (by omega), wr_i (x := 48 * (p : Int) + 8 * c) (by omega) (by omega), wr_i (by omega) (by omega)]
      omega
    rw [ix] at k3
    replace k3 := bI_e k3
    obtain ⟨s6, n6, e6, k3⟩ := k3
    have hm6 : mm' = n6 := by
      rcases ite1 k3 with ⟨-, k3⟩ | ⟨-, k3⟩ <;> (cases k3; rfl)
    subst hm6
    have hMX2 : MT tx len n en tk tp tn p (i + 1 + 1) (yup nX 393 (48 * p + 8 * c + y) 1) := hMX.fr (fun q _ => yup_na (by decide)) (fun q => yup_na (by decide))
    have FC : FrC A mc (yup M (A + 3) c (iOr (M (A + 3) c) (iShl 1 y))) := fun a q b1 b2 => by
      rw [yup_na (by omega)]
      exact u2 a q (by omega) (by omega) (by omega)
    have FX : FrM p mm (yup nX 393 (48 * p + 8 * c + y) 1) := u4.up (by unfold arM; omega)
    have R : rCl A p (yup M (A + 3) c (iOr (M (A + 3) c) (iShl 1 y))) (yup nX 393 (48 * p + 8 * c + y) 1) := rCl_own hr0 hc hy (by rw [yup_na (by omega), u1, hc]) (fun a q ha => by rw [yup_na (by omega)]; exact u2 a q (by omega) (by omega) (by omega)) (fun k hk => by rw [yup_nk hk]; exact u2 _ _ (by omega) (by omega) (by omega)) (by rw [yup_eq, u2 (A + 3) c (by omega) (by omega) (by omega)]) (fun a q ha => by rw [yup_na (by omega)]; exact u3 a q (by omega) (by omega) (by omega)) (fun q hq => by rw [yup_nk hq]; exact u3 _ _ (by omega) (by decide) (by decide)) (yup_eq _ _ _ _)
    rcases hC2.take (by omega) e5 with ⟨z1, rfl, rfl⟩ | ⟨z1, rfl, rfl⟩
    · rcases hMX2.mark T hl (by unfold sgn; omega) e6 with ⟨-, -, y1, y2⟩ | ⟨y0, -⟩
      · refine ⟨FC.u2.u2, FX.tk y2, Or.inr ⟨rfl, i + 1 + 1 + 1, by omega, hC2.at (by rw [yup_eq]; omega) (fun a q ha => yup_na (by omega)), y1, ?_, ?_, ?_, ?_, ?_, ?_, ?_⟩⟩
        · exact R.fr (by rw [yup_na (by omega), yup_na (by omega)]) (fun a q ha => by rw [yup_na (by omega), yup_na (by omega)]) (fun a q ha => y2 a q (by omega))
        · exact u5.fr (by rw [yup_na (by omega), yup_na (by omega), yup_na (by omega)]) (fun q => by rw [yup_na (by omega), yup_na (by omega), yup_na (by omega)]) (fun a q ha => by rw [y2 a q (by omega), yup_na (by omega)])
        · intro k hk f' hf1' hf2'
          rw [yup_na (by omega), yup_na (by omega), yup_na (by omega), u1] at hk
          rw [yup_na (by omega), yup_na (by omega), yup_na (by omega)] at hf1'
          rw [yup_na (by omega), yup_na (by omega)]
          by_cases w : k = c
          · rw [w, yup_eq, u2 (A + 3) c (by omega) (by omega) (by omega)]
            have D := hr4 c (by omega)
            rw [(bt_or D.2.2.2.2.1 D.2.2.2.2.2.1 hy).2 f' hf2']
            intro v
            rcases v with v | v
            · exact hb c (by omega) f' (by omega) hf2' v
            · omega
          · rw [yup_nk w, u2 (A + 3) k (by omega) (by omega) (by omega)]
            exact hb k (by omega) f' (by omega) hf2'
        · rw [yup_na (by omega), yup_na (by omega), yup_na (by omega), u1, hc]
        · intro a q b1 b2 b3 b4
          rw [yup_na b1, yup_na b1, yup_na b3]
          exact u2 a q (by omega) b2 b4
        · rw [yup_nk (by decide), yup_nk (by decide), yup_na (by omega)]
          exact u2 2 3 (by omega) (by omega) (by omega)
        · intro a q b1 b2 b3 b4
          rw [y2 a q b1, yup_na b3]
          exact u3 a q b1 b2 b4
      · exact absurd z1 y0
    · rcases hMX2.mark T hl (by unfold sgn; omega) e6 with ⟨y0, -⟩ | ⟨-, -, rfl⟩
      · exact absurd y0 z1
      · exact ⟨FC.u2.u2, FX.w8, Or.inl ⟨rfl, Flt.mk (hMX2.tp0 T)⟩⟩
  by_cases t2 : fc = -1
  · rw [if_pos t2] at a1
    subst t2
    unfold F121 at a4
    rw [if_pos (by decide)] at a4
    cases a4
    rw [if_pos rfl, if_pos (by decide)] at h2
    by_cases t3 : x = 8
    · rw [if_pos (by omega)] at a1
      cases a1
      rw [if_pos rfl] at h1
      rw [if_neg (by omega)] at h2
      obtain ⟨b1, b2, b3⟩ := bad h1 h2
      exact ⟨b1, b2, Or.inl b3⟩
    · rw [if_neg (by omega)] at a1
      rw [if_pos (by omega)] at h2
      unfold J122_71 J122_76 at h2
      replace h2 := bI_e h2
      obtain ⟨s2, n2, e3, h2⟩ := h2
      obtain ⟨rfl, hM2, f2⟩ := goOn1 T hl hM1 (by omega) e3
      rw [if_neg (by decide), if_pos (by decide), Int.toNat_natCast] at h2
      have f12 : ∀ a q, ¬ (a = 376 ∧ 3 ≤ q ∧ q ≤ 7) → n2 a q = mm a q := fun a q ha => (f2 a q ha).trans (f1 a q ha)
      have n2385 : n2 385 p = x := by rw [f12 385 p (by omega), ← hf1]; exact hx
      have ix8 : (wr (wr (8 * (p : Int)) + (x : Int))).toNat = 8 * p + x := by
        rw [wr_i (x := 8 * (p : Int)) (by omega) (by omega), wr_i (by omega) (by omega)]
        omega
      rw [n2385, ix8, wr_i (x := (x : Int) + 1) (by omega) (by omega)] at h2
      unfold J48_54 at a1
      rw [Int.toNat_natCast, Int.toNat_natCast] at a1
      have b47 : F47 A c x (yup (yup (yup mc 2 2 ((i : Int) + 1)) (A + 4) x (tn (i + 1))) A 11 ((x : Int) + 1)) = 0 := by
        rw [F47_r, Int.toNat_natCast, yup_na (by omega), yup_na (by omega), yup_na (by omega)]
        exact hb c (by omega) x (by omega) (by omega)
      rw [if_pos b47] at a1
      cases a1
      refine fin (yup (yup (yup mc 2 2 ((i : Int) + 1)) (A + 4) x (tn (i + 1))) A 11 ((x : Int) + 1)) _ x (by omega) ?_ (hM2.fr (fun q _ => by rw [yup_na (by decide), yup_na (by decide)]) (fun q => by rw [yup_na (by decide), yup_na (by decide)])) ?_ ?_ ?_ ?_ ?_ ?_ ?_ rfl rfl h2
      · exact hC1.at (by rw [yup_na (by omega), yup_na (by omega)]; exact hC1.1) (fun a q ha => by rw [yup_na (by omega), yup_na (by omega)])
      · rw [yup_nk (by decide), yup_na (by omega)]; exact y9
      · intro a q b1 b2 b3
        rw [yup_ne b2, yup_na b3, yup_ne b1]
      · intro a q b1 b2 b3
        rw [yup_na b2, yup_na b3]
        exact f12 a q b1
      · exact ((FrM.rf.tk f12).up (by unfold arM; omega)).up (by unfold arM; omega)
      · refine ⟨by rw [yup_eq, yup_eq], by rw [yup_eq]; omega, by rw [yup_eq]; omega, fun k hk => ?_⟩
        rw [yup_eq] at hk
        by_cases w : k = x
        · rw [w, yup_na (by omega), yup_eq, yup_na (by omega), yup_eq]
          exact hN1
        · rw [yup_na (by omega), yup_nk (by omega), yup_na (by omega), yup_na (by omega), yup_nk (by omega), f12 394 _ (by omega)]
          exact hf4 k (by omega)
      · rw [yup_eq]; omega
      · rw [yup_eq]; omega
  · rw [if_neg t2] at a1
    obtain ⟨y, rfl⟩ : ∃ y : Nat, fc = y := ⟨fc.toNat, by omega⟩
    have H := hrc1.has hp (k := c) (f := y) (by rw [y9]; omega) (by omega) a4
    unfold J48_54 at a1
    have b47 : F47 A c y (yup mc 2 2 ((i : Int) + 1)) = 0 ↔ ¬ bt (yup mc 2 2 ((i : Int) + 1) (A + 3) c) y := by
      rw [F47_r, Int.toNat_natCast]
    by_cases t3 : bt (yup mc 2 2 ((i : Int) + 1) (A + 3) c) y
    · rw [if_neg (fun w => b47.mp w t3)] at a1
      cases a1
      rw [if_pos rfl] at h1
      rw [if_neg (by have := H.2.mpr t3; omega)] at h2
      obtain ⟨b1, b2, b3⟩ := bad h1 h2
      exact ⟨b1, b2, Or.inl b3⟩
    · rw [if_pos (b47.mpr t3)] at a1
      cases a1
      have hm0 : hm = 0 := by
        rcases H.1 with w | w
        · exact w
        · exact absurd (H.2.mp w) t3
      rw [if_pos hm0, if_neg (by omega)] at h2
      unfold J122_71 J122_76 at h2
      replace h2 := bI_e h2
      obtain ⟨s2, n2, e3, h2⟩ := h2
      obtain ⟨rfl, hM2, f2⟩ := goOn1 T hl hM1 (by omega) e3
      rw [if_neg (by decide), if_neg (by omega)] at h2
      have f12 : ∀ a q, ¬ (a = 376 ∧ 3 ≤ q ∧ q ≤ 7) → n2 a q = mm a q := fun a q ha => (f2 a q ha).trans (f1 a q ha)
      refine fin (yup mc 2 2 ((i : Int) + 1)) n2 y (by omega) hC1 hM2 y9 (fun a q b1 b2 b3 => yup_ne b1) (fun a q b1 b2 b3 => f12 a q b1) (FrM.rf.tk f12) (hf0.fr (yup_na (by omega)) (fun q => yup_na (by omega)) (fun a q ha => f12 a q (by omega))) (by rw [y11]; omega) (by rw [y11]; omega) rfl ?_ h2
      rw [Int.toNat_natCast]
end FD

/-! METHOD HEADS, up to the bracket of the body -/
def fHc (A k : Nat) (mc mc' : yM) : Prop := ∀ a q, ¬ (a = 2 ∧ (q = 2 ∨ q = 4)) → ¬ (a = A ∧ (q = 10 ∨ q = 15)) → a ≠ A + 5 → a ≠ A + 10 + k → mc' a q = mc a q
def fHm (p k : Nat) (mm mm' : yM) : Prop := ∀ a q, ¬ (a = 376 ∧ ((3 ≤ q ∧ q ≤ 7) ∨ q = 14)) → ¬ (a = 384 ∧ q = p) → ¬ (a = 389 ∧ q = p) → a ≠ 380 → ¬ (395 ≤ a ∧ a ≤ 399 ∧ q = 10 * p + k) → mm' a q = mm a q
section ML
variable {tx : Int → Int} {len : Int} {n : Nat} {en tk tp tn : Nat → Int} {A p : Nat} {mc mm mc' mm' : yM}
theorem fHc.fr {k : Nat} (hk : k < 10) (h : fHc A k mc mc') : FrC A mc mc' := fun a q h1 h2 => h a q (by omega) (by omega) (by omega) (by omega)
theorem fHm.fr {k : Nat} (hk : k < 10) (h : fHm p k mm mm') : FrM p mm mm' := fun a q h1 => h a q (fun e => h1 (by unfold arM; omega)) (fun e => h1 (by unfold arM; omega)) (fun e => h1 (by unfold arM; omega)) (fun e => h1 (by unfold arM; omega)) (fun e => h1 (by unfold arM; omega))
theorem mhead_r {f g i : Nat} {r : Int} (T : TOK tx len n en tk tp tn) (hl : len ≤ 320) (hA : A = 256 ∨ A = 316) (hp : p ≤ 1) (hC : CT tk tp tn i mc) (hM : MT tx len n en tk tp tn p i mm) (hi : tk i ≠ 0) (hr : rCl A p mc mm) (hm : rMe A p mc mm) (h15 : mc A 15 = mm 389 p) (h15b : 0 ≤ mc A 15 ∧ mc A 15 ≤ 48) (h9 : 1 ≤ mc A 9) (h1 : F70 f A mc = some (r, mc')) (h2 : F126 g mm = some mm') : (r = 0 ∧ Flt mc' mm' ∧ FrC A mc mc' ∧ FrM p mm mm') ∨ (∃ (k res j : Nat) (m1 : yM) (r5 : Int) (m5 : yM), mc A 10 = k ∧ k < 10 ∧ mc A 15 = res ∧ i < j ∧ tk j = 123 ∧ CT tk tp tn j m1 ∧ MT tx len n en tk tp tn p (j + 1) mm' ∧ F69 f A f 0 m1 = some (r5, m5) ∧ mc' = yup m5 (A + 10 + k) 5 (m5 A 16) ∧ ((r5 = 0 ∧ r = 0) ∨ (r5 ≠ 0 ∧ r = 1)) ∧ rMe A p m1 mm' ∧ rV A p k res m1 mm' ∧ m1 (A + 10 + k) 4 = mc A 16 ∧ mm' 399 (10 * p + k) = mm 390 p ∧ fHc A k mc m1 ∧ fHm p k mm mm' ∧ m1 (A + 10 + k) 2 + 2 + m1 (A + 10 + k) 3 ≤ m1 A 15) := by
  have hi0 := hM.le T hl
  unfold F126 at h2
  replace h2 := bU_e h2
  obtain ⟨n1, e1, h2⟩ := h2
  obtain ⟨hM1, f1⟩ := hM.next T hl hi e1
  have hi1 := hM1.le T hl
  obtain ⟨c, hc⟩ : ∃ c : Nat, mc A 9 = (c : Int) + 1 := ⟨(mc A 9 - 1).toNat, by omega⟩
  have hm0 := hm
  obtain ⟨hm1, hm2, hm3, hm4⟩ := hm
  obtain ⟨k, hk⟩ : ∃ k : Nat, mc A 10 = (k : Int) := ⟨(mc A 10).toNat, by omega⟩
  obtain ⟨y, hy⟩ : ∃ y : Nat, mc A 15 = (y : Int) := ⟨(mc A 15).toNat, by omega⟩
  have hc6 := hr.2.2.1
  rw [hM.pp hp, Int.toNat_natCast, ← hr.1, hc, wr_i (x := (c : Int) + 1 - 1) (by omega) (by omega), show (c : Int) + 1 - 1 = c by omega, hM1.2.2.2.2.isName T, f1 384 p (by omega), f1 389 p (by omega), ← hm1, ← h15, hk, hy] at h2
  unfold F70 at h1
  rw [hC.1, wr_i (x := (i : Int) + 1) (by omega) (by omega)] at h1
  have hC1 : CT tk tp tn (i + 1) (yup mc 2 2 ((i : Int) + 1)) := hC.at (by rw [yup_eq]; omega) (fun a q ha => yup_na (by omega))
  rw [hC1.kind, hC1.nam] at h1
  have bad : J70_33 f A (yup mc 2 2 ((i : Int) + 1)) = some (r, mc') → J126_66 g p c 0 n1 = some mm' → (r = 0 ∧ Flt mc' mm' ∧ FrC A mc mc' ∧ FrM p mm mm') := by
    intro b b'
    unfold J70_33 at b
    obtain ⟨r2, m2, e3, b⟩ := bI_e b
    unfold F43 at e3
    rw [hC1.plc] at e3
    cases e3
    cases b
    unfold J126_66 at b'
    obtain ⟨s2, n2, e3, b'⟩ := bI_e b'
    obtain ⟨rfl, rfl⟩ := goOn0 T hl hM1 e3
    rw [if_pos rfl] at b'
    cases b'
    exact ⟨rfl, Flt.mk (hM1.tp0 T), FrC.rf.u2.u2, (FrM.rf.tk f1).w8⟩
  by_cases t1 : tk (i + 1) = 11
  case neg =>
    rw [if_neg t1] at h1
    rw [if_neg t1, if_pos rfl] at h2
    exact Or.inl (bad h1 h2)
  rw [if_pos t1] at h1
  rw [if_pos t1, if_neg (by decide)] at h2
  have hN1 := hM1.2.2.2.2.name (by omega) T.2.2.1
  replace h1 := bI_e h1
  obtain ⟨r2, M1, a1, h1⟩ := h1
  unfold F51 at a1
  have y9 : yup mc 2 2 ((i : Int) + 1) A 9 = (c : Int) + 1 := by rw [yup_na (by omega)]; exact hc
  have y10 : yup mc 2 2 ((i : Int) + 1) A 10 = k := by rw [yup_na (by omega)]; exact hk
  have y15 : yup mc 2 2 ((i : Int) + 1) A 15 = y := by rw [yup_na (by omega)]; exact hy
  rw [y9, y10, y15, wr_i (x := (c : Int) + 1 - 1) (by omega) (by omega), show (c : Int) + 1 - 1 = c by omega, wr_i (x := (k : Int) + 1) (by omega) (by omega), wr_i (x := (y : Int) + 1) (by omega) (by omega), wr_i (x := (y : Int) + 2) (by omega) (by omega), Int.toNat_natCast, Int.toNat_natCast, show ((y : Int) + 1).toNat = y + 1 by omega] at a1
  by_cases t2 : k = 10
  · rw [if_pos (by omega)] at a1
    cases a1
    rw [if_pos rfl] at h1
    rw [if_neg (by omega)] at h2
    exact Or.inl (bad h1 h2)
  rw [if_neg (by omega)] at a1
  rw [if_pos (by omega)] at h2
  by_cases t3 : 48 < (y : Int) + 2
  · rw [if_pos t3] at a1
    cases a1
    rw [if_pos rfl] at h1
    rw [if_neg (by omega)] at h2
    exact Or.inl (bad h1 h2)
  rw [if_neg t3] at a1
  rw [if_pos (by omega)] at h2
  replace a1 := bP_e a1
  obtain ⟨ra, a2, a1⟩ := a1
  replace h2 := bP_e h2
  obtain ⟨rb, a3, h2⟩ := h2
  have IXc := F50_r (by omega) (by omega) a2
  have IXm := F123_own hp (by omega) (by rw [f1 384 p (by omega)]; omega) (by rw [f1 384 p (by omega)]; omega) a3
  rw [y10] at IXc
  rw [f1 384 p (by omega), ← hm1, hk] at IXm
  have hab : ra = rb := IXc.eq IXm (fun q hq => by
    obtain ⟨g1, g2, -⟩ := hm4 q (by omega)
    rw [yup_na (by omega), yup_na (by omega), f1 396 _ (by omega), f1 395 _ (by omega), ← g2, g1.eq hN1])
  subst hab
  have hra := IXc.lt
  by_cases t4 : ra = -1
  case neg =>
    rw [if_neg t4] at a1
    cases a1
    rw [if_pos rfl] at h1
    rw [if_neg (by omega)] at h2
    exact Or.inl (bad h1 h2)
  rw [if_pos t4] at a1
  rw [if_pos (by omega)] at h2
  clear bad IXc IXm hra
  injection a1 with a1
  injection a1 with a1 a1'
  subst a1
  rw [if_neg (by decide)] at h1
  have g22 : M1 2 2 = (i : Int) + 1 := by rw [← a1', yup_na (by omega), yup_na (by omega), yup_na (by omega), yup_na (by omega), yup_na (by omega), yup_na (by omega), yup_na (by omega), yup_na (by omega), yup_eq]
  have gA10 : M1 A 10 = (k : Int) + 1 := by rw [← a1', yup_nk (by decide), yup_na (by omega), yup_na (by omega), yup_eq]
  have gA15 : M1 A 15 = (y : Int) + 2 := by rw [← a1', yup_eq]
  have gX0 : M1 (A + 10 + k) 0 = tn (i + 1) := by rw [← a1', yup_na (by omega), yup_na (by omega), yup_na (by omega), yup_na (by omega), yup_nk (by decide), yup_nk (by decide), yup_nk (by decide), yup_eq]
  have gX1 : M1 (A + 10 + k) 1 = c := by rw [← a1', yup_na (by omega), yup_na (by omega), yup_na (by omega), yup_na (by omega), yup_nk (by decide), yup_nk (by decide), yup_eq]
  have gX2 : M1 (A + 10 + k) 2 = y := by rw [← a1', yup_na (by omega), yup_na (by omega), yup_na (by omega), yup_na (by omega), yup_nk (by decide), yup_eq]
  have gX3 : M1 (A + 10 + k) 3 = 0 := by rw [← a1', yup_na (by omega), yup_na (by omega), yup_na (by omega), yup_na (by omega), yup_eq]
  have gV0 : M1 (A + 5) y = 0 := by rw [← a1', yup_na (by omega), yup_nk (by omega), yup_eq]
  have gV1 : M1 (A + 5) (y + 1) = 0 := by rw [← a1', yup_na (by omega), yup_eq]
  have gO : ∀ a q, ¬ (a = 2 ∧ q = 2) → ¬ (a = A ∧ (q = 10 ∨ q = 15)) → a ≠ A + 5 → a ≠ A + 10 + k → M1 a q = mc a q := fun a q b1 b2 b3 b4 => by
    rw [← a1', yup_ne (by omega), yup_na b3, yup_na b3, yup_ne (by omega), yup_na b4, yup_na b4, yup_na b4, yup_na b4, yup_ne b1]
  clear a1' a2 a3
  rw [gA10, wr_i (x := (k : Int) + 1 - 1) (by omega) (by omega), show ((k : Int) + 1 - 1).toNat = k by omega, g22, wr_i (x := (i : Int) + 1 + 1) (by omega) (by omega)] at h1
  obtain ⟨M2, hM2⟩ : ∃ M2, M2 = yup (yup M1 2 2 ((i : Int) + 1 + 1)) (A + 10 + k) 4 (M1 A 16) := ⟨_, rfl⟩
  rw [← hM2] at h1
  have k2 : ∀ a q, ¬ (a = 2 ∧ q = 2) → ¬ (a = A + 10 + k ∧ q = 4) → M2 a q = M1 a q := fun a q b1 b2 => by rw [hM2, yup_ne b2, yup_ne b1]
  have k24 : M2 (A + 10 + k) 4 = mc A 16 := by rw [hM2, yup_eq]; exact gO A 16 (by omega) (by omega) (by omega) (by omega)
  have hC2 : CT tk tp tn (i + 1 + 1) M2 := hC.at (by rw [hM2, yup_na (by omega), yup_eq]; omega) (fun a q ha => by rw [k2 a q (by omega) (by omega)]; exact gO a q (by omega) (by omega) (by omega) (by omega))
  -- the model
  unfold J126_66 at h2
  replace h2 := bI_e h2
  obtain ⟨s2, n2, e3, h2⟩ := h2
  obtain ⟨rfl, hMn2, f2⟩ := goOn1 T hl hM1 (by omega) e3
  have hi2 := hMn2.le T hl
  have f12 : ∀ a q, ¬ (a = 376 ∧ 3 ≤ q ∧ q ≤ 7) → n2 a q = mm a q := fun a q ha => (f2 a q ha).trans (f1 a q ha)
  rw [if_neg (by decide), Int.toNat_natCast] at h2
  have n384 : n2 384 p = k := by rw [f12 384 p (by omega), ← hm1]; exact hk
  have n390 : n2 390 p = mm 390 p := f12 390 p (by omega)
  have ix : (wr (wr (10 * (p : Int)) + (k : Int))).toNat = 10 * p + k := by
    rw [wr_i (x := 10 * (p : Int)) (by omega) (by omega), wr_i (by omega) (by omega)]
    omega
  have ix2 : wr (wr (10 * (p : Int)) + (k : Int)) = ((10 * p + k : Nat) : Int) := by
    rw [wr_i (x := 10 * (p : Int)) (by omega) (by omega), wr_i (by omega) (by omega)]
    omega
  rw [n384, n390, ix] at h2
  replace h2 := bI_e h2
  obtain ⟨s3, n3, e4, h2⟩ := h2
  obtain ⟨W, hW⟩ : ∃ W, W = yup (yup (yup (yup n2 395 (10 * p + k) (n1 376 4)) 396 (10 * p + k) c) 397 (10 * p + k) 0) 399 (10 * p + k) (mm 390 p) := ⟨_, rfl⟩
  rw [← hW] at e4
  have w18 : W 376 18 = 1 - (p : Int) := by rw [hW, yup_na (by decide), yup_na (by decide), yup_na (by decide), yup_na (by decide)]; exact hMn2.2.2.1
  have wp : F96 W = p := by unfold F96; rw [w18, wr_i (by omega) (by omega)]; omega
  have w389 : W 389 p = y := by rw [hW, yup_na (by decide), yup_na (by decide), yup_na (by decide), yup_na (by decide), f12 389 p (by omega), ← h15]; exact hy
  unfold F124 at e4
  rw [wp, Int.toNat_natCast, w389, Int.toNat_natCast, wr_i (x := (y : Int) + 1) (by omega) (by omega), wr_i (x := (y : Int) + 1 - 1) (by omega) (by omega), show (y : Int) + 1 - 1 = y by omega] at e4
  cases e4
  replace h2 := bI_e h2
  obtain ⟨s4, n4, e5, h2⟩ := h2
  obtain ⟨V, hV⟩ : ∃ V, V = yup (yup (yup (yup W 380 y (-1)) 389 p ((y : Int) + 1)) 376 14 (y : Int)) 398 (10 * p + k) (y : Int) := ⟨_, rfl⟩
  rw [← hV] at e5
  have vp : F96 V = p := by unfold F96; rw [hV, yup_na (by decide), yup_nk (by decide), yup_na (by decide), yup_na (by decide), w18, wr_i (by omega) (by omega)]; omega
  have v389 : V 389 p = (y : Int) + 1 := by rw [hV, yup_na (by decide), yup_na (by decide), yup_eq]
  unfold F124 at e5
  rw [vp, Int.toNat_natCast, v389, wr_i (x := (y : Int) + 1 + 1) (by omega) (by omega), show ((y : Int) + 1).toNat = y + 1 by omega] at e5
  injection e5 with e5
  injection e5 with e5' e5
  clear e5'
  have n4384 : n4 384 p = k := by rw [← e5, yup_na (by decide), yup_na (by decide), hV, yup_na (by decide), yup_na (by decide), yup_na (by decide), yup_na (by decide), hW, yup_na (by decide), yup_na (by decide), yup_na (by decide), yup_na (by decide)]; exact n384
  rw [n4384, wr_i (x := (k : Int) + 1) (by omega) (by omega)] at h2
  replace h2 := bI_e h2
  obtain ⟨s5, n5, e6, h2⟩ := h2
  obtain ⟨U, hU⟩ : ∃ U, U = yup n4 384 p ((k : Int) + 1) := ⟨_, rfl⟩
  rw [← hU] at e6
  have gU : ∀ a q, ¬ (a = 376 ∧ q = 14) → ¬ (a = 384 ∧ q = p) → ¬ (a = 389 ∧ q = p) → a ≠ 380 → ¬ (395 ≤ a ∧ a ≤ 399 ∧ q = 10 * p + k) → U a q = n2 a q := fun a q b1 b2 b3 b4 b5 => by
    rw [hU, yup_ne b2, ← e5, yup_ne b3, yup_na b4, hV, yup_ne (by omega), yup_ne b1, yup_ne b3, yup_na b4, hW, yup_ne (by omega), yup_ne (by omega), yup_ne (by omega), yup_ne (by omega)]
  have u14 : U 376 14 = y := by rw [hU, yup_na (by decide), ← e5, yup_na (by decide), yup_na (by decide), hV, yup_na (by decide), yup_eq]
  have u384 : U 384 p = (k : Int) + 1 := by rw [hU, yup_eq]
  have u389 : U 389 p = (y : Int) + 2 := by rw [hU, yup_na (by decide), ← e5, yup_eq]; omega
  have u395 : U 395 (10 * p + k) = n1 376 4 := by rw [hU, yup_na (by decide), ← e5, yup_na (by decide), yup_na (by decide), hV, yup_na (by decide), yup_na (by decide), yup_na (by decide), yup_na (by decide), hW, yup_na (by decide), yup_na (by decide), yup_na (by decide), yup_eq]
  have u396 : U 396 (10 * p + k) = c := by rw [hU, yup_na (by decide), ← e5, yup_na (by decide), yup_na (by decide), hV, yup_na (by decide), yup_na (by decide), yup_na (by decide), yup_na (by decide), hW, yup_na (by decide), yup_na (by decide), yup_eq]
  have u397 : U 397 (10 * p + k) = 0 := by rw [hU, yup_na (by decide), ← e5, yup_na (by decide), yup_na (by decide), hV, yup_na (by decide), yup_na (by decide), yup_na (by decide), yup_na (by decide), hW, yup_na (by decide), yup_eq]
  have u398 : U 398 (10 * p + k) = y := by rw [hU, yup_na (by decide), ← e5, yup_na (by decide), yup_na (by decide), hV, yup_eq]
  have u399 : U 399 (10 * p + k) = mm 390 p := by rw [hU, yup_na (by decide), ← e5, yup_na (by decide), yup_na (by decide), hV, yup_na (by decide), yup_na (by decide), yup_na (by decide), yup_na (by decide), hW, yup_eq]
  have gV' : ∀ a q, a ≠ 376 → ¬ (a = 384 ∧ q = p) → ¬ (a = 389 ∧ q = p) → a ≠ 380 → ¬ (395 ≤ a ∧ a ≤ 399 ∧ q = 10 * p + k) → U a q = mm a q := fun a q b1 b2 b3 b4 b5 => by
    rw [gU a q (by omega) b2 b3 b4 b5]; exact f12 a q (by omega)
  clear hU hV hW e5 n4384 v389 vp w389 wp w18 n384 n390
  have hMU : MT tx len n en tk tp tn p (i + 1 + 1) U := hMn2.fr (fun q hq => gU 376 q (by omega) (by omega) (by omega) (by omega) (by omega)) (fun q => gU 377 q (by omega) (by omega) (by omega) (by omega) (by omega))
  have fcU : fHm p k mm U := fun a q b1 b2 b3 b4 b5 => by
    rw [gU a q (by omega) b2 b3 b4 b5]; exact f12 a q (by omega)
  have fcM2 : fHc A k mc M2 := fun a q b1 b2 b3 b4 => by
    rw [k2 a q (by omega) (by omega)]; exact gO a q (by omega) b2 b3 b4
  have RV : rV A p k y M2 U := ⟨by rw [k2 A 10 (by omega) (by omega)]; exact gA10, by omega, by rw [k2 (A + 10 + k) 2 (by omega) (by omega)]; exact gX2, u14, by rw [k2 A 15 (by omega) (by omega), u389]; exact gA15, by rw [k2 A 15 (by omega) (by omega), gA15]; omega, by rw [k2 A 15 (by omega) (by omega), gA15]; omega, by rw [k2 _ _ (by omega) (by omega)]; exact gV0, by rw [k2 _ _ (by omega) (by omega)]; exact gV1, fun v v1 v2 => by rw [k2 A 15 (by omega) (by omega), gA15] at v2; omega, fun v w v1 v2 v3 => by rw [k2 A 15 (by omega) (by omega), gA15] at v3; omega⟩
  have RP : rPa A p k y 0 M2 U := ⟨RV, by rw [k2 A 15 (by omega) (by omega), gA15]; omega, by rw [k2 _ _ (by omega) (by omega), gX3]; rfl, by rw [u397]; rfl⟩
  have RM : rMe A p M2 U := by
    refine ⟨by rw [k2 A 10 (by omega) (by omega), u384]; exact gA10, by rw [k2 A 10 (by omega) (by omega), gA10]; omega, by rw [k2 A 10 (by omega) (by omega), gA10]; omega, fun q hq => ?_⟩
    rw [k2 A 10 (by omega) (by omega), gA10] at hq
    rw [k2 A 9 (by omega) (by omega), gO A 9 (by omega) (by omega) (by omega) (by omega)]
    by_cases z : q = k
    · subst z
      rw [k2 _ 0 (by omega) (by omega), k2 _ 1 (by omega) (by omega), k2 _ 2 (by omega) (by omega), k2 _ 3 (by omega) (by omega), gX0, gX1, gX2, gX3, u395, u396, u397, u398]
      exact ⟨hN1, rfl, rfl, rfl, by omega, by omega, by omega, by omega, by omega, by omega⟩
    · obtain ⟨g1, g2, g3, g4, g5, g6, g7, g8, g9, g10⟩ := hm4 q (by omega)
      have e : ∀ z, M2 (A + 10 + q) z = mc (A + 10 + q) z := fun z => by rw [k2 _ _ (by omega) (by omega)]; exact gO _ _ (by omega) (by omega) (by omega) (by omega)
      rw [e, e, e, e, gV' 395 _ (by omega) (by omega) (by omega) (by omega) (by omega), gV' 396 _ (by omega) (by omega) (by omega) (by omega) (by omega), gV' 397 _ (by omega) (by omega) (by omega) (by omega) (by omega), gV' 398 _ (by omega) (by omega) (by omega) (by omega) (by omega)]
      exact ⟨g1, g2, g3, g4, g5, g6, g7, g8, g9, by omega⟩
  clear gU gV' u14 u384 u389 u395 u396 u397 u398 gO gA10 gA15 gX0 gX1 gX2 gX3 gV0 gV1
  -- behind the name
  replace h1 := bI_e h1
  obtain ⟨r3, M3, a4, h1⟩ := h1
  have hkk : k < 10 := by omega
  have done0 : ∀ {m0 : yM}, FrC A mc m0 → J70_114 f A (A + 10 + k) m0 = some (r, mc') → r = 0 ∧ FrC A mc mc' ∧ mc' 2 4 = m0 2 4 := by
    intro m0 b1 b2
    unfold J70_114 J70_115 at b2
    cases b2
    exact ⟨rfl, b1.up (by omega), yup_na (by omega)⟩
  rcases hC2.take (by omega) a4 with ⟨t5, rfl, rfl⟩ | ⟨t5, rfl, rfl⟩
  case inr =>
    left
    rw [if_pos rfl] at h1
    rcases hMU.mark T hl (by unfold sgn; omega) e6 with ⟨y0, -⟩ | ⟨-, rfl, rfl⟩
    · exact absurd y0 t5
    · rw [if_pos rfl] at h2
      cases h2
      obtain ⟨rfl, d1, d2⟩ := done0 (fcM2.fr hkk).u2 h1
      exact ⟨rfl, ⟨by rw [d2, yup_eq, yup_eq], by rw [yup_eq]; exact hMU.tp0 T⟩, d1, (fcU.fr hkk).w8⟩
  rw [if_neg (by decide)] at h1
  rcases hMU.mark T hl (by unfold sgn; omega) e6 with ⟨-, rfl, hM5, f5⟩ | ⟨y0, -⟩
  case inr => exact absurd t5 y0
  rw [if_neg (by decide)] at h2
  have hC3 : CT tk tp tn (i + 1 + 1 + 1) (yup M2 2 2 (((i + 1 + 1 : Nat) : Int) + 1)) := hC2.at (by rw [yup_eq]; omega) (fun a q ha => yup_na (by omega))
  have RP3 : rPa A p k y 0 (yup M2 2 2 (((i + 1 + 1 : Nat) : Int) + 1)) n5 := RP.fr hA (fun a q ha => yup_ne ha) f5
  replace h1 := bI_e h1
  obtain ⟨r4, M4, a5, h1⟩ := h1
  rw [hM5.2.2.2.2.isName T, ix2] at h2
  -- the parameters
  have key : ∃ n6, ((tk (i + 1 + 1 + 1) ≠ 11 ∧ n6 = n5) ∨ (tk (i + 1 + 1 + 1) = 11 ∧ F125 g ((10 * p + k : Nat) : Int) n5 = some n6)) ∧ J126_193 g n6 = some mm' := by
    by_cases z : tk (i + 1 + 1 + 1) = 11
    · rw [if_pos z, if_neg (by decide)] at h2
      obtain ⟨n6, e7, h2⟩ := bU_e h2
      exact ⟨n6, Or.inr ⟨z, e7⟩, h2⟩
    · rw [if_neg z, if_pos rfl] at h2
      exact ⟨n5, Or.inl ⟨z, rfl⟩, h2⟩
  clear h2
  obtain ⟨n6, hn6, h2⟩ := key
  unfold J126_193 at h2
  have fcM3 : fHc A k mc (yup M2 2 2 (((i + 1 + 1 : Nat) : Int) + 1)) := fun a q b1 b2 b3 b4 => by rw [yup_ne (by omega)]; exact fcM2 a q b1 b2 b3 b4
  have fcn5 : fHm p k mm n5 := fun a q b1 b2 b3 b4 b5 => by rw [f5 a q (by omega)]; exact fcU a q b1 b2 b3 b4 b5
  rcases params_r T hl hA hp hC3 hM5 RP3 a5 hn6 with ⟨rfl, d1, d2, d3, d4⟩ | ⟨rfl, i', s, hs, hii, hC4, hM6, RP4, fc4, fm4⟩
  · left
    rw [if_pos rfl] at h1
    obtain ⟨rfl, c1, c2⟩ := done0 ((fcM3.fr hkk).tr d3) h1
    rcases hn6 with ⟨z, rfl⟩ | ⟨z, -⟩
    · obtain ⟨d5, rfl⟩ := d2 z
      rw [if_pos (by rw [hM5.2.2.2.1]; decide)] at h2
      replace h2 := bI_e h2
      obtain ⟨s6, n7, e8, h2⟩ := h2
      rcases hM5.mark T hl (by unfold sgn; omega) e8 with ⟨y0, -⟩ | ⟨-, rfl, rfl⟩
      · exact absurd y0 d5
      · rw [if_pos rfl] at h2
        cases h2
        exact ⟨rfl, ⟨by rw [c2, yup_eq, yup_eq], by rw [yup_eq]; exact hM5.tp0 T⟩, c1, (fcn5.fr hkk).w8⟩
    · obtain ⟨d5, d6⟩ := d1 z
      rw [if_neg (by omega)] at h2
      cases h2
      exact ⟨rfl, ⟨by rw [c2]; exact d5, d6⟩, c1, (fcn5.fr hkk).tr d4⟩
  · rw [if_neg (by decide)] at h1
    rw [if_pos (by rw [hM6.2.2.2.1]; decide)] at h2
    have fcM4 : fHc A k mc M4 := fun a q b1 b2 b3 b4 => by rw [fc4 a q (by omega) (by omega) b3 (by omega)]; exact fcM3 a q b1 b2 b3 b4
    have fcn6 : fHm p k mm n6 := fun a q b1 b2 b3 b4 b5 => by rw [fm4 a q (by omega) b3 b4 (by omega)]; exact fcn5 a q b1 b2 b3 b4 b5
    have hi6 := hM6.le T hl
    replace h1 := bI_e h1
    obtain ⟨r5, M5, a6, h1⟩ := h1
    replace h2 := bI_e h2
    obtain ⟨s6, n7, e8, h2⟩ := h2
    rcases hC4.take (by omega) a6 with ⟨t6, rfl, rfl⟩ | ⟨t6, rfl, rfl⟩
    case inr =>
      left
      rw [if_pos rfl] at h1
      rcases hM6.mark T hl (by unfold sgn; omega) e8 with ⟨y0, -⟩ | ⟨-, rfl, rfl⟩
      · exact absurd y0 t6
      · rw [if_pos rfl] at h2
        cases h2
        obtain ⟨rfl, d1, d2⟩ := done0 (fcM4.fr hkk).u2 h1
        exact ⟨rfl, ⟨by rw [d2, yup_eq, yup_eq], by rw [yup_eq]; exact hM6.tp0 T⟩, d1, (fcn6.fr hkk).w8⟩
    rw [if_neg (by decide)] at h1
    rcases hM6.mark T hl (by unfold sgn; omega) e8 with ⟨-, rfl, hM7, f7⟩ | ⟨y0, -⟩
    case inr => exact absurd t6 y0
    rw [if_neg (by decide)] at h2
    have hi7 := hM7.le T hl
    have hC5 : CT tk tp tn (i' + 1) (yup M4 2 2 ((i' : Int) + 1)) := hC4.at (by rw [yup_eq]; omega) (fun a q ha => yup_na (by omega))
    have RP5 : rPa A p k y s (yup M4 2 2 ((i' : Int) + 1)) n7 := RP4.fr hA (fun a q ha => yup_ne ha) f7
    have fcM5 : fHc A k mc (yup M4 2 2 ((i' : Int) + 1)) := fun a q b1 b2 b3 b4 => by rw [yup_ne (by omega)]; exact fcM4 a q b1 b2 b3 b4
    have fcn7 : fHm p k mm n7 := fun a q b1 b2 b3 b4 b5 => by rw [f7 a q (by omega)]; exact fcn6 a q b1 b2 b3 b4 b5
    replace h1 := bI_e h1
    obtain ⟨r6, M6, a7, h1⟩ := h1
    replace h2 := bI_e h2
    obtain ⟨s7, n8, e9, h2⟩ := h2
    have hn8 : mm' = n8 := by
      rcases ite1 h2 with ⟨-, h2⟩ | ⟨-, h2⟩ <;> (cases h2; rfl)
    subst hn8
    rcases hM7.mark T hl (by unfold sgn; omega) e9 with ⟨t7, -, hM8, f8⟩ | ⟨t7, -, rfl⟩
    · right
      refine ⟨k, y, i' + 1, _, r6, M6, hk, hkk, hy, by omega, t7, hC5, hM8, a7, ?_, ?_, ?_, ?_, ?_, ?_, fcM5, ?_, by have z1 := RP5.1.2.2.1; have z2 := RP5.2.1; have z3 := RP5.2.2.1; omega⟩
      · rcases ite1 h1 with ⟨-, h1⟩ | ⟨-, h1⟩
        · unfold J70_114 J70_115 at h1
          cases h1
          rfl
        · unfold J70_115 at h1
          cases h1
          rfl
      · rcases ite1 h1 with ⟨z, h1⟩ | ⟨z, h1⟩
        · unfold J70_114 J70_115 at h1
          cases h1
          exact Or.inl ⟨z, rfl⟩
        · unfold J70_115 at h1
          cases h1
          exact Or.inr ⟨z, rfl⟩
      · have E1 : ∀ a q, ¬ (a = 2 ∧ q = 2) → ¬ (a = A ∧ q = 15) → a ≠ A + 5 → ¬ (a = A + 10 + k ∧ q = 3) → yup M4 2 2 ((i' : Int) + 1) a q = M2 a q := fun a q b1 b2 b3 b4 => by
          rw [yup_ne b1, fc4 a q b1 b2 b3 b4, yup_ne b1]
        have E2 : ∀ a q, ¬ (a = 376 ∧ 3 ≤ q ∧ q ≤ 7) → ¬ (a = 389 ∧ q = p) → a ≠ 380 → ¬ (a = 397 ∧ q = 10 * p + k) → mm' a q = U a q := fun a q b1 b2 b3 b4 => by
          rw [f8 a q b1, f7 a q b1, fm4 a q b1 b2 b3 b4, f5 a q b1]
        obtain ⟨q1, q2, q3, q4⟩ := RM
        refine ⟨by rw [E1 A 10 (by omega) (by omega) (by omega) (by omega), E2 384 p (by omega) (by omega) (by omega) (by omega)]; exact q1, by rw [E1 A 10 (by omega) (by omega) (by omega) (by omega)]; exact q2, by rw [E1 A 10 (by omega) (by omega) (by omega) (by omega)]; exact q3, fun z hz => ?_⟩
        rw [E1 A 10 (by omega) (by omega) (by omega) (by omega)] at hz
        obtain ⟨g1, g2, g3, g4, g5, g6, g7, g8, g9, g10⟩ := q4 z hz
        have hV5 := RP5.2.1
        have hV6 := RP5.1.2.2.2.2.2.2.1
        have hX5 := RP5.2.2.1
        have hm5 := RP5.2.2.2
        have k15 : M2 A 15 = (y : Int) + 2 := by have := RP.2.1; omega
        rw [E1 _ 0 (by omega) (by omega) (by omega) (by omega), E1 _ 1 (by omega) (by omega) (by omega) (by omega), E1 _ 2 (by omega) (by omega) (by omega) (by omega), E2 395 _ (by omega) (by omega) (by omega) (by omega), E2 396 _ (by omega) (by omega) (by omega) (by omega), E2 398 _ (by omega) (by omega) (by omega) (by omega), E1 A 9 (by omega) (by omega) (by omega) (by omega)]
        by_cases w : z = k
        · subst w
          rw [hX5, f8 397 _ (by omega), hm5]
          have g2' := RV.2.2.1
          exact ⟨g1, g2, rfl, g4, g5, g6, by omega, by omega, g9, by omega⟩
        · rw [E1 _ 3 (by omega) (by omega) (by omega) (by omega), E2 397 _ (by omega) (by omega) (by omega) (by omega)]
          exact ⟨g1, g2, g3, g4, g5, g6, g7, g8, g9, by omega⟩
      · exact RP5.1.fr hA rfl rfl rfl (fun _ => rfl) (f8 _ _ (by omega)) (f8 _ _ (by omega)) (fun q => f8 _ _ (by omega))
      · rw [yup_na (by omega), fc4 _ _ (by omega) (by omega) (by omega) (by omega), yup_na (by omega)]; exact k24
      · rw [f8 399 _ (by omega), f7 399 _ (by omega), fm4 399 _ (by omega) (by omega) (by omega) (by omega), f5 399 _ (by omega)]; exact u399
      · exact fun a q b1 b2 b3 b4 b5 => by rw [f8 a q (by omega)]; exact fcn7 a q b1 b2 b3 b4 b5
    · left
      obtain ⟨rfl, rfl⟩ := F69_bad (by omega) hC5 (Or.inr t7) a7
      rw [if_pos rfl] at h1
      obtain ⟨rfl, d1, d2⟩ := done0 (fcM5.fr hkk).u2 h1
      exact ⟨rfl, ⟨by rw [d2, yup_eq, yup_eq], by rw [yup_eq]; exact hM7.tp0 T⟩, d1, (fcn7.fr hkk).w8⟩
end ML

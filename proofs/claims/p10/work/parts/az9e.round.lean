/-! ROUNDS: all ops of a round, all rounds, the analysis whole -/
section RX
variable {G : Nat → Prop} {V : Int} {A p f g s o : Nat} {mc mm mc' mm' mc0 mm0 : yM}
theorem ixop {u : Nat} (hp : p ≤ 1) (hu : u ≤ 120) : wr ((wr (1000 * (p : Int))) + (wr (8 * (u : Int)))) = ((1000 * p + 8 * u : Nat) : Int) := by
  rw [wr_i (x := 1000 * (p : Int)) (by omega) (by omega), wr_i (x := 8 * (u : Int)) (by omega) (by omega), wr_i (by omega) (by omega)]
  omega
/-- the model at an op -/
theorem opm {u : Nat} {y : (Int × yM) ⊕ ((Int × yM) ⊕ (Unit × yM))} (hp : p ≤ 1) (hu : u < o) (ho : o ≤ 120) (h18 : mm 376 18 = p) (h390 : mm 390 p = o) (e : B151_167 g (u : Int) mm = some y) : ∃ m1, y = .inl (((u + 1 : Nat) : Int), m1) ∧ ((F144 (mm 407 (mm 403 (1000 * p + 8 * u + 1)).toNat) mm = 0 ∧ m1 = mm) ∨ (F144 (mm 407 (mm 403 (1000 * p + 8 * u + 1)).toNat) mm ≠ 0 ∧ F150 g ((1000 * p + 8 * u : Nat) : Int) mm = some m1)) := by
  unfold B151_167 J151_219 at e
  have k1 : wr ((u : Int) + 1) = ((u + 1 : Nat) : Int) := by rw [wr_i (by omega) (by omega)]; omega
  have ix1 : (wr (((1000 * p + 8 * u : Nat) : Int) + 1)).toNat = 1000 * p + 8 * u + 1 := by
    rw [wr_i (by omega) (by omega)]; omega
  rw [h18, Int.toNat_natCast, h390, ixop hp (by omega), ix1, k1, if_pos (by omega)] at e
  rcases ite1 e with ⟨q, e⟩ | ⟨q, e⟩
  · cases e
    exact ⟨_, rfl, Or.inl ⟨q, rfl⟩⟩
  · replace e := bU_e e
    obtain ⟨m1, e1, e⟩ := e
    cases e
    exact ⟨_, rfl, Or.inr ⟨q, e1⟩⟩
theorem F150_nop {b : Nat} (h : mm 403 b = 9 ∨ mm 403 b = 10 ∨ mm 403 b = 11 ∨ mm 403 b = 12) (e : F150 g (b : Int) mm = some mm') : mm' = mm := by
  unfold F150 at e
  rw [Int.toNat_natCast] at e
  rw [if_neg (by omega), if_neg (by omega), if_neg (by omega), if_neg (by omega), if_neg (by omega), if_neg (by omega), if_neg (by omega)] at e
  cases e
  rfl
theorem round_l {n : Nat} (hA : A = 256 ∨ A = 316) (hp : p ≤ 1) (hR : RPG A p s o mc0 mm0) (hVV : V = mc0 A 15) (hG : ∀ k, G k → mc0 (A + 8) k = mm0 400 (12 * p + k) ∧ 0 ≤ mc0 (A + 8) k ∧ mc0 (A + 8) k < mc0 A 9) (hgn : ∀ t : Nat, t < s → mc0 (A + 20 + t) 0 = 5 → ∀ x : Nat, mc0 (A + 20 + t) 6 = x → G x) (h18 : mm0 376 18 = p) (hn : mc0 A 14 = n) (hn2 : n ≤ 12) (h388 : mm0 388 p = n) : ∀ (N t u F H : Nat) (mc mm : yM) (rc rm : (Int × yM) ⊕ (Unit × yM)), ALN (fun t u => OPZ A p t (1000 * p + 8 * u) mc0 mm0) (qB A p mc0 mm0) (qZ p mm0) N t s u o → FS G V mc0 mm0 mc mm → yloop (fun (l : Int) ml => B91_88 f A l ml) F (t : Int) mc = some rc → yloop (fun (l : Int) ml => B151_167 g l ml) H (u : Int) mm = some rm → ∃ l m l' m', rc = .inl (l, m) ∧ rm = .inl (l', m') ∧ FS G V mc0 mm0 m m' := by
  have hR0 := hR
  obtain ⟨r1, r2, r3, r4, r5, ⟨q1, q2, q3, q4, q5⟩, -, -⟩ := hR
  intro N
  induction N with
  | zero =>
    intro t u F H mc mm rc rm hN h e1 e2
    obtain ⟨rfl, rfl⟩ := hN
    have B1 : B91_88 f A (t : Int) mc = some (.inr (.inl ((t : Int), mc))) := by
      unfold B91_88
      rw [h.2.1 A 16 (by omega), q1, if_neg (by omega)]
    have B2 : B151_167 g (u : Int) mm = some (.inr (.inl ((u : Int), mm))) := by
      unfold B151_167
      rw [h.2.2.1 376 18 (by decide) (by omega), h18, Int.toNat_natCast, h.2.2.1 390 p (by decide) (by omega), q3, if_neg (by omega)]
    obtain ⟨f', -, ⟨l', m', a1, -⟩ | a1⟩ := yloop_s e1
    · rw [B1] at a1; cases a1
    · rw [B1] at a1; cases a1
      obtain ⟨f', -, ⟨l', m', a1, -⟩ | a1⟩ := yloop_s e2
      · rw [B2] at a1; cases a1
      · rw [B2] at a1; cases a1
        exact ⟨_, _, _, _, rfl, rfl, h⟩
  | succ N ih =>
    intro t u F H mc mm rc rm hN h e1 e2
    have k18 : mm 376 18 = p := by rw [h.2.2.1 376 18 (by decide) (by omega)]; exact h18
    have k390 : mm 390 p = o := by rw [h.2.2.1 390 p (by decide) (by omega)]; exact q3
    have kb : ∀ q, mm 403 q = mm0 403 q := fun q => h.2.2.1 403 q (by decide) (by omega)
    rcases hN with ⟨hQ, hN⟩ | ⟨hZ, hN⟩
    · have l := hN.le
      have ht : t < s := by omega
      have hu : u < o := by omega
      -- the owner
      have ow : mm0 403 (1000 * p + 8 * u + 1) = mc0 (A + 20 + t) 1 ∧ 0 ≤ mc0 (A + 20 + t) 1 ∧ mc0 (A + 20 + t) 1 < 10 := by
        rcases hQ with hQ | hQ | hQ
        · exact hQ.1
        · exact ⟨hQ.2.2.1, hQ.2.2.2.1, hQ.2.2.2.2.1⟩
        · exact ⟨hQ.2.2.1, hQ.2.2.2.1, hQ.2.2.2.2.1⟩
      obtain ⟨w, hw⟩ : ∃ w : Nat, mc0 (A + 20 + t) 1 = w := ⟨(mc0 (A + 20 + t) 1).toNat, by omega⟩
      have hold : F78 (mc 71 w) mc = F144 (mm 407 w) mm := by
        have := (h.1.old (t := 3) (i := 0) (j := w) (by decide) (by simp [fN]) (by simp [ww]; omega)).1
        simpa [cc, ww] using this
      have k1 : wr ((t : Int) + 1) = ((t + 1 : Nat) : Int) := by rw [wr_i (by omega) (by omega)]; omega
      have cls : ∀ y, B91_88 f A (t : Int) mc = some y → ∃ m1, y = .inl (((t + 1 : Nat) : Int), m1) ∧ ((F78 (mc 71 w) mc = 0 ∧ m1 = mc) ∨ (F78 (mc 71 w) mc ≠ 0 ∧ F90 f A (A + 20 + t) mc = some m1)) := by
        intro y e
        unfold B91_88 J91_130 at e
        rw [h.2.1 A 16 (by omega), q1, if_pos (by omega), if_pos (by omega), Int.toNat_natCast, h.2.1 (A + 20 + t) 1 (by omega), hw, Int.toNat_natCast, k1] at e
        rcases ite1 e with ⟨q, e⟩ | ⟨q, e⟩
        · cases e; exact ⟨_, rfl, Or.inl ⟨q, rfl⟩⟩
        · replace e := bU_e e
          obtain ⟨m1, e3, e⟩ := e
          cases e
          exact ⟨_, rfl, Or.inr ⟨q, e3⟩⟩
      have step : ∀ {m1 m1' : yM}, ((F78 (mc 71 w) mc = 0 ∧ m1 = mc) ∨ (F78 (mc 71 w) mc ≠ 0 ∧ F90 f A (A + 20 + t) mc = some m1)) → ((F144 (mm 407 (mm 403 (1000 * p + 8 * u + 1)).toNat) mm = 0 ∧ m1' = mm) ∨ (F144 (mm 407 (mm 403 (1000 * p + 8 * u + 1)).toNat) mm ≠ 0 ∧ F150 g ((1000 * p + 8 * u : Nat) : Int) mm = some m1')) → FS G V mc0 mm0 m1 m1' := by
        intro m1 m1' a b
        rw [kb, ow.1, hw, Int.toNat_natCast, ← hold] at b
        rcases a with ⟨a1, rfl⟩ | ⟨a1, a2⟩
        · rcases b with ⟨-, rfl⟩ | ⟨b1, -⟩
          · exact h
          · exact absurd a1 b1
        · rcases b with ⟨b1, -⟩ | ⟨-, b2⟩
          · exact absurd b1 a1
          · have S0 : mc (A + 20 + t) 0 = mc0 (A + 20 + t) 0 := h.2.1 _ _ (by omega)
            have nopc : (mc0 (A + 20 + t) 0 = 0 ∨ mc0 (A + 20 + t) 0 = 1) → m1 = mc := by
              intro z
              unfold F90 at a2
              rw [S0, if_neg (by omega), if_neg (by omega), if_neg (by omega), if_neg (by omega), if_neg (by omega), if_neg (by omega), if_neg (by omega), if_neg (by omega)] at a2
              cases a2
              rfl
            rcases hQ with hQ | hQ | hQ
            · exact op_r hA hp (by omega) hR0 hVV hG (hgn t ht) h18 hn hn2 h388 (by omega) hQ h a2 b2
            · have e3 := nopc (Or.inl hQ.1)
              have e4 := F150_nop (by rw [kb]; exact Or.inl hQ.2.1) b2
              rw [e3, e4]; exact h
            · have e3 := nopc (Or.inr hQ.1)
              have e4 := F150_nop (by rw [kb]; exact Or.inr (Or.inl hQ.2.1)) b2
              rw [e3, e4]; exact h
      obtain ⟨f', -, ⟨l1, m1, a1, a2⟩ | a1⟩ := yloop_s e1
      · obtain ⟨m2, z, c1⟩ := cls _ a1
        cases z
        obtain ⟨g', -, ⟨l2, m3, b1, b2⟩ | b1⟩ := yloop_s e2
        · obtain ⟨m4, z, c2⟩ := opm hp hu q4 k18 k390 b1
          cases z
          exact ih (t + 1) (u + 1) _ _ _ _ rc rm hN (step c1 c2) a2 b2
        · obtain ⟨m4, z, c2⟩ := opm hp hu q4 k18 k390 b1
          cases z
      · obtain ⟨m2, z, c1⟩ := cls _ a1
        cases z
    · have l := hN.le
      have hu : u < o := by omega
      obtain ⟨g', -, ⟨l2, m3, b1, b2⟩ | b1⟩ := yloop_s e2
      · obtain ⟨m4, z, c2⟩ := opm hp hu q4 k18 k390 b1
        cases z
        have e4 : m3 = mm := by
          rcases c2 with ⟨-, c2⟩ | ⟨-, c2⟩
          · exact c2
          · refine F150_nop ?_ c2
            rw [kb]
            rcases hZ with z | z
            · exact Or.inr (Or.inr (Or.inl z))
            · exact Or.inr (Or.inr (Or.inr z))
        subst e4
        exact ih t (u + 1) _ _ _ _ rc rm hN h e1 b2
      · obtain ⟨m4, z, c2⟩ := opm hp hu q4 k18 k390 b1
        cases z
/-- facts that are the same -/
def FQ (G : Nat → Prop) (V : Int) (mc mm : yM) : Prop := ∀ t i j : Nat, t < 4 → i < fN t → j < ww t → mc (cc t i) j = mm (404 + t) (ww t * i + j) ∧ (-1 ≤ mc (cc t i) j ∧ mc (cc t i) j ≤ 2001) ∧ (t < 2 → mc (cc t i) j ≠ -1 → G j) ∧ (t = 0 → mc (cc t i) j ≠ -1 → (i : Int) < V)
/-- at the head of the loop over rounds -/
def HD (G : Nat → Prop) (V : Int) (mc0 mm0 mc mm : yM) : Prop := FQ G V mc mm ∧ (∀ a q : Nat, 169 ≤ a ∨ (a = 8 ∧ q ≠ 5 ∧ q ≠ 6) → mc a q = mc0 a q) ∧ (∀ a q : Nat, a < 404 → ¬ (a = 376 ∧ 45 ≤ q ∧ q ≤ 47) → mm a q = mm0 a q) ∧ mm 376 45 = mc 8 5 ∧ mm 376 47 = mc 8 6 ∧ 0 ≤ mc 8 5 ∧ mc 8 5 ≤ 1859 ∧ ((mc 8 6 = mc 8 5 ∧ mm 376 46 = 1 ∧ (fU mc : Int) + mc 8 5 ≤ 1858) ∨ (mc 8 6 + 1 = mc 8 5 ∧ mm 376 46 = 0))
theorem RPG.fr (hA : A = 256 ∨ A = 316) (h : RPG A p s o mc0 mm0) (ec : ∀ a q : Nat, 256 ≤ a → mc a q = mc0 a q) (em : ∀ a q : Nat, 383 ≤ a → a < 404 → mm a q = mm0 a q) : RPG A p s o mc mm := by
  obtain ⟨r1, r2, r3, r4, r5, r6, ⟨n, r7⟩, r8⟩ := h
  have S : ∀ t q, mc (A + 20 + t) q = mc0 (A + 20 + t) q := fun t q => ec _ _ (by omega)
  have A_ : ∀ q, mc A q = mc0 A q := fun q => ec _ _ (by omega)
  have B : ∀ q, mm 403 q = mm0 403 q := fun q => em _ _ (by decide) (by omega)
  have hz : ∀ t u : Nat, OPZ A p t (1000 * p + 8 * u) mc0 mm0 → OPZ A p t (1000 * p + 8 * u) mc mm := fun t u hq => by
    unfold OPZ at hq ⊢
    simp only [S, B, A_, em 398 _ (by decide) (by omega), em 401 _ (by decide) (by omega), em 402 _ (by decide) (by omega), ec (A + 9) _ (by omega)]
    exact hq
  refine ⟨r1.fr (A_ _) (fun b q hb => ec _ _ (by omega)) (fun b q hb => em _ _ (by omega) (by omega)), r2.fr (A_ _) (Int.le_of_eq (A_ _).symm) (fun k q _ _ => ec _ _ (by omega)) (fun b q hb => em _ _ (by omega) (by omega)), r3.fr (fun q _ _ => A_ q) (fun b z1 z2 => em _ _ (by omega) (by omega)), by rw [A_, em 385 p (by decide) (by omega)]; exact r4, ⟨by rw [A_, em 389 p (by decide) (by omega)]; exact r5.1, by rw [A_]; exact r5.2.1, by rw [A_]; exact r5.2.2.1, r5.2.2.2.1.fr (A_ _) (fun q _ => ec _ _ (by omega)) (fun t _ => S t 0), fun j hj => by rw [A_] at hj; rw [A_, ec (A + 10 + j) 2 (by omega), ec (A + 10 + j) 3 (by omega)]; exact r5.2.2.2.2.1 j hj, by rw [A_]; exact r5.2.2.2.2.2.1.fr (fun j q _ => ec _ _ (by omega)) (fun t q _ _ => S t q), r5.2.2.2.2.2.2.fr (A_ _) (fun j q _ => ec _ _ (by omega)) (fun j _ => em _ _ (by decide) (by omega)) (fun t u _ _ hq => hz t u hq) (fun t q _ => S t q) (fun u q _ _ => B _)⟩, by rw [A_, A_, em 390 p (by decide) (by omega)]; exact r6, ⟨n, r7.mp (fun t u _ _ hq => hz t u hq) (fun t u _ _ hq => ?_) (fun u _ hq => ?_)⟩, fun x hx => ?_⟩
  · unfold qB BRH at hq ⊢
    simp only [S, B]
    exact hq
  · unfold qZ at hq ⊢
    rw [B]
    exact hq
  · rw [ec (A + 8) x (by omega), em 400 _ (by decide) (by omega), A_]
    refine r8 x ?_
    rcases hx with hx | ⟨t, t1, t2, t3⟩
    · exact Or.inl hx
    · exact Or.inr ⟨t, t1, by rw [← S]; exact t2, by rw [← S]; exact t3⟩
theorem GEN.eq {k : Nat} (h : GEN A s mc k) (ec : ∀ a q : Nat, 256 ≤ a → mc a q = mc0 a q) (hA : A = 256 ∨ A = 316) : GEN A s mc0 k := by
  rcases h with h | ⟨t, t1, t2, t3⟩
  · exact Or.inl h
  · exact Or.inr ⟨t, t1, by rw [← ec _ _ (by omega)]; exact t2, by rw [← ec _ _ (by omega)]; exact t3⟩
theorem rounds_r (hA : A = 256 ∨ A = 316) (hp : p ≤ 1) (hR : RPG A p s o mc0 mm0) (h18 : mm0 376 18 = p) : ∀ (F H : Nat) (mc mm : yM) (rc rm : (Unit × yM) ⊕ (Unit × yM)), HD (GEN A s mc0) (mc0 A 15) mc0 mm0 mc mm → yloop (fun (_ : Unit) ml => B91_65 f A ml) F () mc = some rc → yloop (fun (_ : Unit) ml => B151_143 g ml) H () mm = some rm → ∃ m m', rc = .inl ((), m) ∧ rm = .inl ((), m') ∧ HD (GEN A s mc0) (mc0 A 15) mc0 mm0 m m' := by
  intro F H mc mm rc rm h0 e1 e2
  refine yl2 (fun (_ : Unit) m (_ : Unit) m' => HD (GEN A s mc0) (mc0 A 15) mc0 mm0 m m') (fun r r' => ∃ m m', r = .inl ((), m) ∧ r' = .inl ((), m') ∧ HD (GEN A s mc0) (mc0 A 15) mc0 mm0 m m') (fun l m l' m' y y' h a1 a2 => ?_) F H () mc () mm rc rm h0 e1 e2
  have h0 := h
  obtain ⟨k1, k2, k3, k4, k5, k6, k7, k8⟩ := h
  unfold B91_65 at a1
  unfold B151_143 at a2
  rw [if_pos (by omega)] at a1
  rcases k8 with ⟨c1, c2, c3⟩ | ⟨c1, c2⟩
  case inr =>
    rw [if_neg (by omega)] at a1
    rw [if_pos c2] at a2
    cases a1
    cases a2
    exact Or.inr ⟨_, _, rfl, rfl, _, _, rfl, rfl, h0⟩
  rw [if_pos (by omega)] at a1
  rw [if_neg (by omega), k4, wr_i (x := m 8 5 + 1) (by omega) (by omega)] at a2
  -- the round
  have hRm : RPG A p s o m (yup (yup m' 376 46 0) 376 45 (m 8 5 + 1)) := hR.fr hA (fun a q ha => k2 a q (by omega)) (fun a q z1 z2 => by rw [yup_na (by omega), yup_na (by omega)]; exact k3 a q z2 (by omega))
  have hm18 : yup (yup m' 376 46 0) 376 45 (m 8 5 + 1) 376 18 = p := by rw [yup_nk (by decide), yup_nk (by decide), k3 376 18 (by decide) (by omega)]; exact h18
  have hS : FS (GEN A s mc0) (mc0 A 15) m (yup (yup m' 376 46 0) 376 45 (m 8 5 + 1)) m (yup (yup m' 376 46 0) 376 45 (m 8 5 + 1)) := by
    refine ⟨⟨fun t i j g1 g2 g3 => ?_, by rw [yup_eq], by omega, by omega, Or.inr ⟨c1, by rw [yup_nk (by decide), yup_eq]⟩⟩, CF.rf, MF.rf, Nat.le_refl _, fun z => by omega⟩
    rw [yup_na (by omega), yup_na (by omega)]
    exact k1 t i j g1 g2 g3
  have hco := hRm.2.2.1
  unfold rCo at hco
  obtain ⟨n, hn⟩ : ∃ n : Nat, m A 14 = n := ⟨(m A 14).toNat, by omega⟩
  have ecx : ∀ a q : Nat, 256 ≤ a → m a q = mc0 a q := fun a q ha => k2 a q (by omega)
  have hG : ∀ x, GEN A s mc0 x → m (A + 8) x = yup (yup m' 376 46 0) 376 45 (m 8 5 + 1) 400 (12 * p + x) ∧ 0 ≤ m (A + 8) x ∧ m (A + 8) x < m A 9 := fun x hx => hRm.2.2.2.2.2.2.2 x (GEN.eq hx (fun a q ha => (ecx a q ha).symm) hA)
  have hgn : ∀ t : Nat, t < s → m (A + 20 + t) 0 = 5 → ∀ x : Nat, m (A + 20 + t) 6 = x → GEN A s mc0 x := fun t ht z1 x z2 => Or.inr ⟨t, ht, by rw [← ecx _ _ (by omega)]; exact z1, by rw [← ecx _ _ (by omega)]; exact z2⟩
  obtain ⟨N, hN⟩ := hRm.2.2.2.2.2.2.1
  have key : ∃ r r', yloop (fun (l : Int) ml => B91_88 f A l ml) f ((0 : Nat) : Int) m = some r ∧ yloop (fun (l : Int) ml => B151_167 g l ml) g ((0 : Nat) : Int) (yup (yup m' 376 46 0) 376 45 (m 8 5 + 1)) = some r' ∧ (∀ l m3, r = .inl (l, m3) → y = .inl ((), yup m3 8 5 (wr (m3 8 5 + 1)))) ∧ (∀ l m3, r' = .inl (l, m3) → y' = (if m3 376 46 = 0 then .inl ((), m3) else .inl ((), yup m3 376 47 (m3 376 45)))) := by
    have a1' : ∃ r, yloop (fun (l : Int) ml => B91_88 f A l ml) f ((0 : Nat) : Int) m = some r ∧ (∀ l m3, r = .inl (l, m3) → y = .inl ((), yup m3 8 5 (wr (m3 8 5 + 1)))) := by
      rcases bL_e a1 with ⟨l, m3, d1, d2⟩ | ⟨l, m3, d1, d2⟩
      · cases d2
        exact ⟨_, d1, fun l m e => by cases e; rfl⟩
      · exact ⟨_, d1, fun l m e => by cases e⟩
    have a2' : ∃ r', yloop (fun (l : Int) ml => B151_167 g l ml) g ((0 : Nat) : Int) (yup (yup m' 376 46 0) 376 45 (m 8 5 + 1)) = some r' ∧ (∀ l m3, r' = .inl (l, m3) → y' = (if m3 376 46 = 0 then .inl ((), m3) else .inl ((), yup m3 376 47 (m3 376 45)))) := by
      rcases bL_e a2 with ⟨l, m3, d1, d2⟩ | ⟨l, m3, d1, d2⟩
      · refine ⟨_, d1, fun l m e => ?_⟩
        cases e
        rcases ite1 d2 with ⟨q, d2⟩ | ⟨q, d2⟩
        · cases d2; rw [if_pos q]
        · cases d2; rw [if_neg q]
      · exact ⟨_, d1, fun l m e => by cases e⟩
    obtain ⟨r, b1, b2⟩ := a1'
    obtain ⟨r', b3, b4⟩ := a2'
    exact ⟨r, r', b1, b3, b2, b4⟩
  obtain ⟨r, r', b1, b2, b3, b4⟩ := key
  obtain ⟨l1, m1, l2, m2, z1, z2, z3⟩ := round_l hA hp hRm (ecx A 15 (by omega)).symm hG hgn hm18 hn (by omega) (by omega) N 0 0 f g m _ r r' hN hS b1 b2
  have y1 := b3 _ _ z1
  have y2 := b4 _ _ z2
  obtain ⟨⟨w1, w2, w3, w4, w5⟩, w6, w7, w8, w9⟩ := z3
  have m85 : m1 8 5 = m 8 5 := w6 8 5 (by omega)
  have e45 : m2 376 45 = m 8 5 + 1 := by omega
  rw [wr_i (x := m1 8 5 + 1) (by omega) (by omega)] at y1
  have fUe : fU (yup m1 8 5 (m1 8 5 + 1)) = fU m1 := fU_eq (fun x hx => yup_na (fL_no8 hx))
  left
  have fr1 : ∀ a q : Nat, 169 ≤ a ∨ (a = 8 ∧ q ≠ 5 ∧ q ≠ 6) → yup m1 8 5 (m1 8 5 + 1) a q = mc0 a q := fun a q ha => by rw [yup_ne (by omega), w6 a q (by omega)]; exact k2 a q ha
  have fr2 : ∀ a q : Nat, a < 404 → ¬ (a = 376 ∧ 45 ≤ q ∧ q ≤ 47) → m2 a q = mm0 a q := fun a q ha hq => by rw [w7 a q ha (by omega), yup_ne (by omega), yup_ne (by omega)]; exact k3 a q ha hq
  have e47 : m2 376 47 = m 8 6 := by rw [w7 376 47 (by decide) (by omega), yup_nk (by decide), yup_nk (by decide)]; exact k5
  rcases w5 with ⟨v1, v2⟩ | ⟨v1, v2⟩
  · rw [if_neg (by omega)] at y2
    have := w9 v1
    refine ⟨_, _, _, _, y1, y2, fun t i j g1 g2 g3 => ?_, fr1, fun a q ha hq => by rw [yup_ne (by omega)]; exact fr2 a q ha hq, ?_, ?_, ?_, ?_, Or.inl ⟨?_, ?_, ?_⟩⟩
    · have hr := cc_rng g1 g2
      rw [yup_na (by omega), yup_na (by omega)]
      exact w1 t i j g1 g2 g3
    · rw [yup_nk (by decide), yup_eq]; omega
    · rw [yup_eq, yup_nk (by decide)]; omega
    · rw [yup_eq]; omega
    · rw [yup_eq]; omega
    · rw [yup_nk (by decide), yup_eq]; omega
    · rw [yup_nk (by decide)]; exact v2
    · rw [fUe, yup_eq]; omega
  · rw [if_pos v2] at y2
    refine ⟨_, _, _, _, y1, y2, fun t i j g1 g2 g3 => ?_, fr1, fr2, ?_, ?_, ?_, ?_, Or.inr ⟨?_, v2⟩⟩
    · have hr := cc_rng g1 g2
      rw [yup_na (by omega)]
      exact w1 t i j g1 g2 g3
    · rw [yup_eq]; omega
    · rw [yup_nk (by decide)]; omega
    · rw [yup_eq]; omega
    · rw [yup_eq]; omega
    · rw [yup_nk (by decide), yup_eq]; omega
end RX

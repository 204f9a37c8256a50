/-! NAMES: the class names that new and cast ask for are looked up alike, in the same order -/
def NMS (A : Nat) (mc mm : yM) : Nat → Nat → Nat → Nat → Prop
  | 0, _, a0, a1 => a0 = a1
  | d + 1, s0, a0, a1 => (mc (A + 20 + s0) 0 ≠ 5 ∧ mc (A + 20 + s0) 0 ≠ 7 ∧ NMS A mc mm d (s0 + 1) a0 a1) ∨ ((mc (A + 20 + s0) 0 = 5 ∨ mc (A + 20 + s0) 0 = 7) ∧ Nm (mc (A + 20 + s0) 4) (mm 381 a0) ∧ mm 382 a0 = mc (A + 20 + s0) 5 ∧ 0 ≤ mc (A + 20 + s0) 5 ∧ NMS A mc mm d (s0 + 1) (a0 + 1) a1)
/-- what the lookups change -/
def fNc (A : Nat) (mc mc' : yM) : Prop := ∀ b q, ¬ (A + 20 ≤ b ∧ b < A + 60 ∧ (q = 6 ∨ q = 7)) → b ≠ A + 8 → ¬ (b = A ∧ q = 17) → mc' b q = mc b q
def fNm (mm mm' : yM) : Prop := ∀ b q, ¬ (b = 376 ∧ q = 8) → b ≠ 400 → b ≠ 402 → b ≠ 403 → mm' b q = mm b q
section NM
variable {A p k s o a : Nat} {mc mm mc' mm' M N : yM}
theorem NMS.le : ∀ {d s0 a0 a1 : Nat}, NMS A mc mm d s0 a0 a1 → a0 ≤ a1 := by
  intro d
  induction d with
  | zero => intro s0 a0 a1 h; exact Nat.le_of_eq h
  | succ d ih =>
    intro s0 a0 a1 h
    rcases h with ⟨-, -, h⟩ | ⟨-, -, -, -, h⟩
    · exact ih h
    · have := ih h; omega
theorem NMS.app : ∀ {d e s0 a0 a1 a2 : Nat}, NMS A mc mm d s0 a0 a1 → NMS A mc mm e (s0 + d) a1 a2 → NMS A mc mm (d + e) s0 a0 a2 := by
  intro d
  induction d with
  | zero =>
    intro e s0 a0 a1 a2 h h'
    have h0 : a0 = a1 := h
    subst h0
    rw [Nat.zero_add]
    exact h'
  | succ d ih =>
    intro e s0 a0 a1 a2 h h'
    rw [show d + 1 + e = (d + e) + 1 by omega]
    rw [show s0 + (d + 1) = s0 + 1 + d by omega] at h'
    rcases h with ⟨h1, h2, h⟩ | ⟨h1, h2, h3, h4, h⟩
    · exact Or.inl ⟨h1, h2, ih h h'⟩
    · exact Or.inr ⟨h1, h2, h3, h4, ih h h'⟩
theorem OPR.nms {a' : Nat} (h : OPR A p s o a a' mc mm) : NMS A mc mm 1 s a a' := by
  obtain ⟨-, -, -, h⟩ := h
  rcases h with h | h | h | h | h | h | h | h
  · exact Or.inl ⟨by omega, by omega, h.2.2.2.2.2.2.symm⟩
  · exact Or.inl ⟨by omega, by omega, h.2.2.2.2.2.2.2.symm⟩
  · exact Or.inl ⟨by omega, by omega, h.2.2.2.2.2.2.2.2.2.2.2.2.2.2.symm⟩
  · obtain ⟨g1, g2, g3, g4, g5, g6, g7, g8, g9, g10, g11, g12, g13⟩ := h
    exact Or.inr ⟨Or.inl g1, g10, g11, g12, g13.symm⟩
  · exact Or.inl ⟨by omega, by omega, h.2.2.2.2.symm⟩
  · obtain ⟨g1, g2, g3, g4, g5, g6, g7, g8, g9, g10, g11, g12, g13, g14, g15, g16⟩ := h
    exact Or.inr ⟨Or.inr g1, g13, g14, g15, g16.symm⟩
  · exact Or.inl ⟨by omega, by omega, h.2.2.2.2.2.2.symm⟩
  · exact Or.inl ⟨by omega, by omega, h.2.2.2.2.2.2.2.symm⟩
theorem NMS.br {d s0 a0 a1 : Nat} {b : Int} (h0 : mc (A + 20 + s0) 0 = b) (hb : b = 0 ∨ b = 1) (h : NMS A mc mm d (s0 + 1) a0 a1) : NMS A mc mm (d + 1) s0 a0 a1 := Or.inl ⟨by omega, by omega, h⟩
theorem SEG.nms : ∀ {f s0 s1 o0 o1 a0 a1 : Nat}, SEG A p mc mm f s0 s1 o0 o1 a0 a1 → NMS A mc mm (s1 - s0) s0 a0 a1 := by
  intro f
  induction f with
  | zero =>
    intro s0 s1 o0 o1 a0 a1 h
    obtain ⟨rfl, rfl, rfl⟩ := h
    rw [Nat.sub_self]
    rfl
  | succ f ih =>
    intro s0 s1 o0 o1 a0 a1 h
    rcases h with ⟨rfl, rfl, rfl⟩ | ⟨s2, o2, a2, h1, h2, h3, h4, h5, h6, h7, h8, h9⟩
    · rw [Nat.sub_self]
      rfl
    · have key : NMS A mc mm (s2 - s0) s0 a0 a2 := by
        rcases h9 with ⟨g1, g2, g3⟩ | ⟨g1, o3, g2, g2', g3, g4, g5, g6, g7⟩ | ⟨g1, g2, g3, g4⟩ | ⟨g1, s3, o3, a3, g2, g3, g4, g5, g6, g7, g8, g9, g10, g11, g12, g13⟩
        · rw [g1, show s0 + 1 - s0 = 1 by omega]
          exact g3.nms
        · rw [show s2 - s0 = (s2 - (s0 + 1)) + 1 by omega]
          exact NMS.br g1.1 (Or.inr rfl) (ih g7)
        · rw [show s2 - s0 = (s2 - (s0 + 1)) + 1 by omega]
          exact NMS.br g1.1 (Or.inl rfl) (ih g4)
        · have z1 := ih g12
          have z2 := ih g13
          have z3 : NMS A mc mm ((s3 - (s0 + 1)) + (s2 - s3)) (s0 + 1) a0 a2 := z1.app (by rw [show s0 + 1 + (s3 - (s0 + 1)) = s3 by omega]; exact z2)
          rw [show s2 - s0 = ((s3 - (s0 + 1)) + (s2 - s3)) + 1 by omega]
          exact NMS.br g1.1 (Or.inl rfl) z3
      have z := key.app (e := s1 - s2) (a2 := a1) (by rw [show s0 + (s2 - s0) = s2 by omega]; exact ih h8)
      rw [show s2 - s0 + (s1 - s2) = s1 - s0 by omega] at z
      exact z
theorem MCH.nms : ∀ {k s o a : Nat}, MCH A p mc mm k s o a → NMS A mc mm s 0 0 a := by
  intro k
  induction k with
  | zero =>
    intro s o a h
    obtain ⟨rfl, -, rfl⟩ := h
    rfl
  | succ k ih =>
    intro s o a h
    obtain ⟨s0, o0, a0, o1, fu, h1, h2, h3, h4, h5, h6, h7, h8⟩ := h
    have l := h6.le
    have z := (ih h1).app (e := s - s0) (a2 := a) (by rw [Nat.zero_add]; exact h6.nms)
    rw [show s0 + (s - s0) = s by omega] at z
    exact z
theorem fNc.rf : fNc A mc mc := fun _ _ _ _ _ => rfl
theorem fNm.rf : fNm mm mm := fun _ _ _ _ _ _ => rfl
theorem fNc.st {x : Nat} {q : Nat} {v : Int} (h : fNc A mc M) (hx : x < 40) (hq : q = 6 ∨ q = 7) : fNc A mc (yup M (A + 20 + x) q v) := fun b c h1 h2 h3 => by
  rw [yup_ne (by omega)]
  exact h b c h1 h2 h3
theorem fNc.a8 {q : Nat} {v : Int} (h : fNc A mc M) : fNc A mc (yup M (A + 8) q v) := fun b c h1 h2 h3 => by
  rw [yup_na h2]
  exact h b c h1 h2 h3
theorem fNm.w8 {v : Int} (h : fNm mm N) : fNm mm (yup N 376 8 v) := fun b c h1 h2 h3 h4 => by
  rw [yup_ne h1]
  exact h b c h1 h2 h3 h4
def NO (A : Nat) (mc mm : yM) (rc rm : (Int × yM) ⊕ (Int × yM)) : Prop := ∃ (xm : Int) (mm' : yM), rm = .inl (xm, mm') ∧ fNm mm mm' ∧ ((∃ (r : Int) (mc' : yM), rc = .inr (r, mc') ∧ fNc A mc mc' ∧ mm' 376 8 = r ∧ 0 ≤ r) ∨ (∃ (x : Int) (mc' : yM), rc = .inl (x, mc') ∧ fNc A mc mc' ∧ mm' 376 8 = -1))
abbrev NLc (f A F : Nat) (x : Int) (m : yM) : Option ((Int × yM) ⊕ (Int × yM)) := yloop (fun (l : Int) ml => B73_2 f A l ml) F x m
abbrev NLm (g : Nat) (p : Int) (G : Nat) (x : Int) (m : yM) : Option ((Int × yM) ⊕ (Unit × yM)) := yloop (fun (l : Int) ml => B141_2 g p l ml) G x m
theorem NLm.out {g p G : Nat} {x : Int} {rm : (Int × yM) ⊕ (Unit × yM)} (hx : ¬ x < N 376 17 ∨ 0 ≤ N 376 8) (h : NLm g p G x N = some rm) : rm = .inl (x, N) := by
  have hB : B141_2 g p x N = some (.inr (.inl (x, N))) := by
    unfold B141_2
    by_cases q1 : x < N 376 17
    · rw [if_pos q1, if_neg (by omega)]
    · rw [if_neg q1]
  obtain ⟨f', -, ⟨l', m', e5, e6⟩ | e5⟩ := yloop_s h
  · rw [hB] at e5; cases e5
  · rw [hB] at e5; cases e5; rfl
theorem names_l {f g : Nat} (hp : p ≤ 1) (hr : rCl A p mc mm) (h16 : mc A 16 = s) (h17 : mm 376 17 = a) (hs : s ≤ 40) (ha : a ≤ 40) : ∀ (d F G x a0 : Nat) (M N : yM) (rc : (Int × yM) ⊕ (Int × yM)) (rm : (Int × yM) ⊕ (Unit × yM)), NMS A mc mm d x a0 a → x + d = s → fNc A mc M → fNm mm N → N 376 8 = -1 → NLc f A F x M = some rc → NLm g p G a0 N = some rm → ∃ (xm : Int) (mm' : yM), rm = .inl (xm, mm') ∧ fNm mm mm' ∧ ((∃ (r : Int) (mc' : yM), rc = .inr (r, mc') ∧ fNc A mc mc' ∧ mm' 376 8 = r ∧ 0 ≤ r) ∨ (∃ (x : Int) (mc' : yM), rc = .inl (x, mc') ∧ fNc A mc mc' ∧ mm' 376 8 = -1)) := by
  intro d
  induction d with
  | zero =>
    intro F G x a0 M N rc rm hN hx fc fm w8 h1 h2
    have hN' : a0 = a := hN
    subst hN'
    have m16 : M A 16 = s := by rw [fc A 16 (by omega) (by omega) (by omega)]; exact h16
    have n17 : N 376 17 = a0 := by rw [fm 376 17 (by omega) (by omega) (by omega) (by omega)]; exact h17
    have e1 := NLm.out (Or.inl (by omega)) h2
    have hB : B73_2 f A (x : Int) M = some (.inr (.inl ((x : Int), M))) := by
      unfold B73_2
      rw [if_neg (by omega)]
    obtain ⟨f', -, ⟨l', m', e5, e6⟩ | e5⟩ := yloop_s h1
    · rw [hB] at e5; cases e5
    · rw [hB] at e5; cases e5
      exact ⟨_, _, e1, fm, Or.inr ⟨_, _, rfl, fc, w8⟩⟩
  | succ d ih =>
    intro F G x a0 M N rc rm hN hx fc fm w8 h1 h2
    have m16 : M A 16 = s := by rw [fc A 16 (by omega) (by omega) (by omega)]; exact h16
    have n17 : N 376 17 = a := by rw [fm 376 17 (by omega) (by omega) (by omega) (by omega)]; exact h17
    have c0 : ∀ q, q ≠ 6 → q ≠ 7 → M (A + 20 + x) q = mc (A + 20 + x) q := fun q z1 z2 => fc _ _ (by omega) (by omega) (by omega)
    have go : ∀ (P : (Int × yM) ⊕ ((Int × yM) ⊕ (Int × yM)) → Prop), (∀ y, B73_2 f A (x : Int) M = some y → P y) → ∃ F', (∃ l' m', P (.inl (l', m')) ∧ NLc f A F' l' m' = some rc) ∨ P (.inr rc) := by
      intro P hP
      obtain ⟨f', -, ⟨l', m', e5, e6⟩ | e5⟩ := yloop_s h1
      · exact ⟨f', Or.inl ⟨l', m', hP _ e5, e6⟩⟩
      · exact ⟨f', Or.inr (hP _ e5)⟩
    have x1 : wr ((x : Int) + 1) = ((x + 1 : Nat) : Int) := by rw [wr_i (by omega) (by omega)]; omega
    rcases hN with ⟨k1, k2, hN⟩ | ⟨k1, k2, k3, k4, hN⟩
    · obtain ⟨F', ⟨l', m', ⟨_, rfl, M', hm, fc'⟩, e⟩ | ⟨_, _, M', hm, _⟩⟩ := go (fun y => ∃ l', l' = ((x + 1 : Nat) : Int) ∧ ∃ M', y = .inl (l', M') ∧ fNc A mc M') (by
        intro y e
        refine ⟨_, rfl, ?_⟩
        unfold B73_2 at e
        rw [if_pos (by omega), Int.toNat_natCast, c0 0 (by decide) (by decide)] at e
        have s34 : ∀ {y}, J73_34 f A (x : Int) (A + 20 + x) M = some y → ∃ M', y = .inl (((x + 1 : Nat) : Int), M') ∧ fNc A mc M' := by
          intro y e
          unfold J73_34 J73_112 at e
          replace e := bP_e e
          obtain ⟨r, -, e⟩ := e
          rw [x1] at e
          cases e
          exact ⟨_, rfl, fc.st (by omega) (Or.inl rfl)⟩
        rcases ite1 e with ⟨-, e⟩ | ⟨-, e⟩
        · exact s34 e
        rcases ite1 e with ⟨-, e⟩ | ⟨-, e⟩
        · exact s34 e
        rw [if_neg k1, if_neg k2] at e
        unfold J73_112 at e
        rw [x1] at e
        cases e
        exact ⟨_, rfl, fc⟩)
      · cases hm
        exact ih F' G (x + 1) a0 _ N rc rm hN (by omega) fc' fm w8 e h2
      · cases hm
    · have la := hN.le
      have hr9 := hr.1
      have r0 := hr.2.1
      have r6 := hr.2.2.1
      have M9 : M A 9 = mc A 9 := fc A 9 (by omega) (by omega) (by omega)
      have N383 : N 383 p = mm 383 p := fm 383 p (by omega) (by omega) (by omega) (by omega)
      -- the model's answer
      have mod : ∀ r, IX (mc A 9) (fun z => mc (A + 1) z = mc (A + 20 + x) 4) r → (r = -1 → rm = .inl (((a0 + 1 : Nat) : Int), yup N 376 8 (mm 382 a0))) ∧ (r ≠ -1 → ∃ G', NLm g p G' ((a0 + 1 : Nat) : Int) N = some rm) := by
        intro r hI
        have key : ∀ y, B141_2 g p (a0 : Int) N = some y → y = .inl (((a0 + 1 : Nat) : Int), if r = -1 then yup N 376 8 (mm 382 a0) else N) := by
          intro y e
          unfold B141_2 at e
          rw [if_pos (by omega), if_pos (by omega), Int.toNat_natCast] at e
          replace e := bP_e e
          obtain ⟨r', e1, e⟩ := e
          have hI' := F116_r hp (by omega) (by omega) e1
          rw [N383, ← hr9, fm 381 a0 (by omega) (by omega) (by omega) (by omega)] at hI'
          have er : r = r' := hI.eq hI' (fun z hz => by
            have hz2 := (hr.2.2.2 z hz).1
            rw [fm 391 _ (by omega) (by omega) (by omega) (by omega)]
            exact hz2.eq k2)
          subst er
          have a1 : wr ((a0 : Int) + 1) = ((a0 + 1 : Nat) : Int) := by rw [wr_i (by omega) (by omega)]; omega
          have hl := hI.lt
          unfold J141_41 at e
          rw [a1, fm 382 a0 (by omega) (by omega) (by omega) (by omega)] at e
          by_cases z : r = -1
          · rw [if_pos (by omega)] at e
            cases e
            rw [if_pos z]
          · rw [if_neg (by omega)] at e
            cases e
            rw [if_neg z]
        obtain ⟨f', -, ⟨l', m', e5, e6⟩ | e5⟩ := yloop_s h2
        · have e7 := key _ e5
          cases e7
          refine ⟨fun z => ?_, fun z => ?_⟩
          · rw [if_pos z] at e6
            exact NLm.out (Or.inr (by rw [yup_eq, k3]; exact k4)) e6
          · rw [if_neg z] at e6
            exact ⟨f', e6⟩
        · have e7 := key _ e5
          cases e7
      obtain ⟨F', hgo⟩ := go (fun y => ∃ r, IX (mc A 9) (fun z => mc (A + 1) z = mc (A + 20 + x) 4) r ∧ ((r = -1 ∧ ∃ M', y = .inr (.inr (mc (A + 20 + x) 5, M')) ∧ fNc A mc M') ∨ (r ≠ -1 ∧ ∃ M', y = .inl (((x + 1 : Nat) : Int), M') ∧ fNc A mc M'))) (by
        intro y e
        unfold B73_2 at e
        rw [if_pos (by omega), Int.toNat_natCast, c0 0 (by decide) (by decide), if_neg (by omega), if_neg (by omega)] at e
        have s66 : ∀ {y}, J73_66 f A (x : Int) (A + 20 + x) M = some y → ∃ r, IX (mc A 9) (fun z => mc (A + 1) z = mc (A + 20 + x) 4) r ∧ ((r = -1 ∧ ∃ M', y = .inr (.inr (mc (A + 20 + x) 5, M')) ∧ fNc A mc M') ∨ (r ≠ -1 ∧ ∃ M', y = .inl (((x + 1 : Nat) : Int), M') ∧ fNc A mc M')) := by
          intro y e
          unfold J73_66 J73_112 at e
          replace e := bP_e e
          obtain ⟨r, e1, e⟩ := e
          have hI := F41_r (by omega) (by omega) e1
          rw [M9, c0 4 (by decide) (by decide)] at hI
          have hI2 : IX (mc A 9) (fun z => mc (A + 1) z = mc (A + 20 + x) 4) r := hI.mp (fun z hz => by rw [fc (A + 1) z (by omega) (by omega) (by omega)])
          refine ⟨r, hI2, ?_⟩
          rw [x1, c0 5 (by decide) (by decide)] at e
          rcases ite1 e with ⟨z, e⟩ | ⟨z, e⟩
          · cases e
            exact Or.inl ⟨z, _, rfl, fc.st (by omega) (Or.inr rfl)⟩
          · refine Or.inr ⟨z, ?_⟩
            rcases ite1 e with ⟨-, e⟩ | ⟨-, e⟩
            · cases e
              exact ⟨_, rfl, (fc.st (by omega) (Or.inr rfl)).a8⟩
            · cases e
              exact ⟨_, rfl, fc.st (by omega) (Or.inr rfl)⟩
        rcases k1 with k1 | k1
        · rw [if_pos k1] at e
          exact s66 e
        · rw [if_neg (by omega), if_pos k1] at e
          exact s66 e)
      rcases hgo with ⟨l', m', ⟨r, hI, ⟨-, M', e, -⟩ | ⟨z, M', e, fc'⟩⟩, e2⟩ | ⟨r, hI, ⟨z, M', e, fc'⟩ | ⟨-, M', e, -⟩⟩
      · cases e
      · cases e
        obtain ⟨G', h3⟩ := (mod r hI).2 z
        exact ih F' G' (x + 1) (a0 + 1) _ N rc rm hN (by omega) fc' fm w8 e2 h3
      · cases e
        exact ⟨_, _, (mod r hI).1 z, fm.w8, Or.inl ⟨_, _, rfl, fc', by rw [yup_eq]; exact k3, k4⟩⟩
      · cases e
theorem F73_r {f g : Nat} {r : Int} (hp : p ≤ 1) (hP : PRG A p k s o a mc mm) (hw : mm 376 8 = -1) (h1 : F73 f A mc = some (r, mc')) (h2 : F141 g p mm = some mm') : fNc A mc mc' ∧ fNm mm mm' ∧ ((0 ≤ r ∧ mm' 376 8 = r) ∨ (r = -1 ∧ mm' 376 8 = -1)) := by
  obtain ⟨p1, p2, p3, p4, p5, p6, p7, ⟨q1, q2, q3, q4, q5, q6, q7, q8⟩, p8⟩ := hP
  have hN := p8.nms
  have key : ∃ rc rm, NLc f A f ((0 : Nat) : Int) mc = some rc ∧ NLm g p g ((0 : Nat) : Int) mm = some rm ∧ (∀ x M, rc = .inr (x, M) → r = x ∧ mc' = M) ∧ (∀ x M, rc = .inl (x, M) → r = -1 ∧ ∃ v, mc' = yup M A 17 v) ∧ (∀ x N, rm = .inl (x, N) → J141_47 g p N = some mm') := by
    unfold F73 at h1
    unfold F141 at h2
    have a1 : ∃ rc, NLc f A f ((0 : Nat) : Int) mc = some rc ∧ (∀ x M, rc = .inr (x, M) → r = x ∧ mc' = M) ∧ (∀ x M, rc = .inl (x, M) → r = -1 ∧ ∃ v, mc' = yup M A 17 v) := by
      rcases bL_e h1 with ⟨l, m, e1, e2⟩ | ⟨l, m, e1, e2⟩
      · refine ⟨_, e1, fun x M e => (by cases e), fun x M e => ?_⟩
        cases e
        replace e2 := bP_e e2
        obtain ⟨v, -, e2⟩ := e2
        cases e2
        exact ⟨rfl, v, rfl⟩
      · refine ⟨_, e1, fun x M e => ?_, fun x M e => by cases e⟩
        cases e
        cases e2
        exact ⟨rfl, rfl⟩
    have a2 : ∃ rm, NLm g p g ((0 : Nat) : Int) mm = some rm ∧ (∀ x N, rm = .inl (x, N) → J141_47 g p N = some mm') := by
      rcases bL_e h2 with ⟨l, m, e1, e2⟩ | ⟨l, m, e1, e2⟩
      · refine ⟨_, e1, fun x N e => ?_⟩
        cases e
        exact e2
      · exact ⟨_, e1, fun x N e => by cases e⟩
    obtain ⟨rc, b1, b2, b3⟩ := a1
    obtain ⟨rm, b4, b5⟩ := a2
    exact ⟨rc, rm, b1, b4, b2, b3, b5⟩
  obtain ⟨rc, rm, b1, b2, b3, b4, b5⟩ := key
  obtain ⟨xm, N, c1, c2, c3⟩ := names_l hp p1 q1 q4 (by omega) (by omega) s f g 0 0 mc mm rc rm hN (by omega) fNc.rf fNm.rf hw b1 b2
  have e5 := b5 _ _ c1
  have fin : N 376 8 = -1 → mm' 376 8 = -1 ∧ fNm mm mm' := by
    intro w
    unfold J141_47 at e5
    rw [if_pos (by omega)] at e5
    have I0 : (fun (_ : Int) (m : yM) => fNm mm m ∧ m 376 8 = -1) 1 N := ⟨c2, w⟩
    rcases bL_e e5 with ⟨l, m, e1, e2⟩ | ⟨l, m, e1, e2⟩
    · obtain ⟨l', m', ⟨i1, i2⟩, i3⟩ := yloop_inv (fun _ m => fNm mm m ∧ m 376 8 = -1) (fun l m l' m' hI hB => by
        unfold B141_57 at hB
        rcases ite1 hB with ⟨-, hB⟩ | ⟨-, hB⟩
        · replace hB := bP_e hB
          obtain ⟨v, -, hB⟩ := hB
          cases hB
          exact ⟨fun b c z1 z2 z3 z4 => by rw [yup_na z2]; exact hI.1 b c z1 z2 z3 z4, by rw [yup_na (by decide)]; exact hI.2⟩
        · cases hB) _ _ _ _ I0 e1
      unfold B141_57 at i3
      rcases ite1 i3 with ⟨-, i3⟩ | ⟨-, i3⟩
      · replace i3 := bP_e i3
        obtain ⟨v, -, i3⟩ := i3
        cases i3
      cases i3
      rcases bL_e e2 with ⟨l, m, e1, e2⟩ | ⟨l, m, e1, e2⟩
      · obtain ⟨l', m', ⟨i1, i2⟩, i3⟩ := yloop_inv (fun _ m => fNm mm m ∧ m 376 8 = -1) (fun l m l' m' hI hB => by
          unfold B141_102 at hB
          rcases ite1 hB with ⟨-, hB⟩ | ⟨-, hB⟩
          · replace hB := bP_e hB
            obtain ⟨v, -, hB⟩ := hB
            cases hB
            exact ⟨fun b c z1 z2 z3 z4 => by rw [yup_na z3]; exact hI.1 b c z1 z2 z3 z4, by rw [yup_na (by decide)]; exact hI.2⟩
          · cases hB) _ _ _ _ ⟨i1, i2⟩ e1
        unfold B141_102 at i3
        rcases ite1 i3 with ⟨-, i3⟩ | ⟨-, i3⟩
        · replace i3 := bP_e i3
          obtain ⟨v, -, i3⟩ := i3
          cases i3
        cases i3
        have s188 : ∀ {l : Int} {m : yM} {y : (Int × yM) ⊕ ((Int × yM) ⊕ (Unit × yM))}, fNm mm m ∧ m 376 8 = -1 → B141_147 g p l m = some y → (∃ l' m', y = .inl (l', m') ∧ fNm mm m' ∧ m' 376 8 = -1) ∨ y = .inr (.inl (l, m)) := by
          intro l m y hI hB
          unfold B141_147 at hB
          have k : ∀ {x3 : Int}, J141_188 g p l x3 m = some y → (∃ l' m', y = .inl (l', m') ∧ fNm mm m' ∧ m' 376 8 = -1) := by
            intro x3 e
            unfold J141_188 J141_209 at e
            replace e := bP_e e
            obtain ⟨v, -, e⟩ := e
            cases e
            exact ⟨_, _, rfl, fun b c z1 z2 z3 z4 => by rw [yup_na z4]; exact hI.1 b c z1 z2 z3 z4, by rw [yup_na (by decide)]; exact hI.2⟩
          rcases ite1 hB with ⟨-, hB⟩ | ⟨-, hB⟩
          · rcases ite1 hB with ⟨-, hB⟩ | ⟨-, hB⟩
            · exact Or.inl (k hB)
            · rcases ite1 hB with ⟨-, hB⟩ | ⟨-, hB⟩
              · exact Or.inl (k hB)
              · unfold J141_209 at hB
                cases hB
                exact Or.inl ⟨_, _, rfl, hI⟩
          · cases hB
            exact Or.inr rfl
        rcases bL_e e2 with ⟨l, m, e1, e2⟩ | ⟨l, m, e1, e2⟩
        · obtain ⟨l', m', hI, i3⟩ := yloop_inv (fun _ m => fNm mm m ∧ m 376 8 = -1) (fun l m l' m' hI hB => by
            rcases s188 hI hB with ⟨l2, m2, e, e'⟩ | e
            · cases e; exact e'
            · cases e) _ _ _ _ ⟨i1, i2⟩ e1
          rcases s188 hI i3 with ⟨l2, m2, e, e'⟩ | e
          · cases e
          · cases e
            cases e2
            exact ⟨hI.2, hI.1⟩
        · obtain ⟨l', m', hI, i3⟩ := yloop_inv (fun _ m => fNm mm m ∧ m 376 8 = -1) (fun l m l' m' hI hB => by
            rcases s188 hI hB with ⟨l2, m2, e, e'⟩ | e
            · cases e; exact e'
            · cases e) _ _ _ _ ⟨i1, i2⟩ e1
          rcases s188 hI i3 with ⟨l2, m2, e, e'⟩ | e
          · cases e
          · cases e
      · exact absurd e1 (fun e => by
          obtain ⟨l', m', -, i3⟩ := yloop_inv (fun _ _ => True) (fun _ _ _ _ _ _ => trivial) _ _ _ _ trivial e
          unfold B141_102 at i3
          rcases ite1 i3 with ⟨-, i3⟩ | ⟨-, i3⟩
          · replace i3 := bP_e i3
            obtain ⟨v, -, i3⟩ := i3
            cases i3
          · cases i3)
    · exact absurd e1 (fun e => by
        obtain ⟨l', m', -, i3⟩ := yloop_inv (fun _ _ => True) (fun _ _ _ _ _ _ => trivial) _ _ _ _ trivial e
        unfold B141_57 at i3
        rcases ite1 i3 with ⟨-, i3⟩ | ⟨-, i3⟩
        · replace i3 := bP_e i3
          obtain ⟨v, -, i3⟩ := i3
          cases i3
        · cases i3)
  rcases c3 with ⟨r', M, d1, d2, d3, d4⟩ | ⟨x, M, d1, d2, d3⟩
  · obtain ⟨rfl, rfl⟩ := b3 _ _ d1
    unfold J141_47 at e5
    rw [if_neg (by omega)] at e5
    cases e5
    exact ⟨d2, c2, Or.inl ⟨d4, d3⟩⟩
  · obtain ⟨rfl, v, rfl⟩ := b4 _ _ d1
    obtain ⟨f1, f2⟩ := fin d3
    exact ⟨fun b c z1 z2 z3 => by rw [yup_ne z3]; exact d2 b c z1 z2 z3, f2, Or.inr ⟨rfl, f1⟩⟩
end NM

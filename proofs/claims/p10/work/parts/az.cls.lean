/-! CLASSES: the class's one loop over members, the model's two -/
def MRest (g : Nat) (x1 : Int) (G H : Nat) (mm fin : yM) : Prop := ∃ m1, bL (yloop (fun (_ : Unit) ml => B140_4 g ml) G () mm) (fun _ m => J140_66 g m) (fun (_ : Unit) mr => some mr) = some m1 ∧ yloop (fun (_ : Unit) ml => B152_99 g x1 ml) H () m1 = some (.inl ((), fin))
abbrev CLM (f A F : Nat) (l : Int × Int) (mc : yM) : Option (((Int × Int) × yM) ⊕ (Int × yM)) := yloop (fun (l : Int × Int) ml => B74_40 f A l.1 l.2 ml) F l mc
def CO (A p : Nat) (mc mm : yM) (rc : ((Int × Int) × yM) ⊕ (Int × yM)) (fin : yM) : Prop := ∃ (x4 x5 : Int) (mc' : yM), rc = .inl ((x4, x5), mc') ∧ FrC A mc mc' ∧ FrM p mm fin ∧ ((x4 = 0 ∧ Flt mc' fin) ∨ (x4 = 1 ∧ fin 376 8 = -1 ∧ 1 ≤ mc' A 9 ∧ ∃ k s o a : Nat, PRG A p k s o a mc' fin))
section CLS
variable {tx : Int → Int} {len : Int} {n : Nat} {en tk tp tn : Nat → Int} {A p k s o a : Nat} {mc mm mc' mm' fin : yM}
theorem MK.k3 {i : Nat} (T : TOK tx len n en tk tp tn) (h : MK n en tk tp tn i mm) : mm 376 3 = 0 ↔ tk i = 0 := by
  rw [(h.z T).2]
  rcases h with ⟨h1, h2, -⟩ | ⟨h1, h2, h3, h4⟩
  · exact ⟨fun _ => h1, fun _ => h2⟩
  · constructor
    · intro e
      rcases h4 with ⟨-, q, -⟩ | ⟨-, q⟩ | ⟨-, q, -⟩ <;> omega
    · intro e; omega
theorem PRG.fr (hP : PRG A p k s o a mc mm) (r1 : rCl A p mc' mm') (r2 : rFd A p mc' mm') (r3 : rFb A mc') (e9 : mc A 9 ≤ mc' A 9) (ec : ∀ b q, (b = A ∧ 10 ≤ q ∧ q ≠ 11) ∨ (A + 5 ≤ b ∧ b < A + 60) → mc' b q = mc b q) (em : ∀ b q, (b = 376 ∧ (q = 9 ∨ q = 17)) ∨ b = 381 ∨ b = 382 ∨ b = 384 ∨ (386 ≤ b ∧ b ≤ 390) ∨ (395 ≤ b ∧ b ≤ 403) → mm' b q = mm b q) : PRG A p k s o a mc' mm' := by
  obtain ⟨p1, p2, p3, p4, p5, p6, p7, ⟨q1, q2, q3, q4, q5, q6, q7, q8⟩, p8⟩ := hP
  have h10 := p4.2.2.1
  refine ⟨r1, r2, r3, p4.fr (ec _ _ (by omega)) e9 (fun z q z1 z2 => ec _ _ (by omega)) (fun b q hb => em _ _ (by omega)), p5.fr (fun q z1 z2 => ec _ _ (by omega)) (fun b z1 z2 => em _ _ (by omega)), ?_, ⟨?_, ?_, ?_⟩, ⟨?_, ?_, ?_, ?_, q5, q6, q7, by rw [em 400 _ (by omega)]; exact q8.1, q8.2.1.fr (ec _ _ (by omega)) (fun q _ => ec _ _ (by omega)) (fun t ht => ec _ _ (by omega)), fun z hz => by rw [ec A 15 (by omega), ec (A + 10 + z) 2 (by omega), ec (A + 10 + z) 3 (by omega)]; exact q8.2.2.1 z hz, q8.2.2.2.fr (fun j q hj => ec _ _ (by omega)) (fun t q ht hq => ec _ _ (by omega))⟩, ?_⟩
  · rw [ec A 10 (by omega)]; exact p6
  · rw [ec A 15 (by omega), em 389 p (by omega)]; exact p7.1
  · rw [ec A 15 (by omega)]; exact p7.2.1
  · rw [ec A 15 (by omega)]; exact p7.2.2
  · rw [ec A 16 (by omega)]; exact q1
  · rw [em 376 9 (by omega)]; exact q2
  · rw [em 390 p (by omega)]; exact q3
  · rw [em 376 17 (by omega)]; exact q4
  · exact p8.fr (fun z q z1 z2 => ec _ _ (by omega)) (fun t q t1 => ec _ _ (by omega)) (Int.le_of_eq (ec _ _ (by omega)).symm) (Int.le_of_eq (ec _ _ (by omega)).symm) (Int.le_of_eq (ec _ _ (by omega)).symm) (Int.le_of_eq (ec _ _ (by omega)).symm) (fun q hq => ec _ _ (by omega)) (fun q z1 z2 => em _ _ (by omega)) (fun q z1 z2 => em _ _ (by omega)) (fun b q hb z1 z2 => em _ _ (by omega)) (fun b q hb z1 => em _ _ (by omega)) (fun q _ => em _ _ (by omega)) (fun z z1 => em _ _ (by omega))
theorem MRest.stp {g G H : Nat} {x1 : Int} {P : yM → Prop} (h : MRest g x1 G H mm fin) (hB : ∀ y, B140_4 g mm = some y → ∃ m', y = .inl ((), m') ∧ P m') : ∃ G' m', P m' ∧ MRest g x1 G' H m' fin := by
  obtain ⟨m1, e1, e2⟩ := h
  rcases bL_e e1 with ⟨l, m, e3, e4⟩ | ⟨l, m, e3, e4⟩
  · obtain ⟨f', -, ⟨l', m', e5, e6⟩ | e5⟩ := yloop_s e3
    · obtain ⟨m2, e, hP⟩ := hB _ e5
      cases e
      exact ⟨f', _, hP, m1, by rw [e6]; exact e4, e2⟩
    · obtain ⟨m2, e, hP⟩ := hB _ e5
      cases e
  · obtain ⟨f', -, ⟨l', m', e5, e6⟩ | e5⟩ := yloop_s e3
    · obtain ⟨m2, e, hP⟩ := hB _ e5
      cases e
      exact ⟨f', _, hP, m1, by rw [e6]; exact e4, e2⟩
    · obtain ⟨m2, e, hP⟩ := hB _ e5
      cases e
theorem MRest.out {g G H : Nat} {x1 : Int} (h : MRest g x1 G H mm fin) (hB : B140_4 g mm = some (.inr (.inl ((), mm)))) : ∃ m1, J140_66 g mm = some m1 ∧ yloop (fun (_ : Unit) ml => B152_99 g x1 ml) H () m1 = some (.inl ((), fin)) := by
  obtain ⟨m1, e1, e2⟩ := h
  rcases bL_e e1 with ⟨l, m, e3, e4⟩ | ⟨l, m, e3, e4⟩
  · obtain ⟨f', -, ⟨l', m', e5, e6⟩ | e5⟩ := yloop_s e3
    · rw [hB] at e5; cases e5
    · rw [hB] at e5; cases e5
      exact ⟨m1, e4, e2⟩
  · obtain ⟨f', -, ⟨l', m', e5, e6⟩ | e5⟩ := yloop_s e3
    · rw [hB] at e5; cases e5
    · rw [hB] at e5; cases e5
theorem MRest.w {g G H : Nat} {x1 : Int} (h : MRest g x1 G H mm fin) (hw : 0 ≤ mm 376 8) : fin = mm := by
  obtain ⟨m1, e1, e2⟩ := h.out (by unfold B140_4; rw [if_neg (by omega)])
  unfold J140_66 at e1
  rw [if_neg (by omega)] at e1
  cases e1
  have hB : B152_99 g x1 mm = some (.inr (.inl ((), mm))) := by unfold B152_99; rw [if_neg (by omega)]
  obtain ⟨f', -, ⟨l', m', e5, e6⟩ | e5⟩ := yloop_s e2
  · rw [hB] at e5; cases e5
  · rw [hB] at e5; cases e5; rfl
theorem MRest.shut {g G H i : Nat} {x1 : Int} (T : TOK tx len n en tk tp tn) (hl : len ≤ 320) (hM : MT tx len n en tk tp tn p i mm) (ht : tk i = 125) (h : MRest g x1 G H mm fin) : ∃ m2, MT tx len n en tk tp tn p (i + 1) m2 ∧ (∀ a q, ¬ (a = 376 ∧ 3 ≤ q ∧ q ≤ 7) → m2 a q = mm a q) ∧ ((tk (i + 1) = 0 ∧ fin = m2) ∨ (tk (i + 1) ≠ 0 ∧ ∃ H' m3, F119 g m2 = some m3 ∧ MRest g x1 g H' m3 fin)) := by
  obtain ⟨m1, e1, e2⟩ := h.out (by unfold B140_4; rw [if_pos (by rw [hM.2.2.2.1]; decide), hM.2.2.2.2.mark T (by unfold sgn; omega), if_pos ht, if_neg (by decide)])
  unfold J140_66 at e1
  rw [if_pos (by rw [hM.2.2.2.1]; decide)] at e1
  replace e1 := bU_e e1
  obtain ⟨m2, e3, e1⟩ := e1
  cases e1
  obtain ⟨hM2, f2⟩ := hM.next T hl (by omega) e3
  refine ⟨m1, hM2, f2, ?_⟩
  have k3 := hM2.2.2.2.2.k3 T
  by_cases t : tk (i + 1) = 0
  · refine Or.inl ⟨t, ?_⟩
    have hB : B152_99 g x1 m1 = some (.inr (.inl ((), m1))) := by
      unfold B152_99
      rw [if_pos (by rw [hM2.2.2.2.1]; decide), if_pos (k3.mpr t)]
    obtain ⟨f', -, ⟨l', m', e5, e6⟩ | e5⟩ := yloop_s e2
    · rw [hB] at e5; cases e5
    · rw [hB] at e5; cases e5; rfl
  · refine Or.inr ⟨t, ?_⟩
    have key : ∀ y, B152_99 g x1 m1 = some y → ∃ m5, F140 g m1 = some m5 ∧ y = .inl ((), m5) := by
      intro y e
      unfold B152_99 at e
      rw [if_pos (by rw [hM2.2.2.2.1]; decide), if_neg (fun z => t (k3.mp z))] at e
      replace e := bU_e e
      obtain ⟨m5, e5, e⟩ := e
      cases e
      exact ⟨m5, e5, rfl⟩
    obtain ⟨f', -, ⟨l', m', e5, e6⟩ | e5⟩ := yloop_s e2
    · obtain ⟨m5, e7, e8⟩ := key _ e5
      cases e8
      unfold F140 at e7
      replace e7 := bU_e e7
      obtain ⟨m3, e8, e9⟩ := e7
      exact ⟨f', m3, e8, _, e9, e6⟩
    · obtain ⟨m5, e7, e8⟩ := key _ e5
      cases e8
theorem CLM.z {f F : Nat} {l : Int × Int} {rc : ((Int × Int) × yM) ⊕ (Int × yM)} (h0 : l.1 = 0 ∨ mc 2 3 ≠ 0) (h : CLM f A F l mc = some rc) : rc = .inl (l, mc) := by
  have hB : B74_40 f A l.1 l.2 mc = some (.inr (.inl (l, mc))) := by
    unfold B74_40
    by_cases q1 : l.2 < 320
    · rw [if_pos q1]
      by_cases q2 : l.1 = 0
      · rw [if_pos q2]
      · rw [if_neg q2, if_neg (by omega)]
    · rw [if_neg q1]
  obtain ⟨f', -, ⟨l', m', e5, e6⟩ | e5⟩ := yloop_s h
  · rw [hB] at e5; cases e5
  · rw [hB] at e5; cases e5; rfl
theorem CLM.stp {f F i : Nat} {x5 : Int} {rc : ((Int × Int) × yM) ⊕ (Int × yM)} (hC : CT tk tp tn i mc) (h3 : mc 2 3 = 0) (h5 : 0 ≤ x5 ∧ x5 < 320) (h : CLM f A (F + 1) (1, x5) mc = some rc) : ∃ (r : Int) (M : yM), CLM f A F (r, x5 + 1) M = some rc ∧ ((tk i = 2 ∧ F49 f A mc = some (r, M)) ∨ (tk i = 3 ∧ F70 f A mc = some (r, M)) ∨ (tk i = 125 ∧ F71 f A mc = some (r, M)) ∨ (tk i ≠ 2 ∧ tk i ≠ 3 ∧ tk i ≠ 125 ∧ F43 f mc = some (r, M))) := by
  have key : ∀ y, B74_40 f A 1 x5 mc = some y → ∃ (r : Int) (M : yM), y = .inl ((r, x5 + 1), M) ∧ ((tk i = 2 ∧ F49 f A mc = some (r, M)) ∨ (tk i = 3 ∧ F70 f A mc = some (r, M)) ∨ (tk i = 125 ∧ F71 f A mc = some (r, M)) ∨ (tk i ≠ 2 ∧ tk i ≠ 3 ∧ tk i ≠ 125 ∧ F43 f mc = some (r, M))) := by
    intro y e
    unfold B74_40 at e
    rw [if_pos h5.2, if_neg (by decide), if_pos h3, hC.kind] at e
    rcases ite1 e with ⟨q, e⟩ | ⟨q, e⟩
    · replace e := bI_e e
      obtain ⟨r, M, e1, e⟩ := e
      unfold J74_133 at e
      rw [wr_i (by omega) (by omega)] at e
      cases e
      exact ⟨r, M, rfl, Or.inl ⟨q, e1⟩⟩
    rcases ite1 e with ⟨q2, e⟩ | ⟨q2, e⟩
    · replace e := bI_e e
      obtain ⟨r, M, e1, e⟩ := e
      unfold J74_133 at e
      rw [wr_i (by omega) (by omega)] at e
      cases e
      exact ⟨r, M, rfl, Or.inr (Or.inl ⟨q2, e1⟩)⟩
    rcases ite1 e with ⟨q3, e⟩ | ⟨q3, e⟩
    · replace e := bI_e e
      obtain ⟨r, M, e1, e⟩ := e
      unfold J74_133 at e
      rw [wr_i (by omega) (by omega)] at e
      cases e
      exact ⟨r, M, rfl, Or.inr (Or.inr (Or.inl ⟨q3, e1⟩))⟩
    · replace e := bI_e e
      obtain ⟨r, M, e1, e⟩ := e
      unfold J74_133 at e
      rw [wr_i (by omega) (by omega)] at e
      cases e
      exact ⟨r, M, rfl, Or.inr (Or.inr (Or.inr ⟨q, q2, q3, e1⟩))⟩
  obtain ⟨f', hf, ⟨l', m', e5, e6⟩ | e5⟩ := yloop_s h
  · obtain ⟨r, M, e, hr⟩ := key _ e5
    cases e
    obtain rfl : F = f' := by omega
    exact ⟨_, _, e6, hr⟩
  · obtain ⟨r, M, e, hr⟩ := key _ e5
    cases e
theorem CO.tr {M N : yM} {rc : ((Int × Int) × yM) ⊕ (Int × yM)} (h : CO A p M N rc fin) (h1 : FrC A mc M) (h2 : FrM p mm N) : CO A p mc mm rc fin := by
  obtain ⟨x4, x5, mc', e1, e2, e3, e4⟩ := h
  exact ⟨x4, x5, mc', e1, h1.tr e2, h2.tr e3, e4⟩
theorem rFb.hd {M M' : yM} (h : rFb A M) (e : ∀ k : Nat, (k : Int) < M' A 9 → ∀ f : Nat, f < 8 → bt (M' (A + 3) k) f → ∃ j : Nat, (j : Int) < M A 9 ∧ bt (M (A + 3) j) f) (e11 : M' A 11 = M A 11) : rFb A M' := by
  intro z hz w w1 w2 hb
  obtain ⟨j, j1, j2⟩ := e z hz w w2 hb
  exact h j j1 w (by omega) w2 j2
theorem cls_r {f g : Nat} {x1 : Int} (T : TOK tx len n en tk tp tn) (hl : len ≤ 320) (hA : A = 256 ∨ A = 316) (hp : p ≤ 1) : ∀ (F i k s o a G H : Nat) (x5 : Int) (mc mm fin : yM) (rc : ((Int × Int) × yM) ⊕ (Int × yM)), CT tk tp tn i mc → MT tx len n en tk tp tn p i mm → PRG A p k s o a mc mm → 1 ≤ mc A 9 → mc 2 3 = 0 → 0 ≤ x5 → x5 < i → CLM f A F (1, x5) mc = some rc → MRest g x1 G H mm fin → CO A p mc mm rc fin := by
  intro F
  induction F with
  | zero => intro i k s o a G H x5 mc mm fin rc _ _ _ _ _ _ _ h; cases h
  | succ F ih =>
    intro i k s o a G H x5 mc mm fin rc hC hM hP h9 h23 h0 h5 hc hR
    have hi := hM.le T hl
    have hP0 := hP
    obtain ⟨p1, p2, p3, -⟩ := hP
    obtain ⟨r, M, hc2, hst⟩ := CLM.stp hC h23 (by omega) hc
    have w8 : mm 376 8 < 0 := by rw [hM.2.2.2.1]; decide
    rcases hst with ⟨t, e1⟩ | ⟨t, e1⟩ | ⟨t, e1⟩ | ⟨t1, t2, t3, e1⟩
    · -- a field
      obtain ⟨G', N, e2, hR2⟩ := hR.stp (P := fun m' => F122 g mm = some m') (fun y e => by
        unfold B140_4 at e
        have n1 : tk i ≠ 125 := by omega
        rw [if_pos w8, hM.2.2.2.2.mark T (by unfold sgn; omega), if_neg n1, if_pos rfl, hM.2.2.2.2.isField T, if_pos t, if_neg (by decide)] at e
        replace e := bU_e e
        obtain ⟨m5, e5, e⟩ := e
        cases e
        exact ⟨m5, rfl, e5⟩)
      obtain ⟨fc, fm, hr⟩ := field_r T hl hA hp hC hM (by omega) p1 p2 p3 h9 e1 e2
      rcases hr with ⟨rfl, hF⟩ | ⟨rfl, i', i1, c1, c2, c3, c4, c5, c6, c7, c8, c9⟩
      · have := hR2.w hF.2
        subst this
        exact ⟨0, _, M, CLM.z (Or.inl rfl) hc2, fc, fm, Or.inl ⟨rfl, hF⟩⟩
      · exact (ih i' k s o a G' H (x5 + 1) M N fin rc c1 c2 (hP0.fr c3 c4 c5 (by omega) (fun b q hb => c7 b q (by omega) (by omega) (by omega) (by omega)) (fun b q hb => c9 b q (by omega) (by omega) (by omega) (by omega))) (by omega) (by omega) (by omega) (by omega) hc2 hR2).tr fc fm
    · -- a method
      obtain ⟨G', N, e2, hR2⟩ := hR.stp (P := fun m' => bU (F126 g mm) (fun m3769 => (if m3769 376 8 < 0 then (bU (F139 g m3769) (fun m4808 => (some ((.inl ((), m4808) : (Unit × yM) ⊕ ((Unit × yM) ⊕ (Unit × yM))))))) else (some (.inl ((), m3769))))) = some (.inl ((), m'))) (fun y e => by
        unfold B140_4 at e
        have n1 : tk i ≠ 125 := by omega
        have n2 : tk i ≠ 2 := by omega
        rw [if_pos w8, hM.2.2.2.2.mark T (by unfold sgn; omega), if_neg n1, if_pos rfl, hM.2.2.2.2.isField T, if_neg n2, if_pos rfl, hM.2.2.2.2.isDef T, if_pos t, if_neg (by decide)] at e
        obtain ⟨m', e3, -⟩ := meth_r T hl hA hp hC hM (by omega) hP0 h9 e1 e
        subst e3
        exact ⟨m', rfl, e⟩)
      obtain ⟨N', e3, fc, fm, hr⟩ := meth_r T hl hA hp hC hM (by omega) hP0 h9 e1 e2
      cases e3
      rcases hr with ⟨rfl, hF⟩ | ⟨rfl, i', k', s', o', a', i1, c1, c2, c3, c4, c5⟩
      · have := hR2.w hF.2
        subst this
        exact ⟨0, _, M, CLM.z (Or.inl rfl) hc2, fc, fm, Or.inl ⟨rfl, hF⟩⟩
      · exact (ih i' k' s' o' a' G' H (x5 + 1) M N fin rc c1 c2 c3 (by omega) (by omega) (by omega) (by omega) hc2 hR2).tr fc fm
    · -- the end of a class
      obtain ⟨m2, hM2, f2, hR2⟩ := hR.shut T hl hM t
      have hi2 := hM2.le T hl
      unfold F71 at e1
      rw [hC.1, wr_i (x := (i : Int) + 1) (by omega) (by omega)] at e1
      have hC1 : CT tk tp tn (i + 1) (yup mc 2 2 ((i : Int) + 1)) := hC.at (by rw [yup_eq]; omega) (fun a q ha => yup_na (by omega))
      rw [hC1.kind] at e1
      rcases hR2 with ⟨t2, rfl⟩ | ⟨t2, H', m3, e3, hR3⟩
      · rw [if_pos t2] at e1
        unfold J71_23 at e1
        rw [if_neg (by decide)] at e1
        cases e1
        have q : CLM f A F (1, x5 + 1) (yup (yup mc 2 2 ((i : Int) + 1)) 2 3 1) = some rc := hc2
        have E : ∀ b q, b ≠ 2 → yup (yup mc 2 2 ((i : Int) + 1)) 2 3 1 b q = mc b q := fun b q hb => by rw [yup_na hb, yup_na hb]
        refine ⟨1, x5 + 1, _, CLM.z (Or.inr (by rw [yup_eq]; decide)) q, FrC.rf.u2.u2, FrM.rf.tk f2, Or.inr ⟨rfl, hM2.2.2.2.1, by rw [E _ _ (by omega)]; exact h9, k, s, o, a, ?_⟩⟩
        exact hP0.fr (p1.fr (E _ _ (by omega)) (fun b q hb => E _ _ (by omega)) (fun b q hb => f2 _ _ (by omega))) (p2.fr (E _ _ (by omega)) (fun q => E _ _ (by omega)) (fun b q hb => f2 _ _ (by omega))) (p3.hd (fun z hz w w1 hb => ⟨z, by rw [E _ _ (by omega)] at hz; exact hz, by rw [E _ _ (by omega)] at hb; exact hb⟩) (E _ _ (by omega))) (Int.le_of_eq (E _ _ (by omega)).symm) (fun b q hb => E _ _ (by omega)) (fun b q hb => f2 _ _ (by omega))
      · rw [if_neg t2] at e1
        unfold J71_23 at e1
        rw [if_pos rfl] at e1
        replace e1 := bI_e e1
        obtain ⟨r2, M2, e4, e1⟩ := e1
        have E : ∀ b q, b ≠ 2 → yup (yup mc 2 2 ((i : Int) + 1)) 2 3 0 b q = mc b q := fun b q hb => by rw [yup_na hb, yup_na hb]
        have hC2 : CT tk tp tn (i + 1) (yup (yup mc 2 2 ((i : Int) + 1)) 2 3 0) := hC1.fr (yup_nk (by decide)) (fun a q ha => yup_na (by omega))
        have r1 : rCl A p (yup (yup mc 2 2 ((i : Int) + 1)) 2 3 0) m2 := p1.fr (E _ _ (by omega)) (fun b q hb => E _ _ (by omega)) (fun b q hb => f2 _ _ (by omega))
        obtain ⟨fc, fm, hr⟩ := head_r T hl hA hp hC2 hM2 r1 e4 e3
        have fc' : FrC A mc M2 := FrC.rf.u2.u2.tr fc
        have fm' : FrM p mm m3 := (FrM.rf.tk f2).tr fm
        rcases hr with ⟨rfl, hF⟩ | ⟨rfl, -, i', i1, c1, c2, c3, c4, c5, c6, c7, c8⟩
        · rw [if_pos rfl] at e1
          cases e1
          have := hR3.w hF.2
          subst this
          exact ⟨0, _, M, CLM.z (Or.inl rfl) hc2, fc', fm', Or.inl ⟨rfl, hF⟩⟩
        · rw [if_neg (by decide)] at e1
          cases e1
          have E2 : ∀ b q, b ≠ 2 → ¬ (b = A ∧ q = 9) → b ≠ A + 1 → b ≠ A + 2 → b ≠ A + 3 → M b q = mc b q := fun b q b1 b2 b3 b4 b5 => by rw [c5 b q b1 b2 b3 b4 b5, E b q b1]
          have E3 : ∀ b q, ¬ (b = 376 ∧ 3 ≤ q ∧ q ≤ 7) → b ≠ 383 → b ≠ 391 → b ≠ 392 → b ≠ 393 → m3 b q = mm b q := fun b q b1 b2 b3 b4 b5 => by rw [c7 b q b1 b2 b3 b4 b5, f2 b q b1]
          have x9 : M A 9 = mc A 9 + 1 := by rw [c4, E _ _ (by omega)]
          refine (ih i' k s o a g H' (x5 + 1) M m3 fin rc c1 c2 ?_ (by omega) (by rw [c6, yup_eq]) (by omega) (by omega) hc2 hR3).tr fc' fm'
          refine hP0.fr c3 (p2.fr (E2 _ _ (by omega) (by omega) (by omega) (by omega) (by omega)) (fun q => E2 _ _ (by omega) (by omega) (by omega) (by omega) (by omega)) (fun b q hb => E3 _ _ (by omega) (by omega) (by omega) (by omega) (by omega))) ?_ (by omega) (fun b q hb => E2 _ _ (by omega) (by omega) (by omega) (by omega) (by omega)) (fun b q hb => E3 _ _ (by omega) (by omega) (by omega) (by omega) (by omega))
          refine p3.hd (fun z hz w w1 hb => ?_) (E2 _ _ (by omega) (by omega) (by omega) (by omega) (by omega))
          obtain ⟨j, j1, j2⟩ := c8 z hz w w1 hb
          rw [E _ _ (by omega)] at j1 j2
          exact ⟨j, j1, j2⟩
    · -- nothing of a class
      obtain ⟨G', N, e2, hR2⟩ := hR.stp (P := fun m' => F104 g mm = some m') (fun y e => by
        unfold B140_4 at e
        rw [if_pos w8, hM.2.2.2.2.mark T (by unfold sgn; omega), if_neg t3, if_pos rfl, hM.2.2.2.2.isField T, if_neg t1, if_pos rfl, hM.2.2.2.2.isDef T, if_neg t2, if_pos rfl] at e
        replace e := bU_e e
        obtain ⟨m5, e5, e⟩ := e
        cases e
        exact ⟨m5, rfl, e5⟩)
      have := hM.stop T e2
      subst this
      unfold F43 at e1
      rw [hC.plc] at e1
      cases e1
      have z := hR2.w (by rw [yup_eq]; exact hM.tp0 T)
      subst z
      exact ⟨0, _, _, CLM.z (Or.inl rfl) hc2, FrC.rf.u2, FrM.rf.w8, Or.inl ⟨rfl, Flt.mk (hM.tp0 T)⟩⟩
end CLS

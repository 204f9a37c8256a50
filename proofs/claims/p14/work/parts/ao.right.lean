/-! WHAT STANDS BEHIND = -/
/-- within a statement: the class at M, the model at N, both at the token j -/
def CX (tx : Int → Int) (len : Int) (n : Nat) (en tk tp tn : Nat → Int) (A p k res s o a i0 : Nat) (mc mm : yM) (j : Nat) (M N : yM) : Prop := i0 ≤ j ∧ CT tk tp tn j M ∧ MT tx len n en tk tp tn p j N ∧ rBd A p k res o a M N ∧ M (A + 20 + s) 1 = k ∧ M (A + 20 + s) 8 = 0 ∧ fSc A s (mc A 13) mc M ∧ fSm p o a (mm 388 p) (mm 387 p) mm N ∧ (mm 388 p = mc A 14 ∧ 0 ≤ mc A 14) ∧ (mm 387 p = mc A 13 ∧ 0 ≤ mc A 13) ∧ mc A 14 ≤ M A 14 ∧ M A 13 = mc A 13 ∧ mc A 15 ≤ M A 15
section RI
variable {tx : Int → Int} {len : Int} {n : Nat} {en tk tp tn : Nat → Int} {A p k res s o a i0 j : Nat} {mc mm M N M' N' : yM}
theorem CX.kp (h : CX tx len n en tk tp tn A p k res s o a i0 mc mm j M N) (hA : A = 256 ∨ A = 316) (hs : s < 40) (e1 : ∀ b q, ¬ (b = A + 20 + s ∧ q ≠ 1 ∧ q ≠ 8) → M' b q = M b q) : CX tx len n en tk tp tn A p k res s o a i0 mc mm j M' N := by
  obtain ⟨h1, h2, h3, h4, h5, h6, h7, h8, h9, h10, h11, h12, h13⟩ := h
  have hk := h4.1.2.1
  refine ⟨h1, h2.fr (e1 _ _ (by omega)) (fun b q hb => e1 _ _ (by omega)), h3, h4.fr hA (fun q q1 q2 => e1 _ _ (by omega)) (e1 _ _ (by omega)) (fun q => e1 _ _ (by omega)) (fun b q hb => rfl), by rw [e1 _ _ (by omega)]; exact h5, by rw [e1 _ _ (by omega)]; exact h6, fun b q x1 x2 x3 x4 x5 => by rw [e1 b q (by omega)]; exact h7 b q x1 x2 x3 x4 x5, h8, h9, h10, ?_, ?_, ?_⟩
  · rw [e1 _ _ (by omega)]; exact h11
  · rw [e1 _ _ (by omega)]; exact h12
  · rw [e1 _ _ (by omega)]; exact h13
theorem CX.set (h : CX tx len n en tk tp tn A p k res s o a i0 mc mm j M N) (hA : A = 256 ∨ A = 316) (hs : s < 40) {q : Nat} {v : Int} (hq : q ≠ 1 ∧ q ≠ 8) : CX tx len n en tk tp tn A p k res s o a i0 mc mm j (yup M (A + 20 + s) q v) N := h.kp hA hs (fun b q' hb => yup_ne (by omega))
/-- both go on by a token -/
theorem CX.next (h : CX tx len n en tk tp tn A p k res s o a i0 mc mm j M N) (hA : A = 256 ∨ A = 316) (hs : s < 40) (hM : MT tx len n en tk tp tn p (j + 1) N') (f : ∀ b q, ¬ (b = 376 ∧ 3 ≤ q ∧ q ≤ 7) → N' b q = N b q) : CX tx len n en tk tp tn A p k res s o a i0 mc mm (j + 1) (yup M 2 2 ((j : Int) + 1)) N' := by
  obtain ⟨h1, h2, h3, h4, h5, h6, h7, h8, h9, h10, h11, h12, h13⟩ := h
  refine ⟨by omega, h2.at (by rw [yup_eq]; omega) (fun b q hb => yup_na (by omega)), hM, h4.tok (s := s) hA (fun b q b1 b2 => yup_ne b1) hs f, by rw [yup_na (by omega)]; exact h5, by rw [yup_na (by omega)]; exact h6, h7.u2, h8.tok f, h9, h10, ?_, ?_, ?_⟩
  · rw [yup_na (by omega)]; exact h11
  · rw [yup_na (by omega)]; exact h12
  · rw [yup_na (by omega)]; exact h13
theorem CX.flt (T : TOK tx len n en tk tp tn) (h : CX tx len n en tk tp tn A p k res s o a i0 mc mm j M N) (hs : s < 40) : STO tx len n en tk tp tn A p k res s o a i0 mc mm 0 (yup M 2 4 (tp j)) (yup N 376 8 (tp j)) := by
  obtain ⟨h1, h2, h3, h4, h5, h6, h7, h8, h9, h10, h11, h12, h13⟩ := h
  exact Or.inl ⟨rfl, Flt.mk (h3.tp0 T), (h7.fr hs).u2, (h8.fr (by omega) (by omega)).w8⟩
theorem CX.var {f g : Nat} {v w : Int} (T : TOK tx len n en tk tp tn) (hl : len ≤ 320) (hA : A = 256 ∨ A = 316) (hp : p ≤ 1) (hs : s < 40) (h : CX tx len n en tk tp tn A p k res s o a i0 mc mm j M N) (h1 : F58 f A M = some (v, M')) (h2 : F130 g N = some (w, N')) : (v = -1 ∧ w = -1 ∧ STO tx len n en tk tp tn A p k res s o a i0 mc mm 0 M' N' ∧ 0 ≤ N' 376 8) ∨ (∃ x : Nat, v = x ∧ w = x ∧ vB (M' A 15) (x : Int) ∧ CX tx len n en tk tp tn A p k res s o a i0 mc mm (j + 1) M' N' ∧ (∀ q, M' (A + 20 + s) q = M (A + 20 + s) q) ∧ (tk j = 10 ∨ tk j = 11) ∧ M A 15 ≤ M' A 15 ∧ (res : Int) < x) := by
  obtain ⟨c1, c2, c3, c4, c5, c6, c7, c8, c9, c10, c11, c12, c13⟩ := h
  rcases var_r T hl hA hp c2 c3 c4.1 h1 h2 with ⟨rfl, rfl, hF, fC, fM⟩ | ⟨x, rfl, rfl, x1, x2, x3, hC3, hM3, hV3, x4, fvc, fvm⟩
  · exact Or.inl ⟨rfl, rfl, Or.inl ⟨rfl, hF, (c7.fr hs).tr fC, (c8.fr (by omega) (by omega)).tr fM⟩, hF.2⟩
  · have hx48 : (x : Int) < 48 := by have := hV3.2.2.2.2.2.2.1; omega
    refine Or.inr ⟨x, rfl, rfl, ⟨by omega, hx48, x2⟩, ⟨by omega, hC3, hM3, c4.var hA hV3 fvc fvm, ?_, ?_, c7.var fvc, c8.var fvm, c9, c10, ?_, ?_, ?_⟩, fun q => fvc _ _ (by omega) (by omega) (by omega), x3, x4, by omega⟩
    · rw [fvc _ _ (by omega) (by omega) (by omega)]; exact c5
    · rw [fvc _ _ (by omega) (by omega) (by omega)]; exact c6
    · rw [fvc _ _ (by omega) (by omega) (by omega)]; exact c11
    · rw [fvc _ _ (by omega) (by omega) (by omega)]; exact c12
    · omega
/-- the op is laid, the statement stands -/
theorem CX.fin {g : Nat} {x1 x2 x3 x4 r0 : Int} (hp : p ≤ 1) (hs : s < 40) (ho : o ≤ 120) (h : CX tx len n en tk tp tn A p k res s o a i0 mc mm j M N) (hij : i0 < j) (h2 : F127 g x1 x2 x3 x4 N = some (r0, N')) (hK : OPK A p s (1000 * p + 8 * o) a a M (emM p o k x1 x2 x3 x4 N)) (hRV : 4 ≤ M (A + 20 + s) 0 → M (A + 20 + s) 2 = -1 ∨ (res : Int) < M (A + 20 + s) 2) : STO tx len n en tk tp tn A p k res s o a i0 mc mm 1 M N' ∧ N' 376 8 = -1 := by
  obtain ⟨c1, c2, c3, c4, c5, c6, c7, c8, c9, c10, c11, c12, c13⟩ := h
  have hk := c4.1.2.1
  obtain ⟨rfl, rfl⟩ := F127_r hp c3.2.2.1 c4.2.2.1 ho c4.2.2.2.2 hk h2
  refine ⟨Or.inr ⟨rfl, j, a, hij, by omega, by omega, c2, c3.fr (fun q hq => em_o (by omega) (by omega)) (fun q => em_o (by omega) (by omega)), c4.em, ⟨by rw [em_1]; exact c5.symm, by omega, by omega, hK⟩, c7, c8.em ho, c11, by omega, c13, Or.inl c12, c5, hRV⟩, ?_⟩
  rw [em_o (by omega) (by omega)]
  exact c3.2.2.2.1
/-- a name behind a mark -/
theorem F62_r {f i : Nat} {x r : Int} (hi : (i : Int) ≤ 390) (hA : A = 256 ∨ A = 316) (hC : CT tk tp tn i M) (h : F62 f x (A + 20 + s) M = some (r, M')) : (tk i ≠ x ∧ r = 0 ∧ M' = yup M 2 4 (tp i)) ∨ (tk i = x ∧ tk (i + 1) ≠ 11 ∧ r = 0 ∧ M' = yup (yup (yup (yup M 2 2 ((i : Int) + 1)) (A + 20 + s) 4 (tn (i + 1))) (A + 20 + s) 5 (tp (i + 1))) 2 4 (tp (i + 1))) ∨ (tk i = x ∧ tk (i + 1) = 11 ∧ r = 1 ∧ M' = yup (yup (yup (yup M 2 2 ((i : Int) + 1)) (A + 20 + s) 4 (tn (i + 1))) (A + 20 + s) 5 (tp (i + 1))) 2 2 ((i : Int) + 1 + 1)) := by
  unfold F62 at h
  replace h := bI_e h
  obtain ⟨r1, m1, e1, h⟩ := h
  rcases hC.take (by omega) e1 with ⟨t1, rfl, rfl⟩ | ⟨t1, rfl, rfl⟩
  · rw [if_neg (by decide)] at h
    have hC1 : CT tk tp tn (i + 1) (yup M 2 2 ((i : Int) + 1)) := hC.at (by rw [yup_eq]; omega) (fun b q hb => yup_na (by omega))
    rw [hC1.plc, show yup M 2 2 ((i : Int) + 1) 7 (yup M 2 2 ((i : Int) + 1) 2 2).toNat = tn (i + 1) from hC1.nam] at h
    replace h := bI_e h
    obtain ⟨r2, m2, e2, h⟩ := h
    cases h
    have hC2 : CT tk tp tn (i + 1) (yup (yup (yup M 2 2 ((i : Int) + 1)) (A + 20 + s) 4 (tn (i + 1))) (A + 20 + s) 5 (tp (i + 1))) := hC1.fr (by rw [yup_na (by omega), yup_na (by omega)]) (fun b q hb => by rw [yup_na (by omega), yup_na (by omega)])
    rcases hC2.take (by omega) e2 with ⟨t2, rfl, rfl⟩ | ⟨t2, rfl, rfl⟩
    · refine Or.inr (Or.inr ⟨t1, t2, rfl, ?_⟩)
      rw [show ((i + 1 : Nat) : Int) + 1 = (i : Int) + 1 + 1 by omega]
    · exact Or.inr (Or.inl ⟨t1, t2, rfl, rfl⟩)
  · rw [if_pos rfl] at h
    cases h
    exact Or.inl ⟨t1, rfl, rfl⟩
/-- the model's stop -/
theorem MT.stop {g i : Nat} (T : TOK tx len n en tk tp tn) (h : MT tx len n en tk tp tn p i N) (hn : F104 g N = some N') : N' = yup N 376 8 (tp i) := by
  have h4 := h.2.2.2.1
  unfold F104 J104_26 at hn
  rw [if_pos (by omega)] at hn
  rcases h.2.2.2.2 with ⟨rfl, q1, q2, -⟩ | ⟨q0, q1, q2, q3⟩
  · rw [if_pos q1, q2] at hn
    cases hn
    rfl
  · rw [if_neg (by rcases q3 with ⟨-, z, -⟩ | ⟨-, z⟩ | ⟨-, z, -⟩ <;> omega), q1] at hn
    cases hn
    rfl
theorem MT.plc {i : Nat} (T : TOK tx len n en tk tp tn) (h : MT tx len n en tk tp tn p i N) (hi : tk i ≠ 0) : N 376 5 = tp i := by
  rcases h.2.2.2.2 with ⟨q, -⟩ | ⟨-, q, -⟩
  · exact absurd ((h.2.2.2.2.z T).2.mpr q) hi
  · exact q
/-- new -/
theorem fSm.new {st0 : Nat} {st cs : Int} (h : fSm p o a st cs mm N) (he : st ≤ st0) (hst : st0 < 12) (ho : o ≤ 120) (g : ∀ b q, ¬ (b = 376 ∧ ((3 ≤ q ∧ q ≤ 7) ∨ q = 17)) → ¬ ((b = 381 ∨ b = 382) ∧ q = a) → ¬ (b = 403 ∧ 1000 * p + 8 * o ≤ q ∧ q < 1000 * p + 8 * o + 5) → ¬ (b = 390 ∧ q = p) → ¬ (b = 400 ∧ q = 12 * p + st0) → ¬ (b = 388 ∧ q = p) → N' b q = N b q) : fSm p o a st cs mm N' := fun b q x1 x2 x3 x4 x5 x6 x7 =>
  (g b q x1 (fun e => x4 ⟨e.1, Nat.le_of_eq e.2.symm⟩) (fun e => x7 ⟨e.1, e.2.1, by obtain ⟨e1, e2, e3⟩ := e; clear x1 x2 x3 x4 x5 x6 x7; omega⟩) (fun e => x2 ⟨by rw [e.1]; decide, by rw [e.1]; decide, e.2⟩) (fun e => x5 ⟨e.1, by obtain ⟨e1, e2⟩ := e; clear x1 x2 x3 x4 x5 x6 x7; omega, by obtain ⟨e1, e2⟩ := e; clear x1 x2 x3 x4 x5 x6 x7; omega⟩) (fun e => x2 ⟨by rw [e.1]; decide, by rw [e.1]; decide, e.2⟩)).trans (h b q x1 x2 x3 x4 x5 x6 x7)
theorem fSm.cs1 {cs0 : Nat} {st cs : Int} (h : fSm p o a st cs mm N) (he : cs ≤ cs0) (hst : cs0 < 8) (g : ∀ b q, ¬ (b = 376 ∧ ((3 ≤ q ∧ q ≤ 7) ∨ q = 17)) → ¬ ((b = 381 ∨ b = 382) ∧ q = a) → ¬ (b = 402 ∧ q = 8 * p + cs0) → ¬ (b = 387 ∧ q = p) → N' b q = N b q) : fSm p o a st cs mm N' := fun b q x1 x2 x3 x4 x5 x6 x7 =>
  (g b q x1 (fun e => x4 ⟨e.1, Nat.le_of_eq e.2.symm⟩) (fun e => x6 ⟨Or.inr e.1, by obtain ⟨e1, e2⟩ := e; clear x1 x2 x3 x4 x5 x6 x7; omega, by obtain ⟨e1, e2⟩ := e; clear x1 x2 x3 x4 x5 x6 x7; omega⟩) (fun e => x2 ⟨by rw [e.1]; decide, by rw [e.1]; decide, e.2⟩)).trans (h b q x1 x2 x3 x4 x5 x6 x7)
theorem fSm.cs2 {cs0 : Nat} {st cs x x1' x2' x3' x4' : Int} (h : fSm p o a st cs mm N) (he : cs ≤ cs0) (hst : cs0 < 8) (ho : o ≤ 120) : fSm p o a st cs mm (emM p o k x1' x2' x3' x4' (yup N 401 (8 * p + cs0) x)) := fun b q x1 x2 x3 x4 x5 x6 x7 =>
  ((em_o (fun e => x7 ⟨e.1, e.2.1, by obtain ⟨e1, e2, e3⟩ := e; clear x1 x2 x3 x4 x5 x6 x7; omega⟩) (fun e => x2 ⟨by rw [e.1]; decide, by rw [e.1]; decide, e.2⟩)).trans (yup_ne (fun e => x6 ⟨Or.inl e.1, by obtain ⟨e1, e2⟩ := e; clear x1 x2 x3 x4 x5 x6 x7; omega, by obtain ⟨e1, e2⟩ := e; clear x1 x2 x3 x4 x5 x6 x7; omega⟩))).trans (h b q x1 x2 x3 x4 x5 x6 x7)
theorem new_r {f g : Nat} {v r : Int} (T : TOK tx len n en tk tp tn) (hl : len ≤ 320) (hA : A = 256 ∨ A = 316) (hp : p ≤ 1) (hs : s < 40) (ho : o ≤ 120) (ha : a ≤ 100) (h : CX tx len n en tk tp tn A p k res s o a i0 mc mm j M N) (ht : tk j = 4) (s2 : M (A + 20 + s) 2 = v) (hv : vB (M A 15) v) (hvr : (res : Int) < v) {m1 : yM} {r1 : Int} (h1 : F61 f A (A + 20 + s) M = some (r1, m1)) (h1' : (r1 = 0 → ∃ r2 m2, F43 f m1 = some (r2, m2) ∧ r = r2 ∧ M' = m2) ∧ (r1 ≠ 0 → F62 f 4 (A + 20 + s) m1 = some (r, M'))) (h2 : F135 g v N = some N') : STO tx len n en tk tp tn A p k res s o a i0 mc mm r M' N' ∧ (r = 1 → N' 376 8 = -1 ∧ M' (A + 20 + s) 0 = 5) ∧ (r ≠ 1 → 0 ≤ N' 376 8 ∧ r = 0) := by
  have h0 := h
  obtain ⟨c1, c2, c3, c4, c5, c6, c7, c8, c9, c10, c11, c12, c13⟩ := h
  have hk := c4.1.2.1
  have hj := c3.le T hl
  obtain ⟨b1, b2, b3, b4, b5⟩ := c4
  have b2' := b2
  obtain ⟨d1, d2, d3, d4, d5, d6, d7, d8, d9⟩ := b2'
  obtain ⟨st, hst⟩ : ∃ st : Nat, M A 14 = st := ⟨(M A 14).toNat, by omega⟩
  unfold F61 at h1
  rw [hst] at h1
  unfold F135 at h2
  rw [c3.pp hp, Int.toNat_natCast, ← d7, hst] at h2
  by_cases t1 : st = 12
  · rw [if_pos (by omega)] at h1
    cases h1
    obtain ⟨r2, m2, e1, rfl, rfl⟩ := h1'.1 rfl
    unfold F43 at e1
    rw [c2.plc] at e1
    cases e1
    rw [if_neg (by omega)] at h2
    unfold J135_22 at h2
    replace h2 := bI_e h2
    obtain ⟨q1, n1, e2, h2⟩ := h2
    obtain ⟨rfl, rfl⟩ := goOn0 T hl c3 e2
    rw [if_pos rfl] at h2
    cases h2
    exact ⟨h0.flt T hs, fun z => by omega, fun _ => ⟨by rw [yup_eq]; exact c3.tp0 T, rfl⟩⟩
  rw [if_neg (by omega), wr_i (x := (st : Int) + 1) (by omega) (by omega)] at h1
  rw [if_pos (by omega)] at h2
  cases h1
  replace h1' := h1'.2 (by decide)
  unfold J135_22 at h2
  replace h2 := bI_e h2
  obtain ⟨q1, n1, e2, h2⟩ := h2
  obtain ⟨rfl, hM1, f1⟩ := goOn1 T hl c3 (by omega) e2
  rw [if_neg (by decide)] at h2
  rw [hM1.2.2.2.2.isName T] at h2
  have hj1 := hM1.le T hl
  obtain ⟨M1, hM1e⟩ : ∃ M1, M1 = yup (yup (yup M (A + 20 + s) 0 5) (A + 20 + s) 6 (st : Int)) A 14 ((st : Int) + 1) := ⟨_, rfl⟩
  rw [← hM1e] at h1'
  have kO : ∀ b q, ¬ (b = A + 20 + s ∧ (q = 0 ∨ q = 6)) → ¬ (b = A ∧ q = 14) → M1 b q = M b q := fun b q x1 x2 => by rw [hM1e, yup_ne x2, yup_ne (by omega), yup_ne (by omega)]
  have k0 : M1 (A + 20 + s) 0 = 5 := by rw [hM1e, yup_na (by omega), yup_nk (by decide), yup_eq]
  have k6 : M1 (A + 20 + s) 6 = st := by rw [hM1e, yup_na (by omega), yup_eq]
  have k14 : M1 A 14 = (st : Int) + 1 := by rw [hM1e, yup_eq]
  clear hM1e
  have hC1 : CT tk tp tn j M1 := c2.fr (kO _ _ (by omega) (by omega)) (fun b q hb => kO _ _ (by omega) (by omega))
  have fc1 : fSc A s (mc A 13) mc M1 := fun b q x1 x2 x3 x4 x5 => by rw [kO b q (by omega) (by omega)]; exact c7 b q x1 x2 x3 x4 x5
  rcases F62_r (by omega) hA hC1 h1' with ⟨z, -⟩ | ⟨-, t2, rfl, rfl⟩ | ⟨-, t2, rfl, rfl⟩
  · exact absurd ht z
  · rw [if_neg t2, if_pos rfl] at h2
    replace h2 := bU_e h2
    obtain ⟨n2, e3, h2⟩ := h2
    cases h2
    have := hM1.stop T e3
    subst this
    refine ⟨Or.inl ⟨rfl, Flt.mk (hM1.tp0 T), ?_, ((c8.tok f1).fr (by omega) (by omega)).w8⟩, fun z => by omega, fun _ => ⟨by rw [yup_eq]; exact hM1.tp0 T, rfl⟩⟩
    exact (((fc1.u2 (v := (j : Int) + 1)).up (q := 4) (v := tn (j + 1))).up (q := 5) (v := tp (j + 1))).fr hs |>.u2
  · rw [if_pos t2, if_neg (by decide)] at h2
    have hN := hM1.2.2.2.2.name (by omega) T.2.2.1
    have hP := hM1.plc T (by omega)
    replace h2 := bU_e h2
    obtain ⟨n2, e3, h2⟩ := h2
    unfold F134 at e3
    have n17 : n1 376 17 = a := by rw [f1 376 17 (by omega)]; exact b4
    rw [n17, Int.toNat_natCast, hP, wr_i (x := (a : Int) + 1) (by omega) (by omega)] at e3
    injection e3 with e3
    have z388 : n2 388 p = st := by rw [← e3, yup_na (by decide), yup_na (by decide), yup_na (by decide), f1 388 p (by omega), ← d7]; exact hst
    have z4 : n2 376 4 = n1 376 4 := by rw [← e3, yup_nk (by decide), yup_na (by decide), yup_na (by decide)]
    have kn2 : ∀ b q, ¬ (b = 376 ∧ q = 17) → ¬ ((b = 381 ∨ b = 382) ∧ q = a) → n2 b q = n1 b q := fun b q x1 x2 => by rw [← e3, yup_ne x1, yup_ne (by omega), yup_ne (by omega)]
    have z381 : n2 381 a = n1 376 4 := by rw [← e3, yup_na (by decide), yup_na (by decide), yup_eq]
    have z382 : n2 382 a = tp (j + 1) := by rw [← e3, yup_na (by decide), yup_eq]
    have z17 : n2 376 17 = (a : Int) + 1 := by rw [← e3, yup_eq]
    clear e3
    have i12 : (wr (wr (12 * (p : Int)) + (st : Int))).toNat = 12 * p + st := by
      rw [wr_i (x := 12 * (p : Int)) (by omega) (by omega), wr_i (by omega) (by omega)]
      omega
    rw [Int.toNat_natCast, z388, i12, z4] at h2
    replace h2 := bI_e h2
    obtain ⟨q3, n3, e4, h2⟩ := h2
    have y18 : yup n2 400 (12 * p + st) (n1 376 4) 376 18 = 1 - (p : Int) := by rw [yup_na (by decide), kn2 376 18 (by omega) (by omega)]; exact hM1.2.2.1
    have y390 : yup n2 400 (12 * p + st) (n1 376 4) 390 p = o := by rw [yup_na (by decide), kn2 390 p (by omega) (by omega), f1 390 p (by omega)]; exact b3
    have y384 : yup n2 400 (12 * p + st) (n1 376 4) 384 p = (k : Int) + 1 := by rw [yup_na (by decide), kn2 384 p (by omega) (by omega), f1 384 p (by omega)]; exact b5
    obtain ⟨rfl, rfl⟩ := F127_r hp y18 y390 ho y384 hk e4
    obtain ⟨n4, hn4⟩ : ∃ n4, n4 = emM p o k 1 v (st : Int) 0 (yup n2 400 (12 * p + st) (n1 376 4)) := ⟨_, rfl⟩
    rw [← hn4] at h2
    have kn4 : ∀ b q, ¬ (b = 403 ∧ 1000 * p + 8 * o ≤ q ∧ q < 1000 * p + 8 * o + 5) → ¬ (b = 390 ∧ q = p) → ¬ (b = 400 ∧ q = 12 * p + st) → n4 b q = n2 b q := fun b q x1 x2 x3 => by rw [hn4, em_o x1 x2, yup_ne x3]
    have w400 : n4 400 (12 * p + st) = n1 376 4 := by rw [hn4, em_o (by omega) (by omega), yup_eq]
    have w0 : n4 403 (1000 * p + 8 * o) = 1 := by rw [hn4, em_0]
    have w1 : n4 403 (1000 * p + 8 * o + 1) = k := by rw [hn4, em_1]
    have w2 : n4 403 (1000 * p + 8 * o + 2) = v := by rw [hn4, em_2]
    have w3 : n4 403 (1000 * p + 8 * o + 3) = st := by rw [hn4, em_3]
    have w390 : n4 390 p = (o : Int) + 1 := by rw [hn4, em_n]
    clear hn4
    have x388 : n4 388 p = st := by rw [kn4 _ _ (by omega) (by omega) (by omega)]; exact z388
    rw [x388, wr_i (x := (st : Int) + 1) (by omega) (by omega)] at h2
    replace h2 := bU_e h2
    obtain ⟨n5, e5, h2⟩ := h2
    cases h2
    have hM4 : MT tx len n en tk tp tn p (j + 1) (yup n4 388 p ((st : Int) + 1)) := hM1.fr (fun q hq => by rw [yup_na (by decide), kn4 _ _ (by omega) (by omega) (by omega), kn2 _ _ (by omega) (by omega)]) (fun q => by rw [yup_na (by decide), kn4 _ _ (by omega) (by omega) (by omega), kn2 _ _ (by omega) (by omega)])
    obtain ⟨hM5, f5⟩ := hM4.next T hl (by omega) e5
    have g5 : ∀ b q, ¬ (b = 376 ∧ ((3 ≤ q ∧ q ≤ 7) ∨ q = 17)) → ¬ ((b = 381 ∨ b = 382) ∧ q = a) → ¬ (b = 403 ∧ 1000 * p + 8 * o ≤ q ∧ q < 1000 * p + 8 * o + 5) → ¬ (b = 390 ∧ q = p) → ¬ (b = 400 ∧ q = 12 * p + st) → ¬ (b = 388 ∧ q = p) → N' b q = N b q := fun b q x1 x2 x3 x4 x5 x6 => by rw [f5 b q (by omega), yup_ne x6, kn4 b q x3 x4 x5, kn2 b q (by omega) x2, f1 b q (by omega)]
    have l : ∀ b q, ¬ (b = 376 ∧ 3 ≤ q ∧ q ≤ 7) → ¬ (b = 388 ∧ q = p) → N' b q = n4 b q := fun b q x1 x2 => by rw [f5 b q x1, yup_ne x2]
    obtain ⟨M2, hM2⟩ : ∃ M2, M2 = yup (yup (yup (yup M1 2 2 ((j : Int) + 1)) (A + 20 + s) 4 (tn (j + 1))) (A + 20 + s) 5 (tp (j + 1))) 2 2 ((j : Int) + 1 + 1) := ⟨_, rfl⟩
    rw [← hM2]
    have kM2 : ∀ b q, ¬ (b = 2 ∧ q = 2) → ¬ (b = A + 20 + s ∧ (q = 4 ∨ q = 5)) → M2 b q = M1 b q := fun b q x1 x2 => by rw [hM2, yup_ne x1, yup_ne (by omega), yup_ne (by omega), yup_ne x1]
    have kM24 : M2 (A + 20 + s) 4 = tn (j + 1) := by rw [hM2, yup_na (by omega), yup_nk (by decide), yup_eq]
    have kM25 : M2 (A + 20 + s) 5 = tp (j + 1) := by rw [hM2, yup_na (by omega), yup_eq]
    have kM22 : M2 2 2 = ((j + 1 + 1 : Nat) : Int) := by rw [hM2, yup_eq]; omega
    clear hM2
    refine ⟨Or.inr ⟨rfl, j + 1 + 1, a + 1, by omega, by omega, by omega, ?_, hM5, ?_, ?_, ?_, ?_, ?_, ?_, ?_, Or.inl ?_, ?_, fun _ => Or.inr ?_⟩, fun _ => ⟨hM5.2.2.2.1, by rw [kM2 _ _ (by omega) (by omega)]; exact k0⟩, fun z => absurd rfl z⟩
    · exact hC1.at kM22 (fun b q hb => kM2 b q (by omega) (by omega))
    · refine ⟨b1.fr hA (by rw [kM2 _ _ (by omega) (by omega), kO _ _ (by omega) (by omega)]) (by rw [kM2 _ _ (by omega) (by omega), kO _ _ (by omega) (by omega)]) (by rw [kM2 _ _ (by omega) (by omega), kO _ _ (by omega) (by omega)]) (fun q => by rw [kM2 _ _ (by omega) (by omega), kO _ _ (by omega) (by omega)]) (g5 _ _ (by omega) (by omega) (by omega) (by omega) (by omega) (by omega)) (g5 _ _ (by omega) (by omega) (by omega) (by omega) (by omega) (by omega)) (fun q => g5 _ _ (by omega) (by omega) (by omega) (by omega) (by omega) (by omega)), ?_, ?_, ?_, ?_⟩
      · unfold rCo
        rw [kM2 A 12 (by omega) (by omega), kO A 12 (by omega) (by omega), kM2 A 13 (by omega) (by omega), kO A 13 (by omega) (by omega), kM2 A 14 (by omega) (by omega), k14, g5 386 p (by omega) (by omega) (by omega) (by omega) (by omega) (by omega), g5 387 p (by omega) (by omega) (by omega) (by omega) (by omega) (by omega), f5 388 p (by omega), yup_eq]
        exact ⟨d1, d2, d3, d4, d5, d6, rfl, by omega, by omega⟩
      · rw [l 390 p (by omega) (by omega)]; rw [w390]; omega
      · rw [l 376 17 (by omega) (by omega), kn4 _ _ (by omega) (by omega) (by omega), z17]; omega
      · rw [g5 384 p (by omega) (by omega) (by omega) (by omega) (by omega) (by omega)]; exact b5
    · refine ⟨by rw [l _ _ (by omega) (by omega), w1, kM2 _ _ (by omega) (by omega), kO _ _ (by omega) (by omega)]; exact c5.symm, by rw [kM2 _ _ (by omega) (by omega), kO _ _ (by omega) (by omega)]; omega, by rw [kM2 _ _ (by omega) (by omega), kO _ _ (by omega) (by omega)]; omega, Or.inr (Or.inr (Or.inr (Or.inl ?_)))⟩
      rw [kM24, kM25, kM2 _ 0 (by omega) (by omega), k0, kM2 _ 2 (by omega) (by omega), kO _ 2 (by omega) (by omega), s2, kM2 _ 6 (by omega) (by omega), k6, Int.toNat_natCast, l 403 _ (by omega) (by omega), l 403 _ (by omega) (by omega), l 403 _ (by omega) (by omega), l 400 _ (by omega) (by omega), l 381 _ (by omega) (by omega), l 382 _ (by omega) (by omega), w0, w2, w3, w400, kn4 381 _ (by omega) (by omega) (by omega), kn4 382 _ (by omega) (by omega) (by omega), z381, z382]
      exact ⟨rfl, rfl, rfl, rfl, by rw [kM2 A 15 (by omega) (by omega), kO A 15 (by omega) (by omega)]; exact hv, by omega, by omega, by rw [kM2 A 14 (by omega) (by omega), k14]; omega, hN, hN, rfl, hM1.tp0 T, rfl⟩
    · exact fun b q x1 x2 x3 x4 x5 => by rw [kM2 b q x1 (by omega)]; exact fc1 b q x1 x2 x3 x4 x5
    · have e388 : mm 388 p ≤ st := by omega
      exact c8.new e388 (by omega) ho g5
    · rw [kM2 _ _ (by omega) (by omega), k14]; omega
    · rw [kM2 _ _ (by omega) (by omega), kO _ _ (by omega) (by omega)]; omega
    · rw [kM2 _ _ (by omega) (by omega), kO _ _ (by omega) (by omega)]; exact c13
    · rw [kM2 _ _ (by omega) (by omega), kO _ _ (by omega) (by omega)]; exact c12
    · rw [kM2 _ _ (by omega) (by omega), kO _ _ (by omega) (by omega)]; exact c5
    · rw [kM2 _ _ (by omega) (by omega), kO _ _ (by omega) (by omega), s2]; exact hvr
theorem F134_r {g : Nat} {x : Int} (h17 : N 376 17 = a) (ha : a ≤ 100) (h : F134 g x N = some N') : N' = yup (yup (yup N 381 a (N 376 4)) 382 a (N 376 5)) 376 17 ((a : Int) + 1) := by
  unfold F134 at h
  rw [h17, Int.toNat_natCast, wr_i (x := (a : Int) + 1) (by omega) (by omega)] at h
  cases h
  rfl
/-- a cast: what the class does -/
def cU (f A s : Nat) (m3 : yM) (r3 r : Int) (M' : yM) : Prop := (r3 = 0 ∧ r = 0 ∧ M' = m3) ∨ (r3 ≠ 0 ∧ ∃ r4 m4, F58 f A m3 = some (r4, m4) ∧ M' = yup m4 (A + 20 + s) 3 r4 ∧ ((r4 = -1 ∧ r = 0) ∨ (r4 ≠ -1 ∧ r = 1)))
def cT (f A s : Nat) (m2 : yM) (r2 r : Int) (M' : yM) : Prop := (r2 = 0 ∧ r = 0 ∧ M' = m2) ∨ (r2 ≠ 0 ∧ ∃ r3 m3, F37 f 41 m2 = some (r3, m3) ∧ cU f A s m3 r3 r M')
theorem cast_r {f g : Nat} {v r : Int} (T : TOK tx len n en tk tp tn) (hl : len ≤ 320) (hA : A = 256 ∨ A = 316) (hp : p ≤ 1) (hs : s < 40) (ho : o ≤ 120) (ha : a ≤ 100) (h16 : mc A 16 = (s : Int) + 1) (h : CX tx len n en tk tp tn A p k res s o a i0 mc mm j M N) (ht : tk j = 40) (s2 : M (A + 20 + s) 2 = v) (hv : vB (M A 15) v) (hvr : (res : Int) < v) {m1 : yM} {r1 : Int} (h1 : F63 f A (A + 20 + s) M = some (r1, m1)) (h1' : (r1 = 0 → ∃ r2 m2, F43 f m1 = some (r2, m2) ∧ r = r2 ∧ M' = m2) ∧ (r1 ≠ 0 → ∃ r2 m2, F62 f 40 (A + 20 + s) m1 = some (r2, m2) ∧ cT f A s m2 r2 r M')) (h2 : F136 g v N = some N') : STO tx len n en tk tp tn A p k res s o a i0 mc mm r M' N' ∧ (r = 1 → N' 376 8 = -1 ∧ M' (A + 20 + s) 0 = 7) ∧ (r ≠ 1 → 0 ≤ N' 376 8 ∧ r = 0) := by
  have h0 := h
  obtain ⟨c1, c2, c3, c4, c5, c6, c7, c8, c9, c10, c11, c12, c13⟩ := h
  have hk := c4.1.2.1
  have hj := c3.le T hl
  obtain ⟨b1, b2, b3, b4, b5⟩ := c4
  have b2' := b2
  obtain ⟨d1, d2, d3, d4, d5, d6, d7, d8, d9⟩ := b2'
  obtain ⟨cs, hcs⟩ : ∃ cs : Nat, M A 13 = cs := ⟨(M A 13).toNat, by omega⟩
  have m16 : M A 16 = (s : Int) + 1 := by rw [c7 A 16 (by omega) (by omega) (by omega) (by omega) (by omega)]; exact h16
  unfold F63 at h1
  rw [hcs, m16] at h1
  unfold F136 at h2
  rw [c3.pp hp, Int.toNat_natCast, ← d4, hcs] at h2
  by_cases t1 : cs = 8
  · rw [if_pos (by omega)] at h1
    cases h1
    obtain ⟨r2, m2, e1, rfl, rfl⟩ := h1'.1 rfl
    unfold F43 at e1
    rw [c2.plc] at e1
    cases e1
    rw [if_neg (by omega)] at h2
    unfold J136_22 at h2
    replace h2 := bI_e h2
    obtain ⟨q1, n1, e2, h2⟩ := h2
    obtain ⟨rfl, rfl⟩ := goOn0 T hl c3 e2
    rw [if_pos rfl] at h2
    cases h2
    exact ⟨h0.flt T hs, fun z => by omega, fun _ => ⟨by rw [yup_eq]; exact c3.tp0 T, rfl⟩⟩
  rw [if_neg (by omega), wr_i (x := (cs : Int) + 1) (by omega) (by omega), wr_i (x := (s : Int) + 1 - 1) (by omega) (by omega), show (s : Int) + 1 - 1 = s by omega, Int.toNat_natCast] at h1
  rw [if_pos (by omega)] at h2
  cases h1
  replace h1' := h1'.2 (by decide)
  obtain ⟨r2, m2, e1, h1'⟩ := h1'
  unfold J136_22 at h2
  replace h2 := bI_e h2
  obtain ⟨q1, n1, e2, h2⟩ := h2
  obtain ⟨rfl, hM1, f1⟩ := goOn1 T hl c3 (by omega) e2
  rw [if_neg (by decide), hM1.2.2.2.2.isName T] at h2
  have hj1 := hM1.le T hl
  obtain ⟨M1, hM1e⟩ : ∃ M1, M1 = yup (yup (yup M (A + 20 + s) 0 7) (A + 9) cs (s : Int)) A 13 ((cs : Int) + 1) := ⟨_, rfl⟩
  rw [← hM1e] at e1
  have kO : ∀ b q, ¬ (b = A + 20 + s ∧ q = 0) → ¬ (b = A + 9 ∧ q = cs) → ¬ (b = A ∧ q = 13) → M1 b q = M b q := fun b q x1 x2 x3 => by rw [hM1e, yup_ne x3, yup_ne x2, yup_ne x1]
  have k0 : M1 (A + 20 + s) 0 = 7 := by rw [hM1e, yup_na (by omega), yup_na (by omega), yup_eq]
  have k9 : M1 (A + 9) cs = s := by rw [hM1e, yup_na (by omega), yup_eq]
  have k13 : M1 A 13 = (cs : Int) + 1 := by rw [hM1e, yup_eq]
  clear hM1e
  have hC1 : CT tk tp tn j M1 := c2.fr (kO _ _ (by omega) (by omega) (by omega)) (fun b q hb => kO _ _ (by omega) (by omega) (by omega))
  have fc1 : fSc A s (mc A 13) mc M1 := fun b q x1 x2 x3 x4 x5 => by rw [kO b q (by omega) (by omega) (by omega)]; exact c7 b q x1 x2 x3 x4 x5
  rcases F62_r (by omega) hA hC1 e1 with ⟨z, -⟩ | ⟨-, t2, rfl, rfl⟩ | ⟨-, t2, rfl, rfl⟩
  · exact absurd ht z
  · obtain ⟨rfl, rfl⟩ : r = 0 ∧ M' = _ := by
      rcases h1' with ⟨-, z1, z2⟩ | ⟨z, -⟩
      · exact ⟨z1, z2⟩
      · exact absurd rfl z
    rw [if_neg t2, if_pos rfl] at h2
    replace h2 := bU_e h2
    obtain ⟨n2, e3, h2⟩ := h2
    cases h2
    have := hM1.stop T e3
    subst this
    refine ⟨Or.inl ⟨rfl, Flt.mk (hM1.tp0 T), ?_, ((c8.tok f1).fr (by omega) (by omega)).w8⟩, fun z => by omega, fun _ => ⟨by rw [yup_eq]; exact hM1.tp0 T, rfl⟩⟩
    exact (((fc1.u2 (v := (j : Int) + 1)).up (q := 4) (v := tn (j + 1))).up (q := 5) (v := tp (j + 1))).fr hs |>.u2
  rcases h1' with ⟨z, -⟩ | ⟨-, r3, m3, e6, h1'⟩
  · omega
  rw [if_pos t2, if_neg (by decide)] at h2
  have hN := hM1.2.2.2.2.name (by omega) T.2.2.1
  have hP := hM1.plc T (by omega)
  replace h2 := bU_e h2
  obtain ⟨n2, e3, h2⟩ := h2
  have e3 := F134_r (a := a) (by rw [f1 376 17 (by omega)]; exact b4) ha e3
  rw [hP] at e3
  have z387 : n2 387 p = cs := by rw [e3, yup_na (by decide), yup_na (by decide), yup_na (by decide), f1 387 p (by omega), ← d4]; exact hcs
  have z4 : n2 376 4 = n1 376 4 := by rw [e3, yup_nk (by decide), yup_na (by decide), yup_na (by decide)]
  have kn2 : ∀ b q, ¬ (b = 376 ∧ q = 17) → ¬ ((b = 381 ∨ b = 382) ∧ q = a) → n2 b q = n1 b q := fun b q x1 x2 => by rw [e3, yup_ne x1, yup_ne (by omega), yup_ne (by omega)]
  have z381 : n2 381 a = n1 376 4 := by rw [e3, yup_na (by decide), yup_na (by decide), yup_eq]
  have z382 : n2 382 a = tp (j + 1) := by rw [e3, yup_na (by decide), yup_eq]
  have z17 : n2 376 17 = (a : Int) + 1 := by rw [e3, yup_eq]
  clear e3
  have i8 : (wr (wr (8 * (p : Int)) + (cs : Int))).toNat = 8 * p + cs := by
    rw [wr_i (x := 8 * (p : Int)) (by omega) (by omega), wr_i (by omega) (by omega)]
    omega
  rw [Int.toNat_natCast, z387, i8, z4, wr_i (x := (cs : Int) + 1) (by omega) (by omega)] at h2
  obtain ⟨n3, hn3⟩ : ∃ n3, n3 = yup (yup n2 402 (8 * p + cs) (n1 376 4)) 387 p ((cs : Int) + 1) := ⟨_, rfl⟩
  rw [← hn3] at h2
  have kn3 : ∀ b q, ¬ (b = 402 ∧ q = 8 * p + cs) → ¬ (b = 387 ∧ q = p) → n3 b q = n2 b q := fun b q x1 x2 => by rw [hn3, yup_ne x2, yup_ne x1]
  have w402 : n3 402 (8 * p + cs) = n1 376 4 := by rw [hn3, yup_na (by decide), yup_eq]
  have w387 : n3 387 p = (cs : Int) + 1 := by rw [hn3, yup_eq]
  clear hn3
  have hM3 : MT tx len n en tk tp tn p (j + 1) n3 := hM1.fr (fun q hq => by rw [kn3 _ _ (by omega) (by omega), kn2 _ _ (by omega) (by omega)]) (fun q => by rw [kn3 _ _ (by omega) (by omega), kn2 _ _ (by omega) (by omega)])
  replace h2 := bU_e h2
  obtain ⟨n4, e5, h2⟩ := h2
  obtain ⟨hM4, f4⟩ := hM3.next T hl (by omega) e5
  have hj4 := hM4.le T hl
  obtain ⟨M2, hM2⟩ : ∃ M2, M2 = yup (yup (yup (yup M1 2 2 ((j : Int) + 1)) (A + 20 + s) 4 (tn (j + 1))) (A + 20 + s) 5 (tp (j + 1))) 2 2 ((j : Int) + 1 + 1) := ⟨_, rfl⟩
  rw [← hM2] at e6
  have kM2 : ∀ b q, ¬ (b = 2 ∧ q = 2) → ¬ (b = A + 20 + s ∧ (q = 4 ∨ q = 5)) → M2 b q = M1 b q := fun b q x1 x2 => by rw [hM2, yup_ne x1, yup_ne (by omega), yup_ne (by omega), yup_ne x1]
  have kM24 : M2 (A + 20 + s) 4 = tn (j + 1) := by rw [hM2, yup_na (by omega), yup_nk (by decide), yup_eq]
  have kM25 : M2 (A + 20 + s) 5 = tp (j + 1) := by rw [hM2, yup_na (by omega), yup_eq]
  have kM22 : M2 2 2 = ((j + 1 + 1 : Nat) : Int) := by rw [hM2, yup_eq]; omega
  clear hM2
  have hC2 : CT tk tp tn (j + 1 + 1) M2 := hC1.at kM22 (fun b q hb => kM2 b q (by omega) (by omega))
  have fc2 : fSc A s (mc A 13) mc M2 := fun b q x1 x2 x3 x4 x5 => by rw [kM2 b q x1 (by omega)]; exact fc1 b q x1 x2 x3 x4 x5
  have g4 : ∀ b q, ¬ (b = 376 ∧ ((3 ≤ q ∧ q ≤ 7) ∨ q = 17)) → ¬ ((b = 381 ∨ b = 382) ∧ q = a) → ¬ (b = 402 ∧ q = 8 * p + cs) → ¬ (b = 387 ∧ q = p) → n4 b q = N b q := fun b q x1 x2 x3 x4 => by rw [f4 b q (by omega), kn3 b q x3 x4, kn2 b q (by omega) x2, f1 b q (by omega)]
  have fm4 : fSm p o a (mm 388 p) (mm 387 p) mm n4 := c8.cs1 (cs0 := cs) (by omega) (by omega) g4
  replace h2 := bI_e h2
  obtain ⟨q5, n5, e7, h2⟩ := h2
  rcases hC2.take (by omega) e6 with ⟨t3, rfl, rfl⟩ | ⟨t3, rfl, rfl⟩
  case inr =>
    obtain ⟨rfl, rfl⟩ : r = 0 ∧ M' = _ := by
      rcases h1' with ⟨-, z1, z2⟩ | ⟨z, -⟩
      · exact ⟨z1, z2⟩
      · exact absurd rfl z
    rcases hM4.mark T hl (by unfold sgn; omega) e7 with ⟨z, -⟩ | ⟨-, rfl, rfl⟩
    · exact absurd z t3
    · rw [if_pos rfl] at h2
      cases h2
      exact ⟨Or.inl ⟨rfl, Flt.mk (hM4.tp0 T), (fc2.fr hs).u2, (fm4.fr (by omega) (by omega)).w8⟩, fun z => by omega, fun _ => ⟨by rw [yup_eq]; exact hM4.tp0 T, rfl⟩⟩
  rcases h1' with ⟨z, -⟩ | ⟨-, r4, m4, e8, hM', h1'⟩
  · omega
  rcases hM4.mark T hl (by unfold sgn; omega) e7 with ⟨-, rfl, hM5, f5⟩ | ⟨z, -⟩
  case inr => exact absurd t3 z
  rw [if_neg (by decide)] at h2
  replace h2 := bI_e h2
  obtain ⟨w4, n6, e9, h2⟩ := h2
  have hC3 : CT tk tp tn (j + 1 + 1 + 1) (yup M2 2 2 (((j + 1 + 1 : Nat) : Int) + 1)) := hC2.at (by rw [yup_eq]; omega) (fun b q hb => yup_na (by omega))
  have hV3 : rV A p k res (yup M2 2 2 (((j + 1 + 1 : Nat) : Int) + 1)) n5 := b1.fr hA (by rw [yup_na (by omega), kM2 _ _ (by omega) (by omega), kO _ _ (by omega) (by omega) (by omega)]) (by rw [yup_na (by omega), kM2 _ _ (by omega) (by omega), kO _ _ (by omega) (by omega) (by omega)]) (by rw [yup_na (by omega), kM2 _ _ (by omega) (by omega), kO _ _ (by omega) (by omega) (by omega)]) (fun q => by rw [yup_na (by omega), kM2 _ _ (by omega) (by omega), kO _ _ (by omega) (by omega) (by omega)]) (by rw [f5 _ _ (by omega), g4 _ _ (by omega) (by omega) (by omega) (by omega)]) (by rw [f5 _ _ (by omega), g4 _ _ (by omega) (by omega) (by omega) (by omega)]) (fun q => by rw [f5 _ _ (by omega), g4 _ _ (by omega) (by omega) (by omega) (by omega)])
  have fc3 : fSc A s (mc A 13) mc (yup M2 2 2 (((j + 1 + 1 : Nat) : Int) + 1)) := fc2.u2
  have fm5 : fSm p o a (mm 388 p) (mm 387 p) mm n5 := fm4.tok f5
  subst hM'
  rcases var_r T hl hA hp hC3 hM5 hV3 e8 e9 with ⟨rfl, rfl, hF, fC, fM⟩ | ⟨x, rfl, rfl, x1, x2, x3, hC4, hM6, hV4, x4, fvc, fvm⟩
  · obtain rfl : r = 0 := by
      rcases h1' with ⟨-, z⟩ | ⟨z, -⟩
      · exact z
      · exact absurd rfl z
    rw [if_neg (by have := hF.2; omega)] at h2
    cases h2
    refine ⟨Or.inl ⟨rfl, ⟨?_, ?_⟩, ((fc3.fr hs).tr fC).up (by omega), ((fm5.fr (by omega) (by omega)).tr fM).up (by unfold arM; omega)⟩, fun z => by omega, fun _ => ⟨?_, rfl⟩⟩
    · rw [yup_na (by omega), yup_na (by decide)]; exact hF.1
    · rw [yup_na (by decide)]; exact hF.2
    · rw [yup_na (by decide)]; exact hF.2
  · obtain rfl : r = 1 := by
      rcases h1' with ⟨z, -⟩ | ⟨-, z⟩
      · omega
      · exact z
    have hx48 : (x : Int) < 48 := by have := hV4.2.2.2.2.2.2.1; omega
    rw [if_pos (by rw [hM6.2.2.2.1]; decide)] at h2
    replace h2 := bI_e h2
    obtain ⟨q6, n7, e10, h2⟩ := h2
    cases h2
    have y18 : yup n6 401 (8 * p + cs) (x : Int) 376 18 = 1 - (p : Int) := by rw [yup_na (by decide)]; exact hM6.2.2.1
    have g6 : ∀ b q, ¬ (b = 376 ∧ ((3 ≤ q ∧ q ≤ 7) ∨ q = 17)) → ¬ ((b = 381 ∨ b = 382) ∧ q = a) → ¬ (b = 402 ∧ q = 8 * p + cs) → ¬ (b = 387 ∧ q = p) → ¬ (b = 389 ∧ q = p) → b ≠ 380 → n6 b q = N b q := fun b q x1 x2 x3 x4 x5 x6 => by rw [fvm b q (by omega) x5 x6, f5 b q (by omega)]; exact g4 b q x1 x2 x3 x4
    have y390 : yup n6 401 (8 * p + cs) (x : Int) 390 p = o := by rw [yup_na (by decide), g6 _ _ (by omega) (by omega) (by omega) (by omega) (by omega) (by omega)]; exact b3
    have y384 : yup n6 401 (8 * p + cs) (x : Int) 384 p = (k : Int) + 1 := by rw [yup_na (by decide), g6 _ _ (by omega) (by omega) (by omega) (by omega) (by omega) (by omega)]; exact b5
    obtain ⟨-, rfl⟩ := F127_r hp y18 y390 ho y384 hk e10
    have h6 : ∀ b q, ¬ (b = 376 ∧ 3 ≤ q ∧ q ≤ 7) → ¬ (b = 389 ∧ q = p) → b ≠ 380 → n6 b q = n3 b q := fun b q x1 x2 x3 => by rw [fvm b q x1 x2 x3, f5 b q x1, f4 b q x1]
    have eO : ∀ b q, b ≠ 403 → ¬ (b = 390 ∧ q = p) → ¬ (b = 401 ∧ q = 8 * p + cs) → emM p o k 3 v (x : Int) (cs : Int) (yup n6 401 (8 * p + cs) (x : Int)) b q = n6 b q := fun b q x1 x2 x3 => by rw [em_o (by omega) x2, yup_ne x3]
    have m4S : ∀ q, m4 (A + 20 + s) q = M2 (A + 20 + s) q := fun q => by rw [fvc _ _ (by omega) (by omega) (by omega), yup_na (by omega)]
    have m4O : ∀ b q, ¬ (b = 2 ∧ q = 2) → ¬ (b = A ∧ q = 15) → b ≠ A + 5 → m4 b q = M2 b q := fun b q x1 x2 x3 => by rw [fvc b q x1 x2 x3, yup_ne x1]
    refine ⟨Or.inr ⟨rfl, j + 1 + 1 + 1 + 1, a + 1, by omega, by omega, by omega, ?_, ?_, ?_, ?_, ?_, ?_, ?_, ?_, ?_, Or.inr ⟨?_, ?_⟩, ?_, fun _ => Or.inr ?_⟩, fun _ => ⟨?_, ?_⟩, fun z => absurd rfl z⟩
    · exact hC4.at (by rw [yup_na (by omega)]; exact hC4.1) (fun b q hb => yup_na (by omega))
    · exact hM6.fr (fun q hq => eO _ _ (by omega) (by omega) (by omega)) (fun q => eO _ _ (by omega) (by omega) (by omega))
    · refine ⟨hV4.fr hA (yup_na (by omega)) (yup_na (by omega)) (yup_na (by omega)) (fun q => yup_na (by omega)) (eO _ _ (by omega) (by omega) (by omega)) (eO _ _ (by omega) (by omega) (by omega)) (fun q => eO _ _ (by omega) (by omega) (by omega)), ?_, by rw [em_n]; omega, ?_, ?_⟩
      · unfold rCo
        rw [yup_na (by omega), yup_na (by omega), yup_na (by omega), m4O A 12 (by omega) (by omega) (by omega), kM2 A 12 (by omega) (by omega), kO A 12 (by omega) (by omega) (by omega), m4O A 13 (by omega) (by omega) (by omega), kM2 A 13 (by omega) (by omega), k13, m4O A 14 (by omega) (by omega) (by omega), kM2 A 14 (by omega) (by omega), kO A 14 (by omega) (by omega) (by omega), eO 386 p (by omega) (by omega) (by omega), g6 386 p (by omega) (by omega) (by omega) (by omega) (by omega) (by omega), eO 387 p (by omega) (by omega) (by omega), h6 387 p (by omega) (by omega) (by omega), w387, eO 388 p (by omega) (by omega) (by omega), g6 388 p (by omega) (by omega) (by omega) (by omega) (by omega) (by omega)]
        exact ⟨d1, d2, d3, rfl, by omega, by omega, d7, d8, d9⟩
      · rw [eO 376 17 (by omega) (by omega) (by omega), h6 376 17 (by omega) (by omega) (by omega), kn3 376 17 (by omega) (by omega), z17]; omega
      · rw [eO 384 p (by omega) (by omega) (by omega), g6 384 p (by omega) (by omega) (by omega) (by omega) (by omega) (by omega)]; exact b5
    · refine ⟨by rw [em_1, yup_nk (by decide), m4S, kM2 _ _ (by omega) (by omega), kO _ _ (by omega) (by omega) (by omega)]; exact c5.symm, by rw [yup_nk (by decide), m4S, kM2 _ _ (by omega) (by omega), kO _ _ (by omega) (by omega) (by omega)]; omega, by rw [yup_nk (by decide), m4S, kM2 _ _ (by omega) (by omega), kO _ _ (by omega) (by omega) (by omega)]; omega, Or.inr (Or.inr (Or.inr (Or.inr (Or.inr (Or.inl ?_)))))⟩
      have q3 : yup m4 (A + 20 + s) 3 (x : Int) (A + 20 + s) 3 = x := yup_eq _ _ _ _
      have q0 : yup m4 (A + 20 + s) 3 (x : Int) (A + 20 + s) 0 = 7 := by rw [yup_nk (by decide), m4S, kM2 _ _ (by omega) (by omega)]; exact k0
      have q2 : yup m4 (A + 20 + s) 3 (x : Int) (A + 20 + s) 2 = v := by rw [yup_nk (by decide), m4S, kM2 _ _ (by omega) (by omega), kO _ _ (by omega) (by omega) (by omega)]; exact s2
      have q4 : yup m4 (A + 20 + s) 3 (x : Int) (A + 20 + s) 4 = tn (j + 1) := by rw [yup_nk (by decide), m4S]; exact kM24
      have q5 : yup m4 (A + 20 + s) 3 (x : Int) (A + 20 + s) 5 = tp (j + 1) := by rw [yup_nk (by decide), m4S]; exact kM25
      have q9 : yup m4 (A + 20 + s) 3 (x : Int) (A + 9) cs = s := by rw [yup_na (by omega), m4O _ _ (by omega) (by omega) (by omega), kM2 _ _ (by omega) (by omega)]; exact k9
      have u401 : emM p o k 3 v (x : Int) (cs : Int) (yup n6 401 (8 * p + cs) (x : Int)) 401 (8 * p + cs) = x := by rw [em_o (by omega) (by omega), yup_eq]
      have u402 : emM p o k 3 v (x : Int) (cs : Int) (yup n6 401 (8 * p + cs) (x : Int)) 402 (8 * p + cs) = n1 376 4 := by rw [eO _ _ (by omega) (by omega) (by omega), h6 _ _ (by omega) (by omega) (by omega)]; exact w402
      have u381 : emM p o k 3 v (x : Int) (cs : Int) (yup n6 401 (8 * p + cs) (x : Int)) 381 a = n1 376 4 := by rw [eO _ _ (by omega) (by omega) (by omega), h6 _ _ (by omega) (by omega) (by omega), kn3 _ _ (by omega) (by omega)]; exact z381
      have u382 : emM p o k 3 v (x : Int) (cs : Int) (yup n6 401 (8 * p + cs) (x : Int)) 382 a = tp (j + 1) := by rw [eO _ _ (by omega) (by omega) (by omega), h6 _ _ (by omega) (by omega) (by omega), kn3 _ _ (by omega) (by omega)]; exact z382
      rw [q0, q2, q3, q4, q5, em_0, em_2, em_3, em_4, Int.toNat_natCast, q9, u401, u402, u381, u382]
      have e15 : M A 15 ≤ yup m4 (A + 20 + s) 3 (x : Int) A 15 := by
        rw [yup_na (by omega)]
        have : M A 15 = yup M2 2 2 (((j + 1 + 1 : Nat) : Int) + 1) A 15 := by rw [yup_na (by omega), kM2 _ _ (by omega) (by omega), kO _ _ (by omega) (by omega) (by omega)]
        omega
      exact ⟨rfl, rfl, rfl, rfl, hv.mono e15, ⟨by omega, hx48, by rw [yup_na (by omega)]; exact x2⟩, by omega, by omega, by rw [yup_na (by omega), m4O A 13 (by omega) (by omega) (by omega), kM2 A 13 (by omega) (by omega), k13]; omega, rfl, hN, rfl, hN, rfl, hM1.tp0 T, rfl⟩
    · exact (fc3.var fvc).up
    · have e387 : mm 387 p ≤ cs := by omega
      have fm6 := fm5.var fvm
      exact fm6.cs2 e387 (by omega) ho
    · rw [yup_na (by omega), m4O _ _ (by omega) (by omega) (by omega), kM2 _ _ (by omega) (by omega), kO _ _ (by omega) (by omega) (by omega)]; exact c11
    · rw [yup_na (by omega), m4O _ _ (by omega) (by omega) (by omega), kM2 _ _ (by omega) (by omega), k13]; omega
    · rw [yup_na (by omega)]
      have : M A 15 = yup M2 2 2 (((j + 1 + 1 : Nat) : Int) + 1) A 15 := by rw [yup_na (by omega), kM2 _ _ (by omega) (by omega), kO _ _ (by omega) (by omega) (by omega)]
      omega
    · rw [yup_na (by omega), m4O _ _ (by omega) (by omega) (by omega), kM2 _ _ (by omega) (by omega), k13]; omega
    · rw [yup_nk (by decide), m4S, kM2 _ _ (by omega) (by omega)]; exact k0
    · rw [yup_nk (by decide), m4S, kM2 _ _ (by omega) (by omega), kO _ _ (by omega) (by omega) (by omega)]; exact c5
    · rw [yup_nk (by decide), m4S, kM2 _ _ (by omega) (by omega), kO _ _ (by omega) (by omega) (by omega), s2]; exact hvr
    · rw [eO _ _ (by omega) (by omega) (by omega)]; exact hM6.2.2.2.1
    · rw [yup_nk (by decide), m4S, kM2 _ _ (by omega) (by omega)]; exact k0
end RI

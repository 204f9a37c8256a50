section
/-! STATEMENTS: a statement of the class, an op of the model -/
def emM (p o k : Nat) (x1 x2 x3 x4 : Int) (mm : yM) : yM := yup (yup (yup (yup (yup (yup mm 403 (1000 * p + 8 * o) x1) 403 (1000 * p + 8 * o + 1) k) 403 (1000 * p + 8 * o + 2) x2) 403 (1000 * p + 8 * o + 3) x3) 403 (1000 * p + 8 * o + 4) x4) 390 p ((o : Int) + 1)
def vB (N x : Int) : Prop := 0 ≤ x ∧ x < 48 ∧ x < N
def vC (x : Int) : Prop := 0 ≤ x ∧ x < 48
theorem vB.mono {N N2 x : Int} (h : vB N x) (e : N ≤ N2) : vB N2 x := ⟨h.1, h.2.1, by have := h.2.2; omega⟩
theorem vB.c {N x : Int} (h : vB N x) : vC x := ⟨h.1, h.2.1⟩
def rCo (A p : Nat) (mc mm : yM) : Prop := mc A 12 = mm 386 p ∧ 0 ≤ mc A 12 ∧ mc A 12 ≤ 12 ∧ mc A 13 = mm 387 p ∧ 0 ≤ mc A 13 ∧ mc A 13 ≤ 8 ∧ mc A 14 = mm 388 p ∧ 1 ≤ mc A 14 ∧ mc A 14 ≤ 12
def rBd (A p k res o a : Nat) (mc mm : yM) : Prop := rV A p k res mc mm ∧ rCo A p mc mm ∧ mm 390 p = o ∧ mm 376 17 = a ∧ mm 384 p = (k : Int) + 1
/-- the statement s of the class is the op at b of the model; the names asked for go from a to a' -/
def OPK (A p s b a a' : Nat) (mc mm : yM) : Prop :=
  (mc (A + 20 + s) 0 = 2 ∧ mm 403 b = 6 ∧ mm 403 (b + 2) = mc (A + 20 + s) 3 ∧ vB (mc A 15) (mc (A + 20 + s) 3) ∧ mc (A + 20 + s) 2 = mm 398 (10 * p + (mc (A + 20 + s) 1).toNat) ∧ mc (A + 20 + s) 1 < mc A 10 ∧ a' = a)
  ∨ (mc (A + 20 + s) 0 = 3 ∧ mm 403 b = 5 ∧ mm 403 (b + 2) = mc (A + 20 + s) 2 ∧ mm 403 (b + 3) = mc (A + 20 + s) 3 ∧ vB (mc A 15) (mc (A + 20 + s) 2) ∧ vB (mc A 15) (mc (A + 20 + s) 3) ∧ Nm (mc (A + 20 + s) 4) (mm 403 (b + 4)) ∧ a' = a)
  ∨ (mc (A + 20 + s) 0 = 4 ∧ mm 403 b = 7 ∧ mm 403 (b + 2) = mc (A + 20 + s) 2 ∧ mm 403 (b + 3) = mc (A + 20 + s) 3 ∧ (mc (A + 20 + s) 2 = -1 ∨ vB (mc A 15) (mc (A + 20 + s) 2)) ∧ vB (mc A 15) (mc (A + 20 + s) 3) ∧ Nm (mc (A + 20 + s) 4) (mm 403 (b + 4)) ∧ mm 403 (b + 5) = 16 * mc (A + 20 + s) 6 + mc (A + 20 + s) 8 ∧ 0 ≤ mc (A + 20 + s) 8 ∧ mc (A + 20 + s) 8 ≤ 2 ∧ 0 ≤ mc (A + 20 + s) 6 ∧ mc (A + 20 + s) 6 < 12 ∧ (0 < mc (A + 20 + s) 8 → mm 403 (b + 6) = mc (A + 20 + s) 9 ∧ vB (mc A 15) (mc (A + 20 + s) 9)) ∧ (1 < mc (A + 20 + s) 8 → mm 403 (b + 7) = mc (A + 20 + s) 10 ∧ vB (mc A 15) (mc (A + 20 + s) 10)) ∧ a' = a)
  ∨ (mc (A + 20 + s) 0 = 5 ∧ mm 403 b = 1 ∧ mm 403 (b + 2) = mc (A + 20 + s) 2 ∧ mm 403 (b + 3) = mc (A + 20 + s) 6 ∧ vB (mc A 15) (mc (A + 20 + s) 2) ∧ 1 ≤ mc (A + 20 + s) 6 ∧ mc (A + 20 + s) 6 < 12 ∧ mc (A + 20 + s) 6 < mc A 14 ∧ Nm (mc (A + 20 + s) 4) (mm 400 (12 * p + (mc (A + 20 + s) 6).toNat)) ∧ Nm (mc (A + 20 + s) 4) (mm 381 a) ∧ mm 382 a = mc (A + 20 + s) 5 ∧ 0 ≤ mc (A + 20 + s) 5 ∧ a' = a + 1)
  ∨ (mc (A + 20 + s) 0 = 6 ∧ mm 403 b = 8 ∧ mm 403 (b + 2) = mc (A + 20 + s) 2 ∧ vB (mc A 15) (mc (A + 20 + s) 2) ∧ a' = a)
  ∨ (mc (A + 20 + s) 0 = 7 ∧ mm 403 b = 3 ∧ mm 403 (b + 2) = mc (A + 20 + s) 2 ∧ mm 403 (b + 3) = mc (A + 20 + s) 3 ∧ vB (mc A 15) (mc (A + 20 + s) 2) ∧ vB (mc A 15) (mc (A + 20 + s) 3) ∧ 0 ≤ mm 403 (b + 4) ∧ mm 403 (b + 4) < 8 ∧ mm 403 (b + 4) < mc A 13 ∧ mc (A + 9) (mm 403 (b + 4)).toNat = s ∧ Nm (mc (A + 20 + s) 4) (mm 402 (8 * p + (mm 403 (b + 4)).toNat)) ∧ mm 401 (8 * p + (mm 403 (b + 4)).toNat) = mc (A + 20 + s) 3 ∧ Nm (mc (A + 20 + s) 4) (mm 381 a) ∧ mm 382 a = mc (A + 20 + s) 5 ∧ 0 ≤ mc (A + 20 + s) 5 ∧ a' = a + 1)
  ∨ (mc (A + 20 + s) 0 = 8 ∧ mm 403 b = 2 ∧ mm 403 (b + 2) = mc (A + 20 + s) 2 ∧ mm 403 (b + 3) = mc (A + 20 + s) 3 ∧ vB (mc A 15) (mc (A + 20 + s) 2) ∧ vB (mc A 15) (mc (A + 20 + s) 3) ∧ a' = a)
  ∨ (mc (A + 20 + s) 0 = 9 ∧ mm 403 b = 4 ∧ mm 403 (b + 2) = mc (A + 20 + s) 2 ∧ mm 403 (b + 3) = mc (A + 20 + s) 3 ∧ vB (mc A 15) (mc (A + 20 + s) 2) ∧ vB (mc A 15) (mc (A + 20 + s) 3) ∧ Nm (mc (A + 20 + s) 4) (mm 403 (b + 4)) ∧ a' = a)
def OPR (A p s o a a' : Nat) (mc mm : yM) : Prop := mm 403 (1000 * p + 8 * o + 1) = mc (A + 20 + s) 1 ∧ 0 ≤ mc (A + 20 + s) 1 ∧ mc (A + 20 + s) 1 < 10 ∧ OPK A p s (1000 * p + 8 * o) a a' mc mm
/-- what a statement's reading changes: of the class (cs casts stood), of the model (st sites, cs casts, o ops, a names stood) -/
def fSc (A s : Nat) (cs : Int) (mc mc' : yM) : Prop := ∀ a q : Nat, ¬ (a = 2 ∧ q = 2) → ¬ (a = A ∧ 12 ≤ q ∧ q ≤ 15) → a ≠ A + 5 → ¬ (a = A + 9 ∧ cs ≤ (q : Int)) → a ≠ A + 20 + s → mc' a q = mc a q
def fSm (p o a : Nat) (st cs : Int) (mm mm' : yM) : Prop := ∀ b q : Nat, ¬ (b = 376 ∧ ((3 ≤ q ∧ q ≤ 7) ∨ q = 17)) → ¬ (386 ≤ b ∧ b ≤ 390 ∧ q = p) → b ≠ 380 → ¬ ((b = 381 ∨ b = 382) ∧ a ≤ q) → ¬ (b = 400 ∧ 12 * (p : Int) + st ≤ q ∧ q < 12 * p + 12) → ¬ ((b = 401 ∨ b = 402) ∧ 8 * (p : Int) + cs ≤ q ∧ q < 8 * p + 8) → ¬ (b = 403 ∧ 1000 * p + 8 * o ≤ q ∧ q < 1000 * p + 1000) → mm' b q = mm b q
section EM
variable {A p o k : Nat} {x1 x2 x3 x4 : Int} {mc mm mc' mm' : yM}
theorem em_o {a q : Nat} (h1 : ¬ (a = 403 ∧ 1000 * p + 8 * o ≤ q ∧ q < 1000 * p + 8 * o + 5)) (h2 : ¬ (a = 390 ∧ q = p)) : emM p o k x1 x2 x3 x4 mm a q = mm a q := by
  unfold emM
  rw [yup_ne h2, yup_ne (by omega), yup_ne (by omega), yup_ne (by omega), yup_ne (by omega), yup_ne (by omega)]
theorem em_0 : emM p o k x1 x2 x3 x4 mm 403 (1000 * p + 8 * o) = x1 := by
  unfold emM
  rw [yup_na (by decide), yup_nk (by omega), yup_nk (by omega), yup_nk (by omega), yup_nk (by omega), yup_eq]
theorem em_1 : emM p o k x1 x2 x3 x4 mm 403 (1000 * p + 8 * o + 1) = k := by
  unfold emM
  rw [yup_na (by decide), yup_nk (by omega), yup_nk (by omega), yup_nk (by omega), yup_eq]
theorem em_2 : emM p o k x1 x2 x3 x4 mm 403 (1000 * p + 8 * o + 2) = x2 := by
  unfold emM
  rw [yup_na (by decide), yup_nk (by omega), yup_nk (by omega), yup_eq]
theorem em_3 : emM p o k x1 x2 x3 x4 mm 403 (1000 * p + 8 * o + 3) = x3 := by
  unfold emM
  rw [yup_na (by decide), yup_nk (by omega), yup_eq]
theorem em_4 : emM p o k x1 x2 x3 x4 mm 403 (1000 * p + 8 * o + 4) = x4 := by
  unfold emM
  rw [yup_na (by decide), yup_eq]
theorem em_n : emM p o k x1 x2 x3 x4 mm 390 p = (o : Int) + 1 := by
  unfold emM
  rw [yup_eq]
theorem F127_r {g : Nat} {r : Int} (hp : p ≤ 1) (h18 : mm 376 18 = 1 - (p : Int)) (h390 : mm 390 p = o) (ho : o ≤ 120) (h384 : mm 384 p = (k : Int) + 1) (hk : k < 10) (h : F127 g x1 x2 x3 x4 mm = some (r, mm')) : r = o ∧ mm' = emM p o k x1 x2 x3 x4 mm := by
  unfold F127 at h
  have hF : F96 mm = p := by unfold F96; rw [h18, wr_i (by omega) (by omega)]; omega
  rw [hF, Int.toNat_natCast, h390, h384, wr_i (x := 1000 * (p : Int)) (by omega) (by omega), wr_i (x := 8 * (o : Int)) (by omega) (by omega), wr_i (x := 1000 * (p : Int) + 8 * o) (by omega) (by omega), wr_i (x := 1000 * (p : Int) + 8 * o + 1) (by omega) (by omega), wr_i (x := 1000 * (p : Int) + 8 * o + 2) (by omega) (by omega), wr_i (x := 1000 * (p : Int) + 8 * o + 3) (by omega) (by omega), wr_i (x := 1000 * (p : Int) + 8 * o + 4) (by omega) (by omega), wr_i (x := (o : Int) + 1) (by omega) (by omega), wr_i (x := (o : Int) + 1 - 1) (by omega) (by omega), wr_i (x := (k : Int) + 1 - 1) (by omega) (by omega), show (1000 * (p : Int) + 8 * o).toNat = 1000 * p + 8 * o by omega, show (1000 * (p : Int) + 8 * o + 1).toNat = 1000 * p + 8 * o + 1 by omega, show (1000 * (p : Int) + 8 * o + 2).toNat = 1000 * p + 8 * o + 2 by omega, show (1000 * (p : Int) + 8 * o + 3).toNat = 1000 * p + 8 * o + 3 by omega, show (1000 * (p : Int) + 8 * o + 4).toNat = 1000 * p + 8 * o + 4 by omega, show (k : Int) + 1 - 1 = k by omega, show (o : Int) + 1 - 1 = o by omega] at h
  cases h
  exact ⟨rfl, rfl⟩
theorem rCo.fr (h : rCo A p mc mm) (e1 : ∀ q, 12 ≤ q → q ≤ 14 → mc' A q = mc A q) (e2 : ∀ a, 386 ≤ a → a ≤ 388 → mm' a p = mm a p) : rCo A p mc' mm' := by
  unfold rCo at h ⊢
  rw [e1 12 (by omega) (by omega), e1 13 (by omega) (by omega), e1 14 (by omega) (by omega), e2 386 (by omega) (by omega), e2 387 (by omega) (by omega), e2 388 (by omega) (by omega)]
  exact h
theorem fSc.rf {s : Nat} {cs : Int} : fSc A s cs mc mc := fun _ _ _ _ _ _ _ => rfl
theorem fSm.rf {a : Nat} {st cs : Int} : fSm p o a st cs mm mm := fun _ _ _ _ _ _ _ _ _ => rfl
theorem fSc.tr {s : Nat} {cs cs' : Int} {m1 : yM} (h : fSc A s cs mc m1) (h' : fSc A s cs' m1 mc') (hc : cs ≤ cs') : fSc A s cs mc mc' := fun a q h1 h2 h3 h4 h5 => (h' a q h1 h2 h3 (by omega) h5).trans (h a q h1 h2 h3 h4 h5)
theorem fSm.tr {o' a a' : Nat} {st cs st' cs' : Int} {m1 : yM} (h : fSm p o a st cs mm m1) (h' : fSm p o' a' st' cs' m1 mm') (ho : o ≤ o') (ha : a ≤ a') (hs : st ≤ st') (hc : cs ≤ cs') : fSm p o a st cs mm mm' := fun b q h1 h2 h3 h4 h5 h6 h7 => (h' b q h1 h2 h3 (by omega) (by omega) (by omega) (by omega)).trans (h b q h1 h2 h3 h4 h5 h6 h7)
theorem fSc.up {s q : Nat} {cs v : Int} {m1 : yM} (h : fSc A s cs mc m1) : fSc A s cs mc (yup m1 (A + 20 + s) q v) := fun a q' h1 h2 h3 h4 h5 => by
  rw [yup_na h5]
  exact h a q' h1 h2 h3 h4 h5
theorem fSc.u2 {s : Nat} {cs v : Int} {m1 : yM} (h : fSc A s cs mc m1) : fSc A s cs mc (yup m1 2 2 v) := fun a q' h1 h2 h3 h4 h5 => by
  rw [yup_ne h1]
  exact h a q' h1 h2 h3 h4 h5
theorem fSc.var {s : Nat} {cs : Int} {m1 : yM} (h : fSc A s cs mc m1) (h' : fVc A m1 mc') : fSc A s cs mc mc' := fun a q' h1 h2 h3 h4 h5 => by
  rw [h' a q' h1 (by omega) h3]
  exact h a q' h1 h2 h3 h4 h5
theorem fSm.tok {a : Nat} {st cs : Int} {m1 : yM} (h : fSm p o a st cs mm m1) (h' : ∀ a q, ¬ (a = 376 ∧ 3 ≤ q ∧ q ≤ 7) → mm' a q = m1 a q) : fSm p o a st cs mm mm' := fun b q h1 h2 h3 h4 h5 h6 h7 => by
  rw [h' b q (by omega)]
  exact h b q h1 h2 h3 h4 h5 h6 h7
theorem fSm.var {a : Nat} {st cs : Int} {m1 : yM} (h : fSm p o a st cs mm m1) (h' : fVm p m1 mm') : fSm p o a st cs mm mm' := fun b q h1 h2 h3 h4 h5 h6 h7 => by
  rw [h' b q (by omega) (by omega) h3]
  exact h b q h1 h2 h3 h4 h5 h6 h7
theorem fSm.em {a : Nat} {st cs : Int} {m1 : yM} (h : fSm p o a st cs mm m1) (ho : o ≤ 120) : fSm p o a st cs mm (emM p o k x1 x2 x3 x4 m1) := fun b q h1 h2 h3 h4 h5 h6 h7 => by
  rw [em_o (by omega) (by omega)]
  exact h b q h1 h2 h3 h4 h5 h6 h7
theorem fSc.fr {s : Nat} {cs : Int} (hs : s < 40) (h : fSc A s cs mc mc') : FrC A mc mc' := fun a q h1 h2 => h a q (by omega) (by omega) (by omega) (by omega) (by omega)
theorem fSm.fr {a : Nat} {st cs : Int} (hst : 0 ≤ st) (hcs : 0 ≤ cs) (h : fSm p o a st cs mm mm') : FrM p mm mm' := fun b q h1 => h b q (fun e => h1 (Or.inl ⟨e.1, by omega⟩)) (fun e => h1 (Or.inr (Or.inr (Or.inl ⟨by omega, by omega, e.2.2⟩)))) (fun e => h1 (Or.inr (Or.inl ⟨by omega, by omega⟩))) (fun e => h1 (Or.inr (Or.inl ⟨by omega, by omega⟩))) (fun e => h1 (Or.inr (Or.inr (Or.inr (Or.inr (Or.inr (Or.inr (Or.inr (Or.inl ⟨e.1, by omega, by omega⟩))))))))) (fun e => h1 (Or.inr (Or.inr (Or.inr (Or.inr (Or.inr (Or.inr (Or.inr (Or.inr (Or.inl ⟨e.1, by omega, by omega⟩)))))))))) (fun e => h1 (Or.inr (Or.inr (Or.inr (Or.inr (Or.inr (Or.inr (Or.inr (Or.inr (Or.inr (⟨e.1, by omega, by omega⟩)))))))))))
/-- an op's rows are kept -/
theorem OPR.fr {s a a' : Nat} (h : OPR A p s o a a' mc mm) (e1 : ∀ q, mc' (A + 20 + s) q = mc (A + 20 + s) q) (e13 : mc A 13 ≤ mc' A 13) (e14 : mc A 14 ≤ mc' A 14) (e15 : mc A 15 ≤ mc' A 15) (e10 : mc A 10 ≤ mc' A 10) (e2 : ∀ q : Nat, (q : Int) < mc A 13 → mc' (A + 9) q = mc (A + 9) q) (e3 : ∀ q, 1000 * p + 8 * o ≤ q → q < 1000 * p + 8 * o + 8 → mm' 403 q = mm 403 q) (e4 : ∀ q : Nat, q < 12 * p + 12 → (q : Int) < 12 * p + mc A 14 → mm' 400 q = mm 400 q) (e5 : ∀ b q : Nat, b = 401 ∨ b = 402 → q < 8 * p + 8 → (q : Int) < 8 * p + mc A 13 → mm' b q = mm b q) (e6 : ∀ b q, b = 381 ∨ b = 382 → q < a' → mm' b q = mm b q) (e7 : ∀ q : Nat, (q : Int) < 10 * p + mc A 10 → mm' 398 q = mm 398 q) : OPR A p s o a a' mc' mm' := by
  obtain ⟨h1, h2, h3, h4⟩ := h
  have f0 := e3 (1000 * p + 8 * o) (by omega) (by omega)
  have f1 := e3 (1000 * p + 8 * o + 1) (by omega) (by omega)
  have f2 := e3 (1000 * p + 8 * o + 2) (by omega) (by omega)
  have f3 := e3 (1000 * p + 8 * o + 3) (by omega) (by omega)
  have f4 := e3 (1000 * p + 8 * o + 4) (by omega) (by omega)
  have f5 := e3 (1000 * p + 8 * o + 5) (by omega) (by omega)
  have f6 := e3 (1000 * p + 8 * o + 6) (by omega) (by omega)
  have f7 := e3 (1000 * p + 8 * o + 7) (by omega) (by omega)
  refine ⟨by rw [f1, e1]; exact h1, by rw [e1]; exact h2, by rw [e1]; exact h3, ?_⟩
  unfold OPK at h4 ⊢
  simp only [e1, f0, f2, f3, f4, f5, f6, f7]
  rcases h4 with h | h | h | h | h | h | h | h
  · obtain ⟨g1, g2, g3, g4, g5, g6, g7⟩ := h
    rw [e7 _ (by omega)]
    exact Or.inl ⟨g1, g2, g3, g4.mono e15, g5, by omega, g7⟩
  · obtain ⟨g1, g2, g3, g4, g5, g6, g7, g8⟩ := h
    exact Or.inr (Or.inl ⟨g1, g2, g3, g4, g5.mono e15, g6.mono e15, g7, g8⟩)
  · obtain ⟨g1, g2, g3, g4, g5, g6, g7, g8, g9, g10, g11, g12, g13, g14, g15⟩ := h
    exact Or.inr (Or.inr (Or.inl ⟨g1, g2, g3, g4, g5.imp id (fun z => z.mono e15), g6.mono e15, g7, g8, g9, g10, g11, g12, fun z => ⟨(g13 z).1, (g13 z).2.mono e15⟩, fun z => ⟨(g14 z).1, (g14 z).2.mono e15⟩, g15⟩))
  · obtain ⟨g1, g2, g3, g4, g5, g6, g7, g7', g8, g9, g10, g11⟩ := h
    rw [e4 _ (by omega) (by omega), e6 381 a (by omega) (by omega), e6 382 a (by omega) (by omega)]
    exact Or.inr (Or.inr (Or.inr (Or.inl ⟨g1, g2, g3, g4, g5.mono e15, g6, g7, by omega, g8, g9, g10, g11⟩)))
  · obtain ⟨g1, g2, g3, g4, g5⟩ := h
    exact Or.inr (Or.inr (Or.inr (Or.inr (Or.inl ⟨g1, g2, g3, g4.mono e15, g5⟩))))
  · obtain ⟨g1, g2, g3, g4, g5, g6, g7, g8, g8', g9, g10, g11, g12, g13, g14⟩ := h
    rw [e2 _ (by omega), e5 402 _ (by omega) (by omega) (by omega), e5 401 _ (by omega) (by omega) (by omega), e6 381 a (by omega) (by omega), e6 382 a (by omega) (by omega)]
    exact Or.inr (Or.inr (Or.inr (Or.inr (Or.inr (Or.inl ⟨g1, g2, g3, g4, g5.mono e15, g6.mono e15, g7, g8, by omega, g9, g10, g11, g12, g13, g14⟩)))))
  · obtain ⟨g1, g2, g3, g4, g5, g6, g7⟩ := h
    exact Or.inr (Or.inr (Or.inr (Or.inr (Or.inr (Or.inr (Or.inl ⟨g1, g2, g3, g4, g5.mono e15, g6.mono e15, g7⟩))))))
  · obtain ⟨g1, g2, g3, g4, g5, g6, g7, g8⟩ := h
    exact Or.inr (Or.inr (Or.inr (Or.inr (Or.inr (Or.inr (Or.inr ⟨g1, g2, g3, g4, g5.mono e15, g6.mono e15, g7, g8⟩))))))
end EM
end
section
/-! CALLS -/
section CA
variable {tx : Int → Int} {len : Int} {n : Nat} {en tk tp tn : Nat → Int} {A p k res s o a : Nat} {mc mm mc' mm' : yM}
/-- a statement is read: refused at the same place, or it stands on both sides -/
def STO (tx : Int → Int) (len : Int) (n : Nat) (en tk tp tn : Nat → Int) (A p k res s o a i : Nat) (mc mm : yM) (r : Int) (mc' mm' : yM) : Prop := (r = 0 ∧ Flt mc' mm' ∧ FrC A mc mc' ∧ FrM p mm mm') ∨ (r = 1 ∧ ∃ i' a' : Nat, i < i' ∧ a ≤ a' ∧ a' ≤ a + 1 ∧ CT tk tp tn i' mc' ∧ MT tx len n en tk tp tn p i' mm' ∧ rBd A p k res (o + 1) a' mc' mm' ∧ OPR A p s o a a' mc' mm' ∧ fSc A s (mc A 13) mc mc' ∧ fSm p o a (mm 388 p) (mm 387 p) mm mm' ∧ mc A 14 ≤ mc' A 14 ∧ mc A 13 ≤ mc' A 13 ∧ mc A 15 ≤ mc' A 15 ∧ (mc' A 13 = mc A 13 ∨ (mc' A 13 = mc A 13 + 1 ∧ mc' (A + 20 + s) 0 = 7)) ∧ mc' (A + 20 + s) 1 = k ∧ (4 ≤ mc' (A + 20 + s) 0 → mc' (A + 20 + s) 2 = -1 ∨ (res : Int) < mc' (A + 20 + s) 2))
theorem FrM.tkn {m1 : yM} (h : FrM p mm m1) (h' : ∀ a q, ¬ (a = 376 ∧ 3 ≤ q ∧ q ≤ 7) → mm' a q = m1 a q) : FrM p mm mm' := h.tk h'
theorem rBd.fr (hA : A = 256 ∨ A = 316) (h : rBd A p k res o a mc mm) (e1 : ∀ q, 10 ≤ q → q ≤ 15 → mc' A q = mc A q) (e2 : mc' (A + 10 + k) 2 = mc (A + 10 + k) 2) (e3 : ∀ q, mc' (A + 5) q = mc (A + 5) q) (e4 : ∀ b q, (b = 376 ∧ (q = 14 ∨ q = 17)) ∨ b = 380 ∨ ((b = 384 ∨ (386 ≤ b ∧ b ≤ 390)) ∧ q = p) → mm' b q = mm b q) : rBd A p k res o a mc' mm' := by
  obtain ⟨h1, h2, h3, h4, h5⟩ := h
  refine ⟨h1.fr hA (e1 10 (by omega) (by omega)) (e1 15 (by omega) (by omega)) e2 e3 (e4 _ _ (by omega)) (e4 _ _ (by omega)) (fun q => e4 _ _ (by omega)), h2.fr (fun q q1 q2 => e1 q (by omega) (by omega)) (fun b b1 b2 => e4 _ _ (by omega)), ?_, ?_, ?_⟩
  · rw [e4 390 p (by omega)]; exact h3
  · rw [e4 376 17 (by omega)]; exact h4
  · rw [e4 384 p (by omega)]; exact h5
/-- behind a variable -/
theorem rBd.var (hA : A = 256 ∨ A = 316) (h : rBd A p k res o a mc mm) (hV : rV A p k res mc' mm') (fc : fVc A mc mc') (fm : fVm p mm mm') : rBd A p k res o a mc' mm' := by
  obtain ⟨h1, h2, h3, h4, h5⟩ := h
  refine ⟨hV, h2.fr (fun q q1 q2 => fc A q (by omega) (by omega) (by omega)) (fun b b1 b2 => fm b p (by omega) (by omega) (by omega)), ?_, ?_, ?_⟩
  · rw [fm 390 p (by omega) (by omega) (by omega)]; exact h3
  · rw [fm 376 17 (by omega) (by omega) (by omega)]; exact h4
  · rw [fm 384 p (by omega) (by omega) (by omega)]; exact h5
theorem rBd.tok (hA : A = 256 ∨ A = 316) (h : rBd A p k res o a mc mm) (e1 : ∀ b q, ¬ (b = 2 ∧ q = 2) → b ≠ A + 20 + s → mc' b q = mc b q) (hs : s < 40) (e2 : ∀ b q, ¬ (b = 376 ∧ 3 ≤ q ∧ q ≤ 7) → mm' b q = mm b q) : rBd A p k res o a mc' mm' := by
  have hk := h.1.2.1
  exact h.fr hA (fun q q1 q2 => e1 A q (by omega) (by omega)) (e1 _ _ (by omega) (by omega)) (fun q => e1 _ _ (by omega) (by omega)) (fun b q hb => e2 b q (by omega))
/-- behind an op -/
theorem rBd.em {x1 x2 x3 x4 : Int} (h : rBd A p k res o a mc mm) : rBd A p k res (o + 1) a mc (emM p o k x1 x2 x3 x4 mm) := by
  obtain ⟨h1, h2, h3, h4, h5⟩ := h
  have e : ∀ b q, b ≠ 403 → ¬ (b = 390 ∧ q = p) → emM p o k x1 x2 x3 x4 mm b q = mm b q := fun b q b1 b2 => em_o (by omega) b2
  obtain ⟨v1, v2, v3, v4, v5, v6, v7, v8, v9, v10, v11⟩ := h1
  refine ⟨⟨v1, v2, v3, by rw [e 376 14 (by omega) (by omega)]; exact v4, by rw [e 389 p (by omega) (by omega)]; exact v5, v6, v7, v8, v9, fun v w1 w2 => by rw [e 380 v (by omega) (by omega)]; exact v10 v w1 w2, v11⟩, h2.fr (fun _ _ _ => rfl) (fun b b1 b2 => e b p (by omega) (by omega)), by rw [em_n]; omega, by rw [e 376 17 (by omega) (by omega)]; exact h4, by rw [e 384 p (by omega) (by omega)]; exact h5⟩
theorem callfin {f g j i : Nat} {r v w t cl nA y1 y2 : Int} {M N : yM} (T : TOK tx len n en tk tp tn) (hl : len ≤ 320) (hA : A = 256 ∨ A = 316) (hp : p ≤ 1) (hs : s < 40) (ho : o ≤ 120) (hij : i < j) (hC : CT tk tp tn j M) (hM : MT tx len n en tk tp tn p j N) (hB : rBd A p k res o a M N) (s0 : M (A + 20 + s) 0 = 4) (s1 : M (A + 20 + s) 1 = k) (s2 : M (A + 20 + s) 2 = v) (s3 : M (A + 20 + s) 3 = w) (s4 : Nm (M (A + 20 + s) 4) t) (s6 : M (A + 20 + s) 6 = cl) (s8 : M (A + 20 + s) 8 = nA) (hv : v = -1 ∨ vB (M A 15) v) (hw : vB (M A 15) w) (hcl : 0 ≤ cl ∧ cl < 12) (hnA : 0 ≤ nA ∧ nA ≤ 2) (a1 : 0 < nA → M (A + 20 + s) 9 = y1 ∧ vB (M A 15) y1) (a2 : 1 < nA → M (A + 20 + s) 10 = y2 ∧ vB (M A 15) y2) (hc13 : M A 13 = mc A 13) (hvr : v = -1 ∨ (res : Int) < v) (fc : fSc A s (mc A 13) mc M) (fm : fSm p o a (mm 388 p) (mm 387 p) mm N) (h388 : 0 ≤ mm 388 p) (h387 : 0 ≤ mm 387 p) (m14 : mc A 14 ≤ M A 14) (m13 : mc A 13 ≤ M A 13) (m15 : mc A 15 ≤ M A 15) (h1 : J66_113 f A M = some (r, mc')) (h2 : J132_105 g v w t p cl nA y1 y2 N = some mm') : STO tx len n en tk tp tn A p k res s o a i mc mm r mc' mm' := by
  have hj := hM.le T hl
  have hk := hB.1.2.1
  unfold J66_113 at h1
  replace h1 := bI_e h1
  obtain ⟨r1, m1, e1, h1⟩ := h1
  cases h1
  unfold J132_105 at h2
  rw [if_pos (by rw [hM.2.2.2.1]; decide)] at h2
  replace h2 := bI_e h2
  obtain ⟨q1, n1, e2, h2⟩ := h2
  rcases hC.take (by omega) e1 with ⟨t1, rfl, rfl⟩ | ⟨t1, rfl, rfl⟩
  · right
    rcases hM.mark T hl (by unfold sgn; omega) e2 with ⟨-, rfl, hM1, f1⟩ | ⟨z, -⟩
    case inr => exact absurd t1 z
    rw [if_neg (by decide)] at h2
    replace h2 := bI_e h2
    obtain ⟨q2, n2, e3, h2⟩ := h2
    have hB1 : rBd A p k res o a (yup M 2 2 ((j : Int) + 1)) n1 := hB.tok (s := s) hA (fun b q b1 b2 => yup_ne b1) hs f1
    obtain ⟨rfl, rfl⟩ := F127_r hp hM1.2.2.1 hB1.2.2.1 ho hB1.2.2.2.2 hk e3
    have i5 : (wr (wr (wr (1000 * (p : Int)) + wr (8 * (o : Int))) + 5)).toNat = 1000 * p + 8 * o + 5 := by
      rw [wr_i (x := 1000 * (p : Int)) (by omega) (by omega), wr_i (x := 8 * (o : Int)) (by omega) (by omega), wr_i (x := 1000 * (p : Int) + 8 * o) (by omega) (by omega), wr_i (by omega) (by omega)]
      omega
    have i6 : (wr (wr (wr (1000 * (p : Int)) + wr (8 * (o : Int))) + 6)).toNat = 1000 * p + 8 * o + 6 := by
      rw [wr_i (x := 1000 * (p : Int)) (by omega) (by omega), wr_i (x := 8 * (o : Int)) (by omega) (by omega), wr_i (x := 1000 * (p : Int) + 8 * o) (by omega) (by omega), wr_i (by omega) (by omega)]
      omega
    have i7 : (wr (wr (wr (1000 * (p : Int)) + wr (8 * (o : Int))) + 7)).toNat = 1000 * p + 8 * o + 7 := by
      rw [wr_i (x := 1000 * (p : Int)) (by omega) (by omega), wr_i (x := 8 * (o : Int)) (by omega) (by omega), wr_i (x := 1000 * (p : Int) + 8 * o) (by omega) (by omega), wr_i (by omega) (by omega)]
      omega
    rw [i5, i6, i7, wr_i (x := 16 * cl) (by omega) (by omega), wr_i (x := 16 * cl + nA) (by omega) (by omega)] at h2
    cases h2
    have E : ∀ b q, ¬ (b = 403 ∧ 1000 * p + 8 * o + 5 ≤ q ∧ q < 1000 * p + 8 * o + 8) → yup (yup (yup (emM p o k 7 v w t n1) 403 (1000 * p + 8 * o + 5) (16 * cl + nA)) 403 (1000 * p + 8 * o + 6) y1) 403 (1000 * p + 8 * o + 7) y2 b q = emM p o k 7 v w t n1 b q := fun b q hb => by
      rw [yup_ne (by omega), yup_ne (by omega), yup_ne (by omega)]
    refine ⟨rfl, j + 1, a, by omega, by omega, by omega, hC.at (by rw [yup_eq]; omega) (fun b q hb => yup_na (by omega)), ?_, ?_, ?_, fc.u2, ?_, ?_, ?_, ?_, Or.inl (by rw [yup_na (by omega)]; exact hc13), by rw [yup_na (by omega)]; exact s1, fun _ => by rw [yup_na (by omega), s2]; exact hvr⟩
    · exact hM1.fr (fun q hq => by rw [E 376 q (by omega), em_o (by omega) (by omega)]) (fun q => by rw [E 377 q (by omega), em_o (by omega) (by omega)])
    · exact (hB1.em (x1 := 7) (x2 := v) (x3 := w) (x4 := t)).fr hA (fun q q1 q2 => rfl) rfl (fun q => rfl) (fun b q hb => E b q (by omega))
    · have c : ∀ q, yup M 2 2 ((j : Int) + 1) (A + 20 + s) q = M (A + 20 + s) q := fun q => yup_na (by omega)
      have c15 : yup M 2 2 ((j : Int) + 1) A 15 = M A 15 := yup_na (by omega)
      have g7 : yup (yup (yup (emM p o k 7 v w t n1) 403 (1000 * p + 8 * o + 5) (16 * cl + nA)) 403 (1000 * p + 8 * o + 6) y1) 403 (1000 * p + 8 * o + 7) y2 403 (1000 * p + 8 * o + 7) = y2 := yup_eq _ _ _ _
      have g6 : yup (yup (yup (emM p o k 7 v w t n1) 403 (1000 * p + 8 * o + 5) (16 * cl + nA)) 403 (1000 * p + 8 * o + 6) y1) 403 (1000 * p + 8 * o + 7) y2 403 (1000 * p + 8 * o + 6) = y1 := by rw [yup_nk (by omega), yup_eq]
      have g5 : yup (yup (yup (emM p o k 7 v w t n1) 403 (1000 * p + 8 * o + 5) (16 * cl + nA)) 403 (1000 * p + 8 * o + 6) y1) 403 (1000 * p + 8 * o + 7) y2 403 (1000 * p + 8 * o + 5) = 16 * cl + nA := by rw [yup_nk (by omega), yup_nk (by omega), yup_eq]
      refine ⟨by rw [E _ _ (by omega), em_1, c, s1], by rw [c, s1]; omega, by rw [c, s1]; omega, Or.inr (Or.inr (Or.inl ?_))⟩
      rw [c15, c, c, c, c, c, c, c, c, s0, s2, s3, s6, s8, E _ _ (by omega), E _ _ (by omega), E _ _ (by omega), E _ _ (by omega), em_0, em_2, em_3, em_4, g5, g6, g7]
      exact ⟨rfl, rfl, rfl, rfl, hv, hw, s4, rfl, hnA.1, hnA.2, hcl.1, hcl.2, fun z => ⟨(a1 z).1.symm, by rw [(a1 z).1]; exact (a1 z).2⟩, fun z => ⟨(a2 z).1.symm, by rw [(a2 z).1]; exact (a2 z).2⟩, rfl⟩
    · have fm2 := (fm.tok f1).em (k := k) (x1 := 7) (x2 := v) (x3 := w) (x4 := t) ho
      exact fun b q h1 h2 h3 h4 h5 h6 h7 => by
        rw [E b q (by omega)]
        exact fm2 b q h1 h2 h3 h4 h5 h6 h7
    · rw [yup_na (by omega)]; exact m14
    · rw [yup_na (by omega)]; exact m13
    · rw [yup_na (by omega)]; exact m15
  · left
    rcases hM.mark T hl (by unfold sgn; omega) e2 with ⟨z, -⟩ | ⟨-, rfl, rfl⟩
    · exact absurd z t1
    · rw [if_pos rfl] at h2
      cases h2
      exact ⟨rfl, Flt.mk (hM.tp0 T), (fc.fr hs).u2, (fm.fr h388 h387).w8⟩
/-- a call, from its bracket on -/
theorem call_r {f g i : Nat} {r v w t pl : Int} (T : TOK tx len n en tk tp tn) (hl : len ≤ 320) (hA : A = 256 ∨ A = 316) (hp : p ≤ 1) (hs : s < 40) (ho : o ≤ 120) {M N : yM} {i0 : Nat} (hij : i0 < i) (hC : CT tk tp tn i M) (hM : MT tx len n en tk tp tn p i N) (hi : tk i = 40) (hB : rBd A p k res o a M N) (s1 : M (A + 20 + s) 1 = k) (s2 : M (A + 20 + s) 2 = v) (s3 : M (A + 20 + s) 3 = w) (s4 : Nm (M (A + 20 + s) 4) t) (s5 : M (A + 20 + s) 5 = pl) (hpl : 0 ≤ pl) (s8 : M (A + 20 + s) 8 = 0) (hv : v = -1 ∨ vB (M A 15) v) (hw : vB (M A 15) w) (hc13 : M A 13 = mc A 13) (hvr : v = -1 ∨ (res : Int) < v) (fc : fSc A s (mc A 13) mc M) (fm : fSm p o a (mm 388 p) (mm 387 p) mm N) (h388 : 0 ≤ mm 388 p) (h387 : 0 ≤ mm 387 p) (m14 : mc A 14 ≤ M A 14) (m13 : mc A 13 ≤ M A 13) (m15 : mc A 15 ≤ M A 15) (h1 : F66 f A (A + 20 + s) M = some (r, mc')) (h2 : F132 g v w t pl N = some mm') : STO tx len n en tk tp tn A p k res s o a i0 mc mm r mc' mm' := by
  have hi0 := hM.le T hl
  have hk := hB.1.2.1
  obtain ⟨b1, b2, b3, b4, b5⟩ := hB
  have b2' := b2
  obtain ⟨c1, c2, c3, c4, c5, c6, c7, c8, c9⟩ := b2'
  obtain ⟨cl, hcl⟩ : ∃ cl : Nat, M A 12 = cl := ⟨(M A 12).toNat, by omega⟩
  unfold F66 F65 at h1
  rw [hcl] at h1
  unfold F132 at h2
  rw [hM.pp hp, Int.toNat_natCast, ← c1, hcl] at h2
  replace h1 := bI_e h1
  obtain ⟨r1, m1, e1, h1⟩ := h1
  by_cases t1 : cl = 12
  · rw [if_pos (by omega)] at e1 h2
    cases e1
    rw [if_pos rfl, s5] at h1
    cases h1
    cases h2
    exact Or.inl ⟨rfl, Flt.mk hpl, (fc.fr hs).u2, (fm.fr h388 h387).w8⟩
  rw [if_neg (by omega)] at e1 h2
  rw [wr_i (x := (cl : Int) + 1) (by omega) (by omega)] at e1 h2
  cases e1
  rw [if_neg (by decide)] at h1
  obtain ⟨M1, hM1⟩ : ∃ M1, M1 = yup (yup (yup M (A + 20 + s) 0 4) (A + 20 + s) 6 (cl : Int)) A 12 ((cl : Int) + 1) := ⟨_, rfl⟩
  rw [← hM1] at h1
  have g22 : M1 2 2 = i := by rw [hM1, yup_na (by omega), yup_na (by omega), yup_na (by omega)]; exact hC.1
  rw [g22, wr_i (x := (i : Int) + 1) (by omega) (by omega)] at h1
  have gO : ∀ b q, ¬ (b = A + 20 + s ∧ (q = 0 ∨ q = 6)) → ¬ (b = A ∧ q = 12) → M1 b q = M b q := fun b q x1 x2 => by rw [hM1, yup_ne x2, yup_ne (by omega), yup_ne (by omega)]
  have g0 : M1 (A + 20 + s) 0 = 4 := by rw [hM1, yup_na (by omega), yup_nk (by decide), yup_eq]
  have g6 : M1 (A + 20 + s) 6 = cl := by rw [hM1, yup_na (by omega), yup_eq]
  have g12 : M1 A 12 = (cl : Int) + 1 := by rw [hM1, yup_eq]
  clear hM1
  obtain ⟨M2, hM2⟩ : ∃ M2, M2 = yup M1 2 2 ((i : Int) + 1) := ⟨_, rfl⟩
  rw [← hM2] at h1
  have k2 : ∀ b q, ¬ (b = 2 ∧ q = 2) → M2 b q = M1 b q := fun b q x1 => by rw [hM2, yup_ne x1]
  have hC2 : CT tk tp tn (i + 1) M2 := hC.at (by rw [hM2, yup_eq]; omega) (fun b q hb => by rw [k2 b q (by omega)]; exact gO b q (by omega) (by omega))
  clear hM2
  have fc2 : fSc A s (mc A 13) mc M2 := fun b q x1 x2 x3 x4 x5 => by rw [k2 b q x1, gO b q (by omega) (by omega)]; exact fc b q x1 x2 x3 x4 x5
  replace h2 := bU_e h2
  obtain ⟨n1, e2, h2⟩ := h2
  have hMN : MT tx len n en tk tp tn p i (yup N 386 p ((cl : Int) + 1)) := hM.fr (fun q _ => yup_na (by decide)) (fun q => yup_na (by decide))
  obtain ⟨hMn1, f1⟩ := hMN.next T hl (by omega) e2
  have fn : ∀ b q, ¬ (b = 376 ∧ 3 ≤ q ∧ q ≤ 7) → ¬ (b = 386 ∧ q = p) → n1 b q = N b q := fun b q x1 x2 => by rw [f1 b q x1, yup_ne x2]
  have n386 : n1 386 p = (cl : Int) + 1 := by rw [f1 386 p (by omega), yup_eq]
  have fm2 : fSm p o a (mm 388 p) (mm 387 p) mm n1 := fun b q x1 x2 x3 x4 x5 x6 x7 => by rw [fn b q (by omega) (by omega)]; exact fm b q x1 x2 x3 x4 x5 x6 x7
  have hV2 : rV A p k res M2 n1 := b1.fr hA (by rw [k2 _ _ (by omega), gO _ _ (by omega) (by omega)]) (by rw [k2 _ _ (by omega), gO _ _ (by omega) (by omega)]) (by rw [k2 _ _ (by omega), gO _ _ (by omega) (by omega)]) (fun q => by rw [k2 _ _ (by omega), gO _ _ (by omega) (by omega)]) (fn _ _ (by omega) (by omega)) (fn _ _ (by omega) (by omega)) (fun q => fn _ _ (by omega) (by omega))
  have hB2 : rBd A p k res o a M2 n1 := by
    refine ⟨hV2, ?_, by rw [fn 390 p (by omega) (by omega)]; exact b3, by rw [fn 376 17 (by omega) (by omega)]; exact b4, by rw [fn 384 p (by omega) (by omega)]; exact b5⟩
    unfold rCo
    rw [k2 A 12 (by omega), g12, n386, k2 A 13 (by omega), gO A 13 (by omega) (by omega), k2 A 14 (by omega), gO A 14 (by omega) (by omega), fn 387 p (by omega) (by omega), fn 388 p (by omega) (by omega)]
    exact ⟨rfl, by omega, by omega, c4, c5, c6, c7, c8, c9⟩
  have S0 : M2 (A + 20 + s) 0 = 4 := by rw [k2 _ _ (by omega)]; exact g0
  have S1 : M2 (A + 20 + s) 1 = k := by rw [k2 _ _ (by omega), gO _ _ (by omega) (by omega)]; exact s1
  have S2 : M2 (A + 20 + s) 2 = v := by rw [k2 _ _ (by omega), gO _ _ (by omega) (by omega)]; exact s2
  have S3 : M2 (A + 20 + s) 3 = w := by rw [k2 _ _ (by omega), gO _ _ (by omega) (by omega)]; exact s3
  have S4 : Nm (M2 (A + 20 + s) 4) t := by rw [k2 _ _ (by omega), gO _ _ (by omega) (by omega)]; exact s4
  have S6 : M2 (A + 20 + s) 6 = cl := by rw [k2 _ _ (by omega)]; exact g6
  have S8 : M2 (A + 20 + s) 8 = 0 := by rw [k2 _ _ (by omega), gO _ _ (by omega) (by omega)]; exact s8
  have m14' : mc A 14 ≤ M2 A 14 := by rw [k2 _ _ (by omega), gO _ _ (by omega) (by omega)]; exact m14
  have m13' : mc A 13 ≤ M2 A 13 := by rw [k2 _ _ (by omega), gO _ _ (by omega) (by omega)]; exact m13
  have e15' : M2 A 15 = M A 15 := by rw [k2 _ _ (by omega), gO _ _ (by omega) (by omega)]
  have m15' : mc A 15 ≤ M2 A 15 := by rw [e15']; exact m15
  have c13' : M2 A 13 = mc A 13 := by rw [k2 _ _ (by omega), gO _ _ (by omega) (by omega)]; exact hc13
  rw [hC2.kind] at h1
  rw [hMn1.2.2.2.2.mark T (by unfold sgn; omega)] at h2
  by_cases t2 : tk (i + 1) = 41
  · rw [if_pos t2] at h1
    rw [if_pos t2, if_neg (by decide)] at h2
    unfold J66_63 at h1
    rw [S8, if_neg (by decide)] at h1
    exact callfin T hl hA hp hs ho (by omega) hC2 hMn1 hB2 S0 S1 S2 S3 S4 S6 S8 (by rw [e15']; exact hv) (by rw [e15']; exact hw) (by omega) (by omega) (fun z => by omega) (fun z => by omega) c13' hvr fc2 fm2 h388 h387 m14' m13' m15' h1 h2
  rw [if_neg t2] at h1
  rw [if_neg t2, if_pos rfl] at h2
  replace h1 := bI_e h1
  obtain ⟨r3, M3, e3, h1⟩ := h1
  replace h2 := bI_e h2
  obtain ⟨w3, n3, e4, h2⟩ := h2
  rcases var_r T hl hA hp hC2 hMn1 hV2 e3 e4 with ⟨rfl, rfl, hF, fC, fM⟩ | ⟨x, rfl, rfl, x1, x2, x3, hC3, hM3, hV3, x4, fvc, fvm⟩
  · rw [if_pos rfl] at h1
    cases h1
    rw [if_neg (by have := hF.2; omega)] at h2
    unfold J132_105 at h2
    rw [if_neg (by have := hF.2; omega)] at h2
    cases h2
    refine Or.inl ⟨rfl, ⟨?_, hF.2⟩, ?_, (fm2.fr h388 h387).tr fM⟩
    · rw [yup_na (by omega), yup_na (by omega)]; exact hF.1
    · exact (((fc2.fr hs).tr fC).up (by omega)).up (by omega)
  rw [if_neg (by omega)] at h1
  rw [if_pos (by rw [hM3.2.2.2.1]; decide)] at h2
  have hx48 : (x : Int) < 48 := by have := hV3.2.2.2.2.2.2.1; omega
  have hi3 := hM3.le T hl
  obtain ⟨M4, hM4⟩ : ∃ M4, M4 = yup (yup M3 (A + 20 + s) 9 (x : Int)) (A + 20 + s) 8 1 := ⟨_, rfl⟩
  rw [← hM4] at h1
  have k4 : ∀ b q, ¬ (b = A + 20 + s ∧ (q = 8 ∨ q = 9)) → M4 b q = M3 b q := fun b q x1 => by rw [hM4, yup_ne (by omega), yup_ne (by omega)]
  have k48 : M4 (A + 20 + s) 8 = 1 := by rw [hM4, yup_eq]
  have k49 : M4 (A + 20 + s) 9 = x := by rw [hM4, yup_nk (by decide), yup_eq]
  clear hM4
  have hC4 : CT tk tp tn (i + 1 + 1) M4 := hC3.at (by rw [k4 2 2 (by omega)]; exact hC3.1) (fun b q hb => k4 b q (by omega))
  have kS : ∀ q, q ≠ 8 → q ≠ 9 → M4 (A + 20 + s) q = M2 (A + 20 + s) q := fun q x1 x2 => by rw [k4 _ _ (by omega)]; exact fvc _ _ (by omega) (by omega) (by omega)
  have fc4 : fSc A s (mc A 13) mc M4 := fun b q x1 x2 x3 x4 x5 => by rw [k4 b q (by omega), fvc b q x1 (by omega) x3]; exact fc2 b q x1 x2 x3 x4 x5
  have fm4 : fSm p o a (mm 388 p) (mm 387 p) mm n3 := fm2.var fvm
  have hB4 : rBd A p k res o a M4 n3 := (hB2.var hA hV3 fvc fvm).fr hA (fun q q1 q2 => k4 A q (by omega)) (k4 _ _ (by omega)) (fun q => k4 _ _ (by omega)) (fun b q hb => rfl)
  have m14'' : mc A 14 ≤ M4 A 14 := by rw [k4 _ _ (by omega), fvc A 14 (by omega) (by omega) (by omega)]; exact m14'
  have m13'' : mc A 13 ≤ M4 A 13 := by rw [k4 _ _ (by omega), fvc A 13 (by omega) (by omega) (by omega)]; exact m13'
  have e15'' : M A 15 ≤ M4 A 15 := by rw [k4 _ _ (by omega)]; omega
  have m15'' : mc A 15 ≤ M4 A 15 := by omega
  have c13'' : M4 A 13 = mc A 13 := by rw [k4 _ _ (by omega), fvc A 13 (by omega) (by omega) (by omega)]; exact c13'
  unfold J66_63 at h1
  rw [k48, if_pos rfl, hC4.kind] at h1
  rw [hM3.2.2.2.2.mark T (by unfold sgn; omega)] at h2
  have vx : vB (M4 A 15) (x : Int) := ⟨by omega, hx48, by rw [k4 _ _ (by omega)]; omega⟩
  by_cases t3 : tk (i + 1 + 1) = 44
  case neg =>
    rw [if_neg t3] at h1
    rw [if_neg t3, if_pos rfl] at h2
    exact callfin T hl hA hp hs ho (by omega) hC4 hM3 hB4 (by rw [kS 0 (by omega) (by omega)]; exact S0) (by rw [kS 1 (by omega) (by omega)]; exact S1) (by rw [kS 2 (by omega) (by omega)]; exact S2) (by rw [kS 3 (by omega) (by omega)]; exact S3) (by rw [kS 4 (by omega) (by omega)]; exact S4) (by rw [kS 6 (by omega) (by omega)]; exact S6) k48 (hv.imp id (fun z => z.mono e15'')) (hw.mono e15'') (by omega) (by omega) (fun z => ⟨k49, vx⟩) (fun z => by omega) c13'' hvr fc4 fm4 h388 h387 m14'' m13'' m15'' h1 h2
  rw [if_pos t3] at h1
  rw [if_pos t3, if_neg (by decide)] at h2
  rw [hC4.1, wr_i (x := ((i + 1 + 1 : Nat) : Int) + 1) (by omega) (by omega)] at h1
  obtain ⟨M5, hM5⟩ : ∃ M5, M5 = yup M4 2 2 (((i + 1 + 1 : Nat) : Int) + 1) := ⟨_, rfl⟩
  rw [← hM5] at h1
  have k5 : ∀ b q, ¬ (b = 2 ∧ q = 2) → M5 b q = M4 b q := fun b q x1 => by rw [hM5, yup_ne x1]
  have hC5 : CT tk tp tn (i + 1 + 1 + 1) M5 := hC4.at (by rw [hM5, yup_eq]; omega) (fun b q hb => k5 b q (by omega))
  clear hM5
  replace h2 := bU_e h2
  obtain ⟨n5, e6, h2⟩ := h2
  obtain ⟨hM5, f5⟩ := hM3.next T hl (by omega) e6
  have hB5 : rBd A p k res o a M5 n5 := hB4.tok (s := s) hA (fun b q x1 x2 => k5 b q x1) hs f5
  have fc5 : fSc A s (mc A 13) mc M5 := fun b q x1 x2 x3 x4 x5 => by rw [k5 b q x1]; exact fc4 b q x1 x2 x3 x4 x5
  have fm5 : fSm p o a (mm 388 p) (mm 387 p) mm n5 := fm4.tok f5
  replace h1 := bI_e h1
  obtain ⟨r6, M6, e7, h1⟩ := h1
  replace h2 := bI_e h2
  obtain ⟨w6, n6, e8, h2⟩ := h2
  rcases var_r T hl hA hp hC5 hM5 hB5.1 e7 e8 with ⟨rfl, rfl, hF, fC, fM⟩ | ⟨y, rfl, rfl, y1, y2, y3, hC6, hM6, hV6, y4, gvc, gvm⟩
  · rw [if_pos rfl] at h1
    cases h1
    unfold J132_105 at h2
    rw [if_neg (by have := hF.2; omega)] at h2
    cases h2
    refine Or.inl ⟨rfl, ⟨?_, hF.2⟩, ?_, (fm5.fr h388 h387).tr fM⟩
    · rw [yup_na (by omega), yup_na (by omega)]; exact hF.1
    · exact (((fc5.fr hs).tr fC).up (by omega)).up (by omega)
  rw [if_neg (by omega)] at h1
  have hy48 : (y : Int) < 48 := by have := hV6.2.2.2.2.2.2.1; omega
  obtain ⟨M7, hM7⟩ : ∃ M7, M7 = yup (yup M6 (A + 20 + s) 10 (y : Int)) (A + 20 + s) 8 2 := ⟨_, rfl⟩
  rw [← hM7] at h1
  have k7 : ∀ b q, ¬ (b = A + 20 + s ∧ (q = 8 ∨ q = 10)) → M7 b q = M6 b q := fun b q x1 => by rw [hM7, yup_ne (by omega), yup_ne (by omega)]
  have k78 : M7 (A + 20 + s) 8 = 2 := by rw [hM7, yup_eq]
  have k710 : M7 (A + 20 + s) 10 = y := by rw [hM7, yup_nk (by decide), yup_eq]
  clear hM7
  have hC7 : CT tk tp tn (i + 1 + 1 + 1 + 1) M7 := hC6.at (by rw [k7 2 2 (by omega)]; exact hC6.1) (fun b q hb => k7 b q (by omega))
  have kS7 : ∀ q, q ≠ 8 → q ≠ 10 → M7 (A + 20 + s) q = M4 (A + 20 + s) q := fun q x1 x2 => by rw [k7 _ _ (by omega), gvc _ _ (by omega) (by omega) (by omega)]; exact k5 _ _ (by omega)
  have fc7 : fSc A s (mc A 13) mc M7 := fun b q x1 x2 x3 x4 x5 => by rw [k7 b q (by omega), gvc b q x1 (by omega) x3]; exact fc5 b q x1 x2 x3 x4 x5
  have fm7 : fSm p o a (mm 388 p) (mm 387 p) mm n6 := fm5.var gvm
  have hB7 : rBd A p k res o a M7 n6 := (hB5.var hA hV6 gvc gvm).fr hA (fun q q1 q2 => k7 A q (by omega)) (k7 _ _ (by omega)) (fun q => k7 _ _ (by omega)) (fun b q hb => rfl)
  have e157 : M4 A 15 ≤ M7 A 15 := by rw [k7 _ _ (by omega)]; rw [k5 A 15 (by omega)] at y4; omega
  have c137 : M7 A 13 = mc A 13 := by rw [k7 _ _ (by omega), gvc A 13 (by omega) (by omega) (by omega), k5 _ _ (by omega)]; exact c13''
  have vy : vB (M7 A 15) (y : Int) := ⟨by omega, hy48, by rw [k7 _ _ (by omega)]; omega⟩
  exact callfin T hl hA hp hs ho (by omega) hC7 hM6 hB7 (by rw [kS7 0 (by omega) (by omega), kS 0 (by omega) (by omega)]; exact S0) (by rw [kS7 1 (by omega) (by omega), kS 1 (by omega) (by omega)]; exact S1) (by rw [kS7 2 (by omega) (by omega), kS 2 (by omega) (by omega)]; exact S2) (by rw [kS7 3 (by omega) (by omega), kS 3 (by omega) (by omega)]; exact S3) (by rw [kS7 4 (by omega) (by omega), kS 4 (by omega) (by omega)]; exact S4) (by rw [kS7 6 (by omega) (by omega), kS 6 (by omega) (by omega)]; exact S6) k78 (hv.imp id (fun z => z.mono (by omega))) (hw.mono (by omega)) (by omega) (by omega) (fun z => ⟨by rw [kS7 9 (by omega) (by omega)]; exact k49, vx.mono e157⟩) (fun z => ⟨k710, vy⟩) c137 hvr fc7 fm7 h388 h387 (by rw [k7 _ _ (by omega), gvc A 14 (by omega) (by omega) (by omega), k5 _ _ (by omega)]; exact m14'') (by rw [k7 _ _ (by omega), gvc A 13 (by omega) (by omega) (by omega), k5 _ _ (by omega)]; exact m13'') (by rw [k7 _ _ (by omega)]; rw [k5 A 15 (by omega)] at y4; omega) h1 h2
end CA
end

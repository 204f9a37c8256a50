/-! STATEMENTS: a statement of the class, an op of the model -/
def emM (p o k : Nat) (x1 x2 x3 x4 : Int) (mm : yM) : yM := yup (yup (yup (yup (yup (yup mm 403 (1000 * p + 8 * o) x1) 403 (1000 * p + 8 * o + 1) k) 403 (1000 * p + 8 * o + 2) x2) 403 (1000 * p + 8 * o + 3) x3) 403 (1000 * p + 8 * o + 4) x4) 390 p ((o : Int) + 1)
def vB (N x : Int) : Prop := 0 ≤ x ∧ x < 48 ∧ x < N
def vC (x : Int) : Prop := 0 ≤ x ∧ x < 48
theorem vB.mono {N N2 x : Int} (h : vB N x) (e : N ≤ N2) : vB N2 x := ⟨h.1, h.2.1, by have := h.2.2; omega⟩
theorem vB.c {N x : Int} (h : vB N x) : vC x := ⟨h.1, h.2.1⟩
def rCo (A p : Nat) (mc mm : yM) : Prop := mc A 12 = mm 386 p ∧ 0 ≤ mc A 12 ∧ mc A 12 ≤ 12 ∧ mc A 13 = mm 387 p ∧ 0 ≤ mc A 13 ∧ mc A 13 ≤ 8 ∧ mc A 14 = mm 388 p ∧ 1 ≤ mc A 14 ∧ mc A 14 ≤ 12
def rBd (A p k res o a : Nat) (mc mm : yM) : Prop := rV A p k res mc mm ∧ rCo A p mc mm ∧ mm 390 p = o ∧ mm 376 17 = a ∧ mm 384 p = (k : Int) + 1
/-- the statement s of the class is the op at b of the model; the names asked for go from a to a' -/
def OPK (A p s b a a' : Nat) (mc mm : yM) : Prop :=
  (mc (A + 20 + s) 0 = 2 ∧ mm 403 b = 6 ∧ mm 403 (b + 2) = mc (A + 20 + s) 3 ∧ vB (mc A 15) (mc (A + 20 + s) 3) ∧ mc (A + 20 + s) 2 = mm 398 (10 * p + (mc (A + 20 + s) 1).toNat) ∧ mc (A + 20 + s) 1 < mc A 10 ∧ a' = a)
  ∨ (mc (A + 20 + s) 0 = 3 ∧ mm 403 b = 5 ∧ mm 403 (b + 2) = mc (A + 20 + s) 2 ∧ mm 403 (b + 3) = mc (A + 20 + s) 3 ∧ vB (mc A 15) (mc (A + 20 + s) 2) ∧ vB (mc A 15) (mc (A + 20 + s) 3) ∧ Nm (mc (A + 20 + s) 4) (mm 403 (b + 4)) ∧ a' = a)
  ∨ (mc (A + 20 + s) 0 = 4 ∧ mm 403 b = 7 ∧ mm 403 (b + 2) = mc (A + 20 + s) 2 ∧ mm 403 (b + 3) = mc (A + 20 + s) 3 ∧ (mc (A + 20 + s) 2 = -1 ∨ vB (mc A 15) (mc (A + 20 + s) 2)) ∧ vB (mc A 15) (mc (A + 20 + s) 3) ∧ Nm (mc (A + 20 + s) 4) (mm 403 (b + 4)) ∧ mm 403 (b + 5) = 16 * mc (A + 20 + s) 6 + mc (A + 20 + s) 8 ∧ 0 ≤ mc (A + 20 + s) 8 ∧ mc (A + 20 + s) 8 ≤ 2 ∧ 0 ≤ mc (A + 20 + s) 6 ∧ mc (A + 20 + s) 6 < 12 ∧ (0 < mc (A + 20 + s) 8 → mm 403 (b + 6) = mc (A + 20 + s) 9 ∧ vB (mc A 15) (mc (A + 20 + s) 9)) ∧ (1 < mc (A + 20 + s) 8 → mm 403 (b + 7) = mc (A + 20 + s) 10 ∧ vB (mc A 15) (mc (A + 20 + s) 10)) ∧ a' = a)
  ∨ (mc (A + 20 + s) 0 = 5 ∧ mm 403 b = 1 ∧ mm 403 (b + 2) = mc (A + 20 + s) 2 ∧ mm 403 (b + 3) = mc (A + 20 + s) 6 ∧ vB (mc A 15) (mc (A + 20 + s) 2) ∧ 1 ≤ mc (A + 20 + s) 6 ∧ mc (A + 20 + s) 6 < 12 ∧ mc (A + 20 + s) 6 < mc A 14 ∧ Nm (mc (A + 20 + s) 4) (mm 400 (12 * p + (mc (A + 20 + s) 6).toNat)) ∧ Nm (mc (A + 20 + s) 4) (mm 381 a) ∧ mm 382 a = mc (A + 20 + s) 5 ∧ 0 ≤ mc (A + 20 + s) 5 ∧ a' = a + 1)
  ∨ (mc (A + 20 + s) 0 = 6 ∧ mm 403 b = 8 ∧ mm 403 (b + 2) = mc (A + 20 + s) 2 ∧ vB (mc A 15) (mc (A + 20 + s) 2) ∧ a' = a)
  ∨ (mc (A + 20 + s) 0 = 7 ∧ mm 403 b = 3 ∧ mm 403 (b + 2) = mc (A + 20 + s) 2 ∧ mm 403 (b + 3) = mc (A + 20 + s) 3 ∧ vB (mc A 15) (mc (A + 20 + s) 2) ∧ vB (mc A 15) (mc (A + 20 + s) 3) ∧ 0 ≤ mm 403 (b + 4) ∧ mm 403 (b + 4) < 8 ∧ mm 403 (b + 4) < mc A 13 ∧ mc (A + 9) (mm 403 (b + 4)).toNat = s ∧ Nm (mc (A + 20 + s) 4) (mm 402 (8 * p + (mm 403 (b + 4)).toNat)) ∧ mm 401 (8 * p + (mm 403 (b + 4)).toNat) = mc (A + 20 + s) 3 ∧ Nm (mc (A + 20 + s) 4) (mm 381 a) ∧ mm 382 a = mc (A + 20 + s) 5 ∧ 0 ≤ mc (A + 20 + s) 5 ∧ a' = a + 1)
  ∨ (mc (A + 20 + s) 0 = 8 ∧ mm 403 b = 2 ∧ mm 403 (b + 2) = mc (A + 20 + s) 2 ∧ mm 403 (b + 3) = mc (A + 20 + s) 3 ∧ vB (mc A 15) (mc (A + 20 + s) 2) ∧ vB (mc A 15) (mc (A + 20 + s) 3) ∧ a' = a)
  ∨ (mc (A + 20 + s) 0 = 9 ∧ mm 403 b = 4 ∧ mm 403 (b + 2) = mc (A + 20 + s) 2 ∧ mm 403 (b + 3) = mc (A + 20 + s) 3 ∧ vB (mc A 15) (mc (A + 20 + s) 2) ∧ vB (mc A 15) (mc (A + 20 + s) 3) ∧ Nm (mc (A + 20 + s) 4) (mm 403 (b + 4)) ∧ a' = a)
def OPR (A p s o a a' : Nat) (mc mm : yM) : Prop := mm 403 (1000 * p + 8 * o + 1) = mc (A + 20 + s) 1 ∧ 0 ≤ mc (A + 20 + s) 1 ∧ mc (A + 20 + s) 1 < 10 ∧ OPK A p s (1000 * p + 8 * o) a a' mc mm
/-- what a statement's reading changes: of the class (cs casts stood), of the model (st sites, cs casts, o ops, a names stood) -/
def fSc (A s : Nat) (cs : Int) (mc mc' : yM) : Prop := ∀ a q : Nat, ¬ (a = 2 ∧ q = 2) → ¬ (a = A ∧ 12 ≤ q ∧ q ≤ 15) → a ≠ A + 5 → ¬ (a = A + 9 ∧ cs ≤ (q : Int)) → a ≠ A + 20 + s → mc' a q = mc a q
def fSm (p o a : Nat) (st cs : Int) (mm mm' : yM) : Prop := ∀ b q : Nat, ¬ (b = 376 ∧ ((3 ≤ q ∧ q ≤ 7) ∨ q = 17)) → ¬ (386 ≤ b ∧ b ≤ 390 ∧ q = p) → b ≠ 380 → ¬ ((b = 381 ∨ b = 382) ∧ a ≤ q) → ¬ (b = 400 ∧ 12 * (p : Int) + st ≤ q ∧ q < 12 * p + 12) → ¬ ((b = 401 ∨ b = 402) ∧ 8 * (p : Int) + cs ≤ q ∧ q < 8 * p + 8) → ¬ (b = 403 ∧ 1000 * p + 8 * o ≤ q ∧ q < 1000 * p + 1000) → mm' b q = mm b q
section EM
variable {A p o k : Nat} {x1 x2 x3 x4 : Int} {mc mm mc' mm' : yM}
theorem em_o {a q : Nat} (h1 : ¬ (a = 403 ∧ 1000 * p + 8 * o ≤ q ∧ q < 1000 * p + 8 * o + 5)) (h2 : ¬ (a = 390 ∧ q = p)) : emM p o k x1 x2 x3 x4 mm a q = mm a q := by
  unfold emM
  rw [yup_ne h2, yup_ne (by omega), yup_ne (by omega), yup_ne (by omega), yup_ne (by omega), yup_ne (by omega)]
theorem em_0 : emM p o k x1 x2 x3 x4 mm 403 (1000 * p + 8 * o) = x1 := by
  unfold emM
  rw [yup_na (by decide), yup_nk (by omega), yup_nk (by omega), yup_nk (by omega), yup_nk (by omega), yup_eq]
theorem em_1 : emM p o k x1 x2 x3 x4 mm 403 (1000 * p + 8 * o + 1) = k := by
  unfold emM
  rw [yup_na (by decide), yup_nk (by omega), yup_nk (by omega), yup_nk (by omega), yup_eq]
theorem em_2 : emM p o k x1 x2 x3 x4 mm 403 (1000 * p + 8 * o + 2) = x2 := by
  unfold emM
  rw [yup_na (by decide), yup_nk (by omega), yup_nk (by omega), yup_eq]
theorem em_3 : emM p o k x1 x2 x3 x4 mm 403 (1000 * p + 8 * o + 3) = x3 := by
  unfold emM
  rw [yup_na (by decide), yup_nk (by omega), yup_eq]
theorem em_4 : emM p o k x1 x2 x3 x4 mm 403 (1000 * p + 8 * o + 4) = x4 := by
  unfold emM
  rw [yup_na (by decide), yup_eq]
theorem em_n : emM p o k x1 x2 x3 x4 mm 390 p = (o : Int) + 1 := by
  unfold emM
  rw [yup_eq]
theorem F127_r {g : Nat} {r : Int} (hp : p ≤ 1) (h18 : mm 376 18 = 1 - (p : Int)) (h390 : mm 390 p = o) (ho : o ≤ 120) (h384 : mm 384 p = (k : Int) + 1) (hk : k < 10) (h : F127 g x1 x2 x3 x4 mm = some (r, mm')) : r = o ∧ mm' = emM p o k x1 x2 x3 x4 mm := by
  unfold F127 at h
  have hF : F96 mm = p := by unfold F96; rw [h18, wr_i (by omega) (by omega)]; omega
  rw [hF, Int.toNat_natCast, h390, h384, wr_i (x := 1000 * (p : Int)) (by omega) (by omega), wr_i (x := 8 * (o : Int)) (by omega) (by omega), wr_i (x := 1000 * (p : Int) + 8 * o) (by omega) (by omega), wr_i (x := 1000 * (p : Int) + 8 * o + 1) (by omega) (by omega), wr_i (x := 1000 * (p : Int) + 8 * o + 2) (by omega) (by omega), wr_i (x := 1000 * (p : Int) + 8 * o + 3) (by omega) (by omega), wr_i (x := 1000 * (p : Int) + 8 * o + 4) (by omega) (by omega), wr_i (x := (o : Int) + 1) (by omega) (by omega), wr_i (x := (o : Int) + 1 - 1) (by omega) (by omega), wr_i (x := (k : Int) + 1 - 1) (by omega) (by omega), show (1000 * (p : Int) + 8 * o).toNat = 1000 * p + 8 * o by omega, show (1000 * (p : Int) + 8 * o + 1).toNat = 1000 * p + 8 * o + 1 by omega, show (1000 * (p : Int) + 8 * o + 2).toNat = 1000 * p + 8 * o + 2 by omega, show (1000 * (p : Int) + 8 * o + 3).toNat = 1000 * p + 8 * o + 3 by omega, show (1000 * (p : Int) + 8 * o + 4).toNat = 1000 * p + 8 * o + 4 by omega, show (k : Int) + 1 - 1 = k by omega, show (o : Int) + 1 - 1 = o by omega] at h
  cases h
  exact ⟨rfl, rfl⟩
theorem rCo.fr (h : rCo A p mc mm) (e1 : ∀ q, 12 ≤ q → q ≤ 14 → mc' A q = mc A q) (e2 : ∀ a, 386 ≤ a → a ≤ 388 → mm' a p = mm a p) : rCo A p mc' mm' := by
  unfold rCo at h ⊢
  rw [e1 12 (by omega) (by omega), e1 13 (by omega) (by omega), e1 14 (by omega) (by omega), e2 386 (by omega) (by omega), e2 387 (by omega) (by omega), e2 388 (by omega) (by omega)]
  exact h
theorem fSc.rf {s : Nat} {cs : Int} : fSc A s cs mc mc := fun _ _ _ _ _ _ _ => rfl
theorem fSm.rf {a : Nat} {st cs : Int} : fSm p o a st cs mm mm := fun _ _ _ _ _ _ _ _ _ => rfl
theorem fSc.tr {s : Nat} {cs cs' : Int} {m1 : yM} (h : fSc A s cs mc m1) (h' : fSc A s cs' m1 mc') (hc : cs ≤ cs') : fSc A s cs mc mc' := fun a q h1 h2 h3 h4 h5 => (h' a q h1 h2 h3 (by omega) h5).trans (h a q h1 h2 h3 h4 h5)
theorem fSm.tr {o' a a' : Nat} {st cs st' cs' : Int} {m1 : yM} (h : fSm p o a st cs mm m1) (h' : fSm p o' a' st' cs' m1 mm') (ho : o ≤ o') (ha : a ≤ a') (hs : st ≤ st') (hc : cs ≤ cs') : fSm p o a st cs mm mm' := fun b q h1 h2 h3 h4 h5 h6 h7 => (h' b q h1 h2 h3 (by omega) (by omega) (by omega) (by omega)).trans (h b q h1 h2 h3 h4 h5 h6 h7)
theorem fSc.up {s q : Nat} {cs v : Int} {m1 : yM} (h : fSc A s cs mc m1) : fSc A s cs mc (yup m1 (A + 20 + s) q v) := fun a q' h1 h2 h3 h4 h5 => by
  rw [yup_na h5]
  exact h a q' h1 h2 h3 h4 h5
theorem fSc.u2 {s : Nat} {cs v : Int} {m1 : yM} (h : fSc A s cs mc m1) : fSc A s cs mc (yup m1 2 2 v) := fun a q' h1 h2 h3 h4 h5 => by
  rw [yup_ne h1]
  exact h a q' h1 h2 h3 h4 h5
theorem fSc.var {s : Nat} {cs : Int} {m1 : yM} (h : fSc A s cs mc m1) (h' : fVc A m1 mc') : fSc A s cs mc mc' := fun a q' h1 h2 h3 h4 h5 => by
  rw [h' a q' h1 (by omega) h3]
  exact h a q' h1 h2 h3 h4 h5
theorem fSm.tok {a : Nat} {st cs : Int} {m1 : yM} (h : fSm p o a st cs mm m1) (h' : ∀ a q, ¬ (a = 376 ∧ 3 ≤ q ∧ q ≤ 7) → mm' a q = m1 a q) : fSm p o a st cs mm mm' := fun b q h1 h2 h3 h4 h5 h6 h7 => by
  rw [h' b q (by omega)]
  exact h b q h1 h2 h3 h4 h5 h6 h7
theorem fSm.var {a : Nat} {st cs : Int} {m1 : yM} (h : fSm p o a st cs mm m1) (h' : fVm p m1 mm') : fSm p o a st cs mm mm' := fun b q h1 h2 h3 h4 h5 h6 h7 => by
  rw [h' b q (by omega) (by omega) h3]
  exact h b q h1 h2 h3 h4 h5 h6 h7
theorem fSm.em {a : Nat} {st cs : Int} {m1 : yM} (h : fSm p o a st cs mm m1) (ho : o ≤ 120) : fSm p o a st cs mm (emM p o k x1 x2 x3 x4 m1) := fun b q h1 h2 h3 h4 h5 h6 h7 => by
  rw [em_o (by omega) (by omega)]
  exact h b q h1 h2 h3 h4 h5 h6 h7
theorem fSc.fr {s : Nat} {cs : Int} (hs : s < 40) (h : fSc A s cs mc mc') : FrC A mc mc' := fun a q h1 h2 => h a q (by omega) (by omega) (by omega) (by omega) (by omega)
theorem fSm.fr {a : Nat} {st cs : Int} (hst : 0 ≤ st) (hcs : 0 ≤ cs) (h : fSm p o a st cs mm mm') : FrM p mm mm' := fun b q h1 => h b q (fun e => h1 (Or.inl ⟨e.1, by omega⟩)) (fun e => h1 (Or.inr (Or.inr (Or.inl ⟨by omega, by omega, e.2.2⟩)))) (fun e => h1 (Or.inr (Or.inl ⟨by omega, by omega⟩))) (fun e => h1 (Or.inr (Or.inl ⟨by omega, by omega⟩))) (fun e => h1 (Or.inr (Or.inr (Or.inr (Or.inr (Or.inr (Or.inr (Or.inr (Or.inl ⟨e.1, by omega, by omega⟩))))))))) (fun e => h1 (Or.inr (Or.inr (Or.inr (Or.inr (Or.inr (Or.inr (Or.inr (Or.inr (Or.inl ⟨e.1, by omega, by omega⟩)))))))))) (fun e => h1 (Or.inr (Or.inr (Or.inr (Or.inr (Or.inr (Or.inr (Or.inr (Or.inr (Or.inr (⟨e.1, by omega, by omega⟩)))))))))))
/-- an op's rows are kept -/
theorem OPR.fr {s a a' : Nat} (h : OPR A p s o a a' mc mm) (e1 : ∀ q, mc' (A + 20 + s) q = mc (A + 20 + s) q) (e13 : mc A 13 ≤ mc' A 13) (e14 : mc A 14 ≤ mc' A 14) (e15 : mc A 15 ≤ mc' A 15) (e10 : mc A 10 ≤ mc' A 10) (e2 : ∀ q : Nat, (q : Int) < mc A 13 → mc' (A + 9) q = mc (A + 9) q) (e3 : ∀ q, 1000 * p + 8 * o ≤ q → q < 1000 * p + 8 * o + 8 → mm' 403 q = mm 403 q) (e4 : ∀ q : Nat, q < 12 * p + 12 → (q : Int) < 12 * p + mc A 14 → mm' 400 q = mm 400 q) (e5 : ∀ b q : Nat, b = 401 ∨ b = 402 → q < 8 * p + 8 → (q : Int) < 8 * p + mc A 13 → mm' b q = mm b q) (e6 : ∀ b q, b = 381 ∨ b = 382 → q < a' → mm' b q = mm b q) (e7 : ∀ q : Nat, (q : Int) < 10 * p + mc A 10 → mm' 398 q = mm 398 q) : OPR A p s o a a' mc' mm' := by
  obtain ⟨h1, h2, h3, h4⟩ := h
  have f0 := e3 (1000 * p + 8 * o) (by omega) (by omega)
  have f1 := e3 (1000 * p + 8 * o + 1) (by omega) (by omega)
  have f2 := e3 (1000 * p + 8 * o + 2) (by omega) (by omega)
  have f3 := e3 (1000 * p + 8 * o + 3) (by omega) (by omega)
  have f4 := e3 (1000 * p + 8 * o + 4) (by omega) (by omega)
  have f5 := e3 (1000 * p + 8 * o + 5) (by omega) (by omega)
  have f6 := e3 (1000 * p + 8 * o + 6) (by omega) (by omega)
  have f7 := e3 (1000 * p + 8 * o + 7) (by omega) (by omega)
  refine ⟨by rw [f1, e1]; exact h1, by rw [e1]; exact h2, by rw [e1]; exact h3, ?_⟩
  unfold OPK at h4 ⊢
  simp only [e1, f0, f2, f3, f4, f5, f6, f7]
  rcases h4 with h | h | h | h | h | h | h | h
  · obtain ⟨g1, g2, g3, g4, g5, g6, g7⟩ := h
    rw [e7 _ (by omega)]
    exact Or.inl ⟨g1, g2, g3, g4.mono e15, g5, by omega, g7⟩
  · obtain ⟨g1, g2, g3, g4, g5, g6, g7, g8⟩ := h
    exact Or.inr (Or.inl ⟨g1, g2, g3, g4, g5.mono e15, g6.mono e15, g7, g8⟩)
  · obtain ⟨g1, g2, g3, g4, g5, g6, g7, g8, g9, g10, g11, g12, g13, g14, g15⟩ := h
    exact Or.inr (Or.inr (Or.inl ⟨g1, g2, g3, g4, g5.imp id (fun z => z.mono e15), g6.mono e15, g7, g8, g9, g10, g11, g12, fun z => ⟨(g13 z).1, (g13 z).2.mono e15⟩, fun z => ⟨(g14 z).1, (g14 z).2.mono e15⟩, g15⟩))
  · obtain ⟨g1, g2, g3, g4, g5, g6, g7, g7', g8, g9, g10, g11⟩ := h
    rw [e4 _ (by omega) (by omega), e6 381 a (by omega) (by omega), e6 382 a (by omega) (by omega)]
    exact Or.inr (Or.inr (Or.inr (Or.inl ⟨g1, g2, g3, g4, g5.mono e15, g6, g7, by omega, g8, g9, g10, g11⟩)))
  · obtain ⟨g1, g2, g3, g4, g5⟩ := h
    exact Or.inr (Or.inr (Or.inr (Or.inr (Or.inl ⟨g1, g2, g3, g4.mono e15, g5⟩))))
  · obtain ⟨g1, g2, g3, g4, g5, g6, g7, g8, g8', g9, g10, g11, g12, g13, g14⟩ := h
    rw [e2 _ (by omega), e5 402 _ (by omega) (by omega) (by omega), e5 401 _ (by omega) (by omega) (by omega), e6 381 a (by omega) (by omega), e6 382 a (by omega) (by omega)]
    exact Or.inr (Or.inr (Or.inr (Or.inr (Or.inr (Or.inl ⟨g1, g2, g3, g4, g5.mono e15, g6.mono e15, g7, g8, by omega, g9, g10, g11, g12, g13, g14⟩)))))
  · obtain ⟨g1, g2, g3, g4, g5, g6, g7⟩ := h
    exact Or.inr (Or.inr (Or.inr (Or.inr (Or.inr (Or.inr (Or.inl ⟨g1, g2, g3, g4, g5.mono e15, g6.mono e15, g7⟩))))))
  · obtain ⟨g1, g2, g3, g4, g5, g6, g7, g8⟩ := h
    exact Or.inr (Or.inr (Or.inr (Or.inr (Or.inr (Or.inr (Or.inr ⟨g1, g2, g3, g4, g5.mono e15, g6.mono e15, g7, g8⟩))))))
end EM

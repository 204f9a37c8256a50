/-! METHODS, head and body: the program as far as it is read -/
def MCH (A p : Nat) (mc mm : yM) : Nat → Nat → Nat → Nat → Prop
  | 0, s, o, a => s = 0 ∧ o = 0 ∧ a = 0
  | k + 1, s, o, a => ∃ s0 o0 a0 o1 fu : Nat, MCH A p mc mm k s0 o0 a0 ∧ mc (A + 10 + k) 4 = s0 ∧ mc (A + 10 + k) 5 = s ∧ mm 399 (10 * p + k) = o0 ∧ o = o1 + 1 ∧ SEG A p mc mm fu s0 s o0 o1 a0 a ∧ mm 403 (1000 * p + 8 * o1) = 12 ∧ mm 403 (1000 * p + 8 * o1 + 1) = k
/-- the parameters of a method are variables that stand -/
def VM (A k : Nat) (mc : yM) : Prop := ∀ j : Nat, j < k → mc (A + 10 + j) 2 + 2 + mc (A + 10 + j) 3 ≤ mc A 15
/-- every statement of a method is its own -/
def OWM (A k s : Nat) (mc : yM) : Prop := ∀ j : Nat, j < k → mc (A + 10 + j) 5 ≤ s ∧ ∀ t : Nat, mc (A + 10 + j) 4 ≤ t → (t : Int) < mc (A + 10 + j) 5 → mc (A + 20 + t) 1 = j ∧ (4 ≤ mc (A + 20 + t) 0 → mc (A + 20 + t) 2 = -1 ∨ mc (A + 10 + j) 2 < mc (A + 20 + t) 2)
theorem OWM.fr {A k s : Nat} {mc mc' : yM} (h : OWM A k s mc) (e1 : ∀ j q : Nat, j < k → mc' (A + 10 + j) q = mc (A + 10 + j) q) (e2 : ∀ t q : Nat, t < s → q ≤ 2 → mc' (A + 20 + t) q = mc (A + 20 + t) q) : OWM A k s mc' := fun j hj => by
  obtain ⟨h1, h2⟩ := h j hj
  rw [e1 j 4 hj, e1 j 5 hj, e1 j 2 hj]
  refine ⟨h1, fun t t1 t2 => ?_⟩
  rw [e2 t 0 (by omega) (by omega), e2 t 1 (by omega) (by omega), e2 t 2 (by omega) (by omega)]
  exact h2 t t1 t2
/-- k methods, s statements, o ops, a names asked for -/
def PRG (A p k s o a : Nat) (mc mm : yM) : Prop := rCl A p mc mm ∧ rFd A p mc mm ∧ rFb A mc ∧ rMe A p mc mm ∧ rCo A p mc mm ∧ mc A 10 = k ∧ (mc A 15 = mm 389 p ∧ 0 ≤ mc A 15 ∧ mc A 15 ≤ 48) ∧ (mc A 16 = s ∧ mm 376 9 = s ∧ mm 390 p = o ∧ mm 376 17 = a ∧ s ≤ 40 ∧ o ≤ 2 * s + k ∧ a ≤ s ∧ mm 400 (12 * p) = 0 ∧ CAS A s mc ∧ VM A k mc ∧ OWM A k s mc) ∧ MCH A p mc mm k s o a
def arMc (A k s : Nat) (cs : Int) (b q : Nat) : Prop := (b = 2 ∧ (q = 2 ∨ q = 4)) ∨ (b = A ∧ (q = 10 ∨ (12 ≤ q ∧ q ≤ 16))) ∨ b = A + 5 ∨ b = A + 10 + k ∨ (b = A + 9 ∧ cs ≤ (q : Int)) ∨ (A + 20 + s ≤ b ∧ b < A + 60)
def arMm (p k o a : Nat) (st cs : Int) (b q : Nat) : Prop := (b = 376 ∧ ((3 ≤ q ∧ q ≤ 7) ∨ q = 9 ∨ q = 10 ∨ q = 14 ∨ q = 17)) ∨ ((b = 384 ∨ (386 ≤ b ∧ b ≤ 390)) ∧ q = p) ∨ b = 380 ∨ (395 ≤ b ∧ b ≤ 399 ∧ q = 10 * p + k) ∨ ((b = 381 ∨ b = 382) ∧ a ≤ q) ∨ (b = 400 ∧ 12 * (p : Int) + st ≤ q ∧ q < 12 * p + 12) ∨ ((b = 401 ∨ b = 402) ∧ 8 * (p : Int) + cs ≤ q ∧ q < 8 * p + 8) ∨ (b = 403 ∧ 1000 * p + 8 * o ≤ q ∧ q < 1000 * p + 1000) ∨ b = 378 ∨ b = 379
def fMc (A k s : Nat) (cs : Int) (mc mc' : yM) : Prop := ∀ b q, ¬ arMc A k s cs b q → mc' b q = mc b q
def fMm (p k o a : Nat) (st cs : Int) (mm mm' : yM) : Prop := ∀ b q : Nat, ¬ arMm p k o a st cs b q → mm' b q = mm b q
section MD
variable {tx : Int → Int} {len : Int} {n : Nat} {en tk tp tn : Nat → Int} {A p k res s o a d : Nat} {mc mm mc' mm' M N M' N' : yM} {cs st : Int}
theorem MCH.fr : ∀ {k s o a : Nat}, MCH A p mc mm k s o a → (∀ j q, j < k → q = 4 ∨ q = 5 → mc' (A + 10 + j) q = mc (A + 10 + j) q) → (∀ t q, t < s → mc' (A + 20 + t) q = mc (A + 20 + t) q) → mc A 13 ≤ mc' A 13 → mc A 14 ≤ mc' A 14 → mc A 15 ≤ mc' A 15 → mc A 10 ≤ mc' A 10 → (∀ q : Nat, (q : Int) < mc A 13 → mc' (A + 9) q = mc (A + 9) q) → (∀ q, 1000 * p ≤ q → q < 1000 * p + 8 * o → mm' 403 q = mm 403 q) → (∀ q : Nat, q < 12 * p + 12 → (q : Int) < 12 * p + mc A 14 → mm' 400 q = mm 400 q) → (∀ b q : Nat, b = 401 ∨ b = 402 → q < 8 * p + 8 → (q : Int) < 8 * p + mc A 13 → mm' b q = mm b q) → (∀ b q, b = 381 ∨ b = 382 → q < a → mm' b q = mm b q) → (∀ q : Nat, (q : Int) < 10 * p + mc A 10 → mm' 398 q = mm 398 q) → (∀ j, j < k → mm' 399 (10 * p + j) = mm 399 (10 * p + j)) → MCH A p mc' mm' k s o a := by
  intro k
  induction k with
  | zero => intro s o a h _ _ _ _ _ _ _ _ _ _ _ _ _; exact h
  | succ k ih =>
    intro s o a h e0 e1 e13 e14 e15 e10 e2 e3 e4 e5 e6 e7 e8
    obtain ⟨s0, o0, a0, o1, fu, h1, h2, h3, h4, h5, h6, h7, h8⟩ := h
    have l := h6.le
    refine ⟨s0, o0, a0, o1, fu, ih h1 (fun j q j1 j2 => e0 j q (by omega) j2) (fun t q t1 => e1 t q (by omega)) e13 e14 e15 e10 e2 (fun q q1 q2 => e3 q q1 (by omega)) e4 e5 (fun b q b1 b2 => e6 b q b1 (by omega)) e7 (fun j j1 => e8 j (by omega)), ?_, ?_, ?_, h5, ?_, ?_, ?_⟩
    · rw [e0 k 4 (by omega) (by omega)]; exact h2
    · rw [e0 k 5 (by omega) (by omega)]; exact h3
    · rw [e8 k (by omega)]; exact h4
    · exact h6.fr (fun t q t1 t2 => e1 t q t2) e13 e14 e15 e10 e2 (fun q q1 q2 => e3 q (by omega) (by omega)) e4 e5 e6 e7
    · rw [e3 _ (by omega) (by omega)]; exact h7
    · rw [e3 _ (by omega) (by omega)]; exact h8
theorem fMc.mk {v w : Int} (h1 : fHc A k mc M) (h2 : fBc A s cs (yup M 2 2 v) M') : fMc A k s cs mc (yup M' (A + 10 + k) 5 w) := fun b q hb => by
  rw [yup_na (fun e => hb (by unfold arMc; omega)), h2 b q (fun e => hb (by unfold arC at e; unfold arMc; omega)), yup_ne (fun e => hb (by unfold arMc; omega))]
  exact h1 b q (fun e => hb (by unfold arMc; omega)) (fun e => hb (by unfold arMc; omega)) (fun e => hb (by unfold arMc; omega)) (fun e => hb (by unfold arMc; omega))
theorem arB.toMm {b q : Nat} (h : arB p o a d st cs b q) : arMm p k o a st cs b q := by
  rcases h with e | e | e | e | e | e | e | e
  · exact Or.inl ⟨e.1, by omega⟩
  · exact Or.inr (Or.inl ⟨by omega, e.2.2⟩)
  · exact Or.inr (Or.inr (Or.inl e))
  · exact Or.inr (Or.inr (Or.inr (Or.inr (Or.inl e))))
  · exact Or.inr (Or.inr (Or.inr (Or.inr (Or.inr (Or.inl e)))))
  · exact Or.inr (Or.inr (Or.inr (Or.inr (Or.inr (Or.inr (Or.inl e))))))
  · exact Or.inr (Or.inr (Or.inr (Or.inr (Or.inr (Or.inr (Or.inr (Or.inl e)))))))
  · exact Or.inr (Or.inr (Or.inr (Or.inr (Or.inr (Or.inr (Or.inr (Or.inr (by omega))))))))
theorem fMm.mk {v : Int} {n1 : yM} {o' : Nat} {x1 x2 x3 x4 : Int} (h1 : fHm p k mm N) (h2 : fBm p o a d st cs (yup N 376 10 v) N') (h3 : ∀ b q, ¬ (b = 376 ∧ 3 ≤ q ∧ q ≤ 7) → n1 b q = N' b q) (ho : o ≤ o') (ho2 : o' ≤ 120) : fMm p k o a st cs mm (emM p o' k x1 x2 x3 x4 n1) := fun b q hb => by
  rw [em_o (fun e => hb (Or.inr (Or.inr (Or.inr (Or.inr (Or.inr (Or.inr (Or.inr (Or.inl ⟨e.1, by omega, by omega⟩)))))))) ) (fun e => hb (Or.inr (Or.inl ⟨by omega, e.2⟩))), h3 b q (fun e => hb (Or.inl ⟨e.1, by omega⟩)), h2 b q (fun e => hb e.toMm), yup_ne (fun e => hb (Or.inl ⟨e.1, by omega⟩))]
  exact h1 b q (fun e => hb (Or.inl ⟨e.1, by omega⟩)) (fun e => hb (Or.inr (Or.inl ⟨by omega, e.2⟩))) (fun e => hb (Or.inr (Or.inl ⟨by omega, e.2⟩))) (fun e => hb (Or.inr (Or.inr (Or.inl e)))) (fun e => hb (Or.inr (Or.inr (Or.inr (Or.inl e)))))
theorem fMc.F (h : fMc A k s cs mc mc') (hk : k < 10) : FrC A mc mc' := fun b q h1 h2 => h b q (fun e => by unfold arMc at e; omega)
theorem fMm.F (h : fMm p k o a st cs mm mm') (hk : k < 10) (h1 : 0 ≤ st) (h2 : 0 ≤ cs) : FrM p mm mm' := fun b q hb => h b q (fun e => hb (by
  rcases e with e | e | e | e | e | e | e | e | e
  · exact Or.inl ⟨e.1, by omega⟩
  · exact Or.inr (Or.inr (Or.inl ⟨by omega, by omega, e.2⟩))
  · exact Or.inr (Or.inl ⟨by omega, by omega⟩)
  · exact Or.inr (Or.inr (Or.inr (Or.inr (Or.inr (Or.inr (Or.inl ⟨e.1, e.2.1, by omega, by omega⟩))))))
  · exact Or.inr (Or.inl ⟨by omega, by omega⟩)
  · exact Or.inr (Or.inr (Or.inr (Or.inr (Or.inr (Or.inr (Or.inr (Or.inl ⟨e.1, by omega, by omega⟩)))))))
  · exact Or.inr (Or.inr (Or.inr (Or.inr (Or.inr (Or.inr (Or.inr (Or.inr (Or.inl ⟨e.1, by omega, by omega⟩))))))))
  · exact Or.inr (Or.inr (Or.inr (Or.inr (Or.inr (Or.inr (Or.inr (Or.inr (Or.inr (⟨e.1, by omega, by omega⟩)))))))))
  · exact Or.inr (Or.inl ⟨by omega, by omega⟩)))
/-- the model at the bracket of a method -/
theorem ML.fin {g G i : Nat} {rr : (Unit × yM) ⊕ (Unit × yM)} (T : TOK tx len n en tk tp tn) (hM : MT tx len n en tk tp tn p i N) (ht : tk i = 125) (hd : N 376 10 = 0) (h : ML g G N = some rr) : ∃ n1 n2 r, F99 g N = some n1 ∧ F127 g 12 0 0 0 n1 = some (r, n2) ∧ rr = .inr ((), n2) := by
  have key : ∀ {y : (Unit × yM) ⊕ ((Unit × yM) ⊕ (Unit × yM))}, B139_5 g N = some y → ∃ n1 n2 r, F99 g N = some n1 ∧ F127 g 12 0 0 0 n1 = some (r, n2) ∧ y = .inr (.inr ((), n2)) := by
    intro y h
    unfold B139_5 at h
    rw [if_pos (by rw [hM.2.2.2.1]; decide), hM.2.2.2.2.mark T (by unfold sgn; omega), if_pos ht, if_neg (by decide), if_pos hd] at h
    obtain ⟨n1, e1, h⟩ := bU_e h
    obtain ⟨r, n2, e2, h⟩ := bI_e h
    cases h
    exact ⟨n1, n2, r, e1, e2, rfl⟩
  obtain ⟨f', -, ⟨l', m', e3, -⟩ | e3⟩ := yloop_s h
  · obtain ⟨n1, n2, r, -, -, e⟩ := key e3
    cases e
  · obtain ⟨n1, n2, r, e1, e2, e⟩ := key e3
    cases e
    exact ⟨n1, n2, r, e1, e2, rfl⟩
/-- a method is read -/
theorem PRG.more {i' j o' a' s' fu : Nat} {m1 n1 m5 N5 n6 : yM} (hA : A = 256 ∨ A = 316) (hp : p ≤ 1) (hk : k < 10) (hP : PRG A p k s o a mc mm) (RM : rMe A p m1 n1) (h4 : m1 (A + 10 + k) 4 = mc A 16) (h399 : n1 399 (10 * p + k) = mm 390 p) (fc : fHc A k mc m1) (fm : fHm p k mm n1) (hS : BS tx len n en tk tp tn A p k res s' o' a' 0 (i' + 1) i' m5 N5) (hss : s ≤ s') (hG : SEG A p m5 N5 fu s s' o o' a a') (ho : o' ≤ o + 2 * (s' - s)) (ha : a' ≤ a + (s' - s)) (gc : fBc A s (mc A 13) (yup m1 2 2 ((j : Int) + 1)) m5) (gm : fBm p o a 0 (mm 388 p) (mm 387 p) (yup n1 376 10 0) N5) (m13 : mc A 13 ≤ m5 A 13) (m14 : mc A 14 ≤ m5 A 14) (m15 : mc A 15 ≤ m5 A 15) (hV : m1 (A + 10 + k) 2 + 2 + m1 (A + 10 + k) 3 ≤ m5 A 15) (hca : CAi A s s' mc m5) (hOw : OWN A k res s s' m5) (hres : m1 (A + 10 + k) 2 = res) (f6 : ∀ b q, ¬ (b = 376 ∧ 3 ≤ q ∧ q ≤ 7) → n6 b q = N5 b q) : PRG A p (k + 1) s' (o' + 1) a' (yup m5 (A + 10 + k) 5 (m5 A 16)) (emM p o' k 12 0 0 0 n6) ∧ fMc A k s (mc A 13) mc (yup m5 (A + 10 + k) 5 (m5 A 16)) ∧ fMm p k o a (mm 388 p) (mm 387 p) mm (emM p o' k 12 0 0 0 n6) := by
  have lG := hG.le
  obtain ⟨b1, b2, b3, b4, b5, b6, b7, b8, b9, b10⟩ := hS
  obtain ⟨c1, c2, c3, c4, c5⟩ := b3
  have ho2 : o' ≤ 120 := by omega
  have Ec : fMc A k s (mc A 13) mc (yup m5 (A + 10 + k) 5 (m5 A 16)) := fMc.mk fc gc
  have Em : fMm p k o a (mm 388 p) (mm 387 p) mm (emM p o' k 12 0 0 0 n6) := fMm.mk fm gm f6 lG.2.1 ho2
  refine ⟨?_, Ec, Em⟩
  obtain ⟨p1, p2, p3, p4, p5, p6, p7, ⟨q1, q2, q3, q4, q5, q6, q7, q8⟩, p8⟩ := hP
  have hco := p5
  unfold rCo at hco
  have e5A : ∀ q, yup m5 (A + 10 + k) 5 (m5 A 16) A q = m5 A q := fun q => yup_na (by omega)
  have em5 : ∀ b q, ¬ (b = 376 ∧ 3 ≤ q ∧ q ≤ 7) → ¬ (b = 403 ∧ 1000 * p + 8 * o' ≤ q ∧ q < 1000 * p + 8 * o' + 5) → ¬ (b = 390 ∧ q = p) → emM p o' k 12 0 0 0 n6 b q = N5 b q := fun b q z1 z2 z3 => by rw [em_o z2 z3, f6 b q z1]
  have e59 : m5 A 9 = mc A 9 := by rw [gc A 9 (by unfold arC; omega), yup_na (by omega), fc A 9 (by omega) (by omega) (by omega) (by omega)]
  refine ⟨?_, ?_, ?_, ?_, ?_, ?_, ⟨?_, ?_, ?_⟩, ⟨?_, ?_, ?_, ?_, ?_, ?_, ?_, ?_, ?_, ?_, ?_⟩, ?_⟩
  · exact p1.fr (Ec _ _ (by unfold arMc; omega)) (fun b q hb => Ec _ _ (by unfold arMc; omega)) (fun b q hb => Em _ _ (by unfold arMm; omega))
  · exact p2.fr (Ec _ _ (by unfold arMc; omega)) (fun q => Ec _ _ (by unfold arMc; omega)) (fun b q hb => Em _ _ (by unfold arMm; omega))
  · intro z hz w w1 w2
    rw [Ec A 9 (by unfold arMc; omega)] at hz
    rw [Ec A 11 (by unfold arMc; omega)] at w1
    rw [Ec (A + 3) z (by unfold arMc; omega)]
    exact p3 z hz w w1 w2
  · refine RM.fr (mc' := yup m5 (A + 10 + k) 5 (m5 A 16)) ?_ ?_ ?_ ?_
    · rw [e5A, gc A 10 (by unfold arC; omega), yup_na (by omega)]
    · have z := fc A 9 (by omega) (by omega) (by omega) (by omega)
      rw [e5A]; omega
    · intro z q hz hq
      rw [yup_ne (by omega), gc _ _ (by unfold arC; omega), yup_na (by omega)]
    · intro b q hb
      rw [em5 b q (by omega) (by omega) (by omega), gm b q (by unfold arB; omega), yup_na (by omega)]
  · exact c2.fr (fun q q1 q2 => e5A q) (fun b b1 b2 => em5 b p (by omega) (by omega) (by omega))
  · rw [e5A, c1.1]; omega
  · rw [e5A, em5 389 p (by omega) (by omega) (by omega)]; exact c1.2.2.2.2.1
  · rw [e5A]; have := c1.2.2.2.2.2.1; omega
  · rw [e5A]; exact c1.2.2.2.2.2.2.1
  · rw [e5A]; exact b4
  · rw [em5 376 9 (by omega) (by omega) (by omega)]; exact b5
  · exact em_n
  · rw [em5 376 17 (by omega) (by omega) (by omega)]; exact c4
  · exact b8
  · omega
  · exact b10
  · rw [Em 400 (12 * p) (by unfold arMm; omega)]; exact q8.1
  · exact (hca q8.2.1).fr (e5A 13) (fun q _ => yup_na (by omega)) (fun t _ => yup_na (by omega))
  · intro z hz
    rw [e5A]
    by_cases w : z = k
    · subst w
      rw [yup_nk (by decide), yup_nk (by decide), gc _ _ (by unfold arC; omega), gc _ _ (by unfold arC; omega), yup_na (by omega), yup_na (by omega)]
      exact hV
    · have z2 := q8.2.2.1 z (by omega)
      rw [Ec (A + 10 + z) 2 (by unfold arMc; omega), Ec (A + 10 + z) 3 (by unfold arMc; omega)]
      omega
  · intro z hz
    by_cases w : z = k
    · have r4 : yup m5 (A + 10 + k) 5 (m5 A 16) (A + 10 + k) 4 = s := by rw [yup_nk (by decide), gc _ _ (by unfold arC; omega), yup_na (by omega), h4]; exact q1
      have r2 : yup m5 (A + 10 + k) 5 (m5 A 16) (A + 10 + k) 2 = res := by rw [yup_nk (by decide), gc _ _ (by unfold arC; omega), yup_na (by omega)]; exact hres
      have r5 : yup m5 (A + 10 + k) 5 (m5 A 16) (A + 10 + k) 5 = s' := by rw [yup_eq]; exact b4
      rw [w, r5, r4, r2]
      refine ⟨by omega, fun t t1 t2 => ?_⟩
      rw [yup_na (by omega), yup_na (by omega), yup_na (by omega)]
      exact hOw t (by omega) (by omega)
    · obtain ⟨o1, o2⟩ := q8.2.2.2 z (by omega)
      rw [Ec (A + 10 + z) 2 (by unfold arMc; omega), Ec (A + 10 + z) 4 (by unfold arMc; omega), Ec (A + 10 + z) 5 (by unfold arMc; omega)]
      refine ⟨by omega, fun t t1 t2 => ?_⟩
      rw [Ec (A + 20 + t) 0 (by unfold arMc; omega), Ec (A + 20 + t) 1 (by unfold arMc; omega), Ec (A + 20 + t) 2 (by unfold arMc; omega)]
      exact o2 t t1 t2
  · have a10 : m5 A 10 = (k : Int) + 1 := c1.1
    refine ⟨s, o, a, o', fu, ?_, ?_, ?_, ?_, rfl, ?_, em_0, em_1⟩
    · refine p8.fr (fun z q z1 z2 => Ec _ _ (by unfold arMc; omega)) (fun t q t1 => Ec _ _ (by unfold arMc; omega)) (by rw [e5A]; exact m13) (by rw [e5A]; exact m14) (by rw [e5A]; exact m15) (by rw [e5A, a10]; omega) (fun q hq => Ec _ _ (by unfold arMc; omega)) (fun q q1 q2 => Em _ _ (by unfold arMm; omega)) (fun q q1 q2 => Em _ _ (by unfold arMm; omega)) (fun b q hb q1 q2 => Em _ _ (by unfold arMm; omega)) (fun b q hb q1 => Em _ _ (by unfold arMm; omega)) (fun q q1 => Em _ _ (by unfold arMm; omega)) (fun z z1 => Em _ _ (by unfold arMm; omega))
    · rw [yup_nk (by decide), gc _ _ (by unfold arC; omega), yup_na (by omega), h4]; exact q1
    · rw [yup_eq]; exact b4
    · rw [em5 399 _ (by omega) (by omega) (by omega), gm 399 _ (by unfold arB; omega), yup_na (by omega), h399]; exact q3
    · exact hG.fr (fun t q t1 t2 => yup_na (by omega)) (Int.le_of_eq (e5A _).symm) (Int.le_of_eq (e5A _).symm) (Int.le_of_eq (e5A _).symm) (Int.le_of_eq (e5A _).symm) (fun q hq => yup_na (by omega)) (fun q z1 z2 => em5 _ _ (by omega) (by omega) (by omega)) (fun q z1 z2 => em5 _ _ (by omega) (by omega) (by omega)) (fun b q hb z1 z2 => em5 _ _ (by omega) (by omega) (by omega)) (fun b q hb z1 => em5 _ _ (by omega) (by omega) (by omega)) (fun q _ => em5 _ _ (by omega) (by omega) (by omega))
theorem meth_r {f g i : Nat} {r : Int} {y : (Unit × yM) ⊕ ((Unit × yM) ⊕ (Unit × yM))} (T : TOK tx len n en tk tp tn) (hl : len ≤ 320) (hA : A = 256 ∨ A = 316) (hp : p ≤ 1) (hC : CT tk tp tn i mc) (hM : MT tx len n en tk tp tn p i mm) (hi : tk i ≠ 0) (hP : PRG A p k s o a mc mm) (h9 : 1 ≤ mc A 9) (h1 : F70 f A mc = some (r, mc')) (h2 : bU (F126 g mm) (fun m3769 => (if m3769 376 8 < 0 then (bU (F139 g m3769) (fun m4808 => (some (.inl ((), m4808))))) else (some (.inl ((), m3769))))) = some y) : ∃ mm', y = .inl ((), mm') ∧ FrC A mc mc' ∧ FrM p mm mm' ∧ ((r = 0 ∧ Flt mc' mm') ∨ (r = 1 ∧ ∃ i' k' s' o' a' : Nat, i < i' ∧ CT tk tp tn i' mc' ∧ MT tx len n en tk tp tn p i' mm' ∧ PRG A p k' s' o' a' mc' mm' ∧ mc' A 9 = mc A 9 ∧ mc' 2 3 = mc 2 3)) := by
  replace h2 := bU_e h2
  obtain ⟨n1, e1, h2⟩ := h2
  have hP0 := hP
  obtain ⟨p1, p2, p3, p4, p5, p6, p7, ⟨q1, q2, q3, q4, q5, q6, q7, q8⟩, p8⟩ := hP
  have hco := p5
  unfold rCo at hco
  rcases mhead_r T hl hA hp hC hM hi p1 p4 p7.1 p7.2 h9 h1 e1 with ⟨rfl, d1, d2, d3⟩ | ⟨k1, res, j, m1, r5, m5, d1, d2, d3, d4, d5, d6, d7, d8, d9, d10, d11, d12, d13, d14, d15, d16, d17⟩
  · rw [if_neg (by have := d1.2; omega)] at h2
    cases h2
    exact ⟨_, rfl, d2, d3, Or.inl ⟨rfl, d1⟩⟩
  · obtain rfl : k1 = k := by omega
    rw [if_pos (by rw [d7.2.2.2.1]; decide)] at h2
    replace h2 := bU_e h2
    obtain ⟨n2, e2, h2⟩ := h2
    cases h2
    refine ⟨n2, rfl, ?_⟩
    have key : ∃ rr, ML g g (yup n1 376 10 0) = some rr ∧ (rr = .inl ((), n2) ∨ rr = .inr ((), n2)) := by
      unfold F139 at e2
      rcases bL_e e2 with ⟨l, m, e3, e4⟩ | ⟨l, m, e3, e4⟩
      · cases e4
        exact ⟨_, e3, Or.inl rfl⟩
      · cases e4
        exact ⟨_, e3, Or.inr rfl⟩
    obtain ⟨rr, hL, hrr⟩ := key
    have hj := d7.le T hl
    have c0 : ∀ b q, b ≠ 2 → yup m1 2 2 ((j : Int) + 1) b q = m1 b q := fun b q hb => yup_na hb
    have x9 : ∀ q, q ≠ 10 → q ≠ 15 → m1 A q = mc A q := fun q z1 z2 => d15 A q (by omega) (by omega) (by omega) (by omega)
    have hS : BS tx len n en tk tp tn A p k1 res s o a 0 (j + 1) (j + 1) (yup m1 2 2 ((j : Int) + 1)) (yup n1 376 10 0) := by
      refine ⟨d6.at (by rw [yup_eq]; omega) (fun b q hb => yup_na (by omega)), d7.fr (fun q hq => yup_nk (by omega)) (fun q => yup_na (by omega)), ⟨?_, ?_, ?_, ?_, ?_⟩, ?_, ?_, ?_, ?_, q5, by omega, q7⟩
      · exact d12.fr hA (c0 _ _ (by omega)) (c0 _ _ (by omega)) (c0 _ _ (by omega)) (fun q => c0 _ _ (by omega)) (yup_nk (by omega)) (yup_na (by omega)) (fun q => yup_na (by omega))
      · refine p5.fr (fun q z1 z2 => ?_) (fun b z1 z2 => ?_)
        · rw [c0 _ _ (by omega), x9 q (by omega) (by omega)]
        · rw [yup_na (by omega), d16 b p (by omega) (by omega) (by omega) (by omega) (by omega)]
      · rw [yup_na (by omega), d16 390 p (by omega) (by omega) (by omega) (by omega) (by omega)]; exact q3
      · rw [yup_nk (by omega), d16 376 17 (by omega) (by omega) (by omega) (by omega) (by omega)]; exact q4
      · rw [yup_na (by omega), ← d11.1]; exact d12.1
      · rw [c0 _ _ (by omega), x9 16 (by omega) (by omega)]; exact q1
      · rw [yup_nk (by omega), d16 376 9 (by omega) (by omega) (by omega) (by omega) (by omega)]; exact q2
      · rw [yup_eq]; rfl
      · have z := (d11.2.2.2 k1 (by rw [d12.1]; omega)).2.2.2.1
        rw [yup_na (by omega), ← z]
        exact d12.2.2.1
    have hX := PB_all (f := f) (g := g) T hl hA hp f s o a 0 j g r5 m1 (yup n1 376 10 0) m5 rr (by omega) d6 d5 hS d8 hL
    subst d9
    rcases hX with ⟨rfl, mm2, z1, z2, z3, z4⟩ | ⟨rfl, i', s', o', a', G, fu, N, z1, z2, z3, z4, z5, z6, z7, z8, z9, z10, z11, z12, z13, z14, z15⟩
    · obtain rfl : n2 = mm2 := by
        rcases hrr with e | e
        · rw [z1] at e; cases e; rfl
        · rw [z1] at e; cases e
      refine ⟨((d15.fr d2).u2.tr z3).up (by omega), (FrM.tr (d16.fr d2) (FrM.tr ((FrM.rf).up (by unfold arM; omega)) z4)), Or.inl ⟨by omega, ?_, z2.2⟩⟩
      rw [yup_na (by omega)]; exact z2.1
    · obtain ⟨n6, n7, r7, w1, w2, w3⟩ := ML.fin T z3.2.1 z2 z3.2.2.2.2.2.1 z1
      obtain ⟨hM6, f6⟩ := z3.2.1.next T hl (by omega) w1
      have hB5 := z3.2.2.1
      have hs8 := z3.2.2.2.2.2.2.2
      obtain ⟨-, hn7⟩ := F127_r (o := o') (k := k1) hp hM6.2.2.1 (by rw [f6 390 p (by omega)]; exact hB5.2.2.1) (by omega) (by rw [f6 384 p (by omega)]; exact hB5.2.2.2.2) d2 w2
      obtain rfl : n2 = n7 := by
        rcases hrr with e | e
        · rw [w3] at e; cases e
        · rw [w3] at e; cases e; rfl
      subst hn7
      have u13 : yup m1 2 2 ((j : Int) + 1) A 13 = mc A 13 := by rw [c0 _ _ (by omega), x9 13 (by omega) (by omega)]
      have u14 : yup m1 2 2 ((j : Int) + 1) A 14 = mc A 14 := by rw [c0 _ _ (by omega), x9 14 (by omega) (by omega)]
      have v388 : yup n1 376 10 0 388 p = mm 388 p := by rw [yup_na (by omega), d16 388 p (by omega) (by omega) (by omega) (by omega) (by omega)]
      have v387 : yup n1 376 10 0 387 p = mm 387 p := by rw [yup_na (by omega), d16 387 p (by omega) (by omega) (by omega) (by omega) (by omega)]
      rw [u13] at z8 z10
      rw [u14] at z11
      rw [c0 A 15 (by omega)] at z13
      have v15 : mc A 15 ≤ m5 A 15 := by have w := d12.2.2.2.2.2.1; omega
      have hca : CAi A s s' mc m5 := fun z => z14 (z.fr u13 (fun q _ => by rw [c0 _ _ (by omega)]; exact d15 _ _ (by omega) (by omega) (by omega) (by omega)) (fun t _ => by rw [c0 _ _ (by omega)]; exact d15 _ _ (by omega) (by omega) (by omega) (by omega)))
      rw [v388, v387] at z9
      obtain ⟨K1, K2, K3⟩ := PRG.more hA hp d2 hP0 d11 d13 d14 d15 d16 z3 z4 z5 z6 z7 z8 z9 z10 z11 v15 (by omega) hca z15 d12.2.2.1 f6
      refine ⟨K2.F d2, K3.F d2 (by omega) (by omega), Or.inr ⟨by omega, i' + 1, k1 + 1, s', o' + 1, a', ?_, ?_, ?_, K1, ?_, ?_⟩⟩
      · rw [yup_eq, z3.1.1] at z12; omega
      · exact z3.1.fr (yup_na (by omega)) (fun b q hb => yup_na (by omega))
      · exact hM6.fr (fun q hq => em_o (by omega) (by omega)) (fun q => em_o (by omega) (by omega))
      · exact K2 _ _ (by unfold arMc; omega)
      · exact K2 _ _ (by unfold arMc; omega)
end MD

/-! BODIES: what a body's reading changes, what it leaves -/
def arC (A s : Nat) (cs : Int) (a q : Nat) : Prop := (a = 2 ∧ q = 2) ∨ (a = A ∧ 12 ≤ q ∧ q ≤ 16) ∨ a = A + 5 ∨ (a = A + 9 ∧ cs ≤ (q : Int)) ∨ (A + 20 + s ≤ a ∧ a < A + 60)
def arB (p o a d : Nat) (st cs : Int) (b q : Nat) : Prop := (b = 376 ∧ ((3 ≤ q ∧ q ≤ 7) ∨ q = 9 ∨ q = 10 ∨ q = 17)) ∨ (386 ≤ b ∧ b ≤ 390 ∧ q = p) ∨ b = 380 ∨ ((b = 381 ∨ b = 382) ∧ a ≤ q) ∨ (b = 400 ∧ 12 * (p : Int) + st ≤ q ∧ q < 12 * p + 12) ∨ ((b = 401 ∨ b = 402) ∧ 8 * (p : Int) + cs ≤ q ∧ q < 8 * p + 8) ∨ (b = 403 ∧ 1000 * p + 8 * o ≤ q ∧ q < 1000 * p + 1000) ∨ ((b = 378 ∨ b = 379) ∧ d ≤ q)
def fBc (A s : Nat) (cs : Int) (mc mc' : yM) : Prop := ∀ a q, ¬ arC A s cs a q → mc' a q = mc a q
def fBm (p o a d : Nat) (st cs : Int) (mm mm' : yM) : Prop := ∀ b q : Nat, ¬ arB p o a d st cs b q → mm' b q = mm b q
/-- between two statements of a body: the class at the token ic, the model at im -/
def BS (tx : Int → Int) (len : Int) (n : Nat) (en tk tp tn : Nat → Int) (A p k res s o a d ic im : Nat) (mc mm : yM) : Prop := CT tk tp tn ic mc ∧ MT tx len n en tk tp tn p im mm ∧ rBd A p k res o a mc mm ∧ mc A 16 = s ∧ mm 376 9 = s ∧ mm 376 10 = d ∧ mm 398 (10 * p + k) = res ∧ s ≤ 40 ∧ o ≤ 2 * s + k + 3 ∧ a ≤ s
abbrev ML (g G : Nat) (mm : yM) : Option ((Unit × yM) ⊕ (Unit × yM)) := yloop (fun (_ : Unit) ml => B139_5 g ml) G () mm
def CLo (f A : Nat) (rc : Int → yM → Option (Int × yM)) (d : Int) (F : Nat) (l : Int × Int) (m : yM) : Option (Int × yM) := bL (yloop (fun (l : Int × Int) ml => B69_19 f rc A d l.1 l.2 ml) F l m) (fun l m => J69_180 f rc A l.1 m) (fun r mr => some (r, mr))
/-- every cast that is counted has its statement, of the kind 7, below s -/
def CAS (A s : Nat) (mc : yM) : Prop := ∀ c : Nat, (c : Int) < mc A 13 → (∃ t : Nat, t < s ∧ mc (A + 9) c = t ∧ mc (A + 20 + t) 0 = 7) ∧ ∀ c2 : Nat, (c2 : Int) < mc A 13 → mc (A + 9) c2 = mc (A + 9) c → c2 = c
def CAi (A s s' : Nat) (mc mc' : yM) : Prop := CAS A s mc → CAS A s' mc'
theorem CAS.fr {A s : Nat} {mc mc' : yM} (h : CAS A s mc) (e13 : mc' A 13 = mc A 13) (e9 : ∀ q : Nat, (q : Int) < mc A 13 → mc' (A + 9) q = mc (A + 9) q) (e0 : ∀ t, t < s → mc' (A + 20 + t) 0 = mc (A + 20 + t) 0) : CAS A s mc' := by
  intro c hc
  rw [e13] at hc
  obtain ⟨⟨t, t1, t2, t3⟩, h2⟩ := h c hc
  refine ⟨⟨t, t1, by rw [e9 c hc]; exact t2, by rw [e0 t t1]; exact t3⟩, fun c2 hc2 h3 => ?_⟩
  rw [e13] at hc2
  rw [e9 c hc, e9 c2 hc2] at h3
  exact h2 c2 hc2 h3
theorem CAi.tr {A s s' s2 : Nat} {mc mc' m2 : yM} (h : CAi A s s' mc mc') (h' : CAi A s' s2 mc' m2) : CAi A s s2 mc m2 := fun z => h' (h z)
theorem CAi.fr {A s s' : Nat} {mc mc' m2 : yM} (h : CAi A s s' mc mc') (e13 : m2 A 13 = mc' A 13) (e9 : ∀ q : Nat, m2 (A + 9) q = mc' (A + 9) q) (e0 : ∀ t, t < s' → m2 (A + 20 + t) 0 = mc' (A + 20 + t) 0) : CAi A s s' mc m2 := fun z => (h z).fr e13 (fun q _ => e9 q) e0
theorem CAS.st {A s : Nat} {mc M : yM} (h : CAS A s mc) (e0 : ∀ t, t < s → M (A + 20 + t) 0 = mc (A + 20 + t) 0) (e9 : ∀ q : Nat, (q : Int) < mc A 13 → M (A + 9) q = mc (A + 9) q) (hm : M A 13 = mc A 13 ∨ (M A 13 = mc A 13 + 1 ∧ ∃ c0 : Nat, (c0 : Int) < M A 13 ∧ M (A + 9) c0 = s ∧ M (A + 20 + s) 0 = 7)) : CAS A (s + 1) M := by
  have old : ∀ c : Nat, (c : Int) < mc A 13 → ∃ t : Nat, t < s ∧ M (A + 9) c = t ∧ M (A + 20 + t) 0 = 7 := fun c hc => by
    obtain ⟨⟨t, t1, t2, t3⟩, -⟩ := h c hc
    exact ⟨t, t1, by rw [e9 c hc]; exact t2, by rw [e0 t t1]; exact t3⟩
  have inj : ∀ c c2 : Nat, (c : Int) < mc A 13 → (c2 : Int) < mc A 13 → M (A + 9) c2 = M (A + 9) c → c2 = c := fun c c2 hc hc2 h3 => by
    rw [e9 c hc, e9 c2 hc2] at h3
    exact (h c hc).2 c2 hc2 h3
  rcases hm with hm | ⟨hm, c0, k1, k2, k3⟩
  · intro c hc
    rw [hm] at hc
    obtain ⟨t, t1, t2, t3⟩ := old c hc
    refine ⟨⟨t, by omega, t2, t3⟩, fun c2 hc2 h3 => ?_⟩
    rw [hm] at hc2
    exact inj c c2 hc hc2 h3
  · have k4 : ¬ (c0 : Int) < mc A 13 := fun z => by
      obtain ⟨t, t1, t2, -⟩ := old c0 z
      omega
    intro c hc
    by_cases w : (c : Int) < mc A 13
    · obtain ⟨t, t1, t2, t3⟩ := old c w
      refine ⟨⟨t, by omega, t2, t3⟩, fun c2 hc2 h3 => ?_⟩
      by_cases w2 : (c2 : Int) < mc A 13
      · exact inj c c2 w w2 h3
      · have e : c2 = c0 := by omega
        subst e
        omega
    · have e : c = c0 := by omega
      subst e
      refine ⟨⟨s, by omega, k2, k3⟩, fun c2 hc2 h3 => ?_⟩
      by_cases w2 : (c2 : Int) < mc A 13
      · obtain ⟨t, t1, t2, t3⟩ := old c2 w2
        omega
      · omega
/-- the statements s to s' are of the method k: none of them sets its result but return -/
def OWN (A k res s s' : Nat) (mc : yM) : Prop := ∀ t : Nat, s ≤ t → t < s' → mc (A + 20 + t) 1 = k ∧ (4 ≤ mc (A + 20 + t) 0 → mc (A + 20 + t) 2 = -1 ∨ (res : Int) < mc (A + 20 + t) 2)
theorem OWN.fr {A k res s s' : Nat} {mc mc' : yM} (h : OWN A k res s s' mc) (e : ∀ t q : Nat, s ≤ t → t < s' → q ≤ 2 → mc' (A + 20 + t) q = mc (A + 20 + t) q) : OWN A k res s s' mc' := fun t t1 t2 => by
  rw [e t 0 t1 t2 (by omega), e t 1 t1 t2 (by omega), e t 2 t1 t2 (by omega)]
  exact h t t1 t2
theorem OWN.app {A k res s s' s2 : Nat} {mc : yM} (h : OWN A k res s s' mc) (h' : OWN A k res s' s2 mc) : OWN A k res s s2 mc := fun t t1 t2 => by
  by_cases z : t < s'
  · exact h t t1 z
  · exact h' t (by omega) t2
/-- a body is read: refused at the same place, or the model stands at its } -/
def BO (tx : Int → Int) (len : Int) (n : Nat) (en tk tp tn : Nat → Int) (A p k res s o a d : Nat) (mc mm : yM) (g : Nat) (rr : (Unit × yM) ⊕ (Unit × yM)) (r : Int) (mc' : yM) : Prop :=
  (r = 0 ∧ ∃ mm' : yM, rr = Sum.inl ((), mm') ∧ Flt mc' mm' ∧ FrC A mc mc' ∧ FrM p mm mm') ∨ (r = 1 ∧ ∃ (i' s' o' a' G fu : Nat) (mm' : yM), ML g G mm' = some rr ∧ tk i' = 125 ∧ BS tx len n en tk tp tn A p k res s' o' a' d (i' + 1) i' mc' mm' ∧ s ≤ s' ∧ SEG A p mc' mm' fu s s' o o' a a' ∧ o' ≤ o + 2 * (s' - s) ∧ a' ≤ a + (s' - s) ∧ fBc A s (mc A 13) mc mc' ∧ fBm p o a d (mm 388 p) (mm 387 p) mm mm' ∧ mc A 13 ≤ mc' A 13 ∧ mc A 14 ≤ mc' A 14 ∧ mc 2 2 ≤ mc' 2 2 ∧ mc A 15 ≤ mc' A 15 ∧ CAi A s s' mc mc' ∧ OWN A k res s s' mc')
/-- a statement of a body is read -/
def SO (tx : Int → Int) (len : Int) (n : Nat) (en tk tp tn : Nat → Int) (A p k res s o a d : Nat) (mc mm : yM) (g : Nat) (rr : (Unit × yM) ⊕ (Unit × yM)) (x : Int) (M : yM) : Prop :=
  (x = 0 ∧ ∃ mm' : yM, rr = Sum.inl ((), mm') ∧ Flt M mm' ∧ FrC A mc M ∧ FrM p mm mm') ∨ (x = 1 ∧ ∃ (i' s' o' a' G fu : Nat) (N : yM), ML g G N = some rr ∧ BS tx len n en tk tp tn A p k res s' o' a' d i' i' M N ∧ s < s' ∧ SEG A p (yup M (A + 20 + s) 12 s') N fu s s' o o' a a' ∧ o' ≤ o + 2 * (s' - s) ∧ a' ≤ a + (s' - s) ∧ fBc A s (mc A 13) mc M ∧ fBm p o a d (mm 388 p) (mm 387 p) mm N ∧ mc A 13 ≤ M A 13 ∧ mc A 14 ≤ M A 14 ∧ mc 2 2 ≤ M 2 2 ∧ mc A 15 ≤ M A 15 ∧ CAi A s s' mc M ∧ OWN A k res s s' M)
theorem yloop_s {α γ : Type} {B : α → yM → Option ((α × yM) ⊕ ((α × yM) ⊕ (γ × yM)))} {f : Nat} {l : α} {m : yM} {r : (α × yM) ⊕ (γ × yM)} (h : yloop B f l m = some r) : ∃ f', f = f' + 1 ∧ ((∃ l' m', B l m = some (.inl (l', m')) ∧ yloop B f' l' m' = some r) ∨ B l m = some (.inr r)) := by
  cases f with
  | zero => exact absurd h (by simp [yloop])
  | succ f =>
    refine ⟨f, rfl, ?_⟩
    unfold yloop at h
    split at h
    · cases h
    · exact Or.inl ⟨_, _, by assumption, h⟩
    · cases h
      exact Or.inr (by assumption)
section BD
variable {tx : Int → Int} {len : Int} {n : Nat} {en tk tp tn : Nat → Int} {A p k res s o a d : Nat} {mc mm mc' mm' M N M' N' : yM} {cs st : Int}
theorem arC.mono {s' b q : Nat} {cs' : Int} (h : arC A s' cs' b q) (h1 : s ≤ s') (h2 : cs ≤ cs') : arC A s cs b q := by
  rcases h with e | e | e | e | e
  · exact Or.inl e
  · exact Or.inr (Or.inl e)
  · exact Or.inr (Or.inr (Or.inl e))
  · exact Or.inr (Or.inr (Or.inr (Or.inl ⟨e.1, by omega⟩)))
  · exact Or.inr (Or.inr (Or.inr (Or.inr (⟨by omega, e.2⟩))))
theorem arB.mono {o' a' d' b q : Nat} {st' cs' : Int} (h : arB p o' a' d' st' cs' b q) (h1 : o ≤ o') (h2 : a ≤ a') (h3 : d ≤ d') (h4 : st ≤ st') (h5 : cs ≤ cs') : arB p o a d st cs b q := by
  rcases h with e | e | e | e | e | e | e | e
  · exact Or.inl e
  · exact Or.inr (Or.inl e)
  · exact Or.inr (Or.inr (Or.inl e))
  · exact Or.inr (Or.inr (Or.inr (Or.inl ⟨e.1, by omega⟩)))
  · exact Or.inr (Or.inr (Or.inr (Or.inr (Or.inl ⟨e.1, by omega, e.2.2⟩))))
  · exact Or.inr (Or.inr (Or.inr (Or.inr (Or.inr (Or.inl ⟨e.1, by omega, e.2.2⟩)))))
  · exact Or.inr (Or.inr (Or.inr (Or.inr (Or.inr (Or.inr (Or.inl ⟨e.1, by omega, e.2.2⟩))))))
  · exact Or.inr (Or.inr (Or.inr (Or.inr (Or.inr (Or.inr (Or.inr (⟨e.1, by omega⟩)))))))
theorem arB.toM {b q : Nat} (h : arB p o a d st cs b q) (h1 : 0 ≤ st) (h2 : 0 ≤ cs) : arM p b q := by
  rcases h with e | e | e | e | e | e | e | e
  · exact Or.inl ⟨e.1, by omega⟩
  · exact Or.inr (Or.inr (Or.inl ⟨by omega, by omega, e.2.2⟩))
  · exact Or.inr (Or.inl ⟨by omega, by omega⟩)
  · exact Or.inr (Or.inl ⟨by omega, by omega⟩)
  · exact Or.inr (Or.inr (Or.inr (Or.inr (Or.inr (Or.inr (Or.inr (Or.inl ⟨e.1, by omega, by omega⟩)))))))
  · exact Or.inr (Or.inr (Or.inr (Or.inr (Or.inr (Or.inr (Or.inr (Or.inr (Or.inl ⟨e.1, by omega, by omega⟩))))))))
  · exact Or.inr (Or.inr (Or.inr (Or.inr (Or.inr (Or.inr (Or.inr (Or.inr (Or.inr (⟨e.1, by omega, by omega⟩)))))))))
  · exact Or.inr (Or.inl ⟨by omega, by omega⟩)
theorem fBc.rf : fBc A s cs mc mc := fun _ _ _ => rfl
theorem fBm.rf : fBm p o a d st cs mm mm := fun _ _ _ => rfl
theorem fBc.tr {s' : Nat} {cs' : Int} (h : fBc A s cs mc M) (h' : fBc A s' cs' M M') (h1 : s ≤ s') (h2 : cs ≤ cs') : fBc A s cs mc M' := fun b q hb => (h' b q (fun e => hb (e.mono h1 h2))).trans (h b q hb)
theorem fBm.tr {o' a' d' : Nat} {st' cs' : Int} (h : fBm p o a d st cs mm N) (h' : fBm p o' a' d' st' cs' N N') (h1 : o ≤ o') (h2 : a ≤ a') (h3 : d ≤ d') (h4 : st ≤ st') (h5 : cs ≤ cs') : fBm p o a d st cs mm N' := fun b q hb => (h' b q (fun e => hb (e.mono h1 h2 h3 h4 h5))).trans (h b q hb)
theorem fBc.up {b q : Nat} {v : Int} (h : fBc A s cs mc M) (hq : arC A s cs b q) : fBc A s cs mc (yup M b q v) := fun b' q' hb => by
  rw [yup_ne (by rintro ⟨rfl, rfl⟩; exact hb hq)]
  exact h b' q' hb
theorem fBm.up {b q : Nat} {v : Int} (h : fBm p o a d st cs mm N) (hq : arB p o a d st cs b q) : fBm p o a d st cs mm (yup N b q v) := fun b' q' hb => by
  rw [yup_ne (by rintro ⟨rfl, rfl⟩; exact hb hq)]
  exact h b' q' hb
theorem fBm.tok (h : fBm p o a d st cs mm N) (f : ∀ b q, ¬ (b = 376 ∧ 3 ≤ q ∧ q ≤ 7) → N' b q = N b q) : fBm p o a d st cs mm N' := fun b q hb => by
  rw [f b q (fun e => hb (by unfold arB; omega))]
  exact h b q hb
theorem fBm.em {o1 : Nat} {x1 x2 x3 x4 : Int} (h : fBm p o a d st cs mm N) (h1 : o ≤ o1) (h2 : o1 ≤ 120) : fBm p o a d st cs mm (emM p o1 k x1 x2 x3 x4 N) := fun b q hb => by
  rw [em_o (fun e => hb (by unfold arB; omega)) (fun e => hb (by unfold arB; omega))]
  exact h b q hb
theorem fSc.b (h : fSc A s cs mc M) (hs : s < 40) : fBc A s cs mc M := fun b q hb => h b q (fun e => hb (by unfold arC; omega)) (fun e => hb (by unfold arC; omega)) (fun e => hb (by unfold arC; omega)) (fun e => hb (by unfold arC; omega)) (fun e => hb (by unfold arC; omega))
theorem fSm.b (h : fSm p o a st cs mm N) : fBm p o a d st cs mm N := fun b q hb => h b q (fun e => hb (Or.inl ⟨e.1, by omega⟩)) (fun e => hb (Or.inr (Or.inl e))) (fun e => hb (Or.inr (Or.inr (Or.inl e)))) (fun e => hb (Or.inr (Or.inr (Or.inr (Or.inl e))))) (fun e => hb (Or.inr (Or.inr (Or.inr (Or.inr (Or.inl e)))))) (fun e => hb (Or.inr (Or.inr (Or.inr (Or.inr (Or.inr (Or.inl e))))))) (fun e => hb (Or.inr (Or.inr (Or.inr (Or.inr (Or.inr (Or.inr (Or.inl e))))))))
theorem fBc.F (h : fBc A s cs mc M) : FrC A mc M := fun b q h1 h2 => h b q (fun e => by unfold arC at e; omega)
theorem fBm.F (h : fBm p o a d st cs mm N) (h1 : 0 ≤ st) (h2 : 0 ≤ cs) : FrM p mm N := fun b q hb => h b q (fun e => hb (e.toM h1 h2))
/-- what lies before is kept by what is read behind it -/
theorem SEG.kp {fu s0 s1 o0 o1 a0 a1 : Nat} (hA : A = 256 ∨ A = 316) (h : SEG A p mc mm fu s0 s1 o0 o1 a0 a1) (hB : s1 ≤ 40) (fc : fBc A s1 (mc A 13) mc mc') (fm : fBm p o1 a1 d (mm 388 p) (mm 387 p) mm mm') (e1 : mm 388 p = mc A 14) (e2 : mm 387 p = mc A 13) (m13 : mc A 13 ≤ mc' A 13) (m14 : mc A 14 ≤ mc' A 14) (m15 : mc A 15 ≤ mc' A 15) : SEG A p mc' mm' fu s0 s1 o0 o1 a0 a1 :=
  h.fr (fun t q t1 t2 => fc _ _ (by unfold arC; omega)) m13 m14 m15 (Int.le_of_eq (fc A 10 (by unfold arC; omega)).symm) (fun q hq => fc _ _ (by unfold arC; omega)) (fun q q1 q2 => fm _ _ (by unfold arB; omega)) (fun q q1 q2 => fm _ _ (by unfold arB; omega)) (fun b q hb q1 q2 => fm _ _ (by unfold arB; omega)) (fun b q hb q1 => fm _ _ (by unfold arB; omega)) (fun q _ => fm _ _ (by unfold arB; omega))
theorem BS.co {ic im : Nat} (h : BS tx len n en tk tp tn A p k res s o a d ic im mc mm) : mm 388 p = mc A 14 ∧ mm 387 p = mc A 13 ∧ 0 ≤ mc A 13 ∧ 0 ≤ mc A 14 ∧ k < 10 := by
  have h1 := h.2.2.1.2.1
  have h2 := h.2.2.1.1.2.1
  unfold rCo at h1
  omega
/-- a statement, and the body behind it -/
theorem BO.cons {g s' o' a' fu i' : Nat} {rr : (Unit × yM) ⊕ (Unit × yM)} {r : Int} (hA : A = 256 ∨ A = 316) (h0 : 0 ≤ mm 388 p ∧ 0 ≤ mm 387 p) (hS : BS tx len n en tk tp tn A p k res s' o' a' d i' i' M N) (hs : s ≤ s') (hG : SEG A p M N fu s s' o o' a a') (ho : o' ≤ o + 2 * (s' - s)) (ha : a' ≤ a + (s' - s)) (fc : fBc A s (mc A 13) mc M) (fm : fBm p o a d (mm 388 p) (mm 387 p) mm N) (m13 : mc A 13 ≤ M A 13) (m14 : mc A 14 ≤ M A 14) (m22 : mc 2 2 ≤ M 2 2) (m15 : mc A 15 ≤ M A 15) (hca : CAi A s s' mc M) (hOw : OWN A k res s s' M) (e0 : mm 388 p = mc A 14 ∧ mm 387 p = mc A 13) (h : BO tx len n en tk tp tn A p k res s' o' a' d M N g rr r mc') : BO tx len n en tk tp tn A p k res s o a d mc mm g rr r mc' := by
  have l := hG.le
  have hc := hS.co
  rcases h with ⟨h1, mm', h2, h3, h4, h5⟩ | ⟨h1, i2, s2, o2, a2, G, fu2, mm', h2, h3, h4, h5, h6, h7, h8, h9, h10, h11, h12, h13, h14, h15, h16⟩
  · exact Or.inl ⟨h1, mm', h2, h3, fc.F.tr h4, (fm.F h0.1 h0.2).tr h5⟩
  · have hs40 : s' ≤ 40 := hS.2.2.2.2.2.2.2.1
    refine Or.inr ⟨h1, i2, s2, o2, a2, G, fu + fu2, mm', h2, h3, h4, by omega, (hG.kp hA hs40 h9 h10 hc.1 hc.2.1 h11 h12 h14).app h6, by omega, by omega, fc.tr h9 hs m13, fm.tr h10 l.2.1 l.2.2 (by omega) (by omega) (by omega), by omega, by omega, by omega, by omega, hca.tr h15, (hOw.fr (fun t q _ t2 _ => h9 _ _ (by unfold arC; omega))).app h16⟩
theorem CLo.z {f F : Nat} {rc : Int → yM → Option (Int × yM)} {x r dd : Int} (h : CLo f A rc dd F (0, x) M = some (r, mc')) : r = 0 ∧ mc' = M := by
  unfold CLo at h
  have hB : B69_19 f rc A dd 0 x M = some (.inr (.inl ((0, x), M))) := by
    unfold B69_19
    split
    · rfl
    · rw [if_pos rfl]
  rcases bL_e h with ⟨l, m1, e1, e2⟩ | ⟨r1, m1, e1, e2⟩
  · obtain ⟨f', -, ⟨l', m', e3, -⟩ | e3⟩ := yloop_s e1
    · rw [hB] at e3; cases e3
    · rw [hB] at e3; cases e3
      unfold J69_180 at e2
      rw [if_pos rfl] at e2
      cases e2
      exact ⟨rfl, rfl⟩
  · obtain ⟨f', -, ⟨l', m', e3, -⟩ | e3⟩ := yloop_s e1
    · rw [hB] at e3; cases e3
    · rw [hB] at e3; cases e3
theorem ML.w {g G : Nat} {rr : (Unit × yM) ⊕ (Unit × yM)} (h : ML g G mm = some rr) (hw : 0 ≤ mm 376 8) : rr = .inl ((), mm) := by
  have hB : B139_5 g mm = some (.inr (.inl ((), mm))) := by
    unfold B139_5
    rw [if_neg (by omega)]
  obtain ⟨f', -, ⟨l', m', e3, -⟩ | e3⟩ := yloop_s h
  · rw [hB] at e3; cases e3
  · rw [hB] at e3; cases e3
    rfl
theorem OPR.s12 {a' : Nat} {v : Int} (hs : s < 40) (h : OPR A p s o a a' M N) : OPR A p s o a a' (yup M (A + 20 + s) 12 v) N := by
  have e : ∀ q, q ≠ 12 → yup M (A + 20 + s) 12 v (A + 20 + s) q = M (A + 20 + s) q := fun q hq => yup_nk hq
  have e9 : ∀ q, yup M (A + 20 + s) 12 v (A + 9) q = M (A + 9) q := fun q => yup_na (by omega)
  have eA : ∀ q, yup M (A + 20 + s) 12 v A q = M A q := fun q => yup_na (by omega)
  unfold OPR OPK at h ⊢
  rw [e 0 (by decide), e 1 (by decide), e 2 (by decide), e 3 (by decide), e 4 (by decide), e 5 (by decide), e 6 (by decide), e 8 (by decide), e 9 (by decide), e 10 (by decide), e9, eA 10, eA 13, eA 14, eA 15]
  exact h
/-- the class takes a row for the statement, the model counts it -/
theorem BS.cx {f i : Nat} (hA : A = 256 ∨ A = 316) (h : BS tx len n en tk tp tn A p k res s o a d i i mc mm) (hs : s < 40) {mc1 mm1 : yM} (e1 : mc1 = yup (yup (yup (yup mc (A + 20 + s) 1 k) (A + 20 + s) 2 (-1)) (A + 20 + s) 8 0) A 16 ((s : Int) + 1)) (e2 : mm1 = yup mm 376 9 ((s : Int) + 1)) : F56 f A mc = some (A + 20 + s, mc1) ∧ CX tx len n en tk tp tn A p k res s o a i mc1 mm1 i mc1 mm1 ∧ mc1 A 16 = (s : Int) + 1 ∧ mc1 (A + 20 + s) 2 = -1 ∧ fBc A s (mc A 13) mc mc1 ∧ (∀ q, q ≠ 16 → mc1 A q = mc A q) := by
  have hc := h.co
  obtain ⟨h1, h2, h3, h4, h5, h6, h7, h8, h9, h10⟩ := h
  have k1 : mc A 10 = (k : Int) + 1 := h3.1.1
  have c0 : ∀ b q, b ≠ A + 20 + s → ¬ (b = A ∧ q = 16) → mc1 b q = mc b q := fun b q b1 b2 => by
    rw [e1, yup_ne b2, yup_na b1, yup_na b1, yup_na b1]
  have m0 : ∀ b q, ¬ (b = 376 ∧ q = 9) → mm1 b q = mm b q := fun b q b1 => by
    rw [e2, yup_ne b1]
  have hB1 : rBd A p k res o a mc1 mm1 := h3.fr hA (fun q q1 q2 => c0 _ _ (by omega) (by omega)) (c0 _ _ (by omega) (by omega)) (fun q => c0 _ _ (by omega) (by omega)) (fun b q hb => m0 _ _ (by omega))
  refine ⟨?_, ⟨by omega, h1.fr (c0 _ _ (by omega) (by omega)) (fun b q hb => c0 _ _ (by omega) (by omega)), h2.fr (fun q hq => m0 _ _ (by omega)) (fun q => m0 _ _ (by omega)), hB1, ?_, ?_, fSc.rf, fSm.rf, ?_, ?_, by omega, by omega, by omega⟩, ?_, ?_, ?_, fun q hq => c0 _ _ (by omega) (by omega)⟩
  · unfold F56
    rw [h4, k1, Int.toNat_natCast, wr_i (x := (k : Int) + 1 - 1) (by omega) (by omega), wr_i (x := (s : Int) + 1) (by omega) (by omega), show (k : Int) + 1 - 1 = k by omega, e1]
  · rw [e1, yup_na (by omega), yup_nk (by decide), yup_nk (by decide), yup_eq]
  · rw [e1, yup_na (by omega), yup_eq]
  · rw [m0 388 p (by omega), c0 A 14 (by omega) (by omega)]; omega
  · rw [m0 387 p (by omega), c0 A 13 (by omega) (by omega)]; omega
  · rw [e1, yup_eq]
  · rw [e1, yup_na (by omega), yup_nk (by decide), yup_eq]
  · exact fun b q hb => c0 b q (fun e => hb (by unfold arC; omega)) (fun e => hb (by unfold arC; omega))
/-- a simple statement within its body -/
theorem STO.so {g G i : Nat} {rr : (Unit × yM) ⊕ (Unit × yM)} {r : Int} (hA : A = 256 ∨ A = 316) (h : BS tx len n en tk tp tn A p k res s o a d i i mc mm) (hs : s < 40) {mc1 mm1 : yM} (hX : CX tx len n en tk tp tn A p k res s o a i mc1 mm1 i mc1 mm1) (h16 : mc1 A 16 = (s : Int) + 1) (fc : fBc A s (mc A 13) mc mc1) (eA : ∀ q, q ≠ 16 → mc1 A q = mc A q) (e2 : mm1 = yup mm 376 9 ((s : Int) + 1)) (hO : STO tx len n en tk tp tn A p k res s o a i mc1 mm1 r M N) (hL : ML g G N = some rr) : SO tx len n en tk tp tn A p k res s o a d mc mm g rr r M := by
  have hc := h.co
  obtain ⟨h1, h2, h3, h4, h5, h6, h7, h8, h9, h10⟩ := h
  have m0 : ∀ b q, ¬ (b = 376 ∧ q = 9) → mm1 b q = mm b q := fun b q b1 => by
    rw [e2, yup_ne b1]
  have fm : fBm p o a d (mm 388 p) (mm 387 p) mm mm1 := fun b q hb => m0 b q (fun e => hb (by unfold arB; omega))
  rcases hO with ⟨r0, hF, f1, f2⟩ | ⟨r1, i', a', i1, a1, a2, hC, hM, hB, hP, f1, f2, m14, m13, m15, m7, mo1, mo2⟩
  · exact Or.inl ⟨r0, N, ML.w hL hF.2, hF, fc.F.tr f1, (fm.F (by omega) (by omega)).tr f2⟩
  · rw [eA 13 (by decide)] at f1 m13
    rw [eA 14 (by decide)] at m14
    rw [eA 15 (by decide)] at m15
    rw [eA 13 (by decide)] at m7
    have hca : CAi A s (s + 1) mc M := fun z => z.st (fun t ht => by rw [f1 _ _ (by omega) (by omega) (by omega) (by omega) (by omega)]; exact fc _ _ (by unfold arC; omega)) (fun q hq => by rw [f1 _ _ (by omega) (by omega) (by omega) (by omega) (by omega)]; exact fc _ _ (by unfold arC; omega)) (m7.imp id (fun y => ⟨y.1, by
      have hK := hP.2.2.2
      have y2 := y.2
      unfold OPK at hK
      rcases hK with h | h | h | h | h | h | h | h
      case inr.inr.inr.inr.inr.inl =>
        obtain ⟨-, -, -, -, -, -, w1, -, w2, w3, -⟩ := h
        exact ⟨(N 403 (1000 * p + 8 * o + 4)).toNat, by omega, w3, y2⟩
      all_goals (have := h.1; omega)⟩))
    rw [m0 388 p (by omega), m0 387 p (by omega)] at f2
    have hOw : OWN A k res s (s + 1) M := fun t t1 t2 => by
      have e : t = s := by omega
      rw [e]
      exact ⟨mo1, mo2⟩
    have e16 : M A 16 = (s : Int) + 1 := by rw [f1 A 16 (by omega) (by omega) (by omega) (by omega) (by omega)]; exact h16
    have q9 : N 376 9 = (s : Int) + 1 := by rw [f2 376 9 (by omega) (by omega) (by omega) (by omega) (by omega) (by omega) (by omega), e2, yup_eq]
    have q10 : N 376 10 = d := by rw [f2 376 10 (by omega) (by omega) (by omega) (by omega) (by omega) (by omega) (by omega), m0 376 10 (by omega)]; exact h6
    have q398 : N 398 (10 * p + k) = res := by rw [f2 398 (10 * p + k) (by omega) (by omega) (by omega) (by omega) (by omega) (by omega) (by omega), m0 398 _ (by omega)]; exact h7
    refine Or.inr ⟨r1, i', s + 1, o + 1, a', G, 1, N, hL, ⟨hC, hM, hB, by rw [e16]; omega, by rw [q9]; omega, q10, q398, by omega, by omega, by omega⟩, by omega, ?_, by omega, by omega, fc.tr (f1.b hs) (by omega) (by omega), fm.tr (f2.b (d := d)) (by omega) (by omega) (by omega) (by omega) (by omega), m13, m14, by rw [h1.1, hC.1]; omega, m15, hca, hOw⟩
    exact Or.inr ⟨s + 1, o + 1, a', by omega, by omega, by omega, by omega, by omega, by omega, by rw [yup_eq], SEG.ni, Or.inl ⟨rfl, rfl, hP.s12 hs⟩⟩
end BD

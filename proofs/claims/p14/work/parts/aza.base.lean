/-! THE RUN: what class and model hold while a program runs -/
/-- hides a proposition from omega -/
def Hid (P : Prop) : Prop := P
/-- objects, steps, sites, fields, what was seen -/
def uB (G : Nat → Prop) (mc mm : yM) : Prop := (mc 169 5 = mm 376 51 ∧ 0 ≤ mc 169 5 ∧ mc 169 5 ≤ 30) ∧ (mc 169 6 = mm 376 56 ∧ 0 ≤ mc 169 6 ∧ mc 169 6 ≤ 200) ∧ (∀ i : Nat, (i : Int) < mc 169 5 → mc 219 i = mm 409 i ∧ ∃ x : Nat, mc 219 i = x ∧ x < 12 ∧ G x) ∧ (∀ i q : Nat, (i : Int) < mc 169 5 → q < 8 → mm 410 (8 * i + q) = mc (221 + i) q + 1 ∧ -1 ≤ mc (221 + i) q ∧ mc (221 + i) q < mc 169 5) ∧ (∀ v j : Nat, v < 48 → j < 12 → mc (171 + v) j = mm 408 (12 * v + j) ∧ 0 ≤ mc (171 + v) j ∧ mc (171 + v) j ≤ 1)
/-- the frames below n -/
def uF (n : Nat) (mc mm : yM) : Prop := ∀ x v : Nat, x < n → v < 48 → mm 411 (48 * x + v) = mc (252 + x) v + 1 ∧ -1 ≤ mc (252 + x) v ∧ mc (252 + x) v < mc 169 5
def uC (mc mc' : yM) : Prop := ∀ a q : Nat, a < 169 ∨ 256 ≤ a → mc' a q = mc a q
def uM (mm mm' : yM) : Prop := ∀ a q : Nat, a < 408 ∨ a = 413 → ¬ (a = 376 ∧ (q = 51 ∨ (54 ≤ q ∧ q ≤ 57))) → mm' a q = mm a q
/-- the frame d is the last one -/
def uS (G : Nat → Prop) (mc0 mm0 : yM) (d : Nat) (mc mm : yM) : Prop := uB G mc mm ∧ uF (d + 1) mc mm ∧ uC mc0 mc ∧ uM mm0 mm ∧ mm 376 54 = (d : Int) + 1 ∧ mm 376 57 = 0
section UB
variable {G : Nat → Prop} {A p f g s o d n : Nat} {mc mm mc' mm' mc0 mm0 mc1 mm1 : yM}
theorem uB.fr (h : uB G mc mm) (e1 : ∀ a q, (a = 169 ∧ (q = 5 ∨ q = 6)) ∨ (171 ≤ a ∧ a < 252) → mc' a q = mc a q) (e2 : ∀ a q, (a = 376 ∧ (q = 51 ∨ q = 56)) ∨ (408 ≤ a ∧ a ≤ 410) → mm' a q = mm a q) : uB G mc' mm' := by
  obtain ⟨h1, h2, h3, h4, h5⟩ := h
  refine ⟨?_, ?_, fun i hi => ?_, fun i q hi hq => ?_, fun v j hv hj => ?_⟩
  · rw [e1 169 5 (by omega), e2 376 51 (by omega)]; exact h1
  · rw [e1 169 6 (by omega), e2 376 56 (by omega)]; exact h2
  · rw [e1 169 5 (by omega)] at hi
    rw [e1 219 i (by omega), e2 409 i (by omega)]; exact h3 i hi
  · rw [e1 169 5 (by omega)] at hi ⊢
    rw [e1 (221 + i) q (by omega), e2 410 _ (by omega)]; exact h4 i q hi hq
  · rw [e1 (171 + v) j (by omega), e2 408 _ (by omega)]; exact h5 v j hv hj
theorem uB.seen {v x : Nat} (h : uB G mc mm) (hv : v < 48) (hx : x < 12) : uB G (yup mc (171 + v) x 1) (yup mm 408 (12 * v + x) 1) := by
  obtain ⟨h1, h2, h3, h4, h5⟩ := h
  refine ⟨?_, ?_, fun i hi => ?_, fun i q hi hq => ?_, fun w j hw hj => ?_⟩
  · rw [yup_na (by omega), yup_na (by omega)]; exact h1
  · rw [yup_na (by omega), yup_na (by omega)]; exact h2
  · rw [yup_na (by omega)] at hi
    rw [yup_na (by omega), yup_na (by omega)]; exact h3 i hi
  · rw [yup_na (show 169 ≠ 171 + v by omega)] at hi ⊢
    rw [yup_na (by omega), yup_na (by omega)]; exact h4 i q hi hq
  · by_cases z : w = v ∧ j = x
    · obtain ⟨rfl, rfl⟩ := z
      rw [yup_eq, yup_eq]
      exact ⟨rfl, by omega, by omega⟩
    · rw [yup_ne (by omega), yup_ne (by omega)]
      exact h5 w j hw hj
theorem uF.fr (h : uF n mc mm) (e1 : ∀ x v, x < n → mc' (252 + x) v = mc (252 + x) v) (e5 : mc 169 5 ≤ mc' 169 5) (e2 : ∀ q, mm' 411 q = mm 411 q) : uF n mc' mm' := fun x v hx hv => by
  have := h x v hx hv
  rw [e1 x v hx, e2]
  exact ⟨this.1, this.2.1, by omega⟩
theorem uF.mono {n' : Nat} (h : uF n mc mm) (hn : n' ≤ n) : uF n' mc mm := fun x v hx hv => h x v (by omega) hv
theorem uF.set {v : Nat} {val : Int} (h : uF (d + 1) mc mm) (hv : v < 48) (h1 : -1 ≤ val) (h2 : val < mc 169 5) : uF (d + 1) (yup mc (252 + d) v val) (yup mm 411 (48 * d + v) (val + 1)) := fun x w hx hw => by
  rw [yup_na (show 169 ≠ 252 + d by omega)]
  by_cases z : x = d ∧ w = v
  · obtain ⟨rfl, rfl⟩ := z
    rw [yup_eq, yup_eq]
    exact ⟨rfl, h1, h2⟩
  · rw [yup_ne (by omega), yup_ne (by omega)]
    exact h x w hx hw
theorem uC.rf : uC mc mc := fun _ _ _ => rfl
theorem uM.rf : uM mm mm := fun _ _ _ _ => rfl
theorem uC.tr (h : uC mc mc') (h' : uC mc' mc1) : uC mc mc1 := fun a q ha => (h' a q ha).trans (h a q ha)
theorem uM.tr (h : uM mm mm') (h' : uM mm' mm1) : uM mm mm1 := fun a q ha hq => (h' a q ha hq).trans (h a q ha hq)
theorem uC.up {b c : Nat} {x : Int} (h : uC mc mc') (hb : 169 ≤ b ∧ b < 256) : uC mc (yup mc' b c x) := fun a q ha => by
  rw [yup_na (by omega)]; exact h a q ha
theorem uM.up {b c : Nat} {x : Int} (h : uM mm mm') (hb : (408 ≤ b ∧ b ≤ 412) ∨ (b = 376 ∧ (c = 51 ∨ (54 ≤ c ∧ c ≤ 57)))) : uM mm (yup mm' b c x) := fun a q ha hq => by
  rw [yup_ne (by omega)]; exact h a q ha hq
theorem ix48 {v : Nat} (hd : d < 4) (hv : v < 48) : (wr ((wr (48 * (wr (((d : Int) + 1) - 1)))) + (v : Int))).toNat = 48 * d + v := by
  rw [wr_i (x := (d : Int) + 1 - 1) (by omega) (by omega), wr_i (x := 48 * ((d : Int) + 1 - 1)) (by omega) (by omega), wr_i (by omega) (by omega)]
  omega
/-- a variable's value -/
theorem uS.f205 {v : Nat} (h : uS G mc0 mm0 d mc mm) (hd : d < 4) (hv : v < 48) : F205 (v : Int) mm = mc (252 + d) v + 1 := by
  unfold F205
  rw [h.2.2.2.2.1, ix48 hd hv]
  exact (h.2.1 d v (by omega) hv).1
theorem uS.vr {v : Nat} (h : uS G mc0 mm0 d mc mm) (hv : v < 48) : -1 ≤ mc (252 + d) v ∧ mc (252 + d) v < mc 169 5 := (h.2.1 d v (by omega) hv).2
/-- a variable is set on both sides -/
theorem uS.set {v : Nat} {val : Int} (h : uS G mc0 mm0 d mc mm) (hd : d < 4) (hv : v < 48) (h1 : -1 ≤ val) (h2 : val < mc 169 5) (e1 : F188_48 f (252 + d) (v : Int) val mc = some mc1) (e2 : F202 g (v : Int) (val + 1) mm = some mm1) : uS G mc0 mm0 d mc1 mm1 ∧ (∀ b q, 252 ≤ b → ¬ (b = 252 + d ∧ q = v) → mc1 b q = mc b q) ∧ mc1 (252 + d) v = val ∧ (∀ q, mc1 169 q = mc 169 q) ∧ (∀ q, mm1 412 q = mm 412 q) ∧ mm1 376 55 = mm 376 55 := by
  obtain ⟨k1, k2, k3, k4, k5, k6⟩ := h
  unfold F188_48 at e1
  unfold F202 at e2
  rw [k5, ix48 hd hv] at e2
  rw [Int.toNat_natCast] at e1
  by_cases z : val = -1
  · rw [if_pos z] at e1
    rw [if_neg (by omega)] at e2
    injection e1 with e1
    injection e2 with e2
    subst e1
    subst e2
    refine ⟨⟨k1.fr (fun a q ha => yup_na (by omega)) (fun a q ha => yup_na (by omega)), k2.set hv h1 h2, k3.up (by omega), k4.up (by omega), by rw [yup_na (by omega)]; exact k5, by rw [yup_na (by omega)]; exact k6⟩, fun b q hb hq => yup_ne hq, yup_eq _ _ _ _, fun q => yup_na (by omega), fun q => yup_na (by omega), yup_na (by omega)⟩
  · obtain ⟨w, hw⟩ : ∃ w : Nat, val = w := ⟨val.toNat, by omega⟩
    obtain ⟨s1, x, s2, s3, s4⟩ := k1.2.2.1 w (by omega)
    have k30 := k1.1.2.2
    rw [if_neg z, if_pos (by omega), hw, Int.toNat_natCast, s2, Int.toNat_natCast] at e1
    have ws : wr ((w : Int) + 1 - 1) = w := by rw [wr_i (by omega) (by omega)]; omega
    rw [if_pos (by omega), hw, ws, Int.toNat_natCast, ← s1, s2, ix12 hv (by omega)] at e2
    injection e1 with e1
    injection e2 with e2
    subst e1
    subst e2
    rw [hw] at h1 h2
    have q1 : uB G (yup mc (252 + d) v (w : Int)) (yup mm 411 (48 * d + v) ((w : Int) + 1)) := k1.fr (fun a q ha => yup_na (by omega)) (fun a q ha => yup_na (by omega))
    refine ⟨⟨q1.seen hv s3, (k2.set hv h1 h2).fr (fun x v _ => yup_na (by omega)) (Int.le_of_eq (yup_na (by omega)).symm) (fun q => yup_na (by omega)), (k3.up (by omega)).up (by omega), (k4.up (by omega)).up (by omega), by rw [yup_na (by omega), yup_na (by omega)]; exact k5, by rw [yup_na (by omega), yup_na (by omega)]; exact k6⟩, fun b q hb hq => by rw [yup_na (by omega), yup_ne hq], by rw [yup_na (by omega), yup_eq, hw], fun q => by rw [yup_na (by omega), yup_na (by omega)], fun q => by rw [yup_na (by omega), yup_na (by omega)], by rw [yup_na (by omega), yup_na (by omega)]⟩
/-- a step is counted, or there is no step left -/
theorem F189_r {z : (Unit ⊕ Nat) × yM} (h6 : 0 ≤ mc 169 6 ∧ mc 169 6 ≤ 200) (e : F189 f mc = some z) : (mc 169 6 = 200 ∧ z = (.inr 10, mc)) ∨ (mc 169 6 < 200 ∧ z = (.inl (), yup mc 169 6 (mc 169 6 + 1))) := by
  unfold F189 at e
  rcases ite1 e with ⟨q, e⟩ | ⟨q, e⟩
  · cases e
    exact Or.inl ⟨q, rfl⟩
  · rw [wr_i (by omega) (by omega)] at e
    cases e
    exact Or.inr ⟨by omega, rfl⟩
/-- the step is counted on both sides -/
theorem uS.cnt (h : uS G mc0 mm0 d mc mm) (h6 : mc 169 6 < 200) : uS G mc0 mm0 d (yup mc 169 6 (mc 169 6 + 1)) (yup mm 376 56 (mm 376 56 + 1)) := by
  obtain ⟨⟨a1, a2, a3, a4, a5⟩, k2, k3, k4, k5, k6⟩ := h
  have e5 : yup mc 169 6 (mc 169 6 + 1) 169 5 = mc 169 5 := yup_nk (by decide)
  refine ⟨⟨?_, ?_, fun i hi => ?_, fun i q hi hq => ?_, fun w j hw hj => ?_⟩, k2.fr (fun x v _ => yup_na (by omega)) (by rw [yup_nk (by decide)]; omega) (fun q => yup_na (by omega)), k3.up (by omega), k4.up (by omega), by rw [yup_nk (by decide)]; exact k5, by rw [yup_nk (by decide)]; exact k6⟩
  · rw [yup_nk (by decide), yup_nk (by decide)]; exact a1
  · rw [yup_eq, yup_eq]; omega
  · rw [e5] at hi
    rw [yup_na (by omega), yup_na (by omega)]; exact a3 i hi
  · rw [e5] at hi ⊢
    have a12 := a1.2.2
    rw [yup_na (by omega), yup_na (by omega)]; exact a4 i q hi hq
  · rw [yup_na (by omega), yup_na (by omega)]; exact a5 w j hw hj
/-- the pc alone -/
theorem uS.pc {x : Int} (h : uS G mc0 mm0 d mc mm) : uS G mc0 mm0 d mc (yup mm 376 55 x) := by
  obtain ⟨k1, k2, k3, k4, k5, k6⟩ := h
  exact ⟨k1.fr (fun _ _ _ => rfl) (fun a q ha => yup_ne (by omega)), k2.fr (fun _ _ _ => rfl) (Int.le_refl _) (fun q => yup_na (by omega)), k3, k4.up (by omega), by rw [yup_nk (by decide)]; exact k5, by rw [yup_nk (by decide)]; exact k6⟩
end UB

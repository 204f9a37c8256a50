/-! THE RUN: the model's steps; how a piece of a run ends -/
abbrev UL (g H : Nat) (mm : yM) : Option ((Unit × yM) ⊕ (Int × yM)) := yloop (fun (_ : Unit) ml => B211_83 g ml) H () mm
/-- a piece of a run, in the frame d, of a method whose result is the variable z: it throws, goes on at the op o1, or returns -/
def uO (G : Nat → Prop) (mc0 mm0 : yM) (g d z o1 : Nat) (mc mm : yM) (rr : (Unit × yM) ⊕ (Int × yM)) (res : Int ⊕ Nat) (mc' : yM) : Prop :=
  (∃ e mm', res = .inr e ∧ rr = .inl ((), mm') ∧ uX mc0 mm0 e mc' mm') ∨ (res = .inl 0 ∧ ∃ H mm', UL g H mm' = some rr ∧ uS G mc0 mm0 d mc' mm' ∧ mm' 376 55 = o1 ∧ (∀ q, q ≤ d → mm' 412 q = mm 412 q) ∧ mc 169 6 ≤ mc' 169 6 ∧ mc' (252 + d) z = mc (252 + d) z ∧ (∀ x v, x < d → mc' (252 + x) v = mc (252 + x) v)) ∨ (res = .inl 1 ∧ ∃ H mm' mm2, J204_36 g (mc' (252 + d) z + 1) mm' = some mm2 ∧ UL g H mm2 = some rr ∧ uB G mc' mm' ∧ uF d mc' mm' ∧ uC mc0 mc' ∧ uM mm0 mm' ∧ mm' 376 54 = (d : Int) + 1 ∧ mm' 376 57 = 0 ∧ (∀ q, q ≤ d → mm' 412 q = mm 412 q) ∧ mc 169 6 ≤ mc' 169 6 ∧ -1 ≤ mc' (252 + d) z ∧ mc' (252 + d) z < mc' 169 5 ∧ (∀ x v, x < d → mc' (252 + x) v = mc (252 + x) v))
section UQ
variable {G : Nat → Prop} {A p f g s o d t b z u : Nat} {mc mm mc' mm' mc0 mm0 mc1 mm1 : yM} {rr : (Unit × yM) ⊕ (Int × yM)} {H : Nat}
theorem UL.step (h : UL g H mm = some rr) (h57 : mm 376 57 = 0) (h54 : 0 < mm 376 54) : ∃ H' mm1, F210 g mm = some mm1 ∧ UL g H' mm1 = some rr := by
  have K : ∀ y, B211_83 g mm = some y → ∃ mm1, F210 g mm = some mm1 ∧ y = .inl ((), mm1) := by
    intro y e
    unfold B211_83 at e
    rw [if_pos h57, if_pos h54] at e
    replace e := bU_e e
    obtain ⟨mm1, e1, e⟩ := e
    injection e with e
    exact ⟨mm1, e1, e.symm⟩
  obtain ⟨f', -, ⟨l', m', a1, a2⟩ | a1⟩ := yloop_s h
  · obtain ⟨mm1, e1, w⟩ := K _ a1
    injection w with w
    injection w with w w'
    subst w'
    exact ⟨f', m', e1, a2⟩
  · obtain ⟨mm1, e1, w⟩ := K _ a1
    cases w
theorem UL.stop (h : UL g H mm = some rr) (h57 : mm 376 57 ≠ 0 ∨ mm 376 54 = 0) : rr = .inl ((), mm) := by
  have K : B211_83 g mm = some (.inr (.inl ((), mm))) := by
    unfold B211_83
    by_cases q : mm 376 57 = 0
    · rw [if_pos q, if_neg (by omega)]
    · rw [if_neg q]
  obtain ⟨f', -, ⟨l', m', a1, a2⟩ | a1⟩ := yloop_s h
  · rw [K] at a1; cases a1
  · rw [K] at a1
    injection a1 with a1
    injection a1 with a1
    exact a1.symm
/-- a piece, and what comes behind it -/
theorem uO.seq {o1 : Nat} {res : Int ⊕ Nat} (h6 : mc 169 6 ≤ mc1 169 6) (hz : mc1 (252 + d) z = mc (252 + d) z) (h412 : ∀ q, q ≤ d → mm1 412 q = mm 412 q) (hlo : ∀ x v, x < d → mc1 (252 + x) v = mc (252 + x) v) (h : uO G mc0 mm0 g d z o1 mc1 mm1 rr res mc') : uO G mc0 mm0 g d z o1 mc mm rr res mc' := by
  rcases h with h | ⟨h1, H, m', h2, h3, h4, h5, h7, h8, h9⟩ | ⟨h1, H, m', m2, h2, h3, h4, h5, h7, h8, h9, h10, h11, h12, h13, h14, h15⟩
  · exact Or.inl h
  · exact Or.inr (Or.inl ⟨h1, H, m', h2, h3, h4, fun q hq => (h5 q hq).trans (h412 q hq), by omega, h8.trans hz, fun x v hx => (h9 x v hx).trans (hlo x v hx)⟩)
  · exact Or.inr (Or.inr ⟨h1, H, m', m2, h2, h3, h4, h5, h7, h8, h9, h10, fun q hq => (h11 q hq).trans (h412 q hq), by omega, h13, h14, fun x v hx => (h15 x v hx).trans (hlo x v hx)⟩)
theorem uX.ex {e : Nat} (h : uX mc0 mm0 e mc mm) : mm 376 57 ≠ 0 := by
  rw [h.2.1]
  unfold cdE
  split
  · decide
  · split
    · decide
    · split <;> decide
/-- the model at an op that is counted -/
theorem mopC {κ : Int} (hp : p ≤ 1) (hu : u ≤ 120) (h : uS G mc0 mm0 d mc mm) (h18 : mm0 376 18 = p) (h55 : mm 376 55 = u) (hκ : mm0 403 (1000 * p + 8 * u) = κ) (k11 : κ < 11) (e : F210 g mm = some mm1) : (mm 376 56 = 200 ∧ mm1 = yup (yup mm 376 56 201) 376 57 4) ∨ (mm 376 56 < 200 ∧ J210_40 g ((1000 * p + 8 * u : Nat) : Int) κ (yup mm 376 56 (mm 376 56 + 1)) = some mm1 ∧ ¬ 200 < yup mm 376 56 (mm 376 56 + 1) 376 56) := by
  have k18 : mm 376 18 = p := by rw [h.2.2.2.1 376 18 (by decide) (by omega)]; exact h18
  have h56 := h.1.2.1
  unfold F210 at e
  rw [k18, h55, ixop hp hu, Int.toNat_natCast, h.2.2.2.1 403 _ (by decide) (by omega), hκ, if_pos k11, wr_i (by omega) (by omega)] at e
  by_cases q : mm 376 56 = 200
  · left
    refine ⟨q, ?_⟩
    unfold J210_40 at e
    rw [yup_eq, if_pos (by omega)] at e
    injection e with e
    rw [← e, q]
    rfl
  · right
    exact ⟨by omega, e, by rw [yup_eq]; omega⟩
theorem mopV {κ : Int} {n n1 : yM} (k : ¬ 200 < n 376 56) (hκ : κ ≠ 11 ∧ κ ≠ 12 ∧ κ ≠ 6 ∧ κ ≠ 9 ∧ κ ≠ 10 ∧ κ ≠ 7) (e : J210_40 g (b : Int) κ n = some n1) : ∃ n2, F209 g (b : Int) n = some n2 ∧ n1 = yup n2 376 55 (wr (n2 376 55 + 1)) := by
  unfold J210_40 at e
  rw [if_neg k, if_neg hκ.1, if_neg hκ.2.1, if_neg hκ.2.2.1, if_neg hκ.2.2.2.1, if_neg hκ.2.2.2.2.1, if_neg hκ.2.2.2.2.2] at e
  replace e := bU_e e
  obtain ⟨n2, e1, e⟩ := e
  injection e with e
  exact ⟨n2, e1, e.symm⟩
theorem mop6 {n n1 : yM} (k : ¬ 200 < n 376 56) (e : J210_40 g (b : Int) 6 n = some n1) : F204 g (n 403 (wr ((b : Int) + 1)).toNat) (F205 (n 403 (wr ((b : Int) + 2)).toNat) n) n = some n1 := by
  unfold J210_40 at e
  rw [if_neg k, if_neg (by decide), if_neg (by decide), if_pos rfl] at e
  replace e := bU_e e
  obtain ⟨n2, e1, e⟩ := e
  injection e with e
  rw [← e]; exact e1
theorem mop7 {n n1 : yM} (k : ¬ 200 < n 376 56) (e : J210_40 g (b : Int) 7 n = some n1) : F207 g (b : Int) n = some n1 := by
  unfold J210_40 at e
  rw [if_neg k, if_neg (by decide), if_neg (by decide), if_neg (by decide), if_neg (by decide), if_neg (by decide), if_pos rfl] at e
  replace e := bU_e e
  obtain ⟨n2, e1, e⟩ := e
  injection e with e
  rw [← e]; exact e1
theorem mop9 {κ : Int} {n n1 : yM} (k : ¬ 200 < n 376 56) (hκ : κ = 9 ∨ κ = 10) (e : J210_40 g (b : Int) κ n = some n1) : J210_146 g (b : Int) n = some n1 := by
  unfold J210_40 at e
  rw [if_neg k, if_neg (by omega), if_neg (by omega), if_neg (by omega)] at e
  rcases hκ with q | q
  · rw [if_pos q] at e
    exact e
  · rw [if_neg (by omega), if_pos q] at e
    exact e
/-- a jump -/
theorem mop11 (hp : p ≤ 1) (hu : u ≤ 120) (h : uS G mc0 mm0 d mc mm) (h18 : mm0 376 18 = p) (h55 : mm 376 55 = u) (hκ : mm0 403 (1000 * p + 8 * u) = 11) (e : F210 g mm = some mm1) : mm1 = yup mm 376 55 (mm0 403 (1000 * p + 8 * u + 3)) := by
  have k18 : mm 376 18 = p := by rw [h.2.2.2.1 376 18 (by decide) (by omega)]; exact h18
  have h56 := h.1.2.1
  unfold F210 at e
  rw [k18, h55, ixop hp hu, Int.toNat_natCast, h.2.2.2.1 403 _ (by decide) (by omega), hκ, if_neg (by decide)] at e
  unfold J210_40 at e
  rw [if_neg (by omega), if_pos rfl, show ((1000 * p + 8 * u : Nat) : Int) + 3 = ((1000 * p + 8 * u : Nat) : Int) + ((3 : Nat) : Int) by rfl, h.b403 (by omega) (by decide)] at e
  injection e with e
  exact e.symm
/-- a method's end -/
theorem mop12 (hp : p ≤ 1) (hu : u ≤ 120) (h : uS G mc0 mm0 d mc mm) (h18 : mm0 376 18 = p) (h55 : mm 376 55 = u) (hκ : mm0 403 (1000 * p + 8 * u) = 12) (e : F210 g mm = some mm1) : J204_36 g 0 mm = some mm1 := by
  have k18 : mm 376 18 = p := by rw [h.2.2.2.1 376 18 (by decide) (by omega)]; exact h18
  have h56 := h.1.2.1
  unfold F210 at e
  rw [k18, h55, ixop hp hu, Int.toNat_natCast, h.2.2.2.1 403 _ (by decide) (by omega), hκ, if_neg (by decide)] at e
  unfold J210_40 at e
  rw [if_neg (by omega), if_neg (by decide), if_pos rfl] at e
  replace e := bU_e e
  obtain ⟨n2, e1, e⟩ := e
  injection e with e
  rw [e] at e1
  unfold F204 at e1
  rw [if_neg (by decide)] at e1
  exact e1
theorem br146 {n n1 : yM} {v w : Nat} (hd : d < 4) (hb : b ≤ 2000) (h : uS G mc0 mm0 d mc n) (hv : mm0 403 (b + 2) = v) (v48 : v < 48) (hw : mm0 403 (b + 3) = w) (h55 : n 376 55 = u) (hu : u ≤ 120) (e : J210_146 g (b : Int) n = some n1) : (mc (252 + d) v = -1 ∧ n1 = yup n 376 55 (w : Int)) ∨ (mc (252 + d) v ≠ -1 ∧ n1 = yup n 376 55 ((u + 1 : Nat) : Int)) := by
  unfold J210_146 J210_179 at e
  have vr := h.vr v48
  rw [show (b : Int) + 2 = (b : Int) + ((2 : Nat) : Int) by rfl, show (b : Int) + 3 = (b : Int) + ((3 : Nat) : Int) by rfl, h.b403 hb (by decide), h.b403 hb (by decide), hv, hw, h.f205 hd v48, h55, k1w (by omega)] at e
  rcases ite1 e with ⟨q, e⟩ | ⟨q, e⟩
  · injection e with e
    exact Or.inr ⟨by omega, e.symm⟩
  · injection e with e
    exact Or.inl ⟨by omega, e.symm⟩
end UQ

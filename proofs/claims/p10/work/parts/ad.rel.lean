/-! THE TWO READERS: what stands between class and model while a text is read. tk, tp, tn: kinds, places and names of the class's tokens; A: the class's program, p: the model's -/
section RD
variable (tx : Int → Int) (len : Int) (n : Nat) (en tk tp tn : Nat → Int) (A p : Nat)
/-- the class looks at the token i -/
def CT (i : Nat) (mc : yM) : Prop := mc 2 2 = i ∧ (∀ j, mc 5 j = tk j) ∧ (∀ j, mc 6 j = tp j) ∧ (∀ j, mc 7 j = tn j)
/-- what the model knows of the token i -/
def MK (i : Nat) (mm : yM) : Prop := (i = n ∧ mm 376 3 = 0 ∧ mm 376 7 = tp n ∧ mm 376 6 = en n) ∨ (i < n ∧ mm 376 5 = tp i ∧ mm 376 6 = en (i + 1) ∧ Lk (tk i) (tn i) (mm 376 3) (mm 376 4))
/-- the model looks at the token i, nothing is wrong -/
def MT (i : Nat) (mm : yM) : Prop := mm 376 1 = len ∧ (∀ t, 0 ≤ t → t < len → mm 377 t.toNat = tx t) ∧ mm 376 18 = 1 - (p : Int) ∧ mm 376 8 = -1 ∧ MK n en tk tp tn i mm
end RD
section RD1
variable {tx : Int → Int} {len : Int} {n : Nat} {en tk tp tn : Nat → Int} {A p : Nat}
theorem MK.z {i : Nat} {mm : yM} (T : TOK tx len n en tk tp tn) (h : MK n en tk tp tn i mm) : i ≤ n ∧ (tk i = 0 ↔ i = n) := by
  rcases h with ⟨rfl, -⟩ | ⟨h1, h2, h3, h4⟩
  · exact ⟨Nat.le_refl _, fun _ => rfl, fun _ => T.2.2.1⟩
  · refine ⟨by omega, fun e => ?_, fun e => by omega⟩
    rcases h4 with ⟨q, -⟩ | ⟨q, -⟩ | ⟨q, -⟩
    · have := q.1; omega
    · omega
    · unfold sgn at q; omega
/-- a sign -/
theorem MK.mark {i : Nat} {mm : yM} (T : TOK tx len n en tk tp tn) (h : MK n en tk tp tn i mm) {c : Int} (hc : sgn c) : F117 c mm = (if tk i = c then 1 else 0) := by
  unfold F117
  have hc2 := hc
  unfold sgn at hc2
  rcases h with ⟨rfl, h3, -⟩ | ⟨h1, h2, h3, h4⟩
  · rw [if_neg (by omega), T.2.2.1, if_neg (by omega)]
  · rcases h4 with ⟨q, q2, -⟩ | ⟨q, q2⟩ | ⟨q, q2, q3⟩
    · have := q.1; have := q.2.1
      rw [if_neg (by omega), if_neg (by omega)]
    · rw [if_neg (by omega), if_neg (by omega)]
    · rw [if_pos q2, q3]
/-- the model's words -/
def kw27 (j : Int) : Int := if j = 1 then F101 99 108 97 115 115 0 else if j = 2 then F101 102 105 101 108 100 0 else if j = 3 then F101 100 101 102 0 0 0 else if j = 4 then F101 110 101 119 0 0 0 else if j = 5 then F101 110 117 108 108 0 0 else if j = 6 then F101 105 102 0 0 0 0 else if j = 7 then F101 101 108 115 101 0 0 else if j = 8 then F101 119 104 105 108 101 0 else if j = 9 then F101 114 101 116 117 114 110 else F101 116 104 105 115 0 0
def kwl (j : Int) : List Int := if j = 1 then [3, 12, 1, 19, 19] else if j = 2 then [6, 9, 5, 12, 4] else if j = 3 then [4, 5, 6] else if j = 4 then [14, 5, 23] else if j = 5 then [14, 21, 12, 12] else if j = 6 then [9, 6] else if j = 7 then [5, 12, 19, 5] else if j = 8 then [23, 8, 9, 12, 5] else if j = 9 then [18, 5, 20, 21, 18, 14] else [20, 8, 9, 19]
theorem kw_Nm {j : Int} (h1 : 1 ≤ j) (h2 : j ≤ 10) : Nm (kw j) (kw27 j) := by
  have : ∀ a : Fin 10, 1 ≤ (kwl ((a : Nat) + 1 : Int)).length ∧ (kwl ((a : Nat) + 1 : Int)).length ≤ 6 ∧ (∀ q : Fin 6, (q : Nat) < (kwl ((a : Nat) + 1 : Int)).length → 1 ≤ (kwl ((a : Nat) + 1 : Int)).getD q 0 ∧ (kwl ((a : Nat) + 1 : Int)).getD q 0 ≤ 26) ∧ kw ((a : Nat) + 1 : Int) = nE 32 (fun q => (kwl ((a : Nat) + 1 : Int)).getD q 0) (kwl ((a : Nat) + 1 : Int)).length ∧ kw27 ((a : Nat) + 1 : Int) = nE 27 (fun q => (kwl ((a : Nat) + 1 : Int)).getD q 0) (kwl ((a : Nat) + 1 : Int)).length := by decide +kernel
  have h := this ⟨(j - 1).toNat, by omega⟩
  have e : (((j - 1).toNat : Nat) : Int) + 1 = j := by omega
  simp only [e] at h
  obtain ⟨a1, a2, a3, a4, a5⟩ := h
  exact ⟨_, _, a1, a2, fun q hq => a3 ⟨q, by omega⟩ hq, a4, a5⟩
theorem MK.is {i : Nat} {mm : yM} (T : TOK tx len n en tk tp tn) (h : MK n en tk tp tn i mm) {j : Int} (h1 : 1 ≤ j) (h2 : j ≤ 10) : F102 (kw27 j) mm = (if tk i = j then 1 else 0) := by
  unfold F102
  rcases h with ⟨rfl, h3, -⟩ | ⟨h0, h2', h3, h4⟩
  · rw [if_neg (by omega), T.2.2.1, if_neg (by omega)]
  · rcases h4 with ⟨q, q2, q3⟩ | ⟨q, q2⟩ | ⟨q, q2, q3⟩
    · rw [if_pos q2]
      have e1 := q.2.2 j h1 h2
      have e2 := q3.eq (kw_Nm h1 h2)
      by_cases z : tk i = j
      · rw [if_pos z, if_pos (e2.mp (e1.mp z))]
      · rw [if_neg z, if_neg (fun w => z (e1.mpr (e2.mpr w)))]
    · rw [if_neg (by omega), if_neg (by omega)]
    · unfold sgn at q
      rw [if_neg (by omega), if_neg (by omega)]
theorem kw27_1 : kw27 1 = F101 99 108 97 115 115 0 := by simp [kw27]
theorem MK.isClass {i : Nat} {mm : yM} (T : TOK tx len n en tk tp tn) (h : MK n en tk tp tn i mm) : F103 mm = (if tk i = 1 then 1 else 0) := by
  have e := h.is T (j := 1) (by decide) (by decide)
  rw [kw27_1] at e
  exact e
theorem kw27_2 : kw27 2 = F101 102 105 101 108 100 0 := by simp [kw27]
theorem MK.isField {i : Nat} {mm : yM} (T : TOK tx len n en tk tp tn) (h : MK n en tk tp tn i mm) : F106 mm = (if tk i = 2 then 1 else 0) := by
  have e := h.is T (j := 2) (by decide) (by decide)
  rw [kw27_2] at e
  exact e
theorem kw27_3 : kw27 3 = F101 100 101 102 0 0 0 := by simp [kw27]
theorem MK.isDef {i : Nat} {mm : yM} (T : TOK tx len n en tk tp tn) (h : MK n en tk tp tn i mm) : F107 mm = (if tk i = 3 then 1 else 0) := by
  have e := h.is T (j := 3) (by decide) (by decide)
  rw [kw27_3] at e
  exact e
theorem kw27_4 : kw27 4 = F101 110 101 119 0 0 0 := by simp [kw27]
theorem MK.isNew {i : Nat} {mm : yM} (T : TOK tx len n en tk tp tn) (h : MK n en tk tp tn i mm) : F108 mm = (if tk i = 4 then 1 else 0) := by
  have e := h.is T (j := 4) (by decide) (by decide)
  rw [kw27_4] at e
  exact e
theorem kw27_5 : kw27 5 = F101 110 117 108 108 0 0 := by simp [kw27]
theorem MK.isNull {i : Nat} {mm : yM} (T : TOK tx len n en tk tp tn) (h : MK n en tk tp tn i mm) : F109 mm = (if tk i = 5 then 1 else 0) := by
  have e := h.is T (j := 5) (by decide) (by decide)
  rw [kw27_5] at e
  exact e
theorem kw27_6 : kw27 6 = F101 105 102 0 0 0 0 := by simp [kw27]
theorem MK.isIf {i : Nat} {mm : yM} (T : TOK tx len n en tk tp tn) (h : MK n en tk tp tn i mm) : F110 mm = (if tk i = 6 then 1 else 0) := by
  have e := h.is T (j := 6) (by decide) (by decide)
  rw [kw27_6] at e
  exact e
theorem kw27_7 : kw27 7 = F101 101 108 115 101 0 0 := by simp [kw27]
theorem MK.isElse {i : Nat} {mm : yM} (T : TOK tx len n en tk tp tn) (h : MK n en tk tp tn i mm) : F111 mm = (if tk i = 7 then 1 else 0) := by
  have e := h.is T (j := 7) (by decide) (by decide)
  rw [kw27_7] at e
  exact e
theorem kw27_8 : kw27 8 = F101 119 104 105 108 101 0 := by simp [kw27]
theorem MK.isWhile {i : Nat} {mm : yM} (T : TOK tx len n en tk tp tn) (h : MK n en tk tp tn i mm) : F112 mm = (if tk i = 8 then 1 else 0) := by
  have e := h.is T (j := 8) (by decide) (by decide)
  rw [kw27_8] at e
  exact e
theorem kw27_9 : kw27 9 = F101 114 101 116 117 114 110 := by simp [kw27]
theorem MK.isReturn {i : Nat} {mm : yM} (T : TOK tx len n en tk tp tn) (h : MK n en tk tp tn i mm) : F113 mm = (if tk i = 9 then 1 else 0) := by
  have e := h.is T (j := 9) (by decide) (by decide)
  rw [kw27_9] at e
  exact e
theorem kw27_10 : kw27 10 = F101 116 104 105 115 0 0 := by simp [kw27]
theorem MK.isThis {i : Nat} {mm : yM} (T : TOK tx len n en tk tp tn) (h : MK n en tk tp tn i mm) : F114 mm = (if tk i = 10 then 1 else 0) := by
  have e := h.is T (j := 10) (by decide) (by decide)
  rw [kw27_10] at e
  exact e
theorem ite10 {c : Prop} [Decidable c] : (if c then (1 : Int) else 0) = 0 ↔ ¬ c := by
  split
  · simp [*]
  · simp [*]
theorem MK.isName {i : Nat} {mm : yM} (T : TOK tx len n en tk tp tn) (h : MK n en tk tp tn i mm) : F115 mm = (if tk i = 11 then 1 else 0) := by
  have k3 : mm 376 3 = 1 ↔ (1 ≤ tk i ∧ tk i ≤ 11) := by
    rcases h with ⟨rfl, h3, -⟩ | ⟨h0, h2', h3, h4⟩
    · rw [T.2.2.1]; omega
    · rcases h4 with ⟨q, q2, q3⟩ | ⟨q, q2⟩ | ⟨q, q2, q3⟩
      · have := q.1; have := q.2.1; omega
      · omega
      · unfold sgn at q; omega
  unfold F115
  rw [h.isClass T, h.isField T, h.isDef T, h.isNew T, h.isNull T, h.isIf T, h.isElse T, h.isWhile T, h.isReturn T, h.isThis T]
  by_cases z : mm 376 3 = 1
  · rw [if_pos z]
    have z2 := k3.mp z
    by_cases z3 : tk i = 11
    · simp only [z3]
      simp
    · rw [if_neg z3]
      rcases (show tk i = 1 ∨ tk i = 2 ∨ tk i = 3 ∨ tk i = 4 ∨ tk i = 5 ∨ tk i = 6 ∨ tk i = 7 ∨ tk i = 8 ∨ tk i = 9 ∨ tk i = 10 by omega) with e | e | e | e | e | e | e | e | e | e <;> simp [e]
  · rw [if_neg z, if_neg (fun e => z (k3.mpr (by omega)))]
theorem MK.name {i : Nat} {mm : yM} (h : MK n en tk tp tn i mm) (hk : 1 ≤ tk i ∧ tk i ≤ 11) (h0 : tk n = 0) : Nm (tn i) (mm 376 4) := by
  rcases h with ⟨rfl, h3, -⟩ | ⟨h0, h2', h3, h4⟩
  · omega
  · rcases h4 with ⟨q, q2, q3⟩ | ⟨q, q2⟩ | ⟨q, q2, q3⟩
    · exact q3
    · omega
    · unfold sgn at q; omega
/-- the token that is looked at; nothing else -/
theorem MT.fr {i : Nat} {mm mm' : yM} (h : MT tx len n en tk tp tn p i mm) (e : ∀ q, q = 1 ∨ (3 ≤ q ∧ q ≤ 8) ∨ q = 18 → mm' 376 q = mm 376 q) (e2 : ∀ q, mm' 377 q = mm 377 q) : MT tx len n en tk tp tn p i mm' := by
  obtain ⟨h1, h2, h3, h4, h5⟩ := h
  refine ⟨by rw [e 1 (by omega)]; exact h1, fun t t1 t2 => by rw [e2]; exact h2 t t1 t2, by rw [e 18 (by omega)]; exact h3, by rw [e 8 (by omega)]; exact h4, ?_⟩
  unfold MK at h5 ⊢
  rw [e 3 (by omega), e 4 (by omega), e 5 (by omega), e 6 (by omega), e 7 (by omega)]
  exact h5
theorem MT.next {f i : Nat} {mm mm' : yM} (T : TOK tx len n en tk tp tn) (hl : len ≤ 320) (h : MT tx len n en tk tp tn p i mm) (hi : tk i ≠ 0) (hn : F99 f mm = some mm') : MT tx len n en tk tp tn p (i + 1) mm' ∧ (∀ a q, ¬ (a = 376 ∧ 3 ≤ q ∧ q ≤ 7) → mm' a q = mm a q) := by
  obtain ⟨h1, h2, h3, h4, h5⟩ := h
  have hz := h5.z T
  have h6 : mm 376 6 = en (i + 1) := by
    rcases h5 with ⟨q, -⟩ | ⟨-, -, q, -⟩
    · exact absurd (hz.2.mpr q) hi
    · exact q
  have hin : i ≠ n := fun q => hi (hz.2.mpr q)
  have r := F99_r T hl h1 h2 (i := i + 1) (by omega) h6 hn
  refine ⟨⟨by rw [r.1 376 1 (by omega)]; exact h1, fun t t1 t2 => by rw [r.1 377 _ (by omega)]; exact h2 t t1 t2, by rw [r.1 376 18 (by omega)]; exact h3, by rw [r.1 376 8 (by omega)]; exact h4, r.2⟩, r.1⟩
theorem MT.pp {i : Nat} {mm : yM} (h : MT tx len n en tk tp tn p i mm) (hp : p ≤ 1) : F96 mm = p := by
  unfold F96
  rw [h.2.2.1, wr_i (by omega) (by omega)]
  omega
/-- the model goes on, or stops here: then the place is the class's -/
theorem MT.goOn {f i : Nat} {g : Int} {r : Int} {mm mm' : yM} (T : TOK tx len n en tk tp tn) (hl : len ≤ 320) (h : MT tx len n en tk tp tn p i mm) (hi : g ≠ 0 → tk i ≠ 0) (hn : F105 f g mm = some (r, mm')) : (g ≠ 0 ∧ r = 1 ∧ MT tx len n en tk tp tn p (i + 1) mm' ∧ (∀ a q, ¬ (a = 376 ∧ 3 ≤ q ∧ q ≤ 7) → mm' a q = mm a q)) ∨ (g = 0 ∧ r = 0 ∧ mm' = yup mm 376 8 (tp i)) := by
  have h4 := h.2.2.2.1
  unfold F105 at hn
  rcases ite1 hn with ⟨h0, hn⟩ | ⟨h0, hn⟩
  · right
    obtain ⟨m1, e1, hn⟩ := bU_e hn
    unfold F104 J104_26 at e1
    rw [if_pos (by omega)] at e1
    have e2 : m1 = yup mm 376 8 (tp i) := by
      rcases h.2.2.2.2 with ⟨rfl, q1, q2, -⟩ | ⟨q0, q1, q2, q3⟩
      · rw [if_pos q1, q2] at e1
        cases e1
        rfl
      · rw [if_neg (by
          rcases q3 with ⟨-, z, -⟩ | ⟨-, z⟩ | ⟨-, z, -⟩ <;> omega), q1] at e1
        cases e1
        rfl
    subst e2
    have hp0 : 0 ≤ tp i := by
      have M := T.mono
      rcases h.2.2.2.2 with ⟨rfl, -⟩ | ⟨q0, -⟩
      · rw [T.2.2.2.1]; exact T.2.2.2.2.1
      · have := (T.2.1 i q0).1
        have := M i (by omega)
        omega
    unfold J105_8 at hn
    rw [yup_eq, if_neg (by omega)] at hn
    cases hn
    exact ⟨h0, rfl, rfl⟩
  · left
    unfold J105_8 at hn
    rw [if_pos (by omega)] at hn
    obtain ⟨m1, e1, hn⟩ := bU_e hn
    cases hn
    have := h.next T hl (hi h0) e1
    exact ⟨h0, rfl, this.1, this.2⟩
theorem MT.tp0 {i : Nat} {mm : yM} (T : TOK tx len n en tk tp tn) (h : MT tx len n en tk tp tn p i mm) : 0 ≤ tp i := by
  have M := T.mono
  rcases h.2.2.2.2 with ⟨rfl, -⟩ | ⟨q0, -⟩
  · rw [T.2.2.2.1]; exact T.2.2.2.2.1
  · have := (T.2.1 i q0).1
    have := M i (by omega)
    omega
theorem MT.mark {f i : Nat} {c : Int} {r : Int} {mm mm' : yM} (T : TOK tx len n en tk tp tn) (hl : len ≤ 320) (h : MT tx len n en tk tp tn p i mm) (hc : sgn c) (hn : F118 f c mm = some (r, mm')) : (tk i = c ∧ r = 1 ∧ MT tx len n en tk tp tn p (i + 1) mm' ∧ (∀ a q, ¬ (a = 376 ∧ 3 ≤ q ∧ q ≤ 7) → mm' a q = mm a q)) ∨ (tk i ≠ c ∧ r = 0 ∧ mm' = yup mm 376 8 (tp i)) := by
  unfold F118 at hn
  obtain ⟨r1, m1, e1, hn⟩ := bI_e hn
  cases hn
  rw [h.2.2.2.2.mark T hc] at e1
  have hc2 := hc
  unfold sgn at hc2
  rcases h.goOn T hl (fun z => by
    have : tk i = c := by
      by_cases q : tk i = c
      · exact q
      · rw [if_neg q] at z; exact absurd rfl z
    omega) e1 with ⟨z, z1, z2⟩ | ⟨z, z1⟩
  · left
    refine ⟨?_, z1, z2⟩
    by_cases q : tk i = c
    · exact q
    · rw [if_neg q] at z; exact absurd rfl z
  · right
    refine ⟨?_, z1⟩
    exact ite10.mp z
/-- the class takes a token, or refuses it -/
theorem CT.take {f i : Nat} {k r : Int} {mc mc' : yM} (hi : (i : Int) ≤ 400) (h : CT tk tp tn i mc) (hn : F37 f k mc = some (r, mc')) : (tk i = k ∧ r = 1 ∧ mc' = yup mc 2 2 ((i : Int) + 1)) ∨ (tk i ≠ k ∧ r = 0 ∧ mc' = yup mc 2 4 (tp i)) := by
  obtain ⟨h1, h2, h3, h4⟩ := h
  unfold F37 at hn
  have e : (mc 2 2).toNat = i := by omega
  rw [e, h2, h3, h1, wr_i (by omega) (by omega)] at hn
  rcases ite1 hn with ⟨q, hn⟩ | ⟨q, hn⟩
  · cases hn
    exact Or.inl ⟨q, rfl, rfl⟩
  · cases hn
    exact Or.inr ⟨q, rfl, rfl⟩
theorem CT.kind {i : Nat} {mc : yM} (h : CT tk tp tn i mc) : F38 mc = tk i := by
  unfold F38
  rw [h.2.1, h.1]
  simp
theorem CT.nam {i : Nat} {mc : yM} (h : CT tk tp tn i mc) : F39 mc = tn i := by
  unfold F39
  rw [h.2.2.2, h.1]
  simp
theorem CT.plc {i : Nat} {mc : yM} (h : CT tk tp tn i mc) : mc 6 (mc 2 2).toNat = tp i := by
  rw [h.2.2.1, h.1]
  simp
theorem CT.fr {i : Nat} {mc mc' : yM} (h : CT tk tp tn i mc) (e : mc' 2 2 = mc 2 2) (e2 : ∀ a q, a = 5 ∨ a = 6 ∨ a = 7 → mc' a q = mc a q) : CT tk tp tn i mc' := by
  obtain ⟨h1, h2, h3, h4⟩ := h
  exact ⟨e.trans h1, fun j => (e2 5 j (by omega)).trans (h2 j), fun j => (e2 6 j (by omega)).trans (h3 j), fun j => (e2 7 j (by omega)).trans (h4 j)⟩
theorem CT.at {i i' : Nat} {mc mc' : yM} (h : CT tk tp tn i mc) (e : mc' 2 2 = i') (e2 : ∀ a q, a = 5 ∨ a = 6 ∨ a = 7 → mc' a q = mc a q) : CT tk tp tn i' mc' := by
  obtain ⟨h1, h2, h3, h4⟩ := h
  exact ⟨e, fun j => (e2 5 j (by omega)).trans (h2 j), fun j => (e2 6 j (by omega)).trans (h3 j), fun j => (e2 7 j (by omega)).trans (h4 j)⟩
end RD1

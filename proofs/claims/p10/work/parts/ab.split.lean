/-! TOKENS OF THE CLASS -/
def ltr (x : Int) : Prop := 97 ≤ x ∧ x ≤ 122
def sgn (x : Int) : Prop := x = 123 ∨ x = 125 ∨ x = 40 ∨ x = 41 ∨ x = 61 ∨ x = 46 ∨ x = 44 ∨ x = 59 ∨ x = 58
theorem F31_0 (x : Int) : F31 x = 0 ↔ ¬ ltr x := by
  unfold F31 ltr
  split
  · simp; omega
  · split
    · simp; omega
    · simp; omega
theorem F34_0 (x : Int) : F34 x = 0 ↔ ¬ sgn x := by
  unfold F34 sgn
  by_cases h1 : x = 123
  · simp [h1]
  by_cases h2 : x = 125
  · simp [h2]
  by_cases h3 : x = 40
  · simp [h3]
  by_cases h4 : x = 41
  · simp [h4]
  by_cases h5 : x = 61
  · simp [h5]
  by_cases h6 : x = 46
  · simp [h6]
  by_cases h7 : x = 44
  · simp [h7]
  by_cases h8 : x = 59
  · simp [h8]
  by_cases h9 : x = 58
  · simp [h9]
  simp [h1, h2, h3, h4, h5, h6, h7, h8, h9]
theorem F97_0 (x : Int) : F97 x = 0 ↔ ¬ sgn x := F34_0 x
theorem F98_0 (x : Int) : F98 x = 0 ↔ ¬ ltr x := F31_0 x
/-- the letters of a word from the place p on, as numbers -/
def lts (tx : Int → Int) (p : Int) : Nat → Int := fun q => tx (p + q) - 96
def TokB (tx : Int → Int) (e k p w : Int) : Prop :=
  ((∀ t, p ≤ t → t < e → ltr (tx t)) ∧ ((e - p ≤ 6 ∧ k = 11 ∧ w = nE 32 (lts tx p) (e - p).toNat) ∨ (6 < e - p ∧ k = 12))) ∨ (e = p + 1 ∧ sgn (tx p) ∧ k = tx p) ∨ (e = p + 1 ∧ ¬ ltr (tx p) ∧ ¬ sgn (tx p) ∧ tx p ≠ 32 ∧ k = 12)
def TokA (tx : Int → Int) (len a e k p w : Int) : Prop :=
  a ≤ p ∧ p < e ∧ e ≤ len ∧ (∀ t, a ≤ t → t < p → tx t = 32) ∧ TokB tx e k p w
def WMax (tx : Int → Int) (len e p : Int) : Prop := ltr (tx p) → e = len ∨ ¬ ltr (tx e)
def SpI (tx : Int → Int) (len x3 x4 x5 : Int) (m : yM) : Prop :=
  ∃ (c : Nat) (en : Nat → Int), m 3 4 = c ∧ en 0 = 0 ∧ en c = x3 ∧ 0 ≤ x5 ∧ x5 ≤ len ∧ 0 ≤ x3 ∧ x3 ≤ x5 ∧ 0 ≤ x4 ∧ (c : Int) ≤ x5 ∧ (∀ t, x3 ≤ t → t < x5 → tx t = 32) ∧ (∀ j, j < c → TokA tx len (en j) (en (j + 1)) (m 5 j) (m 6 j) (m 7 j)) ∧ (∀ j, j < c → WMax tx len (en (j + 1)) (m 6 j) ∨ (j + 1 = c ∧ 0 < x4)) ∧ (0 < x4 → 0 < c ∧ x3 = x5 ∧ m 6 (c - 1) = x5 - x4 ∧ ltr (tx (x5 - x4))) ∧ (∀ t, 0 ≤ t → t < len → m 1 t.toNat = tx t)
def upf (f : Nat → Int) (k : Nat) (v : Int) : Nat → Int := fun j => if j = k then v else f j
theorem upf_eq (f : Nat → Int) (k : Nat) (v : Int) : upf f k v k = v := if_pos rfl
theorem upf_ne {f : Nat → Int} {k j : Nat} {v : Int} (h : j ≠ k) : upf f k v j = f j := if_neg h
theorem lts_succ (tx : Int → Int) (p e : Int) (hp : p ≤ e) : nE 32 (lts tx p) (e + 1 - p).toNat = 32 * nE 32 (lts tx p) (e - p).toNat + (tx e - 96) := by
  have h1 : (e + 1 - p).toNat = (e - p).toNat + 1 := by omega
  rw [h1]
  simp only [nE]
  congr 1
  unfold lts
  congr 2
  omega
theorem lts_nL {tx : Int → Int} {p e : Int} (h : ∀ t, p ≤ t → t < e → ltr (tx t)) : nL (lts tx p) (e - p).toNat := by
  intro j hj
  have := h (p + j) (by omega) (by omega)
  unfold ltr at this
  unfold lts
  omega
theorem F7_n {w c : Int} (hw : 0 ≤ w ∧ w < 33554432) (hc : ltr c) : F7 w c = 32 * w + (c - 96) := by
  unfold ltr at hc
  unfold F7
  rw [wr_i (x := w * 32) (by omega) (by omega), wr_i (x := c - 97) (by omega) (by omega), wr_i (x := c - 97 + 1) (by omega) (by omega), wr_i (by omega) (by omega)]
  omega
theorem nE5 {s : Nat → Int} {k : Nat} (h : nL s k) (hk : k ≤ 5) : 0 ≤ nE 32 s k ∧ nE 32 s k < 33554432 := by
  have h1 := (nE_pos (b := 32) (by decide) h).1
  have h2 := nE_le (b := 32) (by decide) h
  have h3 : (32 : Int) ^ k ≤ 32 ^ 5 := by
    rcases (show k = 0 ∨ k = 1 ∨ k = 2 ∨ k = 3 ∨ k = 4 ∨ k = 5 by omega) with rfl | rfl | rfl | rfl | rfl | rfl <;> decide
  have h4 : (32 : Int) ^ 5 = 33554432 := by decide
  omega
/-- a token more -/
theorem SpI.add {tx : Int → Int} {len x3 x4 x5 : Int} {m : yM} (h : SpI tx len x3 x4 x5 m) (hl : len ≤ 320) (hx : x5 < len) (h4 : x4 = 0 ∨ ¬ ltr (tx x5)) (k w : Int) (hk : TokB tx (x5 + 1) k x5 w) (x4' : Int) (h4' : (x4' = 0 ∧ ¬ ltr (tx x5)) ∨ (x4' = 1 ∧ ltr (tx x5))) : SpI tx len (x5 + 1) x4' (x5 + 1) (yup (yup (yup (yup m 5 (m 3 4).toNat k) 6 (m 3 4).toNat x5) 7 (m 3 4).toNat w) 3 4 (wr (m 3 4 + 1))) := by
  obtain ⟨c, en, e1, e2, e3, e4, e5, e6, e7, e8, e9, e10, e11, e12, e13, e14⟩ := h
  have ec : (m 3 4).toNat = c := by omega
  rw [ec, e1, wr_i (by omega) (by omega)]
  have r5 : ∀ j, j ≠ c → (yup (yup (yup (yup m 5 c k) 6 c x5) 7 c w) 3 4 ((c : Int) + 1)) 5 j = m 5 j := fun j hj => by
    rw [yup_na (by decide), yup_na (by decide), yup_na (by decide), yup_nk hj]
  have r6 : ∀ j, j ≠ c → (yup (yup (yup (yup m 5 c k) 6 c x5) 7 c w) 3 4 ((c : Int) + 1)) 6 j = m 6 j := fun j hj => by
    rw [yup_na (by decide), yup_na (by decide), yup_nk hj, yup_na (by decide)]
  have r7 : ∀ j, j ≠ c → (yup (yup (yup (yup m 5 c k) 6 c x5) 7 c w) 3 4 ((c : Int) + 1)) 7 j = m 7 j := fun j hj => by
    rw [yup_na (by decide), yup_nk hj, yup_na (by decide), yup_na (by decide)]
  have s5 : (yup (yup (yup (yup m 5 c k) 6 c x5) 7 c w) 3 4 ((c : Int) + 1)) 5 c = k := by
    rw [yup_na (by decide), yup_na (by decide), yup_na (by decide), yup_eq]
  have s6 : (yup (yup (yup (yup m 5 c k) 6 c x5) 7 c w) 3 4 ((c : Int) + 1)) 6 c = x5 := by
    rw [yup_na (by decide), yup_na (by decide), yup_eq]
  have s7 : (yup (yup (yup (yup m 5 c k) 6 c x5) 7 c w) 3 4 ((c : Int) + 1)) 7 c = w := by
    rw [yup_na (by decide), yup_eq]
  refine ⟨c + 1, upf en (c + 1) (x5 + 1), ?_, ?_, upf_eq _ _ _, by omega, by omega, by omega, by omega, by omega, by omega, fun t h1 h2 => by omega, fun j hj => ?_, fun j hj => ?_, fun h0 => ⟨by omega, rfl, ?_, ?_⟩, fun t h1 h2 => ?_⟩
  · rw [yup_eq]; omega
  · rw [upf_ne (by omega)]; exact e2
  · by_cases q : j = c
    · subst q
      rw [upf_ne (by omega), upf_eq, s5, s6, s7, e3]
      exact ⟨e7, by omega, by omega, e10, hk⟩
    · rw [upf_ne (by omega), upf_ne (by omega), r5 j q, r6 j q, r7 j q]
      exact e11 j (by omega)
  · by_cases q : j = c
    · subst q
      rw [upf_eq, s6]
      by_cases q2 : ltr (tx x5)
      · rcases h4' with ⟨-, z⟩ | ⟨z, -⟩
        · exact absurd q2 z
        · exact Or.inr ⟨rfl, by omega⟩
      · exact Or.inl (fun q3 => absurd q3 q2)
    · rw [upf_ne (by omega), r6 j q]
      rcases e12 j (by omega) with q2 | ⟨q2, q3⟩
      · exact Or.inl q2
      · refine Or.inl (fun _ => Or.inr ?_)
        have h5 := (e13 q3).2.1
        rw [q2, e3, h5]
        rcases h4 with q4 | q4
        · omega
        · exact q4
  · have : c + 1 - 1 = c := by omega
    rw [this, s6]
    omega
  · rcases h4' with ⟨q, -⟩ | ⟨q, q2⟩
    · omega
    · rw [q, show x5 + 1 - 1 = x5 by omega]
      exact q2
  · rw [yup_na (by decide), yup_na (by decide), yup_na (by decide), yup_na (by decide)]
    exact e14 t h1 h2
/-- a letter more of the last word -/
theorem SpI.more {tx : Int → Int} {len x3 x4 x5 : Int} {m : yM} (h : SpI tx len x3 x4 x5 m) (hl : len ≤ 320) (hx : x5 < len) (h4 : 0 < x4) (hc : ltr (tx x5)) (w : Int) (hw : x4 + 1 ≤ 6 → w = F7 (m 7 (wr (m 3 4 - 1)).toNat) (tx x5)) : (6 < x4 + 1 → SpI tx len (x5 + 1) (x4 + 1) (x5 + 1) (yup (yup m 7 (wr (m 3 4 - 1)).toNat w) 5 (wr (m 3 4 - 1)).toNat 12)) ∧ (x4 + 1 ≤ 6 → SpI tx len (x5 + 1) (x4 + 1) (x5 + 1) (yup m 7 (wr (m 3 4 - 1)).toNat w)) := by
  obtain ⟨c, en, e1, e2, e3, e4, e5, e6, e7, e8, e9, e10, e11, e12, e13, e14⟩ := h
  obtain ⟨d1, d2, d3, d4⟩ := e13 h4
  have ec : (wr (m 3 4 - 1)).toNat = c - 1 := by rw [e1, wr_i (by omega) (by omega)]; omega
  rw [ec] at hw ⊢
  have T := e11 (c - 1) (by omega)
  rw [show c - 1 + 1 = c by omega, e3] at T
  obtain ⟨t1, t2, t3, t4, t5⟩ := T
  have L : ∀ t, m 6 (c - 1) ≤ t → t < x5 → ltr (tx t) := by
    rcases t5 with ⟨q, -⟩ | ⟨q1, q2, -⟩ | ⟨q1, q2, -⟩
    · rw [d2] at q; exact q
    · rw [d3] at q2
      unfold ltr at d4
      unfold sgn at q2
      omega
    · rw [d3] at q2
      exact absurd d4 q2
  have L2 : ∀ t, m 6 (c - 1) ≤ t → t < x5 + 1 → ltr (tx t) := fun t h1 h2 => by
    by_cases q : t = x5
    · rw [q]; exact hc
    · exact L t h1 (by omega)
  have key : ∀ (k' : Int) (m' : yM), m' 3 4 = m 3 4 → (∀ j, j ≠ c - 1 → m' 5 j = m 5 j ∧ m' 7 j = m 7 j) → (∀ j, m' 6 j = m 6 j) → (∀ j, m' 1 j = m 1 j) → TokB tx (x5 + 1) (m' 5 (c - 1)) (m 6 (c - 1)) (m' 7 (c - 1)) → SpI tx len (x5 + 1) (x4 + 1) (x5 + 1) m' := by
    intro k' m' f1 f2 f3 f4 f5
    refine ⟨c, upf en c (x5 + 1), f1.trans e1, ?_, upf_eq _ _ _, by omega, by omega, by omega, by omega, by omega, by omega, fun t h1 h2 => by omega, fun j hj => ?_, fun j hj => ?_, fun h0 => ⟨d1, rfl, ?_, ?_⟩, fun t h1 h2 => ?_⟩
    · rw [upf_ne (by omega)]; exact e2
    · by_cases q : j = c - 1
      · subst q
        rw [upf_ne (by omega), show c - 1 + 1 = c by omega, upf_eq, f3]
        exact ⟨t1, by omega, by omega, t4, f5⟩
      · rw [upf_ne (by omega), upf_ne (by omega), (f2 j q).1, (f2 j q).2, f3]
        exact e11 j hj
    · by_cases q : j = c - 1
      · exact Or.inr ⟨by omega, by omega⟩
      · rw [upf_ne (by omega), f3]
        rcases e12 j hj with q2 | ⟨q2, q3⟩
        · exact Or.inl q2
        · omega
    · rw [f3, d3]; omega
    · rw [show x5 + 1 - (x4 + 1) = x5 - x4 by omega]; exact d4
    · rw [f4]; exact e14 t h1 h2
  constructor
  · intro h6
    refine key 12 _ ?_ (fun j hj => ⟨?_, ?_⟩) (fun j => ?_) (fun j => ?_) ?_
    · rw [yup_na (by decide), yup_na (by decide)]
    · rw [yup_nk hj, yup_na (by decide)]
    · rw [yup_na (by decide), yup_nk hj]
    · rw [yup_na (by decide), yup_na (by decide)]
    · rw [yup_na (by decide), yup_na (by decide)]
    · rw [yup_eq]
      exact Or.inl ⟨L2, Or.inr ⟨by omega, rfl⟩⟩
  · intro h6
    refine key 11 _ ?_ (fun j hj => ⟨?_, ?_⟩) (fun j => ?_) (fun j => ?_) ?_
    · rw [yup_na (by decide)]
    · rw [yup_na (by decide)]
    · rw [yup_nk hj]
    · rw [yup_na (by decide)]
    · rw [yup_na (by decide)]
    · rw [yup_eq, yup_na (by decide)]
      have hK : m 5 (c - 1) = 11 ∧ m 7 (c - 1) = nE 32 (lts tx (m 6 (c - 1))) (x5 - m 6 (c - 1)).toNat := by
        rcases t5 with ⟨-, q⟩ | ⟨q1, q2, -⟩ | ⟨q1, q2, -⟩
        · rcases q with ⟨-, q1, q2⟩ | ⟨q1, q2⟩
          · rw [d2] at q2; exact ⟨q1, q2⟩
          · omega
        · rw [d3] at q2
          unfold ltr at d4
          unfold sgn at q2
          omega
        · rw [d3] at q2
          exact absurd d4 q2
      have hn := nE5 (lts_nL L) (by omega)
      refine Or.inl ⟨L2, Or.inl ⟨by omega, hK.1, ?_⟩⟩
      rw [hw h6, hK.2, F7_n hn hc, lts_succ tx _ _ (by omega)]
/-- a blank more -/
theorem SpI.blank {tx : Int → Int} {len x3 x4 x5 : Int} {m : yM} (h : SpI tx len x3 x4 x5 m) (hx : x5 < len) (hc : tx x5 = 32) : SpI tx len x3 0 (x5 + 1) m := by
  obtain ⟨c, en, e1, e2, e3, e4, e5, e6, e7, e8, e9, e10, e11, e12, e13, e14⟩ := h
  refine ⟨c, en, e1, e2, e3, by omega, by omega, by omega, by omega, by omega, by omega, fun t h1 h2 => ?_, e11, fun j hj => ?_, fun h0 => by omega, e14⟩
  · by_cases q : t = x5
    · rw [q]; exact hc
    · exact e10 t h1 (by omega)
  · rcases e12 j hj with q2 | ⟨q2, q3⟩
    · exact Or.inl q2
    · refine Or.inl (fun _ => Or.inr ?_)
      have h5 := (e13 q3).2.1
      rw [q2, e3, h5, hc]
      unfold ltr
      omega
theorem J36_80_e {f : Nat} {x2 x3 x4 x5 x6 : Int} {m : yM} {l' : Int × Int × Int} {m' : yM} (h : J36_80 f x2 x3 x4 x5 x6 m = some (.inl (l', m'))) : m' = m ∧ l' = (if x6 = 32 then x3 else wr (x5 + 1), x4, wr (x5 + 1)) := by
  unfold J36_80 J36_95 at h
  split at h
  · rename_i q
    cases h
    exact ⟨rfl, by rw [if_pos q]⟩
  · rename_i q
    cases h
    exact ⟨rfl, by rw [if_neg q]⟩
theorem J36_80_n {f : Nat} {x2 x3 x4 x5 x6 : Int} {m : yM} {r : ((Int × Int × Int) × yM) ⊕ (Unit × yM)} (h : J36_80 f x2 x3 x4 x5 x6 m = some (.inr r)) : False := by
  unfold J36_80 J36_95 at h
  split at h <;> cases h
theorem B36_s {tx : Int → Int} {len : Int} (hl : len ≤ 320) (h32 : ∀ t, 0 ≤ t → t < len → 32 ≤ tx t ∧ tx t ≤ 126) {f : Nat} {x3 x4 x5 : Int} {m : yM} (h : SpI tx len x3 x4 x5 m) {l' : Int × Int × Int} {m' : yM} (hB : B36_13 f len x3 x4 x5 m = some (.inl (l', m'))) : SpI tx len l'.1 l'.2.1 l'.2.2 m' := by
  have h0 := h
  obtain ⟨c, en, e1, e2, e3, e4, e5, e6, e7, e8, e9, e10, e11, e12, e13, e14⟩ := h0
  unfold B36_13 at hB
  rcases ite1 hB with ⟨hx, hB⟩ | ⟨-, hB⟩
  · rw [e14 x5 e4 hx] at hB
    have w5 : wr (x5 + 1) = x5 + 1 := wr_i (by omega) (by omega)
    rcases ite1 hB with ⟨hc, hB⟩ | ⟨hc, hB⟩
    · rw [F31_0] at hc
      rcases ite1 hB with ⟨hc2, hB⟩ | ⟨hc2, hB⟩
      · obtain ⟨rfl, rfl⟩ := J36_80_e hB
        simp only [if_pos hc2, w5]
        exact h.blank hx hc2
      · have hk : ∀ k, TokB tx (x5 + 1) k x5 0 → J36_75 f len x3 0 x5 (tx x5) k m = some (.inl (l', m')) → SpI tx len l'.1 l'.2.1 l'.2.2 m' := by
          intro k hk hB
          unfold J36_75 at hB
          obtain ⟨m1, h1, hB⟩ := bU_e hB
          obtain ⟨rfl, rfl⟩ := J36_80_e hB
          unfold F32 at h1
          cases h1
          simp only [if_neg hc2, w5]
          exact h.add hl hx (Or.inr hc) k 0 hk 0 (Or.inl ⟨rfl, hc⟩)
        rcases ite1 hB with ⟨hc3, hB⟩ | ⟨hc3, hB⟩
        · rw [F34_0] at hc3
          exact hk 12 (Or.inr (Or.inr ⟨rfl, hc, hc3, hc2, rfl⟩)) hB
        · rw [F34_0, Classical.not_not] at hc3
          exact hk (tx x5) (Or.inr (Or.inl ⟨rfl, hc3, rfl⟩)) hB
    · rw [F31_0, Classical.not_not] at hc
      have hc2 : tx x5 ≠ 32 := by unfold ltr at hc; omega
      obtain ⟨m1, h1, hB⟩ := bU_e hB
      obtain ⟨rfl, rfl⟩ := J36_80_e hB
      have hx4 : x4 ≤ x5 := by
        by_cases q : 0 < x4
        · obtain ⟨d1, d2, d3, d4⟩ := e13 q
          have T := e11 (c - 1) (by omega)
          have := T.1
          by_cases q2 : 0 ≤ x5 - x4
          · omega
          · have q3 : en (c - 1) ≤ m 6 (c - 1) := T.1
            have q4 : ∀ j, j ≤ c → 0 ≤ en j := by
              intro j
              induction j with
              | zero => intro _; omega
              | succ j ih =>
                intro hj
                have := e11 j (by omega)
                have := ih (by omega)
                have := (e11 j (by omega)).1
                have := (e11 j (by omega)).2.1
                omega
            have := q4 (c - 1) (by omega)
            omega
        · omega
      have w4 : wr (x4 + 1) = x4 + 1 := wr_i (by omega) (by omega)
      rw [w4] at h1
      simp only [if_neg hc2, w5, w4]
      unfold F33 at h1
      rcases ite1 h1 with ⟨q, h1⟩ | ⟨q, h1⟩
      · obtain ⟨m2, h2, h1⟩ := bU_e h1
        unfold F32 at h2
        cases h2
        unfold J33_12 at h1
        rw [if_neg (by omega)] at h1
        have ec : (m 3 4).toNat = c := by omega
        have ew : wr (m 3 4 + 1) = (c : Int) + 1 := by rw [e1]; exact wr_i (by omega) (by omega)
        have q0 : x4 = 0 := by omega
        have a1 : (wr (yup (yup (yup (yup m 5 (m 3 4).toNat 11) 6 (m 3 4).toNat x5) 7 (m 3 4).toNat 0) 3 4 (wr (m 3 4 + 1)) 3 4 - 1)).toNat = (m 3 4).toNat := by
          rw [yup_eq, ew, wr_i (by omega) (by omega), ec]
          omega
        rw [a1] at h1
        have a2 : yup (yup (yup (yup m 5 (m 3 4).toNat 11) 6 (m 3 4).toNat x5) 7 (m 3 4).toNat 0) 3 4 (wr (m 3 4 + 1)) 7 (m 3 4).toNat = 0 := by
          rw [yup_na (by decide), yup_eq]
        rw [a2] at h1
        cases h1
        have S := h.add hl hx (Or.inl q0) 11 (F7 0 (tx x5)) (Or.inl ⟨fun t t1 t2 => by rw [show t = x5 by omega]; exact hc, Or.inl ⟨by omega, rfl, ?_⟩⟩) 1 (Or.inr ⟨rfl, hc⟩)
        · rw [q0]
          have a3 : yup (yup (yup (yup (yup m 5 (m 3 4).toNat 11) 6 (m 3 4).toNat x5) 7 (m 3 4).toNat 0) 3 4 (wr (m 3 4 + 1))) 7 (m 3 4).toNat (F7 0 (tx x5)) = yup (yup (yup (yup m 5 (m 3 4).toNat 11) 6 (m 3 4).toNat x5) 7 (m 3 4).toNat (F7 0 (tx x5))) 3 4 (wr (m 3 4 + 1)) := by
            funext b j
            unfold yup
            by_cases z1 : b = 7 ∧ j = (m 3 4).toNat
            · rw [if_pos z1, if_neg (by omega), if_pos z1]
            · rw [if_neg z1, if_neg z1, if_neg z1]
          rw [a3]
          exact S
        · rw [F7_n ⟨by omega, by omega⟩ hc, show (x5 + 1 - x5).toNat = 1 by omega]
          simp only [nE, lts]
          have : x5 + ((0 : Nat) : Int) = x5 := by omega
          rw [this]
      · unfold J33_12 at h1
        have M := h.more hl hx (by omega) hc (F7 (m 7 (wr (m 3 4 - 1)).toNat) (tx x5)) (fun _ => rfl)
        rcases ite1 h1 with ⟨q2, h1⟩ | ⟨q2, h1⟩
        · cases h1
          exact M.1 q2
        · cases h1
          exact M.2 (by omega)
  · cases hB
/-! the words that are no names -/
def kw (j : Int) : Int := if j = 1 then 3540595 else if j = 2 then 6591876 else if j = 3 then 4262 else if j = 4 then 14519 else if j = 5 then 480652 else if j = 6 then 294 else if j = 7 then 176741 else if j = 8 then 24388997 else if j = 9 then 609900110 else 663859
def KW (m : yM) : Prop := ∀ j : Int, 1 ≤ j → j ≤ 10 → m 4 j.toNat = kw j
theorem kw_inj {i j : Int} (hi : 1 ≤ i ∧ i ≤ 10) (hj : 1 ≤ j ∧ j ≤ 10) (h : kw i = kw j) : i = j := by
  have : ∀ a : Fin 10, ∀ b : Fin 10, kw ((a : Nat) + 1 : Int) = kw ((b : Nat) + 1 : Int) → a = b := by decide +kernel
  have h2 := this ⟨(i - 1).toNat, by omega⟩ ⟨(j - 1).toNat, by omega⟩ (by
    have e1 : (((i - 1).toNat : Nat) : Int) + 1 = i := by omega
    have e2 : (((j - 1).toNat : Nat) : Int) + 1 = j := by omega
    simp only [e1, e2]
    exact h)
  have h3 := congrArg Fin.val h2
  simp only at h3
  omega
/-- the kind of a word -/
def KdB (k w : Int) : Prop := 1 ≤ k ∧ k ≤ 11 ∧ ∀ j : Int, 1 ≤ j → j ≤ 10 → (k = j ↔ w = kw j)
/-- what tellWords does to a kind -/
def KdT (k k' w : Int) : Prop := (k ≠ 11 ∧ k' = k) ∨ (k = 11 ∧ KdB k' w)
theorem B35_12_r {f : Nat} {x1 : Int} {m0 : yM} (h0 : 0 ≤ x1) (hK : KW m0) (h11 : m0 5 x1.toNat = 11) {g : Nat} {r : (Int × yM) ⊕ (Unit × yM)} (h : yloop (fun (l : Int) m => B35_12 f x1 l m) g 1 m0 = some r) : ∃ k l, r = .inl (l, yup m0 5 x1.toNat k) ∧ KdB k (m0 7 x1.toNat) := by
  obtain ⟨l', m', hI, hB⟩ := yloop_inv (fun (l : Int) m => 1 ≤ l ∧ l ≤ 11 ∧ ((m = m0 ∧ ∀ j : Int, 1 ≤ j → j < l → m0 7 x1.toNat ≠ kw j) ∨ (∃ k, 1 ≤ k ∧ k ≤ 10 ∧ m = yup m0 5 x1.toNat k ∧ m0 7 x1.toNat = kw k))) (fun l m l' m' hI hB => by
    obtain ⟨i1, i2, hI⟩ := hI
    simp only [B35_12, J35_54] at hB
    rcases ite1 hB with ⟨hx, hB⟩ | ⟨-, hB⟩
    · have w1 : wr (l + 1) = l + 1 := wr_i (by omega) (by omega)
      rcases hI with ⟨rfl, hI⟩ | ⟨k, k1, k2, rfl, k3⟩
      · rw [if_pos h11] at hB
        rw [hK l i1 (by omega)] at hB
        rcases ite1 hB with ⟨hc, hB⟩ | ⟨hc, hB⟩
        · cases hB
          exact ⟨by omega, by omega, Or.inr ⟨l, i1, by omega, rfl, hc.symm⟩⟩
        · cases hB
          refine ⟨by omega, by omega, Or.inl ⟨rfl, fun j j1 j2 => ?_⟩⟩
          by_cases q : j = l
          · rw [q]; exact fun e => hc e.symm
          · exact hI j j1 (by omega)
      · rw [yup_eq, if_neg (by omega)] at hB
        cases hB
    · cases hB) g 1 m0 r ⟨by omega, by omega, Or.inl ⟨rfl, fun j j1 j2 => by omega⟩⟩ h
  obtain ⟨i1, i2, hI⟩ := hI
  simp only [B35_12, J35_54] at hB
  rcases hI with ⟨rfl, hI⟩ | ⟨k, k1, k2, rfl, k3⟩
  · rcases ite1 hB with ⟨hx, hB⟩ | ⟨hx, hB⟩
    · rw [if_pos h11] at hB
      rcases ite1 hB with ⟨-, hB⟩ | ⟨-, hB⟩ <;> cases hB
    · cases hB
      refine ⟨11, l', ?_, by omega, by omega, fun j j1 j2 => ⟨fun e => by omega, fun e => absurd e (hI j j1 (by omega))⟩⟩
      congr 2
      funext b j
      unfold yup
      split
      · rename_i q
        rw [q.1, q.2, h11]
      · rfl
  · have : r = .inl (l', yup m0 5 x1.toNat k) := by
      rcases ite1 hB with ⟨hx, hB⟩ | ⟨hx, hB⟩
      · rw [yup_eq, if_neg (by omega)] at hB
        cases hB
        rfl
      · cases hB
        rfl
    refine ⟨k, l', this, by omega, by omega, fun j j1 j2 => ⟨fun e => by rw [← e]; exact k3, fun e => kw_inj (by omega) (by omega) (by rw [← k3, e])⟩⟩
theorem B35_12_n {f : Nat} {x1 : Int} {m0 : yM} (h11 : m0 5 x1.toNat ≠ 11) {g : Nat} {r : (Int × yM) ⊕ (Unit × yM)} (h : yloop (fun (l : Int) m => B35_12 f x1 l m) g 1 m0 = some r) : r = .inl (1, m0) := by
  cases g with
  | zero => cases h
  | succ g =>
    simp only [yloop, B35_12] at h
    rw [if_pos (by decide), if_neg h11] at h
    cases h
    rfl
theorem F35_r {f : Nat} {m m' : yM} {n : Nat} (hn : m 3 4 = n) (hn2 : n ≤ 321) (hK : KW m) (h : F35 f m = some m') : (∀ j, j < n → KdT (m 5 j) (m' 5 j) (m 7 j)) ∧ (∀ a q, a ≠ 5 → m' a q = m a q) ∧ (∀ j, n ≤ j → m' 5 j = m 5 j) := by
  unfold F35 at h
  have key : ∀ {r : (Int × yM) ⊕ (Unit × yM)}, yloop (fun (l : Int) m => B35_2 f l m) f 0 m = some r → ∃ l m1, r = .inl (l, m1) ∧ (∀ j, j < n → KdT (m 5 j) (m1 5 j) (m 7 j)) ∧ (∀ a q, a ≠ 5 → m1 a q = m a q) ∧ (∀ j, n ≤ j → m1 5 j = m 5 j) := by
    intro r h
    obtain ⟨l', m1, hI, hB⟩ := yloop_inv (fun (l : Int) m1 => 0 ≤ l ∧ l ≤ n ∧ (∀ j : Nat, (j : Int) < l → KdT (m 5 j) (m1 5 j) (m 7 j)) ∧ (∀ a q, a ≠ 5 → m1 a q = m a q) ∧ (∀ j : Nat, l ≤ j → m1 5 j = m 5 j)) (fun l m1 l' m2 hI hB => by
      obtain ⟨i1, i2, i3, i4, i5⟩ := hI
      simp only [B35_2] at hB
      rcases ite1 hB with ⟨hx, hB⟩ | ⟨-, hB⟩
      · rw [i4 3 4 (by decide), hn] at hx
        have hK1 : KW m1 := fun j j1 j2 => by rw [i4 4 _ (by decide)]; exact hK j j1 j2
        have e5 : m1 5 l.toNat = m 5 l.toNat := i5 l.toNat (by omega)
        have e7 : m1 7 l.toNat = m 7 l.toNat := i4 7 l.toNat (by decide)
        have w1 : wr (l + 1) = l + 1 := wr_i (by omega) (by omega)
        rcases bL_e hB with ⟨l2, m3, h1, hB⟩ | ⟨r2, m3, h1, hB⟩
        · simp only [J35_60] at hB
          cases hB
          rw [w1]
          by_cases q : m1 5 l.toNat = 11
          · obtain ⟨k, l3, hr, hk⟩ := B35_12_r i1 hK1 q h1
            cases hr
            refine ⟨by omega, by omega, fun j hj => ?_, fun a q ha => ?_, fun j hj => ?_⟩
            · by_cases z : j = l.toNat
              · rw [z, yup_eq]
                exact Or.inr ⟨by rw [← e5]; exact q, by rw [← e7]; exact hk⟩
              · rw [yup_nk z]
                exact i3 j (by omega)
            · rw [yup_na ha]
              exact i4 a q ha
            · rw [yup_nk (by omega)]
              exact i5 j (by omega)
          · have hr := B35_12_n q h1
            cases hr
            refine ⟨by omega, by omega, fun j hj => ?_, i4, fun j hj => i5 j (by omega)⟩
            by_cases z : j = l.toNat
            · rw [z, e5]
              exact Or.inl ⟨by rw [← e5]; exact q, rfl⟩
            · exact i3 j (by omega)
        · simp at hB
      · cases hB) f 0 m r ⟨by omega, by omega, fun j hj => by omega, fun a q _ => rfl, fun j _ => rfl⟩ h
    obtain ⟨i1, i2, i3, i4, i5⟩ := hI
    simp only [B35_2] at hB
    rcases ite1 hB with ⟨hx, hB⟩ | ⟨hx, hB⟩
    · exfalso
      rcases bL_e hB with ⟨l2, m3, h1, hB⟩ | ⟨r2, m3, h1, hB⟩
      · simp only [J35_60] at hB
        cases hB
      · have hK1 : KW m1 := fun j j1 j2 => by rw [i4 4 _ (by decide)]; exact hK j j1 j2
        by_cases q : m1 5 l'.toNat = 11
        · obtain ⟨k, l3, hr, hk⟩ := B35_12_r i1 hK1 q h1
          cases hr
        · have hr := B35_12_n q h1
          cases hr
    · rw [i4 3 4 (by decide), hn] at hx
      cases hB
      exact ⟨l', m1, rfl, fun j hj => i3 j (by omega), i4, fun j hj => i5 j (by omega)⟩
  rcases bL_e h with ⟨l, m1, h1, h2⟩ | ⟨r, m1, h1, h2⟩
  · obtain ⟨l2, m2, hr, k⟩ := key h1
    cases hr
    cases h2
    exact k
  · obtain ⟨l2, m2, hr, k⟩ := key h1
    cases hr

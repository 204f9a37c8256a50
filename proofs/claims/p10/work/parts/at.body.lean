/-! BRANCHES -/
section BR
variable {tx : Int → Int} {len : Int} {n : Nat} {en tk tp tn : Nat → Int} {A p k res s o a d : Nat} {mc mm mc' mm' M N M' N' : yM} {cs st : Int}
def PB (tx : Int → Int) (len : Int) (n : Nat) (en tk tp tn : Nat → Int) (A p k res f g gr : Nat) : Prop := ∀ (s o a d i G : Nat) (r : Int) (mc mm mc' : yM) (rr : (Unit × yM) ⊕ (Unit × yM)), d ≤ 3 → CT tk tp tn i mc → tk i = 123 → BS tx len n en tk tp tn A p k res s o a d (i + 1) (i + 1) (yup mc 2 2 ((i : Int) + 1)) mm → F69 f A gr (d : Int) mc = some (r, mc') → ML g G mm = some rr → BO tx len n en tk tp tn A p k res s o a d (yup mc 2 2 ((i : Int) + 1)) mm g rr r mc'
theorem F69_no {f gr i : Nat} {r dd : Int} (hi : (i : Int) ≤ 400) (hC : CT tk tp tn i mc) (hb : tk i ≠ 123 ∨ 3 < dd) (h : F69 f A gr dd mc = some (r, mc')) : r = 0 ∧ mc' = yup mc 2 4 (tp i) := by
  cases gr with
  | zero => cases h
  | succ gr =>
    change G69 f (F69 f A gr) A dd mc = some (r, mc') at h
    unfold G69 at h
    rcases ite1 h with ⟨q, h⟩ | ⟨q, h⟩
    · replace h := bI_e h
      obtain ⟨r1, m1, e1, h⟩ := h
      unfold F43 at e1
      rw [hC.plc] at e1
      cases e1
      cases h
      exact ⟨rfl, rfl⟩
    · replace h := bI_e h
      obtain ⟨r1, m1, e1, h⟩ := h
      rcases hC.take hi e1 with ⟨t1, -, -⟩ | ⟨t1, rfl, rfl⟩
      · rcases hb with z | z
        · exact absurd t1 z
        · exact absurd z q
      · exact CLo.z (F := f) (x := 0) h
theorem F69_go {f gr i : Nat} {r dd : Int} (hi : (i : Int) ≤ 400) (hC : CT tk tp tn i mc) (ht : tk i = 123) (hd : dd ≤ 3) (h : F69 f A (gr + 1) dd mc = some (r, mc')) : CLo f A (F69 f A gr) dd f (1, 0) (yup mc 2 2 ((i : Int) + 1)) = some (r, mc') := by
  change G69 f (F69 f A gr) A dd mc = some (r, mc') at h
  unfold G69 at h
  rw [if_neg (by omega)] at h
  replace h := bI_e h
  obtain ⟨r1, m1, e1, h⟩ := h
  rcases hC.take hi e1 with ⟨-, rfl, rfl⟩ | ⟨t1, -, -⟩
  · exact h
  · exact absurd ht t1
theorem F128_r {g o1 : Nat} (hp : p ≤ 1) (h18 : N 376 18 = 1 - (p : Int)) (ho : o1 ≤ 120) (h : F128 g (o1 : Int) N = some N') : N' = yup N 403 (1000 * p + 8 * o1 + 3) (N 390 p) := by
  unfold F128 at h
  have hF : F96 N = p := by unfold F96; rw [h18, wr_i (by omega) (by omega)]; omega
  rw [hF, Int.toNat_natCast, wr_i (x := 1000 * (p : Int)) (by omega) (by omega), wr_i (x := 8 * (o1 : Int)) (by omega) (by omega), wr_i (x := 1000 * (p : Int) + 8 * o1) (by omega) (by omega), wr_i (x := 1000 * (p : Int) + 8 * o1 + 3) (by omega) (by omega), show (1000 * (p : Int) + 8 * o1 + 3).toNat = 1000 * p + 8 * o1 + 3 by omega] at h
  cases h
  rfl
/-- the model at a block's end -/
theorem ML.shut {g G i : Nat} {rr : (Unit × yM) ⊕ (Unit × yM)} (T : TOK tx len n en tk tp tn) (hM : MT tx len n en tk tp tn p i N) (ht : tk i = 125) (hd : N 376 10 = (d : Int) + 1) (h : ML g G N = some rr) : ∃ G' n1, F129 g N = some n1 ∧ ML g G' n1 = some rr := by
  obtain ⟨f', -, ⟨l', m', e3, e4⟩ | e3⟩ := yloop_s h
  · refine ⟨f', m', ?_, e4⟩
    have e3 : B139_5 g N = some (.inl (l', m')) := e3
    unfold B139_5 at e3
    rw [if_pos (by rw [hM.2.2.2.1]; decide), hM.2.2.2.2.mark T (by unfold sgn; omega), if_pos ht, if_neg (by decide), if_neg (by omega)] at e3
    replace e3 := bU_e e3
    obtain ⟨n1, e5, e6⟩ := e3
    cases e6
    exact e5
  · exfalso
    have e3 : B139_5 g N = some (.inr rr) := e3
    unfold B139_5 at e3
    rw [if_pos (by rw [hM.2.2.2.1]; decide), hM.2.2.2.2.mark T (by unfold sgn; omega), if_pos ht, if_neg (by decide), if_neg (by omega)] at e3
    replace e3 := bU_e e3
    obtain ⟨n1, e5, e6⟩ := e3
    cases e6
/-- a block is opened on both sides, or refused at the same place. b: its kind, w: its op -/
theorem open_r {f g gr j G : Nat} {x : Nat} {r w b : Int} {rr : (Unit × yM) ⊕ (Unit × yM)} {mc1 mm1 n1 : yM} (T : TOK tx len n en tk tp tn) (hl : len ≤ 320) (hA : A = 256 ∨ A = 316) (hp : p ≤ 1) (hs : s < 40) (hd : d ≤ 3) (ho : o ≤ 2 * s + k + 3) (ha : a ≤ s) (hB : PB tx len n en tk tp tn A p k res f g gr) {i0 : Nat} (hX : CX tx len n en tk tp tn A p k res s o a i0 mc1 mm1 j M N) (h16 : M A 16 = (s : Int) + 1) (h9 : N 376 9 = (s : Int) + 1) (h10 : N 376 10 = d) (h398 : N 398 (10 * p + k) = res) (h1 : F69 f A gr ((d : Int) + 1) M = some (r, M')) (hw : (w = 0 ∧ b = 0) ∨ (w = 1 ∧ b = 1)) (h2 : (if F117 123 N = 0 then J131_43 g w (x : Int) N else if N 376 10 < 3 then J131_44 g w (x : Int) 1 N else J131_43 g w (x : Int) N) = some n1) (hL : ML g G n1 = some rr) :
    (r = 0 ∧ ∃ mm' : yM, rr = Sum.inl ((), mm') ∧ Flt M' mm' ∧ FrC A M M' ∧ FrM p N mm') ∨ (d < 3 ∧ ∃ N3 : yM, (∀ q c, ¬ (q = 376 ∧ 3 ≤ c ∧ c ≤ 7) → N3 q c = yup (yup (emM p o k (9 + b) x 0 0 (yup N 378 d (1 + 2 * b))) 379 d o) 376 10 ((d : Int) + 1) q c) ∧ BO tx len n en tk tp tn A p k res (s + 1) (o + 1) a (d + 1) (yup M 2 2 ((j : Int) + 1)) N3 g rr r M') := by
  obtain ⟨c1, c2, c3, c4, c5, c6, c7, c8, c9, c10, c11, c12, c13⟩ := hX
  have hj := c3.le T hl
  have hk := c4.1.2.1
  have hbad : ∀ {n2 : yM}, J131_43 g w (x : Int) N = some n2 → n2 = yup N 376 8 (tp j) := by
    intro n2 e
    unfold J131_43 J131_44 at e
    replace e := bI_e e
    obtain ⟨r1, m1, e1, e⟩ := e
    rcases c3.goOn T hl (fun z => absurd rfl z) e1 with ⟨z, -⟩ | ⟨-, rfl, rfl⟩
    · exact absurd rfl z
    · rw [if_pos rfl] at e
      cases e
      rfl
  have hflt : J131_43 g w (x : Int) N = some n1 → (tk j ≠ 123 ∨ (3 : Int) < (d : Int) + 1) → (r = 0 ∧ ∃ mm' : yM, rr = Sum.inl ((), mm') ∧ Flt M' mm' ∧ FrC A M M' ∧ FrM p N mm') := by
    intro e z
    have e' := hbad e
    subst e'
    obtain ⟨rfl, rfl⟩ := F69_no (by omega) c2 z h1
    exact ⟨rfl, _, ML.w hL (by rw [yup_eq]; exact c3.tp0 T), Flt.mk (c3.tp0 T), FrC.rf.u2, FrM.rf.w8⟩
  rw [c3.2.2.2.2.mark T (by unfold sgn; omega), h10] at h2
  by_cases ht : tk j = 123
  · rw [if_pos ht, if_neg (by decide)] at h2
    rcases ite1 h2 with ⟨q, h2⟩ | ⟨q, h2⟩
    · refine Or.inr ⟨by omega, ?_⟩
      unfold J131_44 at h2
      replace h2 := bI_e h2
      obtain ⟨r1, n2, e1, h2⟩ := h2
      rcases c3.goOn T hl (fun z => by omega) e1 with ⟨-, rfl, hM2, f2⟩ | ⟨z, -⟩
      · rw [if_neg (by decide)] at h2
        have g10 : n2 376 10 = d := by rw [f2 _ _ (by omega)]; exact h10
        have key : ∀ (b' : Int), J131_89 g (x : Int) (n2 376 10) (9 + b') (yup n2 378 (n2 376 10).toNat (1 + 2 * b')) = some n1 → n1 = yup (yup (emM p o k (9 + b') x 0 0 (yup n2 378 d (1 + 2 * b'))) 379 d o) 376 10 ((d : Int) + 1) := by
          intro b' e
          rw [g10, Int.toNat_natCast] at e
          unfold J131_89 at e
          replace e := bI_e e
          obtain ⟨r3, n3, e3, e⟩ := e
          obtain ⟨rfl, rfl⟩ := F127_r (p := p) (o := o) (k := k) hp (by rw [yup_na (by decide)]; exact hM2.2.2.1) (by rw [yup_na (by decide), f2 _ _ (by omega)]; exact c4.2.2.1) (by omega) (by rw [yup_na (by decide), f2 _ _ (by omega)]; exact c4.2.2.2.2) hk e3
          rw [em_o (a := 376) (by omega) (by omega), yup_na (by decide), g10, wr_i (by omega) (by omega), Int.toNat_natCast] at e
          cases e
          rfl
        have e5 : n1 = yup (yup (emM p o k (9 + b) x 0 0 (yup n2 378 d (1 + 2 * b))) 379 d o) 376 10 ((d : Int) + 1) := by
          rcases hw with ⟨rfl, rfl⟩ | ⟨rfl, rfl⟩
          · rw [if_pos rfl] at h2
            unfold J131_68 at h2
            rw [if_pos rfl] at h2
            refine key 0 ?_
            exact h2
          · rw [if_neg (by decide)] at h2
            unfold J131_68 at h2
            rw [if_neg (by decide)] at h2
            refine key 1 ?_
            exact h2
        have o1 : ∀ q c, ¬ (q = 376 ∧ c = 10) → ¬ (q = 379 ∧ c = d) → ¬ (q = 378 ∧ c = d) → ¬ (q = 403 ∧ 1000 * p + 8 * o ≤ c ∧ c < 1000 * p + 8 * o + 5) → ¬ (q = 390 ∧ c = p) → n1 q c = n2 q c := fun q c z1 z2 z3 z4 z5 => by
          rw [e5, yup_ne z1, yup_ne z2, em_o z4 z5, yup_ne z3]
        have o2 : ∀ q c, ¬ (q = 376 ∧ 3 ≤ c ∧ c ≤ 7) → n1 q c = yup (yup (emM p o k (9 + b) x 0 0 (yup N 378 d (1 + 2 * b))) 379 d o) 376 10 ((d : Int) + 1) q c := by
          intro q c z
          rw [e5]
          have : ∀ q c, ¬ (q = 376 ∧ 3 ≤ c ∧ c ≤ 7) → yup n2 378 d (1 + 2 * b) q c = yup N 378 d (1 + 2 * b) q c := fun q c z => by
            unfold yup
            split
            · rfl
            · exact f2 q c z
          have t2 : ∀ (y1 y2 : yM) (q c : Nat) (u : Nat) (v : Nat) (t : Int), (y1 q c = y2 q c) → yup y1 u v t q c = yup y2 u v t q c := fun y1 y2 q c u v t e => by
            unfold yup
            split
            · rfl
            · exact e
          unfold emM
          exact t2 _ _ _ _ _ _ _ (t2 _ _ _ _ _ _ _ (t2 _ _ _ _ _ _ _ (t2 _ _ _ _ _ _ _ (t2 _ _ _ _ _ _ _ (t2 _ _ _ _ _ _ _ (t2 _ _ _ _ _ _ _ (t2 _ _ _ _ _ _ _ (this q c z))))))))
        refine ⟨n1, o2, ?_⟩
        refine hB (s + 1) (o + 1) a (d + 1) j G r M n1 M' rr (by omega) c2 ht ?_ (by rw [Int.natCast_add]; exact h1) hL
        have B1 : rBd A p k res (o + 1) a (yup M 2 2 ((j : Int) + 1)) n1 := by
          have B0 : rBd A p k res o a (yup M 2 2 ((j : Int) + 1)) (yup n2 378 d (1 + 2 * b)) := c4.fr hA (fun q q1 q2 => yup_na (by omega)) (yup_na (by omega)) (fun q => yup_na (by omega)) (fun b q hb => by rw [yup_na (by omega), f2 _ _ (by omega)])
          have B2 := B0.em (x1 := 9 + b) (x2 := x) (x3 := 0) (x4 := 0)
          rw [e5]
          exact B2.fr hA (fun q q1 q2 => rfl) rfl (fun q => rfl) (fun b q hb => by rw [yup_ne (by omega), yup_ne (by omega)])
        refine ⟨c2.at (by rw [yup_eq]; omega) (fun q c hq => yup_na (by omega)), hM2.fr (fun q hq => o1 _ _ (by omega) (by omega) (by omega) (by omega) (by omega)) (fun q => o1 _ _ (by omega) (by omega) (by omega) (by omega) (by omega)), B1, ?_, ?_, ?_, ?_, by omega, by omega, by omega⟩
        · rw [yup_na (by omega), h16]; omega
        · rw [o1 _ _ (by omega) (by omega) (by omega) (by omega) (by omega), f2 _ _ (by omega), h9]; omega
        · rw [e5, yup_eq]; omega
        · rw [o1 _ _ (by omega) (by omega) (by omega) (by omega) (by omega), f2 _ _ (by omega), h398]
      · exact absurd z (by decide)
    · exact Or.inl (hflt h2 (by omega))
  · rw [if_neg ht, if_pos rfl] at h2
    exact Or.inl (hflt h2 (Or.inl ht))
end BR

section
/-! THE RUN: statements, lists of statements -/
section UI
variable {G : Nat → Prop} {A p f g s o d t z u k q gr : Nat} {mc mm mc' mm' mc0 mm0 mc1 mm1 n n1 : yM} {rr : (Unit × yM) ⊕ (Int × yM)}
theorem bT_id {x : Option ((Int ⊕ Nat) × yM)} {y : (Int ⊕ Nat) × yM} (h : bT x (fun r m => some ((.inl r : Int ⊕ Nat), m)) (fun e m => some ((.inr e : Int ⊕ Nat), m)) = some y) : x = some y := by
  rcases bT_e h with ⟨r, m, e1, e2⟩ | ⟨r, m, e1, e2⟩
  · injection e2 with e2
    rw [e1, e2]
  · injection e2 with e2
    rw [e1, e2]
theorem uS.err2 (h : uS G mc0 mm0 d mc mm) : uX mc0 mm0 10 mc (yup (yup mm 376 56 201) 376 57 4) := ⟨by decide, by rw [yup_eq]; rfl, fun v j hv hj => by rw [yup_na (by omega), yup_na (by omega)]; exact h.1.2.2.2.2 v j hv hj, h.2.2.1, (h.2.2.2.1.up (by omega)).up (by omega)⟩
/-- a step is counted on both sides, or none is left -/
theorem count_u {κ : Int} {H : Nat} {zz : (Unit ⊕ Nat) × yM} (hp : p ≤ 1) (hu : u ≤ 120) (h : uS G mc0 mm0 d mc mm) (h18 : mm0 376 18 = p) (h55 : mm 376 55 = u) (hκ : mm0 403 (1000 * p + 8 * u) = κ) (k11 : κ < 11) (e : F189 f mc = some zz) (hL : UL g H mm = some rr) : (zz = (.inr 10, mc) ∧ ∃ mm', rr = .inl ((), mm') ∧ uX mc0 mm0 10 mc mm') ∨ (zz = (.inl (), yup mc 169 6 (mc 169 6 + 1)) ∧ ∃ H' n n1, uS G mc0 mm0 d (yup mc 169 6 (mc 169 6 + 1)) n ∧ n 376 55 = u ∧ (∀ y, n 412 y = mm 412 y) ∧ ¬ 200 < n 376 56 ∧ J210_40 g ((1000 * p + 8 * u : Nat) : Int) κ n = some n1 ∧ UL g H' n1 = some rr) := by
  obtain ⟨H', m1, e1, hL'⟩ := UL.step hL h.2.2.2.2.2 (by rw [h.2.2.2.2.1]; omega)
  have h6 := h.1.2.1
  rcases mopC hp hu h h18 h55 hκ k11 e1 with ⟨w1, w2⟩ | ⟨w1, w2, w3⟩
  · rcases F189_r h6.2 e with ⟨-, v⟩ | ⟨v0, -⟩
    · left
      have X := h.err2
      rw [← w2] at X
      exact ⟨v, m1, UL.stop hL' (Or.inl X.ex), X⟩
    · omega
  · rcases F189_r h6.2 e with ⟨v0, -⟩ | ⟨v0, v⟩
    · omega
    · exact Or.inr ⟨v, H', _, m1, h.cnt v0, by rw [yup_nk (by decide)]; exact h55, fun y => yup_na (by decide), w3, w2, hL'⟩
/-- return -/
theorem return_u {H : Nat} {res : Int ⊕ Nat} (hA : A = 256 ∨ A = 316) (hp : p ≤ 1) (hd : d < 4) (hu : u ≤ 120) (h18 : mm0 376 18 = p) (hZ : OPZ A p t (1000 * p + 8 * u) mc0 mm0) (hk2 : mc0 (A + 20 + t) 0 = 2) (hown : mc0 (A + 20 + t) 1 = k) (hz : mm0 398 (10 * p + k) = z) (z48 : z < 48) (h : uS G mc0 mm0 d mc n) (e1 : bU (F188_48 f (252 + d) (mc (A + 20 + t) 2) (mc (252 + d) (mc (A + 20 + t) 3).toNat) mc) (fun m' => some ((.inl 1 : Int ⊕ Nat), m')) = some (res, mc')) (e2 : F204 g (n 403 (wr (((1000 * p + 8 * u : Nat) : Int) + 1)).toNat) (F205 (n 403 (wr (((1000 * p + 8 * u : Nat) : Int) + 2)).toNat) n) n = some n1) (hL : UL g H n1 = some rr) : uO G mc0 mm0 g d z o mc n rr res mc' := by
  have S := fun y => h.S (t := t) hA y
  have hb : 1000 * p + 8 * u ≤ 2000 := by omega
  obtain ⟨⟨w1, w2, w3⟩, hZ⟩ := hZ
  have hZ' : mm0 403 (1000 * p + 8 * u + 2) = mc0 (A + 20 + t) 3 ∧ vB (mc0 A 15) (mc0 (A + 20 + t) 3) ∧ mc0 (A + 20 + t) 2 = mm0 398 (10 * p + (mc0 (A + 20 + t) 1).toNat) := by
    rcases hZ with hZ | hZ | hZ | hZ | hZ | hZ | hZ | hZ
    case inl => exact ⟨hZ.2.2.1, hZ.2.2.2.1, hZ.2.2.2.2.1⟩
    all_goals (have := hZ.1; omega)
  obtain ⟨g3, g4, g5⟩ := hZ'
  rw [hown, Int.toNat_natCast, hz] at g5
  obtain ⟨v3, hv3, l3, -⟩ := g4.nat
  rw [hown] at w1 w3
  have vr := h.vr l3
  obtain ⟨val, hval⟩ : ∃ val, mc (252 + d) v3 = val := ⟨_, rfl⟩
  rw [hval] at vr
  rw [S 2, S 3, hv3, Int.toNat_natCast, g5, hval] at e1
  rw [show ((1000 * p + 8 * u : Nat) : Int) + 1 = ((1000 * p + 8 * u : Nat) : Int) + ((1 : Nat) : Int) by rfl, show ((1000 * p + 8 * u : Nat) : Int) + 2 = ((1000 * p + 8 * u : Nat) : Int) + ((2 : Nat) : Int) by rfl, h.b403 hb (by decide), h.b403 hb (by decide), w1, g3, hv3, h.f205 hd l3, hval] at e2
  have k18 : n 376 18 = p := by rw [h.2.2.2.1 376 18 (by decide) (by omega)]; exact h18
  unfold F204 at e2
  rw [k18, ixp10 hp (by omega), h.2.2.2.1 398 _ (by decide) (by omega), hz] at e2
  replace e1 := bU_e e1
  obtain ⟨m1, e3, e1⟩ := e1
  injection e1 with e1
  injection e1 with e1 e1'
  subst e1'
  unfold F188_48 at e3
  rw [Int.toNat_natCast] at e3
  right
  right
  refine ⟨e1.symm, ?_⟩
  by_cases w : val = -1
  · rw [if_pos w] at e3
    rw [if_neg (by omega)] at e2
    injection e3 with e3
    subst e3
    refine ⟨H, n, n1, by rw [yup_eq]; exact e2, hL, h.1.fr (fun a y ha => yup_na (by omega)) (fun _ _ _ => rfl), (h.2.1.mono (by omega)).fr (fun x v hx => yup_na (by omega)) (by rw [yup_na (by omega)]; omega) (fun _ => rfl), h.2.2.1.up (by omega), h.2.2.2.1, h.2.2.2.2.1, h.2.2.2.2.2, fun _ _ => rfl, by rw [yup_na (by omega)]; omega, by rw [yup_eq]; omega, by rw [yup_eq, yup_na (by omega)]; exact vr.2, fun x v hx => yup_na (by omega)⟩
  · obtain ⟨i, hi⟩ : ∃ i : Nat, val = i := ⟨val.toNat, by omega⟩
    obtain ⟨s1, x, s2, s3, s4⟩ := h.1.2.2.1 i (by omega)
    have k30 := h.1.1.2.2
    have ws : wr ((i : Int) + 1 - 1) = i := by rw [wr_i (by omega) (by omega)]; omega
    rw [if_neg w, if_pos (by omega), hi, Int.toNat_natCast, s2, Int.toNat_natCast] at e3
    rw [if_pos (by omega), hi, ws, Int.toNat_natCast, ← s1, s2, ix12 z48 (by omega)] at e2
    injection e3 with e3
    subst e3
    have q1 : uB G (yup mc (252 + d) z (i : Int)) n := h.1.fr (fun a y ha => yup_na (by omega)) (fun _ _ _ => rfl)
    rw [hi] at vr
    refine ⟨H, _, n1, by rw [yup_na (by omega), yup_eq]; exact e2, hL, q1.seen z48 s3, (h.2.1.mono (by omega)).fr (fun x v hx => by rw [yup_na (by omega), yup_na (by omega)]) (by rw [yup_na (by omega), yup_na (by omega)]; omega) (fun _ => yup_na (by decide)), (h.2.2.1.up (by omega)).up (by omega), h.2.2.2.1.up (by omega), by rw [yup_na (by decide)]; exact h.2.2.2.2.1, by rw [yup_na (by decide)]; exact h.2.2.2.2.2, fun _ _ => yup_na (by decide), by rw [yup_na (by omega), yup_na (by omega)]; omega, by rw [yup_na (by omega), yup_eq]; omega, by rw [yup_na (by omega), yup_eq, yup_na (by omega), yup_na (by omega)]; exact vr.2, fun x v hx => by rw [yup_na (by omega), yup_na (by omega)]⟩
/-- while: the class has counted, the model stands behind its count -/
theorem while_u {s2 o3 fu : Nat} (hA : A = 256 ∨ A = 316) (hp : p ≤ 1) (hd : d < 4) (ht : t < 40) (h18 : mm0 376 18 = p) (hSL : uSL G mc0 mm0 A p s f g gr) (g1 : BRH A p t u 1 10 mc0 mm0) (g3 : mc0 (A + 20 + t) 11 = s2) (g4 : mm0 403 (1000 * p + 8 * u + 3) = ((o3 + 1 : Nat) : Int)) (g5 : mm0 403 (1000 * p + 8 * o3) = 11) (g6 : mm0 403 (1000 * p + 8 * o3 + 3) = u) (g7 : SGZ A p mc0 mm0 fu (t + 1) s2 (u + 1) o3) (hs2 : s2 ≤ s) (ho3 : o3 < 120) (hu : u ≤ 120) (hown : ∀ t' : Nat, t + 1 ≤ t' → t' < s2 → mc0 (A + 20 + t') 1 = k ∧ (4 ≤ mc0 (A + 20 + t') 0 → mc0 (A + 20 + t') 2 = -1 ∨ (z : Int) < mc0 (A + 20 + t') 2)) (hz : mc0 (A + 10 + k) 2 = z) (z48 : z < 48) (hz2 : mm0 398 (10 * p + k) = z) : ∀ (F H : Nat) (x4 : Int) (mc n n1 mc' : yM) (res : Int ⊕ Nat), uS G mc0 mm0 d mc n → n 376 55 = u → 0 ≤ x4 → x4 < mc 169 6 → J210_146 g ((1000 * p + 8 * u : Nat) : Int) n = some n1 → UL g H n1 = some rr → bL (yloop (fun (l : Int) ml => B190_13 f (F197 f A gr) A (t : Int) (d : Int) (A + 20 + t) l ml) F x4 mc) (fun _ m => some ((.inl 0 : Int ⊕ Nat), m)) (fun r mr => some (r, mr)) = some (res, mc') → uO G mc0 mm0 g d z (o3 + 1) mc n rr res mc' := by
  obtain ⟨b0, b1, b2, b3, b4, b5, b6⟩ := g1
  obtain ⟨v, hv⟩ : ∃ v : Nat, mc0 (A + 20 + t) 3 = v := ⟨(mc0 (A + 20 + t) 3).toNat, by have := b6.1; omega⟩
  have l3 : v < 48 := by have := b6.2; omega
  intro F
  induction F with
  | zero => intro H x4 mc n n1 mc' res h h55 p1 p2 e2 hL e1; cases e1
  | succ F ih =>
    intro H x4 mc n n1 mc' res h h55 p1 p2 e2 hL e1
    have S := fun y => h.S (t := t) hA y
    have h6 := h.1.2.1
    have B := br146 hd (by omega) h (by rw [b5]; exact hv) l3 g4 h55 hu e2
    -- one turn of the class
    have K : ∀ y, B190_13 f (F197 f A gr) A (t : Int) (d : Int) (A + 20 + t) x4 mc = some y → (mc (252 + d) v = -1 ∧ y = .inr (.inl (x4, mc))) ∨ (mc (252 + d) v ≠ -1 ∧ ∃ r m9, F197 f A gr ((t + 1 : Nat) : Int) (s2 : Int) (d : Int) mc = some (r, m9) ∧ ((∃ e, r = .inr e ∧ y = .inr (.inr (.inr e, m9))) ∨ (∃ i, r = .inl i ∧ i ≠ 0 ∧ y = .inr (.inr (.inl 1, m9))) ∨ (r = .inl 0 ∧ ∃ w m10, F189 f m9 = some (w, m10) ∧ ((∃ e, w = .inr e ∧ y = .inr (.inr (.inr e, m10))) ∨ (w = .inl () ∧ y = .inl (wr (x4 + 1), m10)))))) := by
      intro y e
      unfold B190_13 at e
      rw [if_neg (by omega), if_pos (by omega), Int.toNat_natCast, S 3, S 11, hv, Int.toNat_natCast, g3, k1w (by omega)] at e
      rcases ite1 e with ⟨q, e⟩ | ⟨q, e⟩
      · injection e with e
        exact Or.inl ⟨q, e.symm⟩
      · refine Or.inr ⟨q, ?_⟩
        rcases bT_e e with ⟨i, m9, c1, c2⟩ | ⟨e', m9, c1, c2⟩
        · refine ⟨_, m9, c1, Or.inr ?_⟩
          rcases ite1 c2 with ⟨q2, c2⟩ | ⟨q2, c2⟩
          · refine Or.inr ⟨by rw [q2], ?_⟩
            rcases bT_e c2 with ⟨w, m10, c3, c4⟩ | ⟨w, m10, c3, c4⟩
            · injection c4 with c4
              exact ⟨_, m10, c3, Or.inr ⟨rfl, c4.symm⟩⟩
            · injection c4 with c4
              exact ⟨_, m10, c3, Or.inl ⟨w, rfl, c4.symm⟩⟩
          · injection c2 with c2
            exact Or.inl ⟨i, rfl, q2, c2.symm⟩
        · injection c2 with c2
          exact ⟨_, m9, c1, Or.inl ⟨e', rfl, c2.symm⟩⟩
    -- the body
    have run : ∀ {r : Int ⊕ Nat} {m9 : yM}, mc (252 + d) v ≠ -1 → F197 f A gr ((t + 1 : Nat) : Int) (s2 : Int) (d : Int) mc = some (r, m9) → uO G mc0 mm0 g d z o3 mc n rr r m9 := by
      intro r m9 q e
      rcases B with ⟨q', -⟩ | ⟨-, hn1⟩
      · exact absurd q' q
      · have := hSL fu (t + 1) s2 (u + 1) o3 d k z H mc n1 m9 r rr g7 hs2 (by omega) hown hz z48 hz2 hd (by rw [hn1]; exact h.pc) (by rw [hn1, yup_eq]) e hL
        exact uO.seq (Int.le_refl _) rfl (fun y _ => by rw [hn1, yup_na (by decide)]) (fun _ _ _ => rfl) this
    -- the end of a turn
    have fin : ∀ {y : (Int × yM) ⊕ ((Int × yM) ⊕ ((Int ⊕ Nat) × yM))}, B190_13 f (F197 f A gr) A (t : Int) (d : Int) (A + 20 + t) x4 mc = some y → (∀ l m, y = .inl (l, m) → bL (yloop (fun (l : Int) ml => B190_13 f (F197 f A gr) A (t : Int) (d : Int) (A + 20 + t) l ml) F l m) (fun _ m => some ((.inl 0 : Int ⊕ Nat), m)) (fun r mr => some (r, mr)) = some (res, mc')) ∧ (∀ l m, y = .inr (.inl (l, m)) → res = .inl 0 ∧ mc' = m) ∧ (∀ w m, y = .inr (.inr (w, m)) → res = w ∧ mc' = m) := by
      intro y e
      unfold yloop at e1
      simp only [e] at e1
      refine ⟨fun l m w => ?_, fun l m w => ?_, fun q m w => ?_⟩
      · subst w; exact e1
      · subst w
        cases e1
        exact ⟨rfl, rfl⟩
      · subst w
        cases e1
        exact ⟨rfl, rfl⟩
    obtain ⟨y, ey⟩ : ∃ y, B190_13 f (F197 f A gr) A (t : Int) (d : Int) (A + 20 + t) x4 mc = some y := by
      unfold yloop at e1
      cases e : B190_13 f (F197 f A gr) A (t : Int) (d : Int) (A + 20 + t) x4 mc with
      | none => simp only [e] at e1; cases e1
      | some y => exact ⟨y, rfl⟩
    obtain ⟨fin1, fin2, fin3⟩ := fin ey
    rcases K y ey with ⟨q, hy⟩ | ⟨q, r, m9, c1, hy⟩
    · obtain ⟨r1, r2⟩ := fin2 _ _ hy
      rcases B with ⟨-, hn1⟩ | ⟨q', -⟩
      · rw [r1, r2]
        exact Or.inr (Or.inl ⟨rfl, H, n1, hL, by rw [hn1]; exact h.pc, by rw [hn1, yup_eq], fun y _ => by rw [hn1, yup_na (by decide)], Int.le_refl _, rfl, fun _ _ _ => rfl⟩)
      · exact absurd q q'
    · have O := run q c1
      rcases hy with ⟨e, hr, hy⟩ | ⟨i, hr, hi, hy⟩ | ⟨hr, w, m10, c2, hy⟩
      · obtain ⟨r1, r2⟩ := fin3 _ _ hy
        rw [r1, r2]
        rcases O with ⟨e', mx, z1, z2, z3⟩ | ⟨z1, -⟩ | ⟨z1, -⟩
        · rw [← hr]; exact Or.inl ⟨e', mx, z1, z2, z3⟩
        · rw [hr] at z1; cases z1
        · rw [hr] at z1; cases z1
      · obtain ⟨r1, r2⟩ := fin3 _ _ hy
        rw [r1, r2]
        rcases O with ⟨e', mx, z1, -⟩ | ⟨z1, -⟩ | ⟨z1, z2⟩
        · rw [hr] at z1; cases z1
        · rw [hr] at z1
          injection z1 with z1
          exact absurd z1 hi
        · exact Or.inr (Or.inr ⟨rfl, z2⟩)
      · rcases O with ⟨e', mx, z1, -⟩ | ⟨-, H', mx, z2, z3, z4, z5, z6, z7, z8⟩ | ⟨z1, -⟩
        · rw [hr] at z1; cases z1
        · obtain ⟨H2, my, z9, z10⟩ := UL.step z2 z3.2.2.2.2.2 (by rw [z3.2.2.2.2.1]; omega)
          have z11 := mop11 hp (by omega) z3 h18 z4 g5 z9
          rw [g6] at z11
          have z12 : uS G mc0 mm0 d m9 my := by rw [z11]; exact z3.pc
          have z13 : my 376 55 = u := by rw [z11, yup_eq]
          have z14 : ∀ y, my 412 y = mx 412 y := fun y => by rw [z11, yup_na (by decide)]
          rcases count_u hp hu z12 h18 z13 b1 (by decide) c2 z10 with ⟨w1, mz, w2, w3⟩ | ⟨w1, H3, n5, n6, w2, w3, w4, w5, w6, w7⟩
          · injection w1 with w1 w1'
            rcases hy with ⟨e, hw, hy⟩ | ⟨hw, -⟩
            · obtain ⟨r1, r2⟩ := fin3 _ _ hy
              rw [hw] at w1
              injection w1 with w1
              rw [r1, r2, w1, w1']
              exact Or.inl ⟨10, mz, rfl, w2, w3⟩
            · rw [hw] at w1; cases w1
          · injection w1 with w1 w1'
            rcases hy with ⟨e, hw, -⟩ | ⟨-, hy⟩
            · rw [hw] at w1; cases w1
            · have e3 := fin1 _ _ hy
              rw [w1', wr_i (by omega) (by omega)] at e3
              have h6' := z3.1.2.1
              have O2 := ih H3 (x4 + 1) _ n5 n6 mc' res w2 w3 (by omega) (by rw [yup_eq]; omega) (mop9 w5 (Or.inr rfl) w6) w7 e3
              refine uO.seq ?_ ?_ ?_ ?_ O2
              · rw [yup_eq]; omega
              · rw [yup_na (by omega)]; exact z7
              · intro y hy; rw [w4 y, z14 y]; exact z5 y hy
              · intro x v' hx; rw [yup_na (by omega)]; exact z8 x v' hx
        · rw [hr] at z1; cases z1
end UI
end
section
/-! THE RUN: every statement, every list -/
section UJ
variable {G : Nat → Prop} {A p f g s o d t z u k q gr : Nat} {mc mm mc' mm' mc0 mm0 mc1 mm1 n n1 : yM} {rr : (Unit × yM) ⊕ (Int × yM)}
/-- how the statement t lies at the op u: what stands behind it is s2, o2 -/
def SGS (A p fu t s2 u o2 : Nat) (mc mm : yM) : Prop := (s2 = t + 1 ∧ o2 = u + 1 ∧ OPZ A p t (1000 * p + 8 * u) mc mm) ∨ (BRH A p t u 1 10 mc mm ∧ ∃ o3 : Nat, o2 = o3 + 1 ∧ u < o3 ∧ mc (A + 20 + t) 11 = s2 ∧ mm 403 (1000 * p + 8 * u + 3) = o2 ∧ mm 403 (1000 * p + 8 * o3) = 11 ∧ mm 403 (1000 * p + 8 * o3 + 3) = u ∧ SGZ A p mc mm fu (t + 1) s2 (u + 1) o3) ∨ (BRH A p t u 0 9 mc mm ∧ mc (A + 20 + t) 11 = s2 ∧ mm 403 (1000 * p + 8 * u + 3) = o2 ∧ SGZ A p mc mm fu (t + 1) s2 (u + 1) o2) ∨ (BRH A p t u 0 9 mc mm ∧ ∃ s3 o3 : Nat, t < s3 ∧ s3 ≤ s2 ∧ u < o3 ∧ o3 < o2 ∧ mc (A + 20 + t) 11 = s3 ∧ mm 403 (1000 * p + 8 * u + 3) = (o3 : Int) + 1 ∧ mm 403 (1000 * p + 8 * o3) = 11 ∧ mm 403 (1000 * p + 8 * o3 + 3) = o2 ∧ SGZ A p mc mm fu (t + 1) s3 (u + 1) o3 ∧ SGZ A p mc mm fu s3 s2 (o3 + 1) o2)
theorem stmt_u {s2 o2 fu H : Nat} {res : Int ⊕ Nat} (hA : A = 256 ∨ A = 316) (hp : p ≤ 1) (hd : d < 4) (ht : t < 40) (hu : u < 120) (hR : RPG A p s o mc0 mm0) (hG : ∀ k, G k → mc0 (A + 8) k = mm0 400 (12 * p + k) ∧ 0 ≤ mc0 (A + 8) k ∧ mc0 (A + 8) k < mc0 A 9) (hgn : ∀ t : Nat, t < s → mc0 (A + 20 + t) 0 = 5 → ∀ x : Nat, mc0 (A + 20 + t) 6 = x → x < 12 ∧ G x) (hts : t < s) (h18 : mm0 376 18 = p) (hSL : uSL G mc0 mm0 A p s f g gr) (h12 : mc0 (A + 20 + t) 12 = s2) (h9 : SGS A p fu t s2 u o2 mc0 mm0) (hs2 : s2 ≤ s) (ho2 : o2 ≤ 120) (hown : ∀ t' : Nat, t ≤ t' → t' < s2 → mc0 (A + 20 + t') 1 = k ∧ (4 ≤ mc0 (A + 20 + t') 0 → mc0 (A + 20 + t') 2 = -1 ∨ (z : Int) < mc0 (A + 20 + t') 2)) (hlt : t < s2) (hz : mc0 (A + 10 + k) 2 = z) (z48 : z < 48) (hz2 : mm0 398 (10 * p + k) = z) (h : uS G mc0 mm0 d mc mm) (h55 : mm 376 55 = u) (e1 : F196 f (F197 f A gr) A (t : Int) (d : Int) mc = some (res, mc')) (hL : UL g H mm = some rr) : uO G mc0 mm0 g d z o2 mc mm rr res mc' := by
  have hkk : ∃ κ, mm0 403 (1000 * p + 8 * u) = κ ∧ κ < 11 := by
    rcases h9 with ⟨-, -, hZ⟩ | ⟨hZ, -⟩ | ⟨hZ, -⟩ | ⟨hZ, -⟩
    · obtain ⟨-, hZ⟩ := hZ
      rcases hZ with hZ | hZ | hZ | hZ | hZ | hZ | hZ | hZ <;> exact ⟨_, hZ.2.1, by decide⟩
    · exact ⟨_, hZ.2.1, by decide⟩
    · exact ⟨_, hZ.2.1, by decide⟩
    · exact ⟨_, hZ.2.1, by decide⟩
  obtain ⟨κ, hκ, k11⟩ := hkk
  unfold F196 at e1
  rcases bT_e e1 with ⟨w, m1, c1, c2⟩ | ⟨w, m1, c1, c2⟩
  case inr =>
    rcases count_u hp (by omega) h h18 h55 hκ k11 c1 hL with ⟨w1, mz, w2, w3⟩ | ⟨w1, -⟩
    · injection w1 with w1 w1'
      injection w1 with w1
      injection c2 with c2
      injection c2 with c2 c2'
      rw [← c2, ← c2', w1, w1']
      exact Or.inl ⟨10, mz, rfl, w2, w3⟩
    · cases w1
  rcases count_u hp (by omega) h h18 h55 hκ k11 c1 hL with ⟨w1, -⟩ | ⟨w1, H', n, n1, hn, n55, n412, n56, hJ, hL'⟩
  · cases w1
  injection w1 with w1 w1'
  have h6 := h.1.2.1
  have b6 : mc 169 6 ≤ m1 169 6 := by rw [w1', yup_eq]; omega
  have bz : ∀ x y, m1 (252 + x) y = mc (252 + x) y := fun x y => by rw [w1', yup_na (by omega)]
  rw [← w1'] at hn
  have seq : uO G mc0 mm0 g d z o2 m1 n rr res mc' → uO G mc0 mm0 g d z o2 mc mm rr res mc' := fun O => uO.seq b6 (bz d z) (fun y _ => n412 y) (fun x v _ => bz x v) O
  refine seq ?_
  clear seq e1
  have S := fun y => hn.S (t := t) hA y
  rw [if_pos (by omega), if_pos (by omega), Int.toNat_natCast, Int.toNat_natCast, S 0] at c2
  have hb : 1000 * p + 8 * u ≤ 2000 := by omega
  -- an op that goes on to the next one
  have next : ∀ {m3 n3 n2 : yM}, res = .inl 0 → mc' = m3 → uS G mc0 mm0 d m3 n2 → uK A t d mc0 m1 n m3 n2 → n3 = yup n2 376 55 (wr (n2 376 55 + 1)) → UL g H' n3 = some rr → o2 = u + 1 → (4 ≤ mc0 (A + 20 + t) 0 ∨ mc0 (A + 20 + t) 0 = 3) → (mc0 (A + 20 + t) 0 = 3 → ∀ b y, 252 ≤ b → m3 b y = m1 b y) → uO G mc0 mm0 g d z o2 m1 n rr res mc' := by
    intro m3 n3 n2 hr hm hs hk hn3 hl ho hk3 hst
    obtain ⟨q1, q2, q3, q4⟩ := hk
    rw [hr, hm]
    refine Or.inr (Or.inl ⟨rfl, H', n3, hl, by rw [hn3]; exact hs.pc, ?_, fun y _ => by rw [hn3, yup_na (by decide)]; exact q1 y, Int.le_of_eq q3.symm, ?_, fun x v hx => q4 _ _ (by omega) (by omega)⟩)
    · rw [hn3, yup_eq, q2, n55, k1w (by omega), ho]
    · rcases hk3 with hk3 | hk3
      · refine q4 _ _ (by omega) (fun w => ?_)
        rcases (hown t (by omega) hlt).2 hk3 with y | y
        · omega
        · omega
      · exact hst hk3 _ _ (by omega)
  rcases h9 with ⟨hs2', ho2', hZ⟩ | ⟨g1, o3, g2, g2', g3, g4, g5, g6, g7⟩ | ⟨g1, g2, g3, g4⟩ | ⟨g1, s3, o3, g2, g3, g4, g5, g8, g9, g10, g11, g12, g13⟩
  · -- simple
    have hZ0 := hZ
    have hkind : (mc0 (A + 20 + t) 0 = 2 ∧ κ = 6) ∨ (mc0 (A + 20 + t) 0 = 3 ∧ κ = 5) ∨ (mc0 (A + 20 + t) 0 = 4 ∧ κ = 7) ∨ (5 ≤ mc0 (A + 20 + t) 0 ∧ (κ = 1 ∨ κ = 8 ∨ κ = 3 ∨ κ = 2 ∨ κ = 4)) := by
      obtain ⟨-, hZ⟩ := hZ
      rcases hZ with hZ | hZ | hZ | hZ | hZ | hZ | hZ | hZ
      · have a1 := hZ.1; have a2 := hZ.2.1; omega
      · have a1 := hZ.1; have a2 := hZ.2.1; omega
      · have a1 := hZ.1; have a2 := hZ.2.1; omega
      · have a1 := hZ.1; have a2 := hZ.2.1; omega
      · have a1 := hZ.1; have a2 := hZ.2.1; omega
      · have a1 := hZ.1; have a2 := hZ.2.1; omega
      · have a1 := hZ.1; have a2 := hZ.2.1; omega
      · have a1 := hZ.1; have a2 := hZ.2.1; omega
    rcases hkind with ⟨k1, k2⟩ | ⟨k1, k2⟩ | ⟨k1, k2⟩ | ⟨k1, k2⟩
    · rw [if_neg (by omega), if_neg (by omega), if_pos k1] at c2
      rw [k2] at hJ
      exact return_u (o := o2) hA hp hd (by omega) h18 hZ0 k1 (hown t (by omega) hlt).1 hz2 z48 hn c2 (mop6 n56 hJ) hL'
    · rw [if_neg (by omega), if_neg (by omega), if_neg (by omega), if_pos k1] at c2
      obtain ⟨n2, j1, j2⟩ := mopV n56 (by omega) hJ
      rcases store_u hA hp hd hb hR hG h18 hZ0 k1 hn c2 j1 with ⟨e, r1, r2⟩ | ⟨r1, r2, r3, r4⟩
      · have X : uX mc0 mm0 e mc' n1 := by
          rw [j2]
          exact ⟨r2.1, by rw [yup_nk (by decide)]; exact r2.2.1, fun v j hv hj => by rw [yup_na (by decide)]; exact r2.2.2.1 v j hv hj, r2.2.2.2.1, r2.2.2.2.2.up (by omega)⟩
        exact Or.inl ⟨e, n1, r1, UL.stop hL' (Or.inl X.ex), X⟩
      · exact next r1 rfl r2 r3 j2 hL' ho2' (Or.inr k1) (fun _ => r4)
    · rw [if_neg (by omega), if_neg (by omega), if_neg (by omega), if_neg (by omega), if_pos k1] at c2
      rw [k2] at hJ
      have call := fun (rv : Unit ⊕ Nat) (mx : yM) (e : F193 f (F197 f A gr) A (A + 20 + t) (d : Int) m1 = some (rv, mx)) => call_u hA hp hd (by omega) ht hR hG h18 hZ0 k1 hSL hn n55 e (mop7 n56 hJ) hL'
      rcases bT_e c2 with ⟨r5, m5, c3, c4⟩ | ⟨r5, m5, c3, c4⟩
      · injection c4 with c4
        injection c4 with c4 c4'
        rcases call _ _ c3 with ⟨e, mx, z1, -⟩ | ⟨-, H5, mx, z2, z3, z4, z5, z6, z7, z8⟩
        · cases z1
        · rw [← c4, ← c4']
          refine Or.inr (Or.inl ⟨rfl, H5, mx, z2, z3, by rw [z4, ho2'], z5, z6, z7 z (fun w => ?_), z8⟩)
          rcases (hown t (by omega) hlt).2 (by omega) with y | y <;> omega
      · injection c4 with c4
        injection c4 with c4 c4'
        rcases call _ _ c3 with ⟨e, mx, z1, z2, z3⟩ | ⟨z1, -⟩
        · injection z1 with z1
          rw [← c4, ← c4', z1]
          exact Or.inl ⟨e, mx, rfl, z2, z3⟩
        · cases z1
    · rw [if_neg (by omega), if_neg (by omega), if_neg (by omega), if_neg (by omega), if_neg (by omega)] at c2
      obtain ⟨n2, j1, j2⟩ := mopV n56 (by omega) hJ
      rcases value_u hA hp hd hb hR hG (hgn t hts) h18 hZ0 k1 hn c2 j1 with ⟨e, r1, r2⟩ | ⟨r1, r2, r3⟩
      · have X : uX mc0 mm0 e mc' n1 := by
          rw [j2]
          exact ⟨r2.1, by rw [yup_nk (by decide)]; exact r2.2.1, fun v j hv hj => by rw [yup_na (by decide)]; exact r2.2.2.1 v j hv hj, r2.2.2.2.1, r2.2.2.2.2.up (by omega)⟩
        exact Or.inl ⟨e, n1, r1, UL.stop hL' (Or.inl X.ex), X⟩
      · exact next r1 rfl r2 r3 j2 hL' ho2' (Or.inl (by omega)) (fun w => by omega)
  · -- while
    have a1 := g1.1
    have a2 := g1.2.1
    rw [if_neg (by omega), if_pos a1] at c2
    have c3 := bT_id c2
    unfold F190 at c3
    rw [if_pos (by omega), Int.toNat_natCast] at c3
    have J := mop9 n56 (Or.inr (by omega)) hJ
    have h6' := hn.1.2.1
    rw [g2]
    rw [g2] at g4
    exact while_u hA hp hd ht h18 hSL g1 g3 g4 g5 g6 g7 hs2 (by omega) (by omega) (fun t' t1 t2 => hown t' (by omega) t2) hz z48 hz2 f H' 0 m1 n n1 mc' res hn n55 (by omega) (by rw [w1', yup_eq]; omega) J hL' c3
  · -- if
    have a1 := g1.1
    have a2 := g1.2.1
    have a5 := g1.2.2.2.2.2.1
    have a6 := g1.2.2.2.2.2.2
    obtain ⟨v, hv⟩ : ∃ v : Nat, mc0 (A + 20 + t) 3 = v := ⟨(mc0 (A + 20 + t) 3).toNat, by have := a6.1; omega⟩
    have l3 : v < 48 := by have := a6.2; omega
    have J := mop9 n56 (Or.inl (by omega)) hJ
    have B := br146 hd hb hn (by rw [a5]; exact hv) l3 g3 n55 (by omega) J
    rw [if_pos a1, S 3, S 11, S 12, hv, Int.toNat_natCast, g2, h12, k1w (by omega)] at c2
    rcases ite1 c2 with ⟨q, c2⟩ | ⟨q, c2⟩
    · rcases B with ⟨-, hn1⟩ | ⟨q', -⟩
      · have O := hSL 0 s2 s2 o2 o2 d k z H' m1 n1 mc' res rr ⟨rfl, rfl⟩ hs2 ho2 (fun t' t1 t2 => by omega) hz z48 hz2 hd (by rw [hn1]; exact hn.pc) (by rw [hn1, yup_eq]) (bT_id c2) hL'
        exact uO.seq (Int.le_refl _) rfl (fun y _ => by rw [hn1, yup_na (by decide)]) (fun _ _ _ => rfl) O
      · exact absurd q q'
    · rcases B with ⟨q', -⟩ | ⟨-, hn1⟩
      · exact absurd q' q
      · have O := hSL fu (t + 1) s2 (u + 1) o2 d k z H' m1 n1 mc' res rr g4 hs2 ho2 (fun t' t1 t2 => hown t' (by omega) t2) hz z48 hz2 hd (by rw [hn1]; exact hn.pc) (by rw [hn1, yup_eq]) (bT_id c2) hL'
        exact uO.seq (Int.le_refl _) rfl (fun y _ => by rw [hn1, yup_na (by decide)]) (fun _ _ _ => rfl) O
  · -- if and else
    have a1 := g1.1
    have a2 := g1.2.1
    have a5 := g1.2.2.2.2.2.1
    have a6 := g1.2.2.2.2.2.2
    obtain ⟨v, hv⟩ : ∃ v : Nat, mc0 (A + 20 + t) 3 = v := ⟨(mc0 (A + 20 + t) 3).toNat, by have := a6.1; omega⟩
    have l3 : v < 48 := by have := a6.2; omega
    have J := mop9 n56 (Or.inl (by omega)) hJ
    have B := br146 (w := o3 + 1) hd hb hn (by rw [a5]; exact hv) l3 (by omega) n55 (by omega) J
    rw [if_pos a1, S 3, S 11, S 12, hv, Int.toNat_natCast, g8, h12, k1w (by omega)] at c2
    rcases ite1 c2 with ⟨q, c2⟩ | ⟨q, c2⟩
    · rcases B with ⟨-, hn1⟩ | ⟨q', -⟩
      · have O := hSL fu s3 s2 (o3 + 1) o2 d k z H' m1 n1 mc' res rr g13 hs2 ho2 (fun t' t1 t2 => hown t' (by omega) t2) hz z48 hz2 hd (by rw [hn1]; exact hn.pc) (by rw [hn1, yup_eq]) (bT_id c2) hL'
        exact uO.seq (Int.le_refl _) rfl (fun y _ => by rw [hn1, yup_na (by decide)]) (fun _ _ _ => rfl) O
      · exact absurd q q'
    · rcases B with ⟨q', -⟩ | ⟨-, hn1⟩
      · exact absurd q' q
      · have O := hSL fu (t + 1) s3 (u + 1) o3 d k z H' m1 n1 mc' res rr g12 (by omega) (by omega) (fun t' t1 t2 => hown t' (by omega) (by omega)) hz z48 hz2 hd (by rw [hn1]; exact hn.pc) (by rw [hn1, yup_eq]) (bT_id c2) hL'
        refine uO.seq (mc1 := m1) (mm1 := n1) (Int.le_refl _) rfl (fun y _ => by rw [hn1, yup_na (by decide)]) (fun _ _ _ => rfl) ?_
        rcases O with O | ⟨z1, H5, mx, z2, z3, z4, z5, z6, z7, z8⟩ | O
        · exact Or.inl O
        · obtain ⟨H6, my, z9, z10⟩ := UL.step z2 z3.2.2.2.2.2 (by rw [z3.2.2.2.2.1]; omega)
          have z11 := mop11 hp (by omega) z3 h18 z4 g10 z9
          rw [g11] at z11
          exact Or.inr (Or.inl ⟨z1, H6, my, z10, by rw [z11]; exact z3.pc, by rw [z11, yup_eq], fun y hy => by rw [z11, yup_na (by decide)]; exact z5 y hy, z6, z7, z8⟩)
        · exact Or.inr (Or.inr O)
theorem SGZ.nil {f s0 o0 o1 : Nat} (h : SGZ A p mc mm f s0 s0 o0 o1) : o0 = o1 := by
  cases f with
  | zero => exact h.2
  | succ f =>
    rcases h with h | ⟨s2, o2, h1, h2, -⟩
    · exact h.2
    · omega
theorem SGZ.cons {f s0 s1 o0 o1 : Nat} (h : SGZ A p mc mm f s0 s1 o0 o1) (hlt : s0 < s1) : ∃ f' s2 o2 : Nat, s0 < s2 ∧ s2 ≤ s1 ∧ o0 < o2 ∧ o2 ≤ o1 ∧ mc (A + 20 + s0) 12 = s2 ∧ SGZ A p mc mm f' s2 s1 o2 o1 ∧ SGS A p f' s0 s2 o0 o2 mc mm := by
  cases f with
  | zero => have := h.1; omega
  | succ f =>
    rcases h with h | ⟨s2, o2, h1, h2, h3, h4, h7, h8, h9⟩
    · have := h.1; omega
    · exact ⟨f, s2, o2, h1, h2, h3, h4, h7, h8, h9⟩
/-- a list -/
theorem list_u (hA : A = 256 ∨ A = 316) (hp : p ≤ 1) (hR : RPG A p s o mc0 mm0) (hG : ∀ k, G k → mc0 (A + 8) k = mm0 400 (12 * p + k) ∧ 0 ≤ mc0 (A + 8) k ∧ mc0 (A + 8) k < mc0 A 9) (hgn : ∀ t : Nat, t < s → mc0 (A + 20 + t) 0 = 5 → ∀ x : Nat, mc0 (A + 20 + t) 6 = x → x < 12 ∧ G x) (h18 : mm0 376 18 = p) (hSL : uSL G mc0 mm0 A p s f g gr) {s1 o1 : Nat} (hs1 : s1 ≤ s) (ho1 : o1 ≤ 120) (hz : mc0 (A + 10 + k) 2 = z) (z48 : z < 48) (hz2 : mm0 398 (10 * p + k) = z) (hd : d < 4) : ∀ (F H fu s0 o0 : Nat) (x5 : Int) (mc mm mc' : yM) (res : Int ⊕ Nat), SGZ A p mc0 mm0 fu s0 s1 o0 o1 → (∀ t : Nat, s0 ≤ t → t < s1 → mc0 (A + 20 + t) 1 = k ∧ (4 ≤ mc0 (A + 20 + t) 0 → mc0 (A + 20 + t) 2 = -1 ∨ (z : Int) < mc0 (A + 20 + t) 2)) → 0 ≤ x5 → x5 ≤ s0 → uS G mc0 mm0 d mc mm → mm 376 55 = o0 → bL (yloop (fun (l : Int × Int) ml => B197_6 f (F197 f A gr) A (s1 : Int) (d : Int) l.1 l.2 ml) F ((s0 : Int), x5) mc) (fun _ m => some ((.inl 0 : Int ⊕ Nat), m)) (fun r mr => some (r, mr)) = some (res, mc') → UL g H mm = some rr → uO G mc0 mm0 g d z o1 mc mm rr res mc' := by
  have hs40 : s ≤ 40 := hR.2.2.2.2.2.1.2.1
  intro F
  induction F with
  | zero => intro H fu s0 o0 x5 mc mm mc' res hZ hown p1 p2 h h55 e1 hL; cases e1
  | succ F ih =>
    intro H fu s0 o0 x5 mc mm mc' res hZ hown p1 p2 h h55 e1 hL
    have le := hZ.le
    have fin : ∀ {y : ((Int × Int) × yM) ⊕ (((Int × Int) × yM) ⊕ ((Int ⊕ Nat) × yM))}, B197_6 f (F197 f A gr) A (s1 : Int) (d : Int) (s0 : Int) x5 mc = some y → (∀ l m, y = .inl (l, m) → bL (yloop (fun (l : Int × Int) ml => B197_6 f (F197 f A gr) A (s1 : Int) (d : Int) l.1 l.2 ml) F l m) (fun _ m => some ((.inl 0 : Int ⊕ Nat), m)) (fun r mr => some (r, mr)) = some (res, mc')) ∧ (∀ l m, y = .inr (.inl (l, m)) → res = .inl 0 ∧ mc' = m) ∧ (∀ w m, y = .inr (.inr (w, m)) → res = w ∧ mc' = m) := by
      intro y e
      unfold yloop at e1
      simp only [e] at e1
      refine ⟨fun l m w => ?_, fun l m w => ?_, fun q m w => ?_⟩
      · subst w; exact e1
      · subst w
        cases e1
        exact ⟨rfl, rfl⟩
      · subst w
        cases e1
        exact ⟨rfl, rfl⟩
    obtain ⟨y, ey⟩ : ∃ y, B197_6 f (F197 f A gr) A (s1 : Int) (d : Int) (s0 : Int) x5 mc = some y := by
      unfold yloop at e1
      cases e : B197_6 f (F197 f A gr) A (s1 : Int) (d : Int) (s0 : Int) x5 mc with
      | none => simp only [e] at e1; cases e1
      | some y => exact ⟨y, rfl⟩
    obtain ⟨fin1, fin2, fin3⟩ := fin ey
    by_cases hlt : s0 < s1
    · obtain ⟨f', s2, o2, h1, h2, h3, h4, h7, h8, h9⟩ := hZ.cons hlt
      unfold B197_6 at ey
      rw [if_pos (by omega), if_pos (by omega)] at ey
      have st := fun (res' : Int ⊕ Nat) (mx : yM) (e : F196 f (F197 f A gr) A (s0 : Int) (d : Int) mc = some (res', mx)) => stmt_u hA hp hd (by omega) (by omega) hR hG hgn (by omega) h18 hSL h7 h9 (by omega) (by omega) (fun t' t1 t2 => hown t' (by omega) (by omega)) h1 hz z48 hz2 h h55 e hL
      rcases bT_e ey with ⟨r5, m5, c1, c2⟩ | ⟨r5, m5, c1, c2⟩
      · have O := st _ _ c1
        rcases ite1 c2 with ⟨q, c2⟩ | ⟨q, c2⟩
        · rw [if_pos (by omega), Int.toNat_natCast] at c2
          injection c2 with c2
          rcases O with ⟨e, mx, z1, -⟩ | ⟨-, H5, mx, z2, z3, z4, z5, z6, z7, z8⟩ | ⟨z1, -⟩
          · cases z1
          · rw [z3.2.2.1 (A + 20 + s0) 12 (by omega), h7, wr_i (by omega) (by omega)] at c2
            have e2 := fin1 _ _ c2.symm
            have O2 := ih H5 f' s2 o2 (x5 + 1) m5 mx mc' res h8 (fun t t1 t2 => hown t (by omega) t2) (by omega) (by omega) z3 z4 e2 z2
            exact uO.seq z6 z7 z5 z8 O2
          · rw [q] at z1
            injection z1 with z1
            omega
        · injection c2 with c2
          obtain ⟨r1, r2⟩ := fin3 _ _ c2.symm
          rw [r1, r2]
          rcases O with ⟨e, mx, z1, -⟩ | ⟨z1, -⟩ | ⟨-, z2⟩
          · cases z1
          · injection z1 with z1
            exact absurd z1 q
          · exact Or.inr (Or.inr ⟨rfl, z2⟩)
      · have O := st _ _ c1
        injection c2 with c2
        obtain ⟨r1, r2⟩ := fin3 _ _ c2.symm
        rw [r1, r2]
        rcases O with ⟨e, mx, z1, z2, z3⟩ | ⟨z1, -⟩ | ⟨z1, -⟩
        · exact Or.inl ⟨e, mx, z1, z2, z3⟩
        · cases z1
        · cases z1
    · obtain rfl : s0 = s1 := by omega
      have ho := hZ.nil
      subst ho
      unfold B197_6 at ey
      have ey2 : y = .inr (.inl (((s0 : Int), x5), mc)) := by
        rcases ite1 ey with ⟨-, ey⟩ | ⟨-, ey⟩
        · rw [if_neg (by omega)] at ey
          injection ey with ey
          exact ey.symm
        · injection ey with ey
          exact ey.symm
      obtain ⟨r1, r2⟩ := fin2 _ _ ey2
      rw [r1, r2]
      exact Or.inr (Or.inl ⟨rfl, H, mm, hL, h, h55, fun _ _ => rfl, Int.le_refl _, rfl, fun _ _ _ => rfl⟩)
theorem uSL_all (hA : A = 256 ∨ A = 316) (hp : p ≤ 1) (hR : RPG A p s o mc0 mm0) (hG : ∀ k, G k → mc0 (A + 8) k = mm0 400 (12 * p + k) ∧ 0 ≤ mc0 (A + 8) k ∧ mc0 (A + 8) k < mc0 A 9) (hgn : ∀ t : Nat, t < s → mc0 (A + 20 + t) 0 = 5 → ∀ x : Nat, mc0 (A + 20 + t) 6 = x → x < 12 ∧ G x) (h18 : mm0 376 18 = p) : ∀ gr, uSL G mc0 mm0 A p s f g gr := by
  intro gr
  induction gr with
  | zero =>
    intro fu s0 s1 o0 o1 d k z H mc mm mc' res rr _ _ _ _ _ _ _ _ _ _ e1 _
    cases e1
  | succ gr ih =>
    intro fu s0 s1 o0 o1 d k z H mc mm mc' res rr hZ hs1 ho1 hown hz z48 hz2 hd h h55 e1 hL
    have e2 : G197 f (F197 f A gr) A (s0 : Int) (s1 : Int) (d : Int) mc = some (res, mc') := e1
    unfold G197 at e2
    exact list_u hA hp hR hG hgn h18 ih hs1 ho1 hz z48 hz2 hd f H fu s0 o0 0 mc mm mc' res hZ hown (by omega) (by omega) h h55 e2 hL
end UJ
end

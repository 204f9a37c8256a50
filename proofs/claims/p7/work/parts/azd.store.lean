/-! THE RUN: a store -/
section UT
variable {G : Nat → Prop} {A p f g s o d t b : Nat} {mc mm mc' mm' mc0 mm0 mc1 mm1 : yM}
theorem uS.fld {i q : Nat} {val : Int} (h : uS G mc0 mm0 d mc mm) (hi : (i : Int) < mc 169 5) (hq : q < 8) (h1 : -1 ≤ val) (h2 : val < mc 169 5) : uS G mc0 mm0 d (yup mc (221 + i) q val) (yup mm 410 (8 * i + q) (val + 1)) := by
  obtain ⟨⟨a1, a2, a3, a4, a5⟩, k2, k3, k4, k5, k6⟩ := h
  have a12 := a1.2.2
  refine ⟨⟨?_, ?_, fun j hj => ?_, fun j w hj hw => ?_, fun v j hv hj => ?_⟩, k2.fr (fun x v _ => yup_na (by omega)) (by rw [yup_na (by omega)]; omega) (fun q => yup_na (by omega)), k3.up (by omega), k4.up (by omega), by rw [yup_na (by omega)]; exact k5, by rw [yup_na (by omega)]; exact k6⟩
  · rw [yup_na (by omega), yup_na (by omega)]; exact a1
  · rw [yup_na (by omega), yup_na (by omega)]; exact a2
  · rw [yup_na (show 169 ≠ 221 + i by omega)] at hj
    rw [yup_na (by omega), yup_na (by omega)]; exact a3 j hj
  · rw [yup_na (show 169 ≠ 221 + i by omega)] at hj ⊢
    by_cases z : j = i ∧ w = q
    · obtain ⟨rfl, rfl⟩ := z
      rw [yup_eq, yup_eq]
      exact ⟨rfl, h1, h2⟩
    · rw [yup_ne (by omega), yup_ne (by omega)]
      exact a4 j w hj hw
  · rw [yup_na (by omega), yup_na (by omega)]; exact a5 v j hv hj
theorem store_u {res : Int ⊕ Nat} {n2 : yM} (hA : A = 256 ∨ A = 316) (hp : p ≤ 1) (hd : d < 4) (hb : b ≤ 2000) (hR : RPG A p s o mc0 mm0) (hG : ∀ k, G k → mc0 (A + 8) k = mm0 400 (12 * p + k) ∧ 0 ≤ mc0 (A + 8) k ∧ mc0 (A + 8) k < mc0 A 9) (h18 : mm0 376 18 = p) (hZ : OPZ A p t b mc0 mm0) (hk : mc0 (A + 20 + t) 0 = 3) (h : uS G mc0 mm0 d mc mm) (e1 : bT (F192 f A (mc (252 + d) (mc (A + 20 + t) 2).toNat) (mc (A + 20 + t) 6) mc) (fun r m' => (if 0 ≤ r ∧ r < ((30 : Nat) : Int) then (some ((.inl 0 : Int ⊕ Nat), yup m' (221 + (r).toNat) (m' (A + 20 + t) 6).toNat (m' (252 + d) (m' (A + 20 + t) 3).toNat))) else none)) (fun e' m' => some ((.inr e' : Int ⊕ Nat), m')) = some (res, mc')) (e2 : F209 g (b : Int) mm = some n2) : (∃ e, res = .inr e ∧ uX mc0 mm0 e mc' n2) ∨ (res = .inl 0 ∧ uS G mc0 mm0 d mc' n2 ∧ uK A t d mc0 mc mm mc' n2 ∧ ∀ b q : Nat, 252 ≤ b → mc' b q = mc b q) := by
  have S := fun q => h.S (t := t) hA q
  have B := fun q hq => h.b403 (b := b) (q := q) hb hq
  have B0 : mm 403 b = mm0 403 b := h.2.2.2.1 403 _ (by decide) (by omega)
  have k18 : mm 376 18 = p := by rw [h.2.2.2.1 376 18 (by decide) (by omega)]; exact h18
  have h30 := h.1.1.2.2
  obtain ⟨-, hZ⟩ := hZ
  have hZ' : mm0 403 b = 5 ∧ mm0 403 (b + 2) = mc0 (A + 20 + t) 2 ∧ mm0 403 (b + 3) = mc0 (A + 20 + t) 3 ∧ vB (mc0 A 15) (mc0 (A + 20 + t) 2) ∧ vB (mc0 A 15) (mc0 (A + 20 + t) 3) ∧ mm0 403 (b + 4) = mc0 (A + 20 + t) 6 ∧ -1 ≤ mc0 (A + 20 + t) 6 ∧ mc0 (A + 20 + t) 6 < 8 := by
    rcases hZ with hZ | hZ | hZ | hZ | hZ | hZ | hZ | hZ
    case inr.inl => exact hZ.2
    all_goals (have := hZ.1; omega)
  obtain ⟨g2, g3, g4, g5, g6, g7, g8, g9⟩ := hZ'
  obtain ⟨v, hv, l2, -⟩ := g5.nat
  obtain ⟨v3, hv3, l3, -⟩ := g6.nat
  obtain ⟨fd, hfd⟩ : ∃ fd, mc0 (A + 20 + t) 6 = fd := ⟨_, rfl⟩
  rw [hfd] at g7 g8 g9
  rw [S 2, S 6, hv, Int.toNat_natCast, hfd] at e1
  unfold F209 at e2
  rw [Int.toNat_natCast, B0, g2, if_neg (by decide), if_neg (by decide), if_neg (by decide), if_pos rfl] at e2
  have vr := h.vr l2
  have vr3 := h.vr l3
  obtain ⟨val, hval⟩ : ∃ val, mc (252 + d) v = val := ⟨_, rfl⟩
  rw [hval] at e1 vr
  unfold J209_66 F208 at e2
  replace e2 := bU_e e2
  obtain ⟨n3, e4, e2⟩ := e2
  injection e2 with e2
  rw [e2] at e4
  rw [Int.toNat_natCast, B0, g2, if_neg (by decide)] at e4
  unfold J208_15 J208_40 at e4
  rw [if_pos rfl, show (b : Int) + 2 = (b : Int) + ((2 : Nat) : Int) by rfl, B 2 (by decide), g3, hv, h.f205 hd l2, hval] at e4
  have mod : ∀ {xs : Int} {n5 : yM}, J208_54 g (b : Int) 0 (val + 1) xs mm = some n5 → (xs = 0 → n5 = yup mm 376 57 1) ∧ (xs ≠ 0 → ∃ r, F121 g p (F206 (val + 1) (yup mm 376 57 0)) fd (yup mm 376 57 0) = some r ∧ ((r = 0 ∧ n5 = yup (yup mm 376 57 0) 376 57 3) ∨ (r ≠ 0 ∧ n5 = yup (yup (yup mm 376 57 0) 376 57 0) 410 (wr ((wr (8 * (wr (val + 1 - 1)))) + fd)).toNat (mc (252 + d) v3 + 1)))) := by
    intro xs n5 e
    unfold J208_54 at e
    replace e := bI_e e
    obtain ⟨r5, n6, e5, e⟩ := e
    obtain ⟨q1, c5, q2, q3, q4⟩ := F23_x e5
    refine ⟨fun z => ?_, fun z => ?_⟩
    · rw [q1, if_pos z] at e
      injection e with e
      rw [← e, q2, q3 z]
    · rw [q1, if_neg z] at e
      rw [q4 z] at q2
      rw [q2] at e
      have hh := h.f57
      replace e := bP_e e
      obtain ⟨r6, e6, e⟩ := e
      have y18 : yup mm 376 57 0 376 18 = p := by rw [yup_nk (by decide)]; exact k18
      have B' := fun q hq => hh.b403 (b := b) (q := q) hb hq
      rw [y18, show (b : Int) + 4 = (b : Int) + ((4 : Nat) : Int) by rfl, B' 4 (by decide), g7] at e6
      refine ⟨r6, e6, ?_⟩
      replace e := bI_e e
      obtain ⟨r7, n7, e7, e⟩ := e
      obtain ⟨p1, c6, p2, p3, p4⟩ := F23_x e7
      by_cases w : r6 = 0
      · rw [p1, if_pos w] at e
        injection e with e
        exact Or.inl ⟨w, by rw [← e, p2, p3 w]⟩
      · rw [p1, if_neg w, if_pos rfl] at e
        rw [p4 w] at p2
        rw [p2] at e
        have B2 := fun q hq => hh.f57.b403 (b := b) (q := q) hb hq
        rw [show (b : Int) + 4 = (b : Int) + ((4 : Nat) : Int) by rfl, show (b : Int) + 3 = (b : Int) + ((3 : Nat) : Int) by rfl, B2 4 (by decide), B2 3 (by decide), g7, g4, hv3, hh.f57.f205 hd l3] at e
        injection e with e
        exact Or.inr ⟨w, e.symm⟩
  have e4' : Hid ((val = -1 → n2 = yup mm 376 57 1) ∧ (val ≠ -1 → ∃ r, F121 g p (F206 (val + 1) (yup mm 376 57 0)) fd (yup mm 376 57 0) = some r ∧ ((r = 0 ∧ n2 = yup (yup mm 376 57 0) 376 57 3) ∨ (r ≠ 0 ∧ n2 = yup (yup (yup mm 376 57 0) 376 57 0) 410 (wr ((wr (8 * (wr (val + 1 - 1)))) + fd)).toNat (mc (252 + d) v3 + 1))))) := by
    refine ⟨fun z => ?_, fun z => ?_⟩
    · rw [if_neg (by omega)] at e4
      exact (mod e4).1 rfl
    · rw [if_pos (by omega)] at e4
      exact (mod e4).2 (by decide)
  clear mod
  have hh := h.f57.f57
  rcases bT_e e1 with ⟨r3, m3, c3, c4⟩ | ⟨r3, m3, c3, c4⟩
  · rcases F192_r c3 with ⟨-, w⟩ | ⟨-, -, w⟩ | ⟨w0, w1, w⟩
    · cases w
    · cases w
    · injection w with w w'
      injection w with w
      rw [w, w', S 3, S 6, hv3, hfd, Int.toNat_natCast] at c4
      obtain ⟨i, hi⟩ : ∃ i : Nat, val = i := ⟨val.toNat, by omega⟩
      rw [if_pos (by omega)] at c4
      injection c4 with c4
      injection c4 with c4 c4'
      obtain ⟨y1, y2⟩ := e4'
      obtain ⟨r6, y3, y4⟩ := y2 w0
      obtain ⟨k1, k2, k3⟩ := h.f57.1.cls hA hp hG h18 h.f57.2.2.1 h.f57.2.2.2.1 (by omega) vr.2
      rw [k1] at y3
      have hu := has_u hA hp hR h.2.2.1 h.f57.2.2.2.1 k2 k3 ⟨g8, g9⟩ y3
      rcases y4 with ⟨y5, -⟩ | ⟨y5, y6⟩
      · exact absurd (hu.mp y5) w1
      · have f0 : fd ≠ -1 := by
          intro z
          apply w1
          unfold F47
          rw [if_pos z]
        obtain ⟨fn, hfn⟩ : ∃ fn : Nat, fd = fn := ⟨fd.toNat, by omega⟩
        have ix : (wr ((wr (8 * (wr (val + 1 - 1)))) + fd)).toNat = 8 * i + fn := by
          rw [hi, hfn, wr_i (x := (i : Int) + 1 - 1) (by omega) (by omega), wr_i (x := 8 * ((i : Int) + 1 - 1)) (by omega) (by omega), wr_i (by omega) (by omega)]
          omega
        rw [ix] at y6
        rw [hi, hfn, Int.toNat_natCast, Int.toNat_natCast] at c4'
        subst c4'
        subst y6
        refine Or.inr ⟨c4.symm, hh.fld (by omega) (by omega) vr3.1 vr3.2, ⟨fun q => by rw [yup_na (by decide), yup_na (by decide), yup_na (by decide)], by rw [yup_na (by decide), yup_nk (by decide), yup_nk (by decide)], yup_na (by omega), fun b q hb _ => yup_na (by omega)⟩, fun b q hb => yup_na (by omega)⟩
  · injection c4 with c4
    injection c4 with c4 c4'
    rcases F192_r c3 with ⟨w0, w⟩ | ⟨w0, w1, w⟩ | ⟨-, -, w⟩
    · injection w with w w'
      injection w with w
      rw [← c4', w']
      rw [e4'.1 w0]
      exact Or.inl ⟨11, by rw [← c4, w], h.err (by decide) rfl⟩
    · injection w with w w'
      injection w with w
      rw [← c4', w']
      obtain ⟨r6, y3, y4⟩ := e4'.2 w0
      obtain ⟨k1, k2, k3⟩ := h.f57.1.cls hA hp hG h18 h.f57.2.2.1 h.f57.2.2.2.1 (by omega) vr.2
      rw [k1] at y3
      have hu := has_u hA hp hR h.2.2.1 h.f57.2.2.2.1 k2 k3 ⟨g8, g9⟩ y3
      rcases y4 with ⟨-, y5⟩ | ⟨y5, -⟩
      · rw [y5]
        exact Or.inl ⟨13, by rw [← c4, w], h.f57.err (by decide) rfl⟩
      · exact absurd (hu.mpr w1) y5
    · cases w
end UT

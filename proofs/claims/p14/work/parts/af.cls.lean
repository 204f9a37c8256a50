section
/-! CLASSES AND THEIR FIELDS -/
def bt (x : Int) (f : Nat) : Prop := iAnd (iShr x f) 1 = 1
theorem bt_all : ((List.range 256).all (fun x => (List.range 8).all (fun f => decide (0 ≤ iOr (x : Int) (iShl 1 (f : Int)) ∧ iOr (x : Int) (iShl 1 (f : Int)) < 256) && (List.range 8).all (fun g => decide ((iAnd (iShr (iOr (x : Int) (iShl 1 (f : Int))) (g : Int)) 1 = 1) ↔ (iAnd (iShr (x : Int) (g : Int)) 1 = 1 ∨ g = f)))))) = true := by decide +kernel
theorem bt_or {x : Int} {f : Nat} (h0 : 0 ≤ x) (h1 : x < 256) (hf : f < 8) : (0 ≤ iOr x (iShl 1 f) ∧ iOr x (iShl 1 f) < 256) ∧ ∀ g, g < 8 → (bt (iOr x (iShl 1 f)) g ↔ (bt x g ∨ g = f)) := by
  have a1 := List.all_eq_true.mp bt_all x.toNat (List.mem_range.mpr (by omega))
  have a2 := List.all_eq_true.mp a1 f (List.mem_range.mpr hf)
  rw [Bool.and_eq_true] at a2
  have e : ((x.toNat : Nat) : Int) = x := by omega
  rw [e] at a2
  refine ⟨of_decide_eq_true a2.1, fun g hg => ?_⟩
  have a3 := of_decide_eq_true (List.all_eq_true.mp a2.2 g (List.mem_range.mpr hg))
  exact a3
theorem bt_0 {g : Nat} (hg : g < 8) : ¬ bt 0 g := by
  have : ∀ g : Fin 8, ¬ (iAnd (iShr 0 ((g : Nat) : Int)) 1 = 1) := by decide +kernel
  exact this ⟨g, hg⟩
section RC
variable (A p : Nat)
def rCl (mc mm : yM) : Prop := mc A 9 = mm 383 p ∧ 0 ≤ mc A 9 ∧ mc A 9 ≤ 6 ∧ ∀ k : Nat, (k : Int) < mc A 9 → Nm (mc (A + 1) k) (mm 391 (6 * p + k)) ∧ mc (A + 2) k = mm 392 (6 * p + k) ∧ -1 ≤ mc (A + 2) k ∧ mc (A + 2) k < k ∧ 0 ≤ mc (A + 3) k ∧ mc (A + 3) k < 256 ∧ ∀ f : Nat, f < 8 → (bt (mc (A + 3) k) f ↔ (mm 393 (48 * p + 8 * k + f) ≠ 0 ∨ (0 ≤ mc (A + 2) k ∧ bt (mc (A + 3) (mc (A + 2) k).toNat) f)))
def rFd (mc mm : yM) : Prop := mc A 11 = mm 385 p ∧ 0 ≤ mc A 11 ∧ mc A 11 ≤ 8 ∧ ∀ k : Nat, (k : Int) < mc A 11 → Nm (mc (A + 4) k) (mm 394 (8 * p + k))
end RC
section RC1
variable {A p : Nat} {mc mm mc' mm' : yM}
theorem rCl.fr (h : rCl A p mc mm) (e1 : mc' A 9 = mc A 9) (e2 : ∀ a q, a = A + 1 ∨ a = A + 2 ∨ a = A + 3 → mc' a q = mc a q) (e3 : ∀ a q, a = 383 ∨ a = 391 ∨ a = 392 ∨ a = 393 → mm' a q = mm a q) : rCl A p mc' mm' := by
  obtain ⟨h1, h2, h3, h4⟩ := h
  refine ⟨by rw [e1, e3 383 _ (by omega)]; exact h1, by omega, by omega, fun k hk => ?_⟩
  obtain ⟨g1, g2, g3, g4, g5, g6, g7⟩ := h4 k (by omega)
  rw [e2 (A + 1) _ (by omega), e2 (A + 2) _ (by omega), e2 (A + 3) k (by omega), e3 391 _ (by omega), e3 392 _ (by omega)]
  refine ⟨g1, g2, g3, g4, g5, g6, fun f hf => ?_⟩
  rw [e2 (A + 3) _ (by omega), e3 393 _ (by omega)]
  exact g7 f hf
theorem rFd.fr (h : rFd A p mc mm) (e1 : mc' A 11 = mc A 11) (e2 : ∀ q, mc' (A + 4) q = mc (A + 4) q) (e3 : ∀ a q, a = 385 ∨ a = 394 → mm' a q = mm a q) : rFd A p mc' mm' := by
  obtain ⟨h1, h2, h3, h4⟩ := h
  refine ⟨by rw [e1, e3 385 _ (by omega)]; exact h1, by omega, by omega, fun k hk => ?_⟩
  rw [e2, e3 394 _ (by omega)]
  exact h4 k (by omega)
/-- both find the same class -/
theorem rCl.find (h : rCl A p mc mm) (hp : p ≤ 1) {f g : Nat} {x t r r' : Int} (hx : Nm x t) (h1 : F41 f A x mc = some r) (h2 : F116 g p t mm = some r') : r = r' ∧ (r = -1 ∨ (0 ≤ r ∧ r < mc A 9)) := by
  obtain ⟨e1, e2, e3, e4⟩ := h
  have a := F41_r e2 e3 h1
  have b := F116_r hp (by omega) (by omega) h2
  rw [← e1] at b
  have := a.lt
  exact ⟨a.eq b (fun k hk => (e4 k hk).1.eq hx), by omega⟩
theorem rFd.find (h : rFd A p mc mm) (hp : p ≤ 1) {f g : Nat} {x t r r' : Int} (hx : Nm x t) (h1 : F46 f A x mc = some r) (h2 : F120 g p t mm = some r') : r = r' ∧ (r = -1 ∨ (0 ≤ r ∧ r < mc A 11)) := by
  obtain ⟨e1, e2, e3, e4⟩ := h
  have a := F46_r e2 e3 h1
  have b := F120_r hp (by omega) (by omega) h2
  rw [← e1] at b
  have := a.lt
  exact ⟨a.eq b (fun k hk => (e4 k hk).eq hx), by omega⟩
/-- does a class have a field? -/
theorem rCl.has (h : rCl A p mc mm) (hp : p ≤ 1) {g k f : Nat} {r : Int} (hk : (k : Int) < mc A 9) (hf : f < 8) (h2 : F121 g p k f mm = some r) : (r = 0 ∨ r = 1) ∧ (r = 1 ↔ bt (mc (A + 3) k) f) := by
  obtain ⟨e1, e2, e3, e4⟩ := h
  unfold F121 at h2
  rw [if_neg (by omega)] at h2
  have ix : ∀ l : Int, 0 ≤ l → l < 6 → (wr (wr (wr (48 * (p : Int)) + wr (8 * l)) + (f : Int))).toNat = 48 * p + 8 * l.toNat + f ∧ (wr (wr (6 * (p : Int)) + l)).toNat = 6 * p + l.toNat := by
    intro l l1 l2
    rw [wr_i (x := 48 * (p : Int)) (by omega) (by omega), wr_i (x := 8 * l) (by omega) (by omega), wr_i (x := 48 * (p : Int) + 8 * l) (by omega) (by omega), wr_i (x := 48 * (p : Int) + 8 * l + f) (by omega) (by omega), wr_i (x := 6 * (p : Int)) (by omega) (by omega), wr_i (x := 6 * (p : Int) + l) (by omega) (by omega)]
    omega
  have K : ∀ {r : Int ⊕ Int}, ploop (fun (l : Int) => B121_9 g p f l mm) g k = some r → (∃ l, r = .inl l ∧ ¬ bt (mc (A + 3) k) f) ∨ (r = .inr 1 ∧ bt (mc (A + 3) k) f) := by
    intro r hh
    obtain ⟨l', hI, hE⟩ := ploop_inv (fun l : Int => -1 ≤ l ∧ l < mc A 9 ∧ (bt (mc (A + 3) k) f ↔ (0 ≤ l ∧ bt (mc (A + 3) l.toNat) f))) (fun l l' hI hE => by
      obtain ⟨i1, i2, i3⟩ := hI
      simp only [B121_9] at hE
      rcases ite1 hE with ⟨q, hE⟩ | ⟨q, hE⟩
      · cases hE
      · obtain ⟨x1, x2⟩ := ix l (by omega) (by omega)
        rw [x1, x2] at hE
        have E := e4 l.toNat (by omega)
        rcases ite1 hE with ⟨q2, hE⟩ | ⟨q2, hE⟩
        · cases hE
          rw [← E.2.1]
          have E7 := E.2.2.2.2.2.2 f hf
          refine ⟨E.2.2.1, by have := E.2.2.2.1; omega, ?_⟩
          rw [i3]
          constructor
          · intro z
            rcases E7.mp z.2 with y | y
            · exact absurd q2 y
            · exact y
          · intro z
            exact ⟨by omega, E7.mpr (Or.inr z)⟩
        · cases hE) g k r ⟨by omega, hk, by simp⟩ hh
    obtain ⟨i1, i2, i3⟩ := hI
    simp only [B121_9] at hE
    rcases ite1 hE with ⟨q, hE⟩ | ⟨q, hE⟩
    · cases hE
      exact Or.inl ⟨l', rfl, fun z => by have := (i3.mp z).1; omega⟩
    · obtain ⟨x1, x2⟩ := ix l' (by omega) (by omega)
      rw [x1, x2] at hE
      rcases ite1 hE with ⟨q2, hE⟩ | ⟨q2, hE⟩
      · cases hE
      · cases hE
        have E := e4 l'.toNat (by omega)
        exact Or.inr ⟨rfl, i3.mpr ⟨by omega, (E.2.2.2.2.2.2 f hf).mpr (Or.inl q2)⟩⟩
  rcases bQ_e h2 with ⟨l, a1, h2⟩ | ⟨l, a1, h2⟩
  · rcases K a1 with ⟨l2, z, z2⟩ | ⟨z, z2⟩
    · cases h2
      exact ⟨Or.inl rfl, fun q => by omega, fun q => absurd q z2⟩
    · cases z
  · rcases K a1 with ⟨l2, z, z2⟩ | ⟨z, z2⟩
    · cases z
    · cases z
      cases h2
      exact ⟨Or.inr rfl, fun _ => z2, fun _ => rfl⟩
theorem F47_r {x1 : Int} {f : Nat} : F47 A x1 f mc = 0 ↔ ¬ bt (mc (A + 3) x1.toNat) f := by
  unfold F47
  rw [if_neg (by omega)]
  unfold bt
  split
  · rename_i q
    simp [q]
  · rename_i q
    simp [q]
end RC1
end
section
/-! CLASS HEADS -/
/-- the places of the model that reading into the program p may change -/
def arM (p a q : Nat) : Prop := (a = 376 ∧ ((3 ≤ q ∧ q ≤ 10) ∨ q = 14 ∨ q = 17)) ∨ (378 ≤ a ∧ a ≤ 382) ∨ (383 ≤ a ∧ a ≤ 390 ∧ q = p) ∨ ((a = 391 ∨ a = 392) ∧ 6 * p ≤ q ∧ q < 6 * p + 6) ∨ (a = 393 ∧ 48 * p ≤ q ∧ q < 48 * p + 48) ∨ (a = 394 ∧ 8 * p ≤ q ∧ q < 8 * p + 8) ∨ (395 ≤ a ∧ a ≤ 399 ∧ 10 * p ≤ q ∧ q < 10 * p + 10) ∨ (a = 400 ∧ 12 * p ≤ q ∧ q < 12 * p + 12) ∨ ((a = 401 ∨ a = 402) ∧ 8 * p ≤ q ∧ q < 8 * p + 8) ∨ (a = 403 ∧ 1000 * p ≤ q ∧ q < 1000 * p + 1000)
def FrM (p : Nat) (mm mm' : yM) : Prop := ∀ a q, ¬ arM p a q → mm' a q = mm a q
def FrC (A : Nat) (mc mc' : yM) : Prop := ∀ a q, a ≠ 2 → ¬ (A ≤ a ∧ a < A + 60) → mc' a q = mc a q
section FR
variable {A p : Nat} {m m1 m2 : yM}
theorem FrM.rf : FrM p m m := fun _ _ _ => rfl
theorem FrM.tr (h : FrM p m m1) (h' : FrM p m1 m2) : FrM p m m2 := fun a q ha => (h' a q ha).trans (h a q ha)
theorem FrM.up (h : FrM p m m1) {a q : Nat} {v : Int} (ha : arM p a q) : FrM p m (yup m1 a q v) := fun b j hb => by
  rw [yup_ne (fun e => hb (by rw [e.1, e.2]; exact ha))]
  exact h b j hb
theorem FrM.tk (h : FrM p m m1) (h' : ∀ a q, ¬ (a = 376 ∧ 3 ≤ q ∧ q ≤ 7) → m2 a q = m1 a q) : FrM p m m2 := fun a q ha => (h' a q (fun e => ha (Or.inl ⟨e.1, Or.inl ⟨e.2.1, by omega⟩⟩))).trans (h a q ha)
theorem FrM.w8 (h : FrM p m m1) {v : Int} : FrM p m (yup m1 376 8 v) := h.up (Or.inl ⟨rfl, Or.inl ⟨by decide, by decide⟩⟩)
theorem FrC.rf : FrC A m m := fun _ _ _ _ => rfl
theorem FrC.tr (h : FrC A m m1) (h' : FrC A m1 m2) : FrC A m m2 := fun a q h1 h2 => (h' a q h1 h2).trans (h a q h1 h2)
theorem FrC.u2 (h : FrC A m m1) {q : Nat} {v : Int} : FrC A m (yup m1 2 q v) := fun b j h1 h2 => by
  rw [yup_na h1]
  exact h b j h1 h2
theorem FrC.up (h : FrC A m m1) {a q : Nat} {v : Int} (ha : A ≤ a ∧ a < A + 60) : FrC A m (yup m1 a q v) := fun b j h1 h2 => by
  rw [yup_na (fun e => h2 (by rw [e]; exact ha))]
  exact h b j h1 h2
end FR
section HD
variable {tx : Int → Int} {len : Int} {n : Nat} {en tk tp tn : Nat → Int} {A p : Nat} {mc mm mc' mm' : yM}
theorem MT.le {i : Nat} (T : TOK tx len n en tk tp tn) (hl : len ≤ 320) (h : MT tx len n en tk tp tn p i mm) : i ≤ n ∧ (i : Int) ≤ 320 := by
  have := (h.2.2.2.2.z T).1
  have := T.2.2.2.2.2.2.2
  omega
theorem MT.goOnP {f i : Nat} {P : Prop} [Decidable P] {r : Int} (T : TOK tx len n en tk tp tn) (hl : len ≤ 320) (h : MT tx len n en tk tp tn p i mm) (hi : P → tk i ≠ 0) (hn : F105 f (if P then 1 else 0) mm = some (r, mm')) : (P ∧ r = 1 ∧ MT tx len n en tk tp tn p (i + 1) mm' ∧ (∀ a q, ¬ (a = 376 ∧ 3 ≤ q ∧ q ≤ 7) → mm' a q = mm a q)) ∨ (¬ P ∧ r = 0 ∧ mm' = yup mm 376 8 (tp i)) := by
  by_cases q : P
  · rw [if_pos q] at hn
    rcases h.goOn T hl (fun _ => hi q) hn with ⟨-, z⟩ | ⟨z, -⟩
    · exact Or.inl ⟨q, z⟩
    · omega
  · rw [if_neg q] at hn
    rcases h.goOn T hl (fun z => absurd rfl z) hn with ⟨z, -⟩ | ⟨-, z⟩
    · exact absurd rfl z
    · exact Or.inr ⟨q, z⟩
/-- the model lays a class -/
theorem J119_123_r {g j c : Nat} {x3 x4 : Int} (T : TOK tx len n en tk tp tn) (hl : len ≤ 320) (hp : p ≤ 1) (hM : MT tx len n en tk tp tn p j mm) (hc : mm 383 p = c) (hc6 : c < 6) (h : J119_123 g p x3 x4 mm = some mm') : ∃ m5 : yM, FrM p mm m5 ∧ (∀ a q, a ≠ 383 → a ≠ 391 → a ≠ 392 → a ≠ 393 → m5 a q = mm a q) ∧ m5 383 p = c + 1 ∧ (∀ k : Nat, k < c → m5 391 (6 * p + k) = mm 391 (6 * p + k) ∧ m5 392 (6 * p + k) = mm 392 (6 * p + k) ∧ ∀ f, f < 8 → m5 393 (48 * p + 8 * k + f) = mm 393 (48 * p + 8 * k + f)) ∧ m5 391 (6 * p + c) = x3 ∧ m5 392 (6 * p + c) = x4 ∧ (∀ f, f < 8 → m5 393 (48 * p + 8 * c + f) = 0) ∧ ((tk j = 123 ∧ MT tx len n en tk tp tn p (j + 1) mm' ∧ (∀ a q, ¬ (a = 376 ∧ 3 ≤ q ∧ q ≤ 7) → mm' a q = m5 a q)) ∨ (tk j ≠ 123 ∧ mm' = yup m5 376 8 (tp j))) := by
  unfold J119_123 at h
  have ix : (wr (wr (6 * (p : Int)) + mm 383 p)).toNat = 6 * p + c := by
    rw [hc, wr_i (x := 6 * (p : Int)) (by omega) (by omega), wr_i (by omega) (by omega)]
    omega
  rw [show ((p : Int)).toNat = p from Int.toNat_natCast p, ix] at h
  have K : ∀ {r : (Int × yM) ⊕ (Unit × yM)}, yloop (fun (l : Int) ml => B119_161 g p l ml) g 0 (yup (yup mm 391 (6 * p + c) x3) 392 (6 * p + c) x4) = some r → ∃ l m4, r = .inl (l, m4) ∧ (∀ a q, a ≠ 393 → m4 a q = yup (yup mm 391 (6 * p + c) x3) 392 (6 * p + c) x4 a q) ∧ (∀ q, ¬ (48 * p + 8 * c ≤ q ∧ q < 48 * p + 8 * c + 8) → m4 393 q = mm 393 q) ∧ (∀ f, f < 8 → m4 393 (48 * p + 8 * c + f) = 0) := by
    intro r hh
    obtain ⟨l', m4, hI, hE⟩ := yloop_inv (fun (l : Int) m4 => 0 ≤ l ∧ l ≤ 8 ∧ (∀ a q, a ≠ 393 → m4 a q = yup (yup mm 391 (6 * p + c) x3) 392 (6 * p + c) x4 a q) ∧ (∀ q, ¬ (48 * p + 8 * c ≤ q ∧ q < 48 * p + 8 * c + 8) → m4 393 q = mm 393 q) ∧ (∀ f : Nat, (f : Int) < l → m4 393 (48 * p + 8 * c + f) = 0)) (fun l m4 l' m5 hI hE => by
      obtain ⟨i1, i2, i3, i4, i5⟩ := hI
      simp only [B119_161] at hE
      have e383 : m4 383 ((p : Int)).toNat = c := by
        rw [Int.toNat_natCast, i3 383 p (by decide), yup_na (by decide), yup_na (by decide)]
        exact hc
      rw [e383] at hE
      rcases ite1 hE with ⟨q, hE⟩ | ⟨q, hE⟩
      · have e : (wr (wr (wr (48 * (p : Int)) + wr (8 * (c : Int))) + l)).toNat = 48 * p + 8 * c + l.toNat := by
          rw [wr_i (x := 48 * (p : Int)) (by omega) (by omega), wr_i (x := 8 * (c : Int)) (by omega) (by omega), wr_i (x := 48 * (p : Int) + 8 * c) (by omega) (by omega), wr_i (by omega) (by omega)]
          omega
        rw [e, wr_i (x := l + 1) (by omega) (by omega)] at hE
        cases hE
        refine ⟨by omega, by omega, fun a q ha => ?_, fun q hq => ?_, fun f hf => ?_⟩
        · rw [yup_na ha]; exact i3 a q ha
        · rw [yup_nk (by omega)]; exact i4 q hq
        · by_cases z : f = l.toNat
          · rw [z, yup_eq]
          · rw [yup_nk (by omega)]
            exact i5 f (by omega)
      · cases hE) g 0 _ r ⟨by omega, by omega, fun _ _ _ => rfl, fun q _ => by rw [yup_na (by decide), yup_na (by decide)], fun f hf => by omega⟩ hh
    obtain ⟨i1, i2, i3, i4, i5⟩ := hI
    simp only [B119_161] at hE
    rcases ite1 hE with ⟨q, hE⟩ | ⟨q, hE⟩
    · cases hE
    · cases hE
      exact ⟨l', m4, rfl, i3, i4, fun f hf => i5 f (by omega)⟩
  rcases bL_e h with ⟨l, m4, h1, h⟩ | ⟨r, m4, h1, h⟩
  · obtain ⟨l2, m4', hr, k1, k2, k3⟩ := K h1
    cases hr
    have e383 : m4 383 p = c := by
      rw [k1 383 p (by decide), yup_na (by decide), yup_na (by decide)]
      exact hc
    rw [e383, wr_i (by omega) (by omega)] at h
    obtain ⟨r, m6, h6, h⟩ := bI_e h
    have hm : mm' = m6 := by
      rcases ite1 h with ⟨-, h⟩ | ⟨-, h⟩ <;> (cases h; rfl)
    subst hm
    have F1 : ∀ a q, a ≠ 383 → a ≠ 391 → a ≠ 392 → a ≠ 393 → yup m4 383 p ((c : Int) + 1) a q = mm a q := fun a q a1 a2 a3 a4 => by
      rw [yup_na a1, k1 a q a4, yup_na a3, yup_na a2]
    refine ⟨yup m4 383 p ((c : Int) + 1), fun a q ha => ?_, F1, yup_eq _ _ _ _, fun k hk => ⟨?_, ?_, fun f hf => ?_⟩, ?_, ?_, fun f hf => ?_, ?_⟩
    · unfold arM at ha
      rw [yup_ne (by omega)]
      by_cases z : a = 393
      · rw [z, k2 q (by omega)]
      · rw [k1 a q z, yup_ne (by omega), yup_ne (by omega)]
    · rw [yup_na (by decide), k1 391 _ (by decide), yup_na (by decide), yup_nk (by omega)]
    · rw [yup_na (by decide), k1 392 _ (by decide), yup_nk (by omega), yup_na (by decide)]
    · rw [yup_na (by decide), k2 _ (by omega)]
    · rw [yup_na (by decide), k1 391 _ (by decide), yup_na (by decide), yup_eq]
    · rw [yup_na (by decide), k1 392 _ (by decide), yup_eq]
    · rw [yup_na (by decide)]
      exact k3 f hf
    · have hM5 : MT tx len n en tk tp tn p j (yup m4 383 p ((c : Int) + 1)) := hM.fr (fun q _ => F1 376 q (by decide) (by decide) (by decide) (by decide)) (fun q => F1 377 q (by decide) (by decide) (by decide) (by decide))
      rcases hM5.mark T hl (by unfold sgn; omega) h6 with ⟨z1, -, z2, z3⟩ | ⟨z1, -, z2⟩
      · exact Or.inl ⟨z1, z2, z3⟩
      · exact Or.inr ⟨z1, z2⟩
  · obtain ⟨l2, m4', hr, -⟩ := K h1
    cases hr
theorem goOn0 {g j : Nat} {r : Int} (T : TOK tx len n en tk tp tn) (hl : len ≤ 320) (hM : MT tx len n en tk tp tn p j mm) (h : F105 g 0 mm = some (r, mm')) : r = 0 ∧ mm' = yup mm 376 8 (tp j) := by
  rcases hM.goOn T hl (fun z => absurd rfl z) h with ⟨z, -⟩ | ⟨-, z⟩
  · exact absurd rfl z
  · exact z
theorem goOn1 {g j : Nat} {r : Int} (T : TOK tx len n en tk tp tn) (hl : len ≤ 320) (hM : MT tx len n en tk tp tn p j mm) (hj : tk j ≠ 0) (h : F105 g 1 mm = some (r, mm')) : r = 1 ∧ MT tx len n en tk tp tn p (j + 1) mm' ∧ (∀ a q, ¬ (a = 376 ∧ 3 ≤ q ∧ q ≤ 7) → mm' a q = mm a q) := by
  rcases hM.goOn T hl (fun _ => hj) h with ⟨-, z⟩ | ⟨z, -⟩
  · exact z
  · omega
/-- reading into the class goes on behind a refusal: the same place -/
def Flt (mc mm : yM) : Prop := mc 2 4 = mm 376 8 ∧ 0 ≤ mm 376 8
theorem Flt.mk {m1 m2 : yM} {x : Int} (h : 0 ≤ x) : Flt (yup m1 2 4 x) (yup m2 376 8 x) := ⟨by rw [yup_eq, yup_eq], by rw [yup_eq]; exact h⟩
theorem F44_r {f c : Nat} {x r : Int} (hr : mc A 9 = (c : Int) + 1) (hc : c < 6) (h : F44 f A x mc = some (r, mc')) : (r = 0 ∧ mc' = mc ∧ ∀ k : Nat, k < c → mc (A + 1) k = x → mc (A + 1) c ≠ x → False) ∨ (∃ k : Nat, r = 1 ∧ k < c ∧ mc (A + 1) k = x ∧ (∀ j, j < k → mc (A + 1) j ≠ x) ∧ mc' = yup (yup mc (A + 2) c k) (A + 3) c (mc (A + 3) k)) ∨ (r = 0 ∧ mc' = mc ∧ ∀ k : Nat, k < c → mc (A + 1) k ≠ x) := by
  unfold F44 at h
  obtain ⟨rr, e1, h⟩ := bP_e h
  have IXc := F41_r (by omega) (by omega) e1
  have ec : wr (mc A 9 - 1) = c := by rw [hr, wr_i (by omega) (by omega)]; omega
  rw [ec, Int.toNat_natCast] at h
  rcases ite1 h with ⟨q, h⟩ | ⟨q, h⟩
  · cases h
    rw [q] at IXc
    exact Or.inr (Or.inr ⟨rfl, rfl, fun k hk => IXc.no k (by omega)⟩)
  · rcases IXc with ⟨z, -⟩ | ⟨k, rfl, z2, z3, z4⟩
    · exact absurd z q
    · rcases ite1 h with ⟨q2, h⟩ | ⟨q2, h⟩
      · cases h
        refine Or.inr (Or.inr ⟨rfl, rfl, fun j hj => z4 j (by omega)⟩)
      · cases h
        refine Or.inr (Or.inl ⟨k, rfl, by omega, z3, z4, ?_⟩)
        rw [Int.toNat_natCast]
/-- above a new class: none, or an earlier one, whose fields it has -/
def AbS (A c : Nat) (mc : yM) (ab f3 : Int) : Prop := (ab = -1 ∧ f3 = 0) ∨ (∃ k : Nat, k < c ∧ ab = k ∧ f3 = mc (A + 3) k)
theorem rCl_add {c : Nat} {M m5 : yM} (hr : rCl A p mc mm) (hc : mc A 9 = c) (hc6 : c < 6) (g1 : M A 9 = (c : Int) + 1) (g2 : ∀ k, k < c → M (A + 1) k = mc (A + 1) k ∧ M (A + 2) k = mc (A + 2) k ∧ M (A + 3) k = mc (A + 3) k) (gn : Nm (M (A + 1) c) (m5 391 (6 * p + c))) (ga : M (A + 2) c = m5 392 (6 * p + c)) (hab : AbS A c mc (M (A + 2) c) (M (A + 3) c)) (e1 : m5 383 p = (c : Int) + 1) (e2 : ∀ k : Nat, k < c → m5 391 (6 * p + k) = mm 391 (6 * p + k) ∧ m5 392 (6 * p + k) = mm 392 (6 * p + k) ∧ ∀ f, f < 8 → m5 393 (48 * p + 8 * k + f) = mm 393 (48 * p + 8 * k + f)) (e3 : ∀ f, f < 8 → m5 393 (48 * p + 8 * c + f) = 0) : rCl A p M m5 := by
  obtain ⟨r1, r2, r3, r4⟩ := hr
  refine ⟨by omega, by omega, by omega, fun k hk => ?_⟩
  by_cases q : k = c
  · subst q
    refine ⟨gn, ga, ?_, ?_, ?_, ?_, fun f hf => ?_⟩
    · rcases hab with ⟨z, -⟩ | ⟨j, z1, z2, -⟩ <;> omega
    · rcases hab with ⟨z, -⟩ | ⟨j, z1, z2, -⟩ <;> omega
    · rcases hab with ⟨-, z⟩ | ⟨j, z1, -, z2⟩
      · omega
      · rw [z2]; exact (r4 j (by omega)).2.2.2.2.1
    · rcases hab with ⟨-, z⟩ | ⟨j, z1, -, z2⟩
      · omega
      · rw [z2]; exact (r4 j (by omega)).2.2.2.2.2.1
    · rw [e3 f hf]
      rcases hab with ⟨z1, z2⟩ | ⟨j, z1, z2, z3⟩
      · rw [z2]
        exact ⟨fun w => absurd w (bt_0 hf), fun w => by omega⟩
      · rw [z3, z2, Int.toNat_natCast, (g2 j z1).2.2]
        exact ⟨fun w => Or.inr ⟨by omega, w⟩, fun w => by rcases w with w | w; exact absurd rfl w; exact w.2⟩
  · have hk2 : k < c := by omega
    obtain ⟨a1, a2, a3⟩ := g2 k hk2
    obtain ⟨b1, b2, b3⟩ := e2 k hk2
    obtain ⟨d1, d2, d3, d4, d5, d6, d7⟩ := r4 k (by omega)
    rw [a1, a2, a3, b1, b2]
    refine ⟨d1, d2, d3, d4, d5, d6, fun f hf => ?_⟩
    rw [b3 f hf]
    by_cases w : 0 ≤ mc (A + 2) k
    · rw [(g2 (mc (A + 2) k).toNat (by omega)).2.2]
      exact d7 f hf
    · have := d7 f hf
      exact ⟨fun z => by rcases this.mp z with z | z; exact Or.inl z; omega, fun z => by rcases z with z | z; exact this.mpr (Or.inl z); omega⟩
theorem head_r {f g i : Nat} {r : Int} (T : TOK tx len n en tk tp tn) (hl : len ≤ 320) (hA : A = 256 ∨ A = 316) (hp : p ≤ 1) (hC : CT tk tp tn i mc) (hM : MT tx len n en tk tp tn p i mm) (hr : rCl A p mc mm) (h1 : F45 f A mc = some (r, mc')) (h2 : F119 g mm = some mm') : FrC A mc mc' ∧ FrM p mm mm' ∧ ((r = 0 ∧ Flt mc' mm') ∨ (r = 1 ∧ tk i = 1 ∧ ∃ i', i < i' ∧ CT tk tp tn i' mc' ∧ MT tx len n en tk tp tn p i' mm' ∧ rCl A p mc' mm' ∧ mc' A 9 = mc A 9 + 1 ∧ (∀ a q, a ≠ 2 → ¬ (a = A ∧ q = 9) → a ≠ A + 1 → a ≠ A + 2 → a ≠ A + 3 → mc' a q = mc a q) ∧ mc' 2 3 = mc 2 3 ∧ (∀ a q, ¬ (a = 376 ∧ 3 ≤ q ∧ q ≤ 7) → a ≠ 383 → a ≠ 391 → a ≠ 392 → a ≠ 393 → mm' a q = mm a q) ∧ (∀ k : Nat, (k : Int) < mc' A 9 → ∀ f : Nat, f < 8 → bt (mc' (A + 3) k) f → ∃ j : Nat, (j : Int) < mc A 9 ∧ bt (mc (A + 3) j) f))) := by
  have hi := hM.le T hl
  unfold F45 at h1
  obtain ⟨r1, m1, e1, h1⟩ := bI_e h1
  unfold F119 at h2
  obtain ⟨s1, n1, e2, h2⟩ := bI_e h2
  rw [hM.2.2.2.2.isClass T] at e2
  rw [hM.pp hp] at h2
  rcases hM.goOnP T hl (fun q => by omega) e2 with ⟨q, rfl, hM1, f1⟩ | ⟨q, rfl, rfl⟩
  case inr =>
    rcases hC.take (by omega) e1 with ⟨z, -⟩ | ⟨-, rfl, rfl⟩
    · exact absurd z q
    · rw [if_pos rfl] at h1 h2
      cases h1
      cases h2
      exact ⟨FrC.rf.u2, FrM.rf.w8, Or.inl ⟨rfl, Flt.mk (hM.tp0 T)⟩⟩
  rcases hC.take (by omega) e1 with ⟨-, rfl, rfl⟩ | ⟨z, -⟩
  case inr => exact absurd q z
  rw [if_neg (by decide)] at h1 h2
  have hC1 : CT tk tp tn (i + 1) (yup mc 2 2 ((i : Int) + 1)) := hC.at (by rw [yup_eq]; omega) (fun a q ha => yup_na (by omega))
  rw [hC1.kind, hC1.nam] at h1
  rw [hM1.2.2.2.2.isName T, show ((p : Int)).toNat = p from Int.toNat_natCast p] at h2
  obtain ⟨hr1, hr2, hr3, hr4⟩ := hr
  obtain ⟨c, hc⟩ : ∃ c : Nat, mc A 9 = c := ⟨(mc A 9).toNat, by omega⟩
  have n383 : n1 383 p = c := by rw [f1 383 p (by omega), ← hr1]; exact hc
  have mA9 : yup mc 2 2 ((i : Int) + 1) A 9 = c := by rw [yup_na (by omega)]; exact hc
  have hrc1 : rCl A p (yup mc 2 2 ((i : Int) + 1)) n1 := (show rCl A p mc mm from ⟨hr1, hr2, hr3, hr4⟩).fr (yup_na (by omega)) (fun a q ha => yup_na (by omega)) (fun a q ha => f1 a q (by omega))
  -- refused here
  have bad : r = 0 → mc' = yup (yup mc 2 2 ((i : Int) + 1)) 2 4 (tp (i + 1)) → J119_52 g p 0 n1 = some mm' → FrC A mc mc' ∧ FrM p mm mm' ∧ (r = 0 ∧ Flt mc' mm') := by
    intro b1 b2 b3
    unfold J119_52 at b3
    obtain ⟨s2, n2, e3, b3⟩ := bI_e b3
    obtain ⟨rfl, rfl⟩ := goOn0 T hl hM1 e3
    rw [if_pos rfl] at b3
    cases b3
    subst b2
    exact ⟨FrC.rf.u2.u2, (FrM.rf.tk f1).w8, b1, Flt.mk (hM1.tp0 T)⟩
  have bad2 : ∀ {r0 : Int} {m0 : yM}, bI (F43 f (yup mc 2 2 ((i : Int) + 1))) (fun r588 m590 => some (r588, m590)) = some (r0, m0) → r0 = 0 ∧ m0 = yup (yup mc 2 2 ((i : Int) + 1)) 2 4 (tp (i + 1)) := by
    intro r0 m0 b
    obtain ⟨r2, m2, e3, b⟩ := bI_e b
    unfold F43 at e3
    rw [hC1.plc] at e3
    cases e3
    cases b
    exact ⟨rfl, rfl⟩
  by_cases t1 : tk (i + 1) = 11
  case neg =>
    rw [if_neg t1] at h1
    rw [if_neg t1, if_pos rfl] at h2
    unfold J45_33 at h1
    unfold J119_51 at h2
    obtain ⟨b1, b2⟩ := bad2 h1
    obtain ⟨c1, c2, c3⟩ := bad b1 b2 h2
    exact ⟨c1, c2, Or.inl c3⟩
  rw [if_pos t1] at h1
  rw [if_pos t1, if_neg (by decide)] at h2
  obtain ⟨r2, m2, e3, h1⟩ := bI_e h1
  have hN1 := hM1.2.2.2.2.name (by omega) T.2.2.1
  unfold F42 at e3
  rw [mA9] at e3
  rw [n383] at h2
  by_cases t2 : c = 6
  · rw [if_pos (by omega)] at e3
    cases e3
    rw [if_pos rfl] at h1
    rw [if_neg (by omega)] at h2
    unfold J45_33 at h1
    unfold J119_51 at h2
    obtain ⟨b1, b2⟩ := bad2 h1
    obtain ⟨c1, c2, c3⟩ := bad b1 b2 h2
    exact ⟨c1, c2, Or.inl c3⟩
  rw [if_neg (by omega)] at e3
  rw [if_pos (by omega)] at h2
  obtain ⟨ra, a1, e3⟩ := bP_e e3
  obtain ⟨rb, a2, h2⟩ := bP_e h2
  obtain ⟨rfl, hra⟩ := hrc1.find hp hN1 a1 a2
  by_cases t3 : ra = -1
  case neg =>
    rw [if_neg t3] at e3
    cases e3
    rw [if_pos rfl] at h1
    rw [if_neg (by omega)] at h2
    unfold J45_33 at h1
    unfold J119_51 at h2
    obtain ⟨b1, b2⟩ := bad2 h1
    obtain ⟨c1, c2, c3⟩ := bad b1 b2 h2
    exact ⟨c1, c2, Or.inl c3⟩
  rw [if_pos t3] at e3
  rw [if_pos (by omega)] at h2
  have hno := F41_r (by omega) (by omega) a1
  rw [t3] at hno
  replace hno := hno.no
  rw [mA9] at hno
  cases e3
  rw [if_neg (by decide)] at h1
  rw [Int.toNat_natCast, wr_i (x := (c : Int) + 1) (by omega) (by omega)] at h1
  obtain ⟨M2, hM2⟩ : ∃ M2, M2 = yup (yup (yup (yup (yup mc 2 2 ((i : Int) + 1)) (A + 1) c (tn (i + 1))) (A + 2) c (-1)) (A + 3) c 0) A 9 ((c : Int) + 1) := ⟨_, rfl⟩
  rw [← hM2] at h1
  have g22 : M2 2 2 = (i : Int) + 1 := by rw [hM2, yup_na (by omega), yup_na (by omega), yup_na (by omega), yup_na (by omega), yup_eq]
  have gA9 : M2 A 9 = (c : Int) + 1 := by rw [hM2, yup_eq]
  have gA1 : ∀ k, M2 (A + 1) k = if k = c then tn (i + 1) else mc (A + 1) k := fun k => by
    rw [hM2, yup_na (by omega), yup_na (by omega), yup_na (by omega)]
    split
    · rename_i z; rw [z, yup_eq]
    · rename_i z; rw [yup_nk z, yup_na (by omega)]
  have gA2 : ∀ k, M2 (A + 2) k = if k = c then -1 else mc (A + 2) k := fun k => by
    rw [hM2, yup_na (by omega), yup_na (by omega)]
    split
    · rename_i z; rw [z, yup_eq]
    · rename_i z; rw [yup_nk z, yup_na (by omega), yup_na (by omega)]
  have gA3 : ∀ k, M2 (A + 3) k = if k = c then 0 else mc (A + 3) k := fun k => by
    rw [hM2, yup_na (by omega)]
    split
    · rename_i z; rw [z, yup_eq]
    · rename_i z; rw [yup_nk z, yup_na (by omega), yup_na (by omega), yup_na (by omega)]
  have gO : ∀ a q, ¬ (a = 2 ∧ q = 2) → ¬ (a = A ∧ q = 9) → a ≠ A + 1 → a ≠ A + 2 → a ≠ A + 3 → M2 a q = mc a q := fun a q b1 b2 b3 b4 b5 => by
    rw [hM2, yup_ne b2, yup_na b5, yup_na b4, yup_na b3, yup_ne b1]
  -- the end of both
  have fin : ∀ (M nX : yM) (j : Nat) (ab : Int), i < j → CT tk tp tn j M → MT tx len n en tk tp tn p j nX → (∀ a q, ¬ (a = 376 ∧ 3 ≤ q ∧ q ≤ 7) → nX a q = mm a q) → M A 9 = (c : Int) + 1 → (∀ k, k < c → M (A + 1) k = mc (A + 1) k ∧ M (A + 2) k = mc (A + 2) k ∧ M (A + 3) k = mc (A + 3) k) → M (A + 1) c = tn (i + 1) → M (A + 2) c = ab → AbS A c mc ab (M (A + 3) c) → (∀ a q, ¬ (a = 2 ∧ q = 2) → ¬ (a = A ∧ q = 9) → a ≠ A + 1 → a ≠ A + 2 → a ≠ A + 3 → M a q = mc a q) → J45_105 f A M = some (r, mc') → J119_123 g p (n1 376 4) ab nX = some mm' → FrC A mc mc' ∧ FrM p mm mm' ∧ ((r = 0 ∧ Flt mc' mm') ∨ (r = 1 ∧ tk i = 1 ∧ ∃ i', i < i' ∧ CT tk tp tn i' mc' ∧ MT tx len n en tk tp tn p i' mm' ∧ rCl A p mc' mm' ∧ mc' A 9 = mc A 9 + 1 ∧ (∀ a q, a ≠ 2 → ¬ (a = A ∧ q = 9) → a ≠ A + 1 → a ≠ A + 2 → a ≠ A + 3 → mc' a q = mc a q) ∧ mc' 2 3 = mc 2 3 ∧ (∀ a q, ¬ (a = 376 ∧ 3 ≤ q ∧ q ≤ 7) → a ≠ 383 → a ≠ 391 → a ≠ 392 → a ≠ 393 → mm' a q = mm a q) ∧ (∀ k : Nat, (k : Int) < mc' A 9 → ∀ f : Nat, f < 8 → bt (mc' (A + 3) k) f → ∃ j : Nat, (j : Int) < mc A 9 ∧ bt (mc (A + 3) j) f))) := by
    intro M nX j ab hj hCM hMX fX u1 u2 u3 u4 u5 u6 k1 k2
    have hj2 := hMX.le T hl
    unfold J45_105 at k1
    obtain ⟨r5, m5', e5, k1⟩ := bI_e k1
    cases k1
    obtain ⟨m5, w1, w2, w3, w4, w5, w6, w7, w8⟩ := J119_123_r T hl hp hMX (c := c) (by rw [fX 383 p (by omega), ← hr1]; exact hc) (by omega) k2
    have FC : FrC A mc M := fun a q b1 b2 => u6 a q (by omega) (by omega) (by omega) (by omega) (by omega)
    have FX : FrM p mm m5 := (FrM.rf.tk fX).tr w1
    rcases hCM.take (by omega) e5 with ⟨z1, rfl, rfl⟩ | ⟨z1, rfl, rfl⟩
    · rcases w8 with ⟨-, y1, y2⟩ | ⟨y0, -⟩
      · refine ⟨FC.u2, FX.tk y2, Or.inr ⟨rfl, q, j + 1, by omega, hCM.at (by rw [yup_eq]; omega) (fun a q ha => yup_na (by omega)), y1, ?_, ?_, ?_, ?_, ?_, ?_⟩⟩
        · have R : rCl A p M m5 := rCl_add (show rCl A p mc mm from ⟨hr1, hr2, hr3, hr4⟩) hc (by omega) u1 u2 (by rw [u3, w5]; exact hN1) (by rw [u4, w6]) (by rw [u4]; exact u5) w3 (fun k hk => by
            obtain ⟨v1, v2, v3⟩ := w4 k hk
            rw [v1, v2]
            refine ⟨fX _ _ (by omega), fX _ _ (by omega), fun f hf => ?_⟩
            rw [v3 f hf]
            exact fX _ _ (by omega)) w7
          exact R.fr (yup_na (by omega)) (fun a q ha => yup_na (by omega)) (fun a q ha => y2 a q (by omega))
        · rw [yup_na (by omega), u1, hc]
        · intro a q b1 b2 b3 b4 b5
          rw [yup_na b1]
          exact u6 a q (by omega) b2 b3 b4 b5
        · rw [yup_nk (by decide)]
          exact u6 2 3 (by omega) (by omega) (by omega) (by omega) (by omega)
        · intro a q b1 b2 b3 b4 b5
          rw [y2 a q b1, w2 a q b2 b3 b4 b5]
          exact fX a q b1
        · intro k hk f' hf' hb
          rw [yup_na (by omega), u1] at hk
          rw [yup_na (by omega)] at hb
          by_cases z : k = c
          · rw [z] at hb
            rcases u5 with ⟨-, v⟩ | ⟨j, v1, -, v2⟩
            · rw [v] at hb
              exact absurd hb (bt_0 hf')
            · rw [v2] at hb
              exact ⟨j, by omega, hb⟩
          · rw [(u2 k (by omega)).2.2] at hb
            exact ⟨k, by omega, hb⟩
      · exact absurd z1 y0
    · rcases w8 with ⟨y0, -⟩ | ⟨-, rfl⟩
      · exact absurd y0 z1
      · exact ⟨FC.u2, FX.w8, Or.inl ⟨rfl, Flt.mk (hMX.tp0 T)⟩⟩
  unfold J119_52 at h2
  obtain ⟨s2, n2, e4, h2⟩ := bI_e h2
  obtain ⟨rfl, hM2', f2⟩ := goOn1 T hl hM1 (by omega) e4
  rw [if_neg (by decide)] at h2
  have f12 : ∀ a q, ¬ (a = 376 ∧ 3 ≤ q ∧ q ≤ 7) → n2 a q = mm a q := fun a q ha => (f2 a q ha).trans (f1 a q ha)
  rw [g22, wr_i (x := (i : Int) + 1 + 1) (by omega) (by omega), wr_i (x := (i : Int) + 1 + 1 + 1) (by omega) (by omega)] at h1
  have hi2 := hM2'.le T hl
  have hC2 : CT tk tp tn (i + 1 + 1) (yup M2 2 2 ((i : Int) + 1 + 1)) := hC.at (by rw [yup_eq]; omega) (fun a q ha => by rw [yup_na (by omega)]; exact gO a q (by omega) (by omega) (by omega) (by omega) (by omega))
  rw [hC2.kind] at h1
  rw [hM2'.2.2.2.2.mark T (by unfold sgn; omega)] at h2
  by_cases t4 : tk (i + 1 + 1) = 58
  case neg =>
    rw [if_neg t4] at h1
    rw [if_neg t4, if_pos rfl] at h2
    refine fin _ n2 (i + 1 + 1) (-1) (by omega) hC2 hM2' f12 (by rw [yup_na (by omega)]; exact gA9) (fun k hk => ?_) (by rw [yup_na (by omega), gA1, if_pos rfl]) (by rw [yup_na (by omega), gA2, if_pos rfl]) (Or.inl ⟨rfl, by rw [yup_na (by omega), gA3, if_pos rfl]⟩) (fun a q b1 b2 b3 b4 b5 => by rw [yup_ne b1]; exact gO a q b1 b2 b3 b4 b5) h1 h2
    rw [yup_na (by omega), yup_na (by omega), yup_na (by omega), gA1, gA2, gA3, if_neg (by omega), if_neg (by omega), if_neg (by omega)]
    exact ⟨rfl, rfl, rfl⟩
  rw [if_pos t4] at h1
  rw [if_pos t4, if_neg (by decide)] at h2
  obtain ⟨n3, e6, h2⟩ := bU_e h2
  obtain ⟨hM3, f3⟩ := hM2'.next T hl (by omega) e6
  have f13 : ∀ a q, ¬ (a = 376 ∧ 3 ≤ q ∧ q ≤ 7) → n3 a q = mm a q := fun a q ha => (f3 a q ha).trans (f12 a q ha)
  obtain ⟨M3, hM3e⟩ : ∃ M3, M3 = yup (yup M2 2 2 ((i : Int) + 1 + 1)) 2 2 ((i : Int) + 1 + 1 + 1) := ⟨_, rfl⟩
  rw [← hM3e] at h1
  have gM3 : ∀ a q, ¬ (a = 2 ∧ q = 2) → M3 a q = M2 a q := fun a q ha => by rw [hM3e, yup_ne ha, yup_ne ha]
  have gM32 : M3 2 2 = ((i + 1 + 1 + 1 : Nat) : Int) := by rw [hM3e, yup_eq]; omega
  have hC3 : CT tk tp tn (i + 1 + 1 + 1) M3 := hC.at gM32 (fun a q ha => by rw [gM3 a q (by omega)]; exact gO a q (by omega) (by omega) (by omega) (by omega) (by omega))
  have hi3 := hM3.le T hl
  rw [hC3.kind, hC3.nam] at h1
  rw [hM3.2.2.2.2.isName T] at h2
  have FC3 : FrC A mc M3 := fun a q b1 b2 => by
    rw [gM3 a q (by omega)]
    exact gO a q (by omega) (by omega) (by omega) (by omega) (by omega)
  have badc : ∀ {m0 : yM}, CT tk tp tn (i + 1 + 1 + 1) m0 → J45_90 f A m0 = some (r, mc') → r = 0 ∧ mc' = yup m0 2 4 (tp (i + 1 + 1 + 1)) := by
    intro m0 c0 b
    unfold J45_90 at b
    obtain ⟨r2, m2, e3, b⟩ := bI_e b
    unfold F43 at e3
    rw [c0.plc] at e3
    cases e3
    cases b
    exact ⟨rfl, rfl⟩
  have badm : ∀ {x4 : Int}, J119_116 g p (n1 376 4) x4 0 n3 = some mm' → mm' = yup n3 376 8 (tp (i + 1 + 1 + 1)) := by
    intro x4 b
    unfold J119_116 at b
    obtain ⟨s2, n2, e3, b⟩ := bI_e b
    obtain ⟨rfl, rfl⟩ := goOn0 T hl hM3 e3
    rw [if_pos rfl] at b
    cases b
    rfl
  by_cases t5 : tk (i + 1 + 1 + 1) = 11
  case neg =>
    rw [if_neg t5] at h1
    rw [if_neg t5, if_pos rfl] at h2
    unfold J119_103 at h2
    rw [if_pos (by decide)] at h2
    obtain ⟨rfl, rfl⟩ := badc hC3 h1
    have := badm h2
    subst this
    exact ⟨FC3.u2, (FrM.rf.tk f13).w8, Or.inl ⟨rfl, Flt.mk (hM3.tp0 T)⟩⟩
  rw [if_pos t5] at h1
  rw [if_pos t5, if_neg (by decide)] at h2
  replace h1 := bI_e h1
  obtain ⟨rc, M4, a3, h1⟩ := h1
  obtain ⟨rd, a4, h2⟩ := bP_e h2
  have hN3 := hM3.2.2.2.2.name (by omega) T.2.2.1
  have gM39 : M3 A 9 = (c : Int) + 1 := by rw [gM3 A 9 (by omega)]; exact gA9
  have gM31 : ∀ k, k < c → M3 (A + 1) k = mc (A + 1) k := fun k hk => by rw [gM3 _ _ (by omega), gA1, if_neg (by omega)]
  have n383c : n3 383 p = c := by rw [f13 383 p (by omega), ← hr1]; exact hc
  have IXm := F116_r hp (by omega) (by omega) a4
  rw [n383c] at IXm
  have IXm2 : IX (c : Int) (fun k => mc (A + 1) k = tn (i + 1 + 1 + 1)) rd := IXm.mp (fun k hk => by
    rw [f13 391 _ (by omega)]
    exact ((hr4 k (by omega)).1.eq hN3).symm)
  unfold J119_103 at h2
  rcases F44_r gM39 (by omega) a3 with ⟨z1, z2, z3⟩ | ⟨k, z1, z2, z3, z4, z5⟩ | ⟨z1, z2, z3⟩
  · subst z1 z2
    rw [if_pos rfl] at h1
    obtain ⟨rfl, rfl⟩ := badc hC3 h1
    have hrd : rd = -1 := by
      rcases IXm2 with ⟨y, -⟩ | ⟨k, y1, y2, y3, y4⟩
      · exact y
      · exact (z3 k (by omega) (by rw [gM31 k (by omega)]; exact y3) (by
          rw [gM3 _ _ (by omega), gA1, if_pos rfl]
          intro w
          exact hno k (by omega) (by rw [yup_na (by omega), y3, ← w]))).elim
    rw [hrd, if_pos (by decide)] at h2
    have := badm h2
    subst this
    exact ⟨FC3.u2, (FrM.rf.tk f13).w8, Or.inl ⟨rfl, Flt.mk (hM3.tp0 T)⟩⟩
  · subst z1 z5
    rw [if_neg (by decide)] at h1
    have hrd : rd = k := by
      rcases IXm2 with ⟨y, y2⟩ | ⟨k', y1, y2, y3, y4⟩
      · exact absurd (by show mc (A + 1) k = _; rw [← gM31 k z2]; exact z3) (y2 k (by omega))
      · have : k' = k := by
          rcases Nat.lt_trichotomy k' k with w | w | w
          · exact absurd (by rw [gM31 k' (by omega)]; exact y3) (z4 k' w)
          · exact w
          · exact absurd (by show mc (A + 1) k = _; rw [← gM31 k z2]; exact z3) (y4 k w)
        omega
    rw [hrd, if_neg (by omega)] at h2
    unfold J119_116 at h2
    obtain ⟨s4, n4, e8, h2⟩ := bI_e h2
    obtain ⟨rfl, hM4, f4⟩ := goOn1 T hl hM3 (by omega) e8
    rw [if_neg (by decide)] at h2
    rw [show yup (yup M3 (A + 2) c k) (A + 3) c (M3 (A + 3) k) 2 2 = ((i + 1 + 1 + 1 : Nat) : Int) by rw [yup_na (by omega), yup_na (by omega)]; exact gM32, wr_i (by omega) (by omega)] at h1
    refine fin _ n4 (i + 1 + 1 + 1 + 1) (k : Int) (by omega) (hC3.at (by rw [yup_eq]; omega) (fun a q ha => by rw [yup_na (by omega), yup_na (by omega), yup_na (by omega)])) hM4 (fun a q ha => (f4 a q ha).trans (f13 a q ha)) (by rw [yup_na (by omega), yup_na (by omega), yup_na (by omega)]; exact gM39) (fun k' hk' => ⟨?_, ?_, ?_⟩) ?_ ?_ (Or.inr ⟨k, z2, rfl, ?_⟩) (fun a q b1 b2 b3 b4 b5 => ?_) h1 h2
    · rw [yup_na (by omega), yup_na (by omega), yup_na (by omega)]
      exact gM31 k' hk'
    · rw [yup_na (by omega), yup_na (by omega), yup_nk (by omega), gM3 _ _ (by omega), gA2, if_neg (by omega)]
    · rw [yup_na (by omega), yup_nk (by omega), yup_na (by omega), gM3 _ _ (by omega), gA3, if_neg (by omega)]
    · rw [yup_na (by omega), yup_na (by omega), yup_na (by omega), gM3 _ _ (by omega), gA1, if_pos rfl]
    · rw [yup_na (by omega), yup_na (by omega), yup_eq]
    · rw [yup_na (by omega), yup_eq, gM3 _ _ (by omega), gA3, if_neg (by omega)]
    · rw [yup_ne b1, yup_na b5, yup_na b4, gM3 a q b1]
      exact gO a q b1 b2 b3 b4 b5
  · subst z1 z2
    rw [if_pos rfl] at h1
    obtain ⟨rfl, rfl⟩ := badc hC3 h1
    have hrd : rd = -1 := by
      rcases IXm2 with ⟨y, -⟩ | ⟨k, y1, y2, y3, y4⟩
      · exact y
      · exact absurd (by rw [gM31 k (by omega)]; exact y3) (z3 k (by omega))
    rw [hrd, if_pos (by decide)] at h2
    have := badm h2
    subst this
    exact ⟨FC3.u2, (FrM.rf.tk f13).w8, Or.inl ⟨rfl, Flt.mk (hM3.tp0 T)⟩⟩
end HD
end

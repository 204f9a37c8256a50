section
/-! THE RUN: rows that are filled, new objects, an object's class -/
section UO
variable {G : Nat → Prop} {A p f g s o d n : Nat} {mc mm mc' mm' mc0 mm0 mc1 mm1 : yM}
theorem F75_8_r {a : Nat} {v : Int} (h : F75_8 f a v mc = some mc') : (∀ j, j < 8 → mc' a j = v) ∧ (∀ b q, ¬ (b = a ∧ q < 8) → mc' b q = mc b q) := by
  unfold F75_8 at h
  have K : ∀ {r : (Int × yM) ⊕ (Unit × yM)}, yloop (fun (l : Int) ml => B75_8_5 f a v 8 l ml) f 0 mc = some r → ∃ l m', r = .inl (l, m') ∧ (∀ j, j < 8 → m' a (0 + j) = v) ∧ (∀ b q, ¬ (b = a ∧ 0 ≤ q ∧ q < 0 + 8) → m' b q = mc b q) := fun e => fill_r (fun j m y hj hk e => by
    unfold B75_8_5 at e
    rw [k1w (by omega), Int.toNat_natCast] at e
    rcases ite1 e with ⟨q, e⟩ | ⟨q, e⟩
    · cases e
      exact Or.inr ⟨by omega, by rw [Nat.zero_add]⟩
    · cases e
      exact Or.inl ⟨by omega, rfl⟩) e
  rcases bL_e h with ⟨l, m1, e1, e2⟩ | ⟨l, m1, e1, e2⟩
  · obtain ⟨l', m', z, h1, h2⟩ := K e1
    cases z
    cases e2
    exact ⟨fun j hj => by have := h1 j hj; rw [Nat.zero_add] at this; exact this, fun b q hq => h2 b q (by omega)⟩
  · obtain ⟨l', m', z, h1, h2⟩ := K e1
    cases z
theorem F75_48_r {a : Nat} {v : Int} (h : F75_48 f a v mc = some mc') : (∀ j, j < 48 → mc' a j = v) ∧ (∀ b q, ¬ (b = a ∧ q < 48) → mc' b q = mc b q) := by
  unfold F75_48 at h
  have K : ∀ {r : (Int × yM) ⊕ (Unit × yM)}, yloop (fun (l : Int) ml => B75_48_5 f a v 48 l ml) f 0 mc = some r → ∃ l m', r = .inl (l, m') ∧ (∀ j, j < 48 → m' a (0 + j) = v) ∧ (∀ b q, ¬ (b = a ∧ 0 ≤ q ∧ q < 0 + 48) → m' b q = mc b q) := fun e => fill_r (fun j m y hj hk e => by
    unfold B75_48_5 at e
    rw [k1w (by omega), Int.toNat_natCast] at e
    rcases ite1 e with ⟨q, e⟩ | ⟨q, e⟩
    · cases e
      exact Or.inr ⟨by omega, by rw [Nat.zero_add]⟩
    · cases e
      exact Or.inl ⟨by omega, rfl⟩) e
  rcases bL_e h with ⟨l, m1, e1, e2⟩ | ⟨l, m1, e1, e2⟩
  · obtain ⟨l', m', z, h1, h2⟩ := K e1
    cases z
    cases e2
    exact ⟨fun j hj => by have := h1 j hj; rw [Nat.zero_add] at this; exact this, fun b q hq => h2 b q (by omega)⟩
  · obtain ⟨l', m', z, h1, h2⟩ := K e1
    cases z
/-- a new object, or no room for it -/
theorem objR {x : Nat} {r : Int} {z : (Int ⊕ Nat) × yM} (hB : uB G mc mm) (hF : uF n mc mm) (hn : n ≤ 4) (hx : x < 12) (hG : G x) (e1 : F186 f (x : Int) mc = some z) (e2 : F201 g (x : Int) mm = some (r, mm1)) : (mc 169 5 = 30 ∧ z = (.inr 10, mc) ∧ mm1 = yup mm 376 57 4) ∨ (mc 169 5 < 30 ∧ ∃ mc1, z = (.inl (mc 169 5), mc1) ∧ r = mc 169 5 + 1 ∧ uB G mc1 mm1 ∧ uF n mc1 mm1 ∧ uC mc mc1 ∧ uM mm mm1 ∧ mc1 169 5 = mc 169 5 + 1 ∧ mc1 169 6 = mc 169 6 ∧ (∀ b q, 252 ≤ b → mc1 b q = mc b q) ∧ (∀ q, 54 ≤ q → mm1 376 q = mm 376 q) ∧ (∀ b q, 411 ≤ b → mm1 b q = mm b q)) := by
  obtain ⟨⟨a1, a2, a3⟩, b1, c1, d1, s1⟩ := hB
  unfold F186 at e1
  unfold F201 at e2
  rw [← a1] at e2
  by_cases q : mc 169 5 = 30
  · rw [if_pos q] at e1 e2
    cases e1
    injection e2 with e2
    injection e2 with e2 e2'
    exact Or.inl ⟨q, rfl, e2'.symm⟩
  right
  obtain ⟨i, hi⟩ : ∃ i : Nat, mc 169 5 = i := ⟨(mc 169 5).toNat, by omega⟩
  refine ⟨by omega, ?_⟩
  rw [if_neg q, if_pos (by omega), hi, Int.toNat_natCast, k1w (by omega)] at e1
  rw [if_neg q, hi, Int.toNat_natCast] at e2
  replace e1 := bU_e e1
  obtain ⟨m8, e3, e1⟩ := e1
  injection e1 with e1
  subst e1
  obtain ⟨f1, f2⟩ := F75_8_r e3
  have fc : ∀ b q, ¬ (b = 169 ∧ q = 5) → ¬ (b = 219 ∧ q = i) → ¬ (b = 221 + i ∧ q < 8) → m8 b q = mc b q := fun b q z1 z2 z3 => by rw [f2 b q z3, yup_ne z2, yup_ne z1]
  have c5 : m8 169 5 = (i : Int) + 1 := by rw [f2 169 5 (by omega), yup_na (by decide), yup_eq]; omega
  have c219 : m8 219 i = x := by rw [f2 219 i (by omega), yup_eq]
  have K : ∀ {r : (Int × yM) ⊕ (Int × yM)}, yloop (fun (l : Int) ml => B201_28 g l ml) g 0 (yup mm 409 i (x : Int)) = some r → ∃ l m', r = .inl (l, m') ∧ (∀ j, j < 8 → m' 410 (8 * i + j) = 0) ∧ (∀ b q, ¬ (b = 410 ∧ 8 * i ≤ q ∧ q < 8 * i + 8) → m' b q = yup mm 409 i (x : Int) b q) := fun e => fill_r (fun j m y hj hk e => by
    unfold B201_28 at e
    have k51 : m 376 51 = i := by rw [hk 376 51 (by decide), yup_na (by decide), ← a1]; exact hi
    have ix : (wr ((wr (8 * (i : Int))) + (j : Int))).toNat = 8 * i + j := by
      rw [wr_i (x := 8 * (i : Int)) (by omega) (by omega), wr_i (by omega) (by omega)]; omega
    rw [k1w (by omega), k51, ix] at e
    rcases ite1 e with ⟨q, e⟩ | ⟨q, e⟩
    · cases e
      exact Or.inr ⟨by omega, rfl⟩
    · cases e
      exact Or.inl ⟨by omega, rfl⟩) e
  rcases bL_e e2 with ⟨l, m1, e4, e5⟩ | ⟨l, m1, e4, e5⟩
  case inr =>
    obtain ⟨l', m', w, -⟩ := K e4
    cases w
  obtain ⟨l', m', w, g1, g2⟩ := K e4
  injection w with w
  injection w with w w'
  subst w'
  have k51 : m1 376 51 = i := by rw [g2 376 51 (by omega), yup_na (by decide), ← a1]; exact hi
  rw [k51, k1w (by omega)] at e5
  injection e5 with e5
  injection e5 with e5 e5'
  have gm : ∀ b q, ¬ (b = 376 ∧ q = 51) → ¬ (b = 409 ∧ q = i) → ¬ (b = 410 ∧ 8 * i ≤ q ∧ q < 8 * i + 8) → mm1 b q = mm b q := fun b q z1 z2 z3 => by rw [← e5', yup_ne z1, g2 b q z3, yup_ne z2]
  have m51 : mm1 376 51 = (i : Int) + 1 := by rw [← e5', yup_eq]; omega
  have m409 : mm1 409 i = x := by rw [← e5', yup_na (by decide), g2 409 i (by omega), yup_eq]
  have m410 : ∀ j, j < 8 → mm1 410 (8 * i + j) = 0 := fun j hj => by rw [← e5', yup_na (by decide)]; exact g1 j hj
  refine ⟨m8, by rw [hi], by rw [← e5]; omega, ⟨?_, ?_, fun j hj => ?_, fun j q hj hq => ?_, fun v j hv hj => ?_⟩, fun y v hy hv => ?_, fun a q ha => fc a q (by omega) (by omega) (by omega), fun a q ha hq => gm a q (by omega) (by omega) (by omega), by rw [c5, hi], fc 169 6 (by omega) (by omega) (by omega), fun b q hb => fc b q (by omega) (by omega) (by omega), fun q hq => gm 376 q (by omega) (by omega) (by omega), fun b q hb => gm b q (by omega) (by omega) (by omega)⟩
  · rw [c5, m51]; omega
  · rw [fc 169 6 (by omega) (by omega) (by omega), gm 376 56 (by omega) (by omega) (by omega)]; exact b1
  · rw [c5] at hj
    by_cases y : j = i
    · subst y
      rw [c219, m409]
      exact ⟨rfl, x, rfl, hx, hG⟩
    · rw [fc 219 j (by omega) (by omega) (by omega), gm 409 j (by omega) (by omega) (by omega)]
      exact c1 j (by omega)
  · rw [c5] at hj ⊢
    by_cases y : j = i
    · subst y
      rw [f1 q hq, m410 q hq]
      omega
    · rw [fc (221 + j) q (by omega) (by omega) (by omega), gm 410 _ (by omega) (by omega) (by omega)]
      have := d1 j q (by omega) hq
      omega
  · rw [fc (171 + v) j (by omega) (by omega) (by omega), gm 408 _ (by omega) (by omega) (by omega)]
    exact s1 v j hv hj
  · rw [c5, fc (252 + y) v (by omega) (by omega) (by omega), gm 411 _ (by omega) (by omega) (by omega)]
    have := hF y v hy hv
    omega
theorem F191_r {val : Int} {z : (Int ⊕ Nat) × yM} (e : F191 f A val mc = some z) : (val = -1 ∧ z = (.inr 11, mc)) ∨ (val ≠ -1 ∧ z = (.inl (mc (A + 8) (mc 219 val.toNat).toNat), mc)) := by
  unfold F191 at e
  rcases ite1 e with ⟨q, e⟩ | ⟨q, e⟩
  · cases e; exact Or.inl ⟨q, rfl⟩
  · cases e; exact Or.inr ⟨q, rfl⟩
/-- the class of an object -/
theorem uB.cls {val : Int} (hA : A = 256 ∨ A = 316) (hp : p ≤ 1) (hG : ∀ k, G k → mc0 (A + 8) k = mm0 400 (12 * p + k) ∧ 0 ≤ mc0 (A + 8) k ∧ mc0 (A + 8) k < mc0 A 9) (h18 : mm0 376 18 = p) (h : uB G mc mm) (hc : uC mc0 mc) (hm : uM mm0 mm) (h0 : 0 ≤ val) (h1 : val < mc 169 5) : F206 (val + 1) mm = mc (A + 8) (mc 219 val.toNat).toNat ∧ 0 ≤ mc (A + 8) (mc 219 val.toNat).toNat ∧ mc (A + 8) (mc 219 val.toNat).toNat < mc A 9 := by
  obtain ⟨s1, x, s2, s3, s4⟩ := h.2.2.1 val.toNat (by omega)
  have h30 := h.1.2.2
  obtain ⟨g1, g2, g3⟩ := hG x s4
  have ws : (wr (val + 1 - 1)).toNat = val.toNat := by rw [wr_i (by omega) (by omega)]; omega
  unfold F206
  rw [hm 376 18 (by decide) (by omega), h18, ws, ← s1, s2, ixp12 hp (by omega), hm 400 _ (by decide) (by omega), Int.toNat_natCast, hc (A + 8) x (by omega), hc A 9 (by omega), ← g1]
  exact ⟨rfl, g2, g3⟩
end UO
end
section
/-! THE RUN: ops that neither jump nor call -/
def cdE (e : Nat) : Int := if e = 10 then 4 else if e = 11 then 1 else if e = 12 then 2 else 3
/-- behind a throw -/
def uE (mc0 mm0 mc mm : yM) : Prop := (∀ v j : Nat, v < 48 → j < 12 → mc (171 + v) j = mm 408 (12 * v + j) ∧ 0 ≤ mc (171 + v) j ∧ mc (171 + v) j ≤ 1) ∧ uC mc0 mc ∧ uM mm0 mm
def uX (mc0 mm0 : yM) (e : Nat) (mc mm : yM) : Prop := (10 ≤ e ∧ e ≤ 13) ∧ mm 376 57 = cdE e ∧ uE mc0 mm0 mc mm
/-- what an op that goes on leaves alone -/
def uK (A t d : Nat) (mc0 mc mm mc' mm' : yM) : Prop := (∀ q, mm' 412 q = mm 412 q) ∧ mm' 376 55 = mm 376 55 ∧ mc' 169 6 = mc 169 6 ∧ (∀ b q : Nat, 252 ≤ b → ¬ (b = 252 + d ∧ (q : Int) = mc0 (A + 20 + t) 2) → mc' b q = mc b q)
section UP
variable {G : Nat → Prop} {A p f g s o d t b : Nat} {mc mm mc' mm' mc0 mm0 mc1 mm1 : yM}
theorem uS.err {e : Nat} {x : Int} (h : uS G mc0 mm0 d mc mm) (he : 10 ≤ e ∧ e ≤ 13) (hx : x = cdE e) : uX mc0 mm0 e mc (yup mm 376 57 x) := ⟨he, by rw [yup_eq, hx], fun v j hv hj => by rw [yup_na (by omega)]; exact h.1.2.2.2.2 v j hv hj, h.2.2.1, h.2.2.2.1.up (by omega)⟩
theorem uS.f57 (h : uS G mc0 mm0 d mc mm) : uS G mc0 mm0 d mc (yup mm 376 57 0) := by
  obtain ⟨k1, k2, k3, k4, k5, k6⟩ := h
  exact ⟨k1.fr (fun _ _ _ => rfl) (fun a q ha => yup_ne (by omega)), k2.fr (fun _ _ _ => rfl) (Int.le_refl _) (fun q => yup_na (by omega)), k3, k4.up (by omega), by rw [yup_nk (by decide)]; exact k5, yup_eq _ _ _ _⟩
theorem uS.b403 {q : Nat} (h : uS G mc0 mm0 d mc mm) (hb : b ≤ 2000) (hq : q < 8) : mm 403 (wr ((b : Int) + (q : Int))).toNat = mm0 403 (b + q) := by
  rw [wr_i (by omega) (by omega), show ((b : Int) + (q : Int)).toNat = b + q by omega]
  exact h.2.2.2.1 403 _ (by decide) (by omega)
theorem uS.S (h : uS G mc0 mm0 d mc mm) (hA : A = 256 ∨ A = 316) (q : Nat) : mc (A + 20 + t) q = mc0 (A + 20 + t) q := h.2.2.1 _ _ (by omega)
/-- a field of an object: class -/
theorem F192_r {val fd : Int} {z : (Int ⊕ Nat) × yM} (e : F192 f A val fd mc = some z) : (val = -1 ∧ z = (.inr 11, mc)) ∨ (val ≠ -1 ∧ F47 A (mc (A + 8) (mc 219 val.toNat).toNat) fd mc = 0 ∧ z = (.inr 13, mc)) ∨ (val ≠ -1 ∧ F47 A (mc (A + 8) (mc 219 val.toNat).toNat) fd mc ≠ 0 ∧ z = (.inl val, mc)) := by
  unfold F192 at e
  rcases bT_e e with ⟨r, m1, e1, e2⟩ | ⟨r, m1, e1, e2⟩
  · rcases F191_r e1 with ⟨-, w⟩ | ⟨w0, w⟩
    · cases w
    · injection w with w w'
      injection w with w
      rw [w, w'] at e2
      rcases ite1 e2 with ⟨q, e2⟩ | ⟨q, e2⟩
      · cases e2; exact Or.inr (Or.inl ⟨w0, q, rfl⟩)
      · cases e2; exact Or.inr (Or.inr ⟨w0, q, rfl⟩)
  · rcases F191_r e1 with ⟨w0, w⟩ | ⟨-, w⟩
    · injection w with w w'
      injection w with w
      rw [w, w'] at e2
      cases e2
      exact Or.inl ⟨w0, rfl⟩
    · cases w
/-- has the class the field: class and model -/
theorem has_u {c r fd : Int} (hA : A = 256 ∨ A = 316) (hp : p ≤ 1) (hR : RPG A p s o mc0 mm0) (hc : uC mc0 mc) (hm : uM mm0 mm) (h0 : 0 ≤ c) (h1 : c < mc A 9) (hf : -1 ≤ fd ∧ fd < 8) (e : F121 g p c fd mm = some r) : (r = 0 ↔ F47 A c fd mc = 0) := by
  by_cases z : fd = -1
  · unfold F121 at e
    rw [if_pos (by omega)] at e
    cases e
    unfold F47
    rw [if_pos z]
  · obtain ⟨n, hn⟩ : ∃ n : Nat, fd = n := ⟨fd.toNat, by omega⟩
    obtain ⟨cn, hcn⟩ : ∃ cn : Nat, c = cn := ⟨c.toNat, by omega⟩
    subst hn
    subst hcn
    have hr : rCl A p mc mm := (hR.1.fr rfl (fun _ _ _ => rfl) (fun b q hb => hm _ _ (by omega) (by omega)) : rCl A p mc0 mm).fr (hc _ _ (by omega)) (fun b q hb => hc _ _ (by omega)) (fun _ _ _ => rfl)
    obtain ⟨r1, r2⟩ := hr.has hp (by omega) (by omega) e
    rw [F47_r, Int.toNat_natCast]
    constructor
    · intro y w
      have := r2.mpr w
      omega
    · intro y
      by_cases w : r = 1
      · exact absurd (r2.mp w) y
      · omega
/-- a cast: class -/
theorem F194_r {val tc : Int} {z : (Int ⊕ Nat) × yM} (e : F194 f A tc val mc = some z) : (val = -1 ∧ z = (.inl val, mc)) ∨ (val ≠ -1 ∧ ∃ r, F81 f A (mc (A + 8) (mc 219 val.toNat).toNat) tc mc = some r ∧ ((r = 0 ∧ z = (.inr 12, mc)) ∨ (r ≠ 0 ∧ z = (.inl val, mc)))) := by
  unfold F194 at e
  rcases ite1 e with ⟨q, e⟩ | ⟨q, e⟩
  · cases e; exact Or.inl ⟨q, rfl⟩
  · refine Or.inr ⟨q, ?_⟩
    rcases bT_e e with ⟨r, m1, e1, e2⟩ | ⟨r, m1, e1, e2⟩
    · rcases F191_r e1 with ⟨w0, -⟩ | ⟨w0, w⟩
      · exact absurd w0 q
      · injection w with w w'
        injection w with w
        rw [w, w'] at e2
        replace e2 := bP_e e2
        obtain ⟨r2, e3, e2⟩ := e2
        refine ⟨r2, e3, ?_⟩
        rcases ite1 e2 with ⟨q2, e2⟩ | ⟨q2, e2⟩
        · cases e2; exact Or.inl ⟨q2, rfl⟩
        · cases e2; exact Or.inr ⟨q2, rfl⟩
    · rcases F191_r e1 with ⟨w0, -⟩ | ⟨w0, w⟩
      · exact absurd w0 q
      · cases w
/-- the kinds 5 to 9: a value is found, and goes to a variable -/
theorem value_u {res : Int ⊕ Nat} {n2 : yM} (hA : A = 256 ∨ A = 316) (hp : p ≤ 1) (hd : d < 4) (hb : b ≤ 2000) (hR : RPG A p s o mc0 mm0) (hG : ∀ k, G k → mc0 (A + 8) k = mm0 400 (12 * p + k) ∧ 0 ≤ mc0 (A + 8) k ∧ mc0 (A + 8) k < mc0 A 9) (hgn : mc0 (A + 20 + t) 0 = 5 → ∀ x : Nat, mc0 (A + 20 + t) 6 = x → x < 12 ∧ G x) (h18 : mm0 376 18 = p) (hZ : OPZ A p t b mc0 mm0) (hk : 5 ≤ mc0 (A + 20 + t) 0) (h : uS G mc0 mm0 d mc mm) (e1 : bT (F195_48 f A (A + 20 + t) (252 + d) mc) (fun r m' => bU (F188_48 f (252 + d) (mc (A + 20 + t) 2) r m') (fun m'' => some ((.inl 0 : Int ⊕ Nat), m''))) (fun e' m' => some ((.inr e' : Int ⊕ Nat), m')) = some (res, mc')) (e2 : F209 g (b : Int) mm = some n2) : (∃ e, res = .inr e ∧ uX mc0 mm0 e mc' n2) ∨ (res = .inl 0 ∧ uS G mc0 mm0 d mc' n2 ∧ uK A t d mc0 mc mm mc' n2) := by
  have S := fun q => h.S (t := t) hA q
  have B := fun q hq => h.b403 (b := b) (q := q) hb hq
  have B0 : mm 403 b = mm0 403 b := h.2.2.2.1 403 _ (by decide) (by omega)
  have k18 : mm 376 18 = p := by rw [h.2.2.2.1 376 18 (by decide) (by omega)]; exact h18
  have hB5 := h.1.1
  -- the last step
  have fin : ∀ {v : Nat} {val : Int} {mx : yM} {nx : yM}, uS G mc0 mm0 d mx nx → mc0 (A + 20 + t) 2 = v → v < 48 → -1 ≤ val → val < mx 169 5 → mx 169 6 = mc 169 6 → (∀ b q, 252 ≤ b → mx b q = mc b q) → (∀ q, nx 412 q = mm 412 q) → nx 376 55 = mm 376 55 → bU (F188_48 f (252 + d) (v : Int) val mx) (fun m'' => some ((.inl 0 : Int ⊕ Nat), m'')) = some (res, mc') → F202 g (v : Int) (val + 1) nx = some n2 → (∃ e, res = .inr e ∧ uX mc0 mm0 e mc' n2) ∨ (res = .inl 0 ∧ uS G mc0 mm0 d mc' n2 ∧ uK A t d mc0 mc mm mc' n2) := by
    intro v val mx nx hx hv v48 v1 v2 x6 xf x412 x55 c1 c2
    replace c1 := bU_e c1
    obtain ⟨m3, c3, c1⟩ := c1
    injection c1 with c1
    injection c1 with c1 c1'
    subst c1'
    obtain ⟨u1, u2, u3, u4, u5, u6⟩ := hx.set hd v48 v1 v2 c3 c2
    refine Or.inr ⟨c1.symm, u1, fun q => (u5 q).trans (x412 q), u6.trans x55, (u4 6).trans x6, fun b q hb hq => ?_⟩
    rw [hv] at hq
    rw [u2 b q hb (by omega)]
    exact xf b q hb
  unfold F195_48 at e1
  unfold F209 at e2
  rw [S 0, S 2, S 3, S 6, S 7] at e1
  rw [Int.toNat_natCast, B0, show (b : Int) + 2 = (b : Int) + ((2 : Nat) : Int) by rfl, show (b : Int) + 3 = (b : Int) + ((3 : Nat) : Int) by rfl, show (b : Int) + 4 = (b : Int) + ((4 : Nat) : Int) by rfl, B 2 (by decide), B 3 (by decide), B 4 (by decide)] at e2
  obtain ⟨-, hZ⟩ := hZ
  rcases hZ with hZ | hZ | hZ | hZ | hZ | hZ | hZ | hZ
  · have := hZ.1; omega
  · have := hZ.1; omega
  · have := hZ.1; omega
  · -- new
    obtain ⟨g1, g2, g3, g4, g5, g6, g7, g8⟩ := hZ
    obtain ⟨v, hv, l2, -⟩ := g5.nat
    obtain ⟨x, hx⟩ : ∃ x : Nat, mc0 (A + 20 + t) 6 = x := ⟨(mc0 (A + 20 + t) 6).toNat, by omega⟩
    obtain ⟨x12, hGx⟩ := hgn g1 x hx
    rw [if_pos g1, hx, hv] at e1
    rw [g2, if_neg (by decide), if_neg (by decide), if_neg (by decide), if_neg (by decide), if_pos rfl, g3, g4, hx, hv] at e2
    replace e2 := bI_e e2
    obtain ⟨r, n1, e3, e2⟩ := e2
    have key : ∀ z, F186 f (x : Int) mc = some z → (mc 169 5 = 30 ∧ z = (.inr 10, mc) ∧ n1 = yup mm 376 57 4) ∨ (mc 169 5 < 30 ∧ ∃ mc1, z = (.inl (mc 169 5), mc1) ∧ r = mc 169 5 + 1 ∧ uB G mc1 n1 ∧ uF (d + 1) mc1 n1 ∧ uC mc mc1 ∧ uM mm n1 ∧ mc1 169 5 = mc 169 5 + 1 ∧ mc1 169 6 = mc 169 6 ∧ (∀ b q, 252 ≤ b → mc1 b q = mc b q) ∧ (∀ q, 54 ≤ q → n1 376 q = mm 376 q) ∧ (∀ b q, 411 ≤ b → n1 b q = mm b q)) := fun z ez => objR h.1 h.2.1 (by omega) x12 hGx ez e3
    rcases bT_e e1 with ⟨r1, m1, c1, c2⟩ | ⟨r1, m1, c1, c2⟩
    · rcases bT_e c1 with ⟨r3, m3, c3, c4⟩ | ⟨r3, m3, c3, c4⟩
      · injection c4 with c4
        injection c4 with c4 c4'
        injection c4 with c4
        rcases key _ c3 with ⟨-, w, -⟩ | ⟨w0, mc1, w, w1, w2, w3, w4, w5, w6, w7, w8, w9, w10⟩
        · cases w
        · injection w with w w'
          injection w with w
          rw [← c4, ← c4', w, w'] at c2
          rw [w9 57 (by decide), h.2.2.2.2.2, if_pos rfl, w1] at e2
          replace e2 := bU_e e2
          obtain ⟨n3, e4, e2⟩ := e2
          injection e2 with e2
          subst e2
          exact fin ⟨w2, w3, h.2.2.1.tr w4, h.2.2.2.1.tr w5, by rw [w9 54 (by decide)]; exact h.2.2.2.2.1, by rw [w9 57 (by decide)]; exact h.2.2.2.2.2⟩ hv l2 (by omega) (by omega) w7 w8 (fun q => w10 _ _ (by decide)) (w9 55 (by decide)) c2 e4
      · cases c4
    · rcases bT_e c1 with ⟨r3, m3, c3, c4⟩ | ⟨r3, m3, c3, c4⟩
      · cases c4
      · injection c4 with c4
        injection c4 with c4 c4'
        injection c4 with c4
        rcases key _ c3 with ⟨-, w, w1⟩ | ⟨w0, mc1, w, -⟩
        · injection w with w w'
          injection w with w
          rw [← c4, ← c4', w, w'] at c2
          injection c2 with c2
          injection c2 with c2 c2'
          rw [w1, yup_eq, if_neg (by decide)] at e2
          injection e2 with e2
          subst e2
          subst c2'
          exact Or.inl ⟨10, c2.symm, h.err (by decide) rfl⟩
        · cases w
  · -- null
    obtain ⟨g1, g2, g3, g4⟩ := hZ
    obtain ⟨v, hv, l2, -⟩ := g4.nat
    rw [if_neg (by omega), if_pos g1, hv] at e1
    rw [g2, if_pos rfl, g3, hv] at e2
    replace e2 := bU_e e2
    obtain ⟨n3, e4, e2⟩ := e2
    injection e2 with e2
    subst e2
    rcases bT_e e1 with ⟨r1, m1, c1, c2⟩ | ⟨r1, m1, c1, c2⟩
    · injection c1 with c1
      injection c1 with c1 c1'
      injection c1 with c1
      rw [← c1, ← c1'] at c2
      exact fin h hv l2 (by omega) (by omega) rfl (fun _ _ _ => rfl) (fun _ => rfl) rfl c2 (by rw [show ((-1 : Int) + 1) = 0 by decide]; exact e4)
    · cases c1
  · -- a cast
    obtain ⟨g1, g2, g3, g4, g5, g6, g7, g8, g9, g10, g11, g12, g13, g14⟩ := hZ
    obtain ⟨v, hv, l2, -⟩ := g5.nat
    obtain ⟨v3, hv3, l3, -⟩ := g6.nat
    obtain ⟨c, hc⟩ : ∃ c : Nat, mm0 403 (b + 4) = c := ⟨(mm0 403 (b + 4)).toNat, by omega⟩
    obtain ⟨tc, htc⟩ : ∃ tc, mc0 (A + 20 + t) 7 = tc := ⟨_, rfl⟩
    rw [htc, hc, Int.toNat_natCast] at g12
    rw [htc] at g13
    rw [if_neg (by omega), if_neg (by omega), if_pos g1, hv, hv3, Int.toNat_natCast, htc] at e1
    rw [g2, if_neg (by decide), if_neg (by decide), if_neg (by decide), if_neg (by decide), if_neg (by decide), g3, g4, hv, hv3, hc, h.f205 hd l3, k18, ixp8 hp (by omega), h.2.2.2.1 402 _ (by decide) (by omega), g12] at e2
    have vr := h.vr l3
    obtain ⟨val, hval⟩ : ∃ val, mc (252 + d) v3 = val := ⟨_, rfl⟩
    rw [hval] at e1 e2 vr
    have good : J209_167 g (v : Int) (val + 1) mm = some n2 → F202 g (v : Int) (val + 1) (yup mm 376 57 0) = some n2 := by
      intro e
      unfold J209_167 J209_172 at e
      replace e := bI_e e
      obtain ⟨r5, n5, e5, e⟩ := e
      obtain ⟨q1, c5, q2, -, q4⟩ := F23_x e5
      rw [q1, if_neg (by decide)] at e
      rw [q4 (by decide)] at q2
      replace e := bU_e e
      obtain ⟨n6, e6, e⟩ := e
      injection e with e
      subst e
      rw [← q2]; exact e6
    have go : bU (F188_48 f (252 + d) (v : Int) val mc) (fun m'' => some ((.inl 0 : Int ⊕ Nat), m'')) = some (res, mc') → J209_167 g (v : Int) (val + 1) mm = some n2 → (∃ e, res = .inr e ∧ uX mc0 mm0 e mc' n2) ∨ (res = .inl 0 ∧ uS G mc0 mm0 d mc' n2 ∧ uK A t d mc0 mc mm mc' n2) := fun c1 c2 => fin h.f57 hv l2 vr.1 vr.2 rfl (fun _ _ _ => rfl) (fun q => yup_na (by decide)) (yup_nk (by decide)) c1 (good c2)
    have mod : ∀ r : Int, val ≠ -1 → F81 f A (mc (A + 8) (mc 219 val.toNat).toNat) tc mc = some r → (r = 0 ∧ J209_172 g (v : Int) (val + 1) 0 mm = some n2) ∨ (r ≠ 0 ∧ J209_167 g (v : Int) (val + 1) mm = some n2) := by
      intro r hz e5
      rw [if_neg (by omega)] at e2
      replace e2 := bP_e e2
      obtain ⟨r2, e6, e2⟩ := e2
      obtain ⟨c1, c2, c3⟩ := h.1.cls hA hp hG h18 h.2.2.1 h.2.2.2.1 (by omega) vr.2
      rw [c1] at e6
      have hr : rCl A p mc mm := (hR.1.fr rfl (fun _ _ _ => rfl) (fun b q hb => h.2.2.2.1 _ _ (by omega) (by omega)) : rCl A p mc0 mm).fr (h.2.2.1 _ _ (by omega)) (fun b q hb => h.2.2.1 _ _ (by omega)) (fun _ _ _ => rfl)
      obtain ⟨y1, -⟩ := below_r hr hp g13 c2 c3 e5 e6
      rw [← y1] at e2
      rcases ite1 e2 with ⟨q, e2⟩ | ⟨q, e2⟩
      · exact Or.inl ⟨q, e2⟩
      · exact Or.inr ⟨q, e2⟩
    rcases bT_e e1 with ⟨r1, m1, c1, c2⟩ | ⟨r1, m1, c1, c2⟩
    · rcases bT_e c1 with ⟨r3, m3, c3, c4⟩ | ⟨r3, m3, c3, c4⟩
      · injection c4 with c4
        injection c4 with c4 c4'
        injection c4 with c4
        rcases F194_r c3 with ⟨w0, w⟩ | ⟨w0, r5, w1, ⟨-, w⟩ | ⟨w2, w⟩⟩
        · injection w with w w'
          injection w with w
          rw [← c4, ← c4', w, w'] at c2
          rw [if_pos (by omega)] at e2
          exact go c2 e2
        · cases w
        · injection w with w w'
          injection w with w
          rw [← c4, ← c4', w, w'] at c2
          rcases mod r5 w0 w1 with ⟨y, -⟩ | ⟨-, y⟩
          · exact absurd y w2
          · exact go c2 y
      · cases c4
    · rcases bT_e c1 with ⟨r3, m3, c3, c4⟩ | ⟨r3, m3, c3, c4⟩
      · cases c4
      · injection c4 with c4
        injection c4 with c4 c4'
        injection c4 with c4
        rcases F194_r c3 with ⟨w0, w⟩ | ⟨w0, r5, w1, ⟨w2, w⟩ | ⟨-, w⟩⟩
        · cases w
        · injection w with w w'
          injection w with w
          rw [← c4, ← c4', w, w'] at c2
          injection c2 with c2
          injection c2 with c2 c2'
          subst c2'
          rcases mod r5 w0 w1 with ⟨-, y⟩ | ⟨y, -⟩
          · unfold J209_172 at y
            replace y := bI_e y
            obtain ⟨r6, n6, e6, y⟩ := y
            obtain ⟨q1, c5, q2, q3, -⟩ := F23_x e6
            rw [q1, if_pos rfl] at y
            injection y with y
            subst y
            rw [q2, q3 rfl]
            exact Or.inl ⟨12, c2.symm, h.err (by decide) rfl⟩
          · exact absurd w2 y
        · cases w
  · -- a copy
    obtain ⟨g1, g2, g3, g4, g5, g6⟩ := hZ
    obtain ⟨v, hv, l2, -⟩ := g5.nat
    obtain ⟨v3, hv3, l3, -⟩ := g6.nat
    rw [if_neg (by omega), if_neg (by omega), if_neg (by omega), if_pos g1, hv, hv3, Int.toNat_natCast] at e1
    rw [g2, if_neg (by decide), if_pos rfl, g3, g4, hv, hv3, h.f205 hd l3] at e2
    have vr := h.vr l3
    replace e2 := bU_e e2
    obtain ⟨n3, e4, e2⟩ := e2
    injection e2 with e2
    subst e2
    rcases bT_e e1 with ⟨r1, m1, c1, c2⟩ | ⟨r1, m1, c1, c2⟩
    · injection c1 with c1
      injection c1 with c1 c1'
      injection c1 with c1
      rw [← c1, ← c1'] at c2
      exact fin h hv l2 vr.1 vr.2 rfl (fun _ _ _ => rfl) (fun _ => rfl) rfl c2 e4
    · cases c1
  · -- a load
    obtain ⟨g1, g2, g3, g4, g5, g6, g7, g8, g9⟩ := hZ
    obtain ⟨v, hv, l2, -⟩ := g5.nat
    obtain ⟨v3, hv3, l3, -⟩ := g6.nat
    obtain ⟨fd, hfd⟩ : ∃ fd, mc0 (A + 20 + t) 6 = fd := ⟨_, rfl⟩
    rw [hfd] at g7 g8 g9
    rw [if_neg (by omega), if_neg (by omega), if_neg (by omega), if_neg (by omega), if_pos g1, hv, hv3, Int.toNat_natCast, hfd] at e1
    rw [g2, if_neg (by decide), if_neg (by decide), if_pos rfl] at e2
    have vr := h.vr l3
    obtain ⟨val, hval⟩ : ∃ val, mc (252 + d) v3 = val := ⟨_, rfl⟩
    rw [hval] at e1 vr
    unfold J209_66 F208 at e2
    replace e2 := bU_e e2
    obtain ⟨n3, e4, e2⟩ := e2
    injection e2 with e2
    rw [e2] at e4
    rw [Int.toNat_natCast, B0, g2, if_pos rfl] at e4
    unfold J208_15 J208_40 at e4
    rw [if_neg (by decide), show (b : Int) + 3 = (b : Int) + ((3 : Nat) : Int) by rfl, B 3 (by decide), g4, hv3, h.f205 hd l3, hval] at e4
    -- the model, behind its test for null
    have mod : ∀ {xs : Int} {n5 : yM}, J208_54 g (b : Int) 1 (val + 1) xs mm = some n5 → (xs = 0 → n5 = yup mm 376 57 1) ∧ (xs ≠ 0 → ∃ r, F121 g p (F206 (val + 1) (yup mm 376 57 0)) fd (yup mm 376 57 0) = some r ∧ ((r = 0 ∧ n5 = yup (yup mm 376 57 0) 376 57 3) ∨ (r ≠ 0 ∧ F202 g (v : Int) (yup (yup mm 376 57 0) 376 57 0 410 (wr ((wr (8 * (wr (val + 1 - 1)))) + fd)).toNat) (yup (yup mm 376 57 0) 376 57 0) = some n5))) := by
      intro xs n5 e
      unfold J208_54 at e
      replace e := bI_e e
      obtain ⟨r5, n6, e5, e⟩ := e
      obtain ⟨q1, c5, q2, q3, q4⟩ := F23_x e5
      refine ⟨fun z => ?_, fun z => ?_⟩
      · rw [q1, if_pos z] at e
        injection e with e
        rw [← e, q2, q3 z]
      · rw [q1, if_neg z] at e
        rw [q4 z] at q2
        rw [q2] at e
        have hh := h.f57
        replace e := bP_e e
        obtain ⟨r6, e6, e⟩ := e
        have y18 : yup mm 376 57 0 376 18 = p := by rw [yup_nk (by decide)]; exact k18
        have B' := fun q hq => hh.b403 (b := b) (q := q) hb hq
        rw [y18, show (b : Int) + 4 = (b : Int) + ((4 : Nat) : Int) by rfl, B' 4 (by decide), g7] at e6
        refine ⟨r6, e6, ?_⟩
        replace e := bI_e e
        obtain ⟨r7, n7, e7, e⟩ := e
        obtain ⟨p1, c6, p2, p3, p4⟩ := F23_x e7
        by_cases w : r6 = 0
        · rw [p1, if_pos w] at e
          injection e with e
          exact Or.inl ⟨w, by rw [← e, p2, p3 w]⟩
        · rw [p1, if_neg w, if_neg (by decide)] at e
          rw [p4 w] at p2
          rw [p2] at e
          replace e := bU_e e
          obtain ⟨n8, e8, e⟩ := e
          injection e with e
          subst e
          have B2 := fun q hq => hh.f57.b403 (b := b) (q := q) hb hq
          rw [show (b : Int) + 4 = (b : Int) + ((4 : Nat) : Int) by rfl, show (b : Int) + 2 = (b : Int) + ((2 : Nat) : Int) by rfl, B2 4 (by decide), B2 2 (by decide), g7, g3, hv] at e8
          exact Or.inr ⟨w, e8⟩
    have e4' : Hid ((val = -1 → n2 = yup mm 376 57 1) ∧ (val ≠ -1 → ∃ r, F121 g p (F206 (val + 1) (yup mm 376 57 0)) fd (yup mm 376 57 0) = some r ∧ ((r = 0 ∧ n2 = yup (yup mm 376 57 0) 376 57 3) ∨ (r ≠ 0 ∧ F202 g (v : Int) (yup (yup mm 376 57 0) 376 57 0 410 (wr ((wr (8 * (wr (val + 1 - 1)))) + fd)).toNat) (yup (yup mm 376 57 0) 376 57 0) = some n2)))) := by
      refine ⟨fun z => ?_, fun z => ?_⟩
      · rw [if_neg (by omega)] at e4
        exact (mod e4).1 rfl
      · rw [if_pos (by omega)] at e4
        exact (mod e4).2 (by decide)
    clear mod
    have hh := h.f57.f57
    rcases bT_e e1 with ⟨r1, m1, c1, c2⟩ | ⟨r1, m1, c1, c2⟩
    · rcases bT_e c1 with ⟨r3, m3, c3, c4⟩ | ⟨r3, m3, c3, c4⟩
      · rcases F192_r c3 with ⟨-, w⟩ | ⟨-, -, w⟩ | ⟨w0, w1, w⟩
        · cases w
        · cases w
        · injection w with w w'
          injection w with w
          rw [w, w'] at c4
          obtain ⟨i, hi⟩ : ∃ i : Nat, val = i := ⟨val.toNat, by omega⟩
          have h30 := h.1.1.2.2
          rw [if_pos (by omega), S 6, hfd] at c4
          injection c4 with c4
          injection c4 with c4 c4'
          injection c4 with c4
          rw [← c4, ← c4'] at c2
          obtain ⟨y1, y2⟩ := e4'
          obtain ⟨r6, y3, y4⟩ := y2 w0
          obtain ⟨k1, k2, k3⟩ := h.f57.1.cls hA hp hG h18 h.f57.2.2.1 h.f57.2.2.2.1 (by omega) vr.2
          rw [k1] at y3
          have hu := has_u hA hp hR h.2.2.1 h.f57.2.2.2.1 k2 k3 ⟨g8, g9⟩ y3
          rcases y4 with ⟨y5, -⟩ | ⟨y5, y6⟩
          · exact absurd (hu.mp y5) w1
          · have f0 : fd ≠ -1 := by
              intro z
              apply w1
              unfold F47
              rw [if_pos z]
            obtain ⟨fn, hfn⟩ : ∃ fn : Nat, fd = fn := ⟨fd.toNat, by omega⟩
            obtain ⟨z1, z2, z3⟩ := h.1.2.2.2.1 i fn (by omega) (by omega)
            have ix : (wr ((wr (8 * (wr (val + 1 - 1)))) + fd)).toNat = 8 * i + fn := by
              rw [hi, hfn, wr_i (x := (i : Int) + 1 - 1) (by omega) (by omega), wr_i (x := 8 * ((i : Int) + 1 - 1)) (by omega) (by omega), wr_i (by omega) (by omega)]
              omega
            rw [ix, yup_na (by decide), yup_na (by decide), z1] at y6
            rw [hi, hfn, Int.toNat_natCast, Int.toNat_natCast] at c2
            exact fin hh hv l2 z2 z3 rfl (fun _ _ _ => rfl) (fun q => by rw [yup_na (by decide), yup_na (by decide)]) (by rw [yup_nk (by decide), yup_nk (by decide)]) c2 y6
      · cases c4
    · rcases bT_e c1 with ⟨r3, m3, c3, c4⟩ | ⟨r3, m3, c3, c4⟩
      · rcases ite1 c4 with ⟨-, c4⟩ | ⟨-, c4⟩ <;> cases c4
      · injection c4 with c4
        injection c4 with c4 c4'
        injection c4 with c4
        rcases F192_r c3 with ⟨w0, w⟩ | ⟨w0, w1, w⟩ | ⟨-, -, w⟩
        · injection w with w w'
          injection w with w
          rw [← c4, ← c4', w, w'] at c2
          injection c2 with c2
          injection c2 with c2 c2'
          subst c2'
          rw [e4'.1 w0]
          exact Or.inl ⟨11, c2.symm, h.err (by decide) rfl⟩
        · injection w with w w'
          injection w with w
          rw [← c4, ← c4', w, w'] at c2
          injection c2 with c2
          injection c2 with c2 c2'
          subst c2'
          obtain ⟨r6, y3, y4⟩ := e4'.2 w0
          obtain ⟨k1, k2, k3⟩ := h.f57.1.cls hA hp hG h18 h.f57.2.2.1 h.f57.2.2.2.1 (by omega) vr.2
          rw [k1] at y3
          have hu := has_u hA hp hR h.2.2.1 h.f57.2.2.2.1 k2 k3 ⟨g8, g9⟩ y3
          rcases y4 with ⟨-, y5⟩ | ⟨y5, -⟩
          · rw [y5]
            exact Or.inl ⟨13, c2.symm, h.f57.err (by decide) rfl⟩
          · exact absurd (hu.mpr w1) y5
        · cases w
end UP
end
section
/-! THE RUN: a store -/
section UT
variable {G : Nat → Prop} {A p f g s o d t b : Nat} {mc mm mc' mm' mc0 mm0 mc1 mm1 : yM}
theorem uS.fld {i q : Nat} {val : Int} (h : uS G mc0 mm0 d mc mm) (hi : (i : Int) < mc 169 5) (hq : q < 8) (h1 : -1 ≤ val) (h2 : val < mc 169 5) : uS G mc0 mm0 d (yup mc (221 + i) q val) (yup mm 410 (8 * i + q) (val + 1)) := by
  obtain ⟨⟨a1, a2, a3, a4, a5⟩, k2, k3, k4, k5, k6⟩ := h
  have a12 := a1.2.2
  refine ⟨⟨?_, ?_, fun j hj => ?_, fun j w hj hw => ?_, fun v j hv hj => ?_⟩, k2.fr (fun x v _ => yup_na (by omega)) (by rw [yup_na (by omega)]; omega) (fun q => yup_na (by omega)), k3.up (by omega), k4.up (by omega), by rw [yup_na (by omega)]; exact k5, by rw [yup_na (by omega)]; exact k6⟩
  · rw [yup_na (by omega), yup_na (by omega)]; exact a1
  · rw [yup_na (by omega), yup_na (by omega)]; exact a2
  · rw [yup_na (show 169 ≠ 221 + i by omega)] at hj
    rw [yup_na (by omega), yup_na (by omega)]; exact a3 j hj
  · rw [yup_na (show 169 ≠ 221 + i by omega)] at hj ⊢
    by_cases z : j = i ∧ w = q
    · obtain ⟨rfl, rfl⟩ := z
      rw [yup_eq, yup_eq]
      exact ⟨rfl, h1, h2⟩
    · rw [yup_ne (by omega), yup_ne (by omega)]
      exact a4 j w hj hw
  · rw [yup_na (by omega), yup_na (by omega)]; exact a5 v j hv hj
theorem store_u {res : Int ⊕ Nat} {n2 : yM} (hA : A = 256 ∨ A = 316) (hp : p ≤ 1) (hd : d < 4) (hb : b ≤ 2000) (hR : RPG A p s o mc0 mm0) (hG : ∀ k, G k → mc0 (A + 8) k = mm0 400 (12 * p + k) ∧ 0 ≤ mc0 (A + 8) k ∧ mc0 (A + 8) k < mc0 A 9) (h18 : mm0 376 18 = p) (hZ : OPZ A p t b mc0 mm0) (hk : mc0 (A + 20 + t) 0 = 3) (h : uS G mc0 mm0 d mc mm) (e1 : bT (F192 f A (mc (252 + d) (mc (A + 20 + t) 2).toNat) (mc (A + 20 + t) 6) mc) (fun r m' => (if 0 ≤ r ∧ r < ((30 : Nat) : Int) then (some ((.inl 0 : Int ⊕ Nat), yup m' (221 + (r).toNat) (m' (A + 20 + t) 6).toNat (m' (252 + d) (m' (A + 20 + t) 3).toNat))) else none)) (fun e' m' => some ((.inr e' : Int ⊕ Nat), m')) = some (res, mc')) (e2 : F209 g (b : Int) mm = some n2) : (∃ e, res = .inr e ∧ uX mc0 mm0 e mc' n2) ∨ (res = .inl 0 ∧ uS G mc0 mm0 d mc' n2 ∧ uK A t d mc0 mc mm mc' n2 ∧ ∀ b q : Nat, 252 ≤ b → mc' b q = mc b q) := by
  have S := fun q => h.S (t := t) hA q
  have B := fun q hq => h.b403 (b := b) (q := q) hb hq
  have B0 : mm 403 b = mm0 403 b := h.2.2.2.1 403 _ (by decide) (by omega)
  have k18 : mm 376 18 = p := by rw [h.2.2.2.1 376 18 (by decide) (by omega)]; exact h18
  have h30 := h.1.1.2.2
  obtain ⟨-, hZ⟩ := hZ
  have hZ' : mm0 403 b = 5 ∧ mm0 403 (b + 2) = mc0 (A + 20 + t) 2 ∧ mm0 403 (b + 3) = mc0 (A + 20 + t) 3 ∧ vB (mc0 A 15) (mc0 (A + 20 + t) 2) ∧ vB (mc0 A 15) (mc0 (A + 20 + t) 3) ∧ mm0 403 (b + 4) = mc0 (A + 20 + t) 6 ∧ -1 ≤ mc0 (A + 20 + t) 6 ∧ mc0 (A + 20 + t) 6 < 8 := by
    rcases hZ with hZ | hZ | hZ | hZ | hZ | hZ | hZ | hZ
    case inr.inl => exact hZ.2
    all_goals (have := hZ.1; omega)
  obtain ⟨g2, g3, g4, g5, g6, g7, g8, g9⟩ := hZ'
  obtain ⟨v, hv, l2, -⟩ := g5.nat
  obtain ⟨v3, hv3, l3, -⟩ := g6.nat
  obtain ⟨fd, hfd⟩ : ∃ fd, mc0 (A + 20 + t) 6 = fd := ⟨_, rfl⟩
  rw [hfd] at g7 g8 g9
  rw [S 2, S 6, hv, Int.toNat_natCast, hfd] at e1
  unfold F209 at e2
  rw [Int.toNat_natCast, B0, g2, if_neg (by decide), if_neg (by decide), if_neg (by decide), if_pos rfl] at e2
  have vr := h.vr l2
  have vr3 := h.vr l3
  obtain ⟨val, hval⟩ : ∃ val, mc (252 + d) v = val := ⟨_, rfl⟩
  rw [hval] at e1 vr
  unfold J209_66 F208 at e2
  replace e2 := bU_e e2
  obtain ⟨n3, e4, e2⟩ := e2
  injection e2 with e2
  rw [e2] at e4
  rw [Int.toNat_natCast, B0, g2, if_neg (by decide)] at e4
  unfold J208_15 J208_40 at e4
  rw [if_pos rfl, show (b : Int) + 2 = (b : Int) + ((2 : Nat) : Int) by rfl, B 2 (by decide), g3, hv, h.f205 hd l2, hval] at e4
  have mod : ∀ {xs : Int} {n5 : yM}, J208_54 g (b : Int) 0 (val + 1) xs mm = some n5 → (xs = 0 → n5 = yup mm 376 57 1) ∧ (xs ≠ 0 → ∃ r, F121 g p (F206 (val + 1) (yup mm 376 57 0)) fd (yup mm 376 57 0) = some r ∧ ((r = 0 ∧ n5 = yup (yup mm 376 57 0) 376 57 3) ∨ (r ≠ 0 ∧ n5 = yup (yup (yup mm 376 57 0) 376 57 0) 410 (wr ((wr (8 * (wr (val + 1 - 1)))) + fd)).toNat (mc (252 + d) v3 + 1)))) := by
    intro xs n5 e
    unfold J208_54 at e
    replace e := bI_e e
    obtain ⟨r5, n6, e5, e⟩ := e
    obtain ⟨q1, c5, q2, q3, q4⟩ := F23_x e5
    refine ⟨fun z => ?_, fun z => ?_⟩
    · rw [q1, if_pos z] at e
      injection e with e
      rw [← e, q2, q3 z]
    · rw [q1, if_neg z] at e
      rw [q4 z] at q2
      rw [q2] at e
      have hh := h.f57
      replace e := bP_e e
      obtain ⟨r6, e6, e⟩ := e
      have y18 : yup mm 376 57 0 376 18 = p := by rw [yup_nk (by decide)]; exact k18
      have B' := fun q hq => hh.b403 (b := b) (q := q) hb hq
      rw [y18, show (b : Int) + 4 = (b : Int) + ((4 : Nat) : Int) by rfl, B' 4 (by decide), g7] at e6
      refine ⟨r6, e6, ?_⟩
      replace e := bI_e e
      obtain ⟨r7, n7, e7, e⟩ := e
      obtain ⟨p1, c6, p2, p3, p4⟩ := F23_x e7
      by_cases w : r6 = 0
      · rw [p1, if_pos w] at e
        injection e with e
        exact Or.inl ⟨w, by rw [← e, p2, p3 w]⟩
      · rw [p1, if_neg w, if_pos rfl] at e
        rw [p4 w] at p2
        rw [p2] at e
        have B2 := fun q hq => hh.f57.b403 (b := b) (q := q) hb hq
        rw [show (b : Int) + 4 = (b : Int) + ((4 : Nat) : Int) by rfl, show (b : Int) + 3 = (b : Int) + ((3 : Nat) : Int) by rfl, B2 4 (by decide), B2 3 (by decide), g7, g4, hv3, hh.f57.f205 hd l3] at e
        injection e with e
        exact Or.inr ⟨w, e.symm⟩
  have e4' : Hid ((val = -1 → n2 = yup mm 376 57 1) ∧ (val ≠ -1 → ∃ r, F121 g p (F206 (val + 1) (yup mm 376 57 0)) fd (yup mm 376 57 0) = some r ∧ ((r = 0 ∧ n2 = yup (yup mm 376 57 0) 376 57 3) ∨ (r ≠ 0 ∧ n2 = yup (yup (yup mm 376 57 0) 376 57 0) 410 (wr ((wr (8 * (wr (val + 1 - 1)))) + fd)).toNat (mc (252 + d) v3 + 1))))) := by
    refine ⟨fun z => ?_, fun z => ?_⟩
    · rw [if_neg (by omega)] at e4
      exact (mod e4).1 rfl
    · rw [if_pos (by omega)] at e4
      exact (mod e4).2 (by decide)
  clear mod
  have hh := h.f57.f57
  rcases bT_e e1 with ⟨r3, m3, c3, c4⟩ | ⟨r3, m3, c3, c4⟩
  · rcases F192_r c3 with ⟨-, w⟩ | ⟨-, -, w⟩ | ⟨w0, w1, w⟩
    · cases w
    · cases w
    · injection w with w w'
      injection w with w
      rw [w, w', S 3, S 6, hv3, hfd, Int.toNat_natCast] at c4
      obtain ⟨i, hi⟩ : ∃ i : Nat, val = i := ⟨val.toNat, by omega⟩
      rw [if_pos (by omega)] at c4
      injection c4 with c4
      injection c4 with c4 c4'
      obtain ⟨y1, y2⟩ := e4'
      obtain ⟨r6, y3, y4⟩ := y2 w0
      obtain ⟨k1, k2, k3⟩ := h.f57.1.cls hA hp hG h18 h.f57.2.2.1 h.f57.2.2.2.1 (by omega) vr.2
      rw [k1] at y3
      have hu := has_u hA hp hR h.2.2.1 h.f57.2.2.2.1 k2 k3 ⟨g8, g9⟩ y3
      rcases y4 with ⟨y5, -⟩ | ⟨y5, y6⟩
      · exact absurd (hu.mp y5) w1
      · have f0 : fd ≠ -1 := by
          intro z
          apply w1
          unfold F47
          rw [if_pos z]
        obtain ⟨fn, hfn⟩ : ∃ fn : Nat, fd = fn := ⟨fd.toNat, by omega⟩
        have ix : (wr ((wr (8 * (wr (val + 1 - 1)))) + fd)).toNat = 8 * i + fn := by
          rw [hi, hfn, wr_i (x := (i : Int) + 1 - 1) (by omega) (by omega), wr_i (x := 8 * ((i : Int) + 1 - 1)) (by omega) (by omega), wr_i (by omega) (by omega)]
          omega
        rw [ix] at y6
        rw [hi, hfn, Int.toNat_natCast, Int.toNat_natCast] at c4'
        subst c4'
        subst y6
        refine Or.inr ⟨c4.symm, hh.fld (by omega) (by omega) vr3.1 vr3.2, ⟨fun q => by rw [yup_na (by decide), yup_na (by decide), yup_na (by decide)], by rw [yup_na (by decide), yup_nk (by decide), yup_nk (by decide)], yup_na (by omega), fun b q hb _ => yup_na (by omega)⟩, fun b q hb => yup_na (by omega)⟩
  · injection c4 with c4
    injection c4 with c4 c4'
    rcases F192_r c3 with ⟨w0, w⟩ | ⟨w0, w1, w⟩ | ⟨-, -, w⟩
    · injection w with w w'
      injection w with w
      rw [← c4', w']
      rw [e4'.1 w0]
      exact Or.inl ⟨11, by rw [← c4, w], h.err (by decide) rfl⟩
    · injection w with w w'
      injection w with w
      rw [← c4', w']
      obtain ⟨r6, y3, y4⟩ := e4'.2 w0
      obtain ⟨k1, k2, k3⟩ := h.f57.1.cls hA hp hG h18 h.f57.2.2.1 h.f57.2.2.2.1 (by omega) vr.2
      rw [k1] at y3
      have hu := has_u hA hp hR h.2.2.1 h.f57.2.2.2.1 k2 k3 ⟨g8, g9⟩ y3
      rcases y4 with ⟨-, y5⟩ | ⟨y5, -⟩
      · rw [y5]
        exact Or.inl ⟨13, by rw [← c4, w], h.f57.err (by decide) rfl⟩
      · exact absurd (hu.mpr w1) y5
    · cases w
end UT
end
section
/-! THE RUN: the model's steps; how a piece of a run ends -/
abbrev UL (g H : Nat) (mm : yM) : Option ((Unit × yM) ⊕ (Int × yM)) := yloop (fun (_ : Unit) ml => B211_83 g ml) H () mm
/-- a piece of a run, in the frame d, of a method whose result is the variable z: it throws, goes on at the op o1, or returns -/
def uO (G : Nat → Prop) (mc0 mm0 : yM) (g d z o1 : Nat) (mc mm : yM) (rr : (Unit × yM) ⊕ (Int × yM)) (res : Int ⊕ Nat) (mc' : yM) : Prop :=
  (∃ e mm', res = .inr e ∧ rr = .inl ((), mm') ∧ uX mc0 mm0 e mc' mm') ∨ (res = .inl 0 ∧ ∃ H mm', UL g H mm' = some rr ∧ uS G mc0 mm0 d mc' mm' ∧ mm' 376 55 = o1 ∧ (∀ q, q ≤ d → mm' 412 q = mm 412 q) ∧ mc 169 6 ≤ mc' 169 6 ∧ mc' (252 + d) z = mc (252 + d) z ∧ (∀ x v, x < d → mc' (252 + x) v = mc (252 + x) v)) ∨ (res = .inl 1 ∧ ∃ H mm' mm2, J204_36 g (mc' (252 + d) z + 1) mm' = some mm2 ∧ UL g H mm2 = some rr ∧ uB G mc' mm' ∧ uF d mc' mm' ∧ uC mc0 mc' ∧ uM mm0 mm' ∧ mm' 376 54 = (d : Int) + 1 ∧ mm' 376 57 = 0 ∧ (∀ q, q ≤ d → mm' 412 q = mm 412 q) ∧ mc 169 6 ≤ mc' 169 6 ∧ -1 ≤ mc' (252 + d) z ∧ mc' (252 + d) z < mc' 169 5 ∧ (∀ x v, x < d → mc' (252 + x) v = mc (252 + x) v))
section UQ
variable {G : Nat → Prop} {A p f g s o d t b z u : Nat} {mc mm mc' mm' mc0 mm0 mc1 mm1 : yM} {rr : (Unit × yM) ⊕ (Int × yM)} {H : Nat}
theorem UL.step (h : UL g H mm = some rr) (h57 : mm 376 57 = 0) (h54 : 0 < mm 376 54) : ∃ H' mm1, F210 g mm = some mm1 ∧ UL g H' mm1 = some rr := by
  have K : ∀ y, B211_83 g mm = some y → ∃ mm1, F210 g mm = some mm1 ∧ y = .inl ((), mm1) := by
    intro y e
    unfold B211_83 at e
    rw [if_pos h57, if_pos h54] at e
    replace e := bU_e e
    obtain ⟨mm1, e1, e⟩ := e
    injection e with e
    exact ⟨mm1, e1, e.symm⟩
  obtain ⟨f', -, ⟨l', m', a1, a2⟩ | a1⟩ := yloop_s h
  · obtain ⟨mm1, e1, w⟩ := K _ a1
    injection w with w
    injection w with w w'
    subst w'
    exact ⟨f', m', e1, a2⟩
  · obtain ⟨mm1, e1, w⟩ := K _ a1
    cases w
theorem UL.stop (h : UL g H mm = some rr) (h57 : mm 376 57 ≠ 0 ∨ mm 376 54 = 0) : rr = .inl ((), mm) := by
  have K : B211_83 g mm = some (.inr (.inl ((), mm))) := by
    unfold B211_83
    by_cases q : mm 376 57 = 0
    · rw [if_pos q, if_neg (by omega)]
    · rw [if_neg q]
  obtain ⟨f', -, ⟨l', m', a1, a2⟩ | a1⟩ := yloop_s h
  · rw [K] at a1; cases a1
  · rw [K] at a1
    injection a1 with a1
    injection a1 with a1
    exact a1.symm
/-- a piece, and what comes behind it -/
theorem uO.seq {o1 : Nat} {res : Int ⊕ Nat} (h6 : mc 169 6 ≤ mc1 169 6) (hz : mc1 (252 + d) z = mc (252 + d) z) (h412 : ∀ q, q ≤ d → mm1 412 q = mm 412 q) (hlo : ∀ x v, x < d → mc1 (252 + x) v = mc (252 + x) v) (h : uO G mc0 mm0 g d z o1 mc1 mm1 rr res mc') : uO G mc0 mm0 g d z o1 mc mm rr res mc' := by
  rcases h with h | ⟨h1, H, m', h2, h3, h4, h5, h7, h8, h9⟩ | ⟨h1, H, m', m2, h2, h3, h4, h5, h7, h8, h9, h10, h11, h12, h13, h14, h15⟩
  · exact Or.inl h
  · exact Or.inr (Or.inl ⟨h1, H, m', h2, h3, h4, fun q hq => (h5 q hq).trans (h412 q hq), by omega, h8.trans hz, fun x v hx => (h9 x v hx).trans (hlo x v hx)⟩)
  · exact Or.inr (Or.inr ⟨h1, H, m', m2, h2, h3, h4, h5, h7, h8, h9, h10, fun q hq => (h11 q hq).trans (h412 q hq), by omega, h13, h14, fun x v hx => (h15 x v hx).trans (hlo x v hx)⟩)
theorem uX.ex {e : Nat} (h : uX mc0 mm0 e mc mm) : mm 376 57 ≠ 0 := by
  rw [h.2.1]
  unfold cdE
  split
  · decide
  · split
    · decide
    · split <;> decide
/-- the model at an op that is counted -/
theorem mopC {κ : Int} (hp : p ≤ 1) (hu : u ≤ 120) (h : uS G mc0 mm0 d mc mm) (h18 : mm0 376 18 = p) (h55 : mm 376 55 = u) (hκ : mm0 403 (1000 * p + 8 * u) = κ) (k11 : κ < 11) (e : F210 g mm = some mm1) : (mm 376 56 = 200 ∧ mm1 = yup (yup mm 376 56 201) 376 57 4) ∨ (mm 376 56 < 200 ∧ J210_40 g ((1000 * p + 8 * u : Nat) : Int) κ (yup mm 376 56 (mm 376 56 + 1)) = some mm1 ∧ ¬ 200 < yup mm 376 56 (mm 376 56 + 1) 376 56) := by
  have k18 : mm 376 18 = p := by rw [h.2.2.2.1 376 18 (by decide) (by omega)]; exact h18
  have h56 := h.1.2.1
  unfold F210 at e
  rw [k18, h55, ixop hp hu, Int.toNat_natCast, h.2.2.2.1 403 _ (by decide) (by omega), hκ, if_pos k11, wr_i (by omega) (by omega)] at e
  by_cases q : mm 376 56 = 200
  · left
    refine ⟨q, ?_⟩
    unfold J210_40 at e
    rw [yup_eq, if_pos (by omega)] at e
    injection e with e
    rw [← e, q]
    rfl
  · right
    exact ⟨by omega, e, by rw [yup_eq]; omega⟩
theorem mopV {κ : Int} {n n1 : yM} (k : ¬ 200 < n 376 56) (hκ : κ ≠ 11 ∧ κ ≠ 12 ∧ κ ≠ 6 ∧ κ ≠ 9 ∧ κ ≠ 10 ∧ κ ≠ 7) (e : J210_40 g (b : Int) κ n = some n1) : ∃ n2, F209 g (b : Int) n = some n2 ∧ n1 = yup n2 376 55 (wr (n2 376 55 + 1)) := by
  unfold J210_40 at e
  rw [if_neg k, if_neg hκ.1, if_neg hκ.2.1, if_neg hκ.2.2.1, if_neg hκ.2.2.2.1, if_neg hκ.2.2.2.2.1, if_neg hκ.2.2.2.2.2] at e
  replace e := bU_e e
  obtain ⟨n2, e1, e⟩ := e
  injection e with e
  exact ⟨n2, e1, e.symm⟩
theorem mop6 {n n1 : yM} (k : ¬ 200 < n 376 56) (e : J210_40 g (b : Int) 6 n = some n1) : F204 g (n 403 (wr ((b : Int) + 1)).toNat) (F205 (n 403 (wr ((b : Int) + 2)).toNat) n) n = some n1 := by
  unfold J210_40 at e
  rw [if_neg k, if_neg (by decide), if_neg (by decide), if_pos rfl] at e
  replace e := bU_e e
  obtain ⟨n2, e1, e⟩ := e
  injection e with e
  rw [← e]; exact e1
theorem mop7 {n n1 : yM} (k : ¬ 200 < n 376 56) (e : J210_40 g (b : Int) 7 n = some n1) : F207 g (b : Int) n = some n1 := by
  unfold J210_40 at e
  rw [if_neg k, if_neg (by decide), if_neg (by decide), if_neg (by decide), if_neg (by decide), if_neg (by decide), if_pos rfl] at e
  replace e := bU_e e
  obtain ⟨n2, e1, e⟩ := e
  injection e with e
  rw [← e]; exact e1
theorem mop9 {κ : Int} {n n1 : yM} (k : ¬ 200 < n 376 56) (hκ : κ = 9 ∨ κ = 10) (e : J210_40 g (b : Int) κ n = some n1) : J210_146 g (b : Int) n = some n1 := by
  unfold J210_40 at e
  rw [if_neg k, if_neg (by omega), if_neg (by omega), if_neg (by omega)] at e
  rcases hκ with q | q
  · rw [if_pos q] at e
    exact e
  · rw [if_neg (by omega), if_pos q] at e
    exact e
/-- a jump -/
theorem mop11 (hp : p ≤ 1) (hu : u ≤ 120) (h : uS G mc0 mm0 d mc mm) (h18 : mm0 376 18 = p) (h55 : mm 376 55 = u) (hκ : mm0 403 (1000 * p + 8 * u) = 11) (e : F210 g mm = some mm1) : mm1 = yup mm 376 55 (mm0 403 (1000 * p + 8 * u + 3)) := by
  have k18 : mm 376 18 = p := by rw [h.2.2.2.1 376 18 (by decide) (by omega)]; exact h18
  have h56 := h.1.2.1
  unfold F210 at e
  rw [k18, h55, ixop hp hu, Int.toNat_natCast, h.2.2.2.1 403 _ (by decide) (by omega), hκ, if_neg (by decide)] at e
  unfold J210_40 at e
  rw [if_neg (by omega), if_pos rfl, show ((1000 * p + 8 * u : Nat) : Int) + 3 = ((1000 * p + 8 * u : Nat) : Int) + ((3 : Nat) : Int) by rfl, h.b403 (by omega) (by decide)] at e
  injection e with e
  exact e.symm
/-- a method's end -/
theorem mop12 (hp : p ≤ 1) (hu : u ≤ 120) (h : uS G mc0 mm0 d mc mm) (h18 : mm0 376 18 = p) (h55 : mm 376 55 = u) (hκ : mm0 403 (1000 * p + 8 * u) = 12) (e : F210 g mm = some mm1) : J204_36 g 0 mm = some mm1 := by
  have k18 : mm 376 18 = p := by rw [h.2.2.2.1 376 18 (by decide) (by omega)]; exact h18
  have h56 := h.1.2.1
  unfold F210 at e
  rw [k18, h55, ixop hp hu, Int.toNat_natCast, h.2.2.2.1 403 _ (by decide) (by omega), hκ, if_neg (by decide)] at e
  unfold J210_40 at e
  rw [if_neg (by omega), if_neg (by decide), if_pos rfl] at e
  replace e := bU_e e
  obtain ⟨n2, e1, e⟩ := e
  injection e with e
  rw [e] at e1
  unfold F204 at e1
  rw [if_neg (by decide)] at e1
  exact e1
theorem br146 {n n1 : yM} {v w : Nat} (hd : d < 4) (hb : b ≤ 2000) (h : uS G mc0 mm0 d mc n) (hv : mm0 403 (b + 2) = v) (v48 : v < 48) (hw : mm0 403 (b + 3) = w) (h55 : n 376 55 = u) (hu : u ≤ 120) (e : J210_146 g (b : Int) n = some n1) : (mc (252 + d) v = -1 ∧ n1 = yup n 376 55 (w : Int)) ∨ (mc (252 + d) v ≠ -1 ∧ n1 = yup n 376 55 ((u + 1 : Nat) : Int)) := by
  unfold J210_146 J210_179 at e
  have vr := h.vr v48
  rw [show (b : Int) + 2 = (b : Int) + ((2 : Nat) : Int) by rfl, show (b : Int) + 3 = (b : Int) + ((3 : Nat) : Int) by rfl, h.b403 hb (by decide), h.b403 hb (by decide), hv, hw, h.f205 hd v48, h55, k1w (by omega)] at e
  rcases ite1 e with ⟨q, e⟩ | ⟨q, e⟩
  · injection e with e
    exact Or.inr ⟨by omega, e.symm⟩
  · injection e with e
    exact Or.inl ⟨by omega, e.symm⟩
end UQ
end

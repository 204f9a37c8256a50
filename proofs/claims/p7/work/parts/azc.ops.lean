/-! THE RUN: ops that neither jump nor call -/
def cdE (e : Nat) : Int := if e = 10 then 4 else if e = 11 then 1 else if e = 12 then 2 else 3
/-- behind a throw -/
def uE (mc0 mm0 mc mm : yM) : Prop := (∀ v j : Nat, v < 48 → j < 12 → mc (171 + v) j = mm 408 (12 * v + j) ∧ 0 ≤ mc (171 + v) j ∧ mc (171 + v) j ≤ 1) ∧ uC mc0 mc ∧ uM mm0 mm
def uX (mc0 mm0 : yM) (e : Nat) (mc mm : yM) : Prop := (10 ≤ e ∧ e ≤ 13) ∧ mm 376 57 = cdE e ∧ uE mc0 mm0 mc mm
/-- what an op that goes on leaves alone -/
def uK (A t d : Nat) (mc0 mc mm mc' mm' : yM) : Prop := (∀ q, mm' 412 q = mm 412 q) ∧ mm' 376 55 = mm 376 55 ∧ mc' 169 6 = mc 169 6 ∧ (∀ b q : Nat, 252 ≤ b → ¬ (b = 252 + d ∧ (q : Int) = mc0 (A + 20 + t) 2) → mc' b q = mc b q)
section UP
variable {G : Nat → Prop} {A p f g s o d t b : Nat} {mc mm mc' mm' mc0 mm0 mc1 mm1 : yM}
theorem uS.err {e : Nat} {x : Int} (h : uS G mc0 mm0 d mc mm) (he : 10 ≤ e ∧ e ≤ 13) (hx : x = cdE e) : uX mc0 mm0 e mc (yup mm 376 57 x) := ⟨he, by rw [yup_eq, hx], fun v j hv hj => by rw [yup_na (by omega)]; exact h.1.2.2.2.2 v j hv hj, h.2.2.1, h.2.2.2.1.up (by omega)⟩
theorem uS.f57 (h : uS G mc0 mm0 d mc mm) : uS G mc0 mm0 d mc (yup mm 376 57 0) := by
  obtain ⟨k1, k2, k3, k4, k5, k6⟩ := h
  exact ⟨k1.fr (fun _ _ _ => rfl) (fun a q ha => yup_ne (by omega)), k2.fr (fun _ _ _ => rfl) (Int.le_refl _) (fun q => yup_na (by omega)), k3, k4.up (by omega), by rw [yup_nk (by decide)]; exact k5, yup_eq _ _ _ _⟩
theorem uS.b403 {q : Nat} (h : uS G mc0 mm0 d mc mm) (hb : b ≤ 2000) (hq : q < 8) : mm 403 (wr ((b : Int) + (q : Int))).toNat = mm0 403 (b + q) := by
  rw [wr_i (by omega) (by omega), show ((b : Int) + (q : Int)).toNat = b + q by omega]
  exact h.2.2.2.1 403 _ (by decide) (by omega)
theorem uS.S (h : uS G mc0 mm0 d mc mm) (hA : A = 256 ∨ A = 316) (q : Nat) : mc (A + 20 + t) q = mc0 (A + 20 + t) q := h.2.2.1 _ _ (by omega)
/-- a field of an object: class -/
theorem F192_r {val fd : Int} {z : (Int ⊕ Nat) × yM} (e : F192 f A val fd mc = some z) : (val = -1 ∧ z = (.inr 11, mc)) ∨ (val ≠ -1 ∧ F47 A (mc (A + 8) (mc 219 val.toNat).toNat) fd mc = 0 ∧ z = (.inr 13, mc)) ∨ (val ≠ -1 ∧ F47 A (mc (A + 8) (mc 219 val.toNat).toNat) fd mc ≠ 0 ∧ z = (.inl val, mc)) := by
  unfold F192 at e
  rcases bT_e e with ⟨r, m1, e1, e2⟩ | ⟨r, m1, e1, e2⟩
  · rcases F191_r e1 with ⟨-, w⟩ | ⟨w0, w⟩
    · cases w
    · injection w with w w'
      injection w with w
      rw [w, w'] at e2
      rcases ite1 e2 with ⟨q, e2⟩ | ⟨q, e2⟩
      · cases e2; exact Or.inr (Or.inl ⟨w0, q, rfl⟩)
      · cases e2; exact Or.inr (Or.inr ⟨w0, q, rfl⟩)
  · rcases F191_r e1 with ⟨w0, w⟩ | ⟨-, w⟩
    · injection w with w w'
      injection w with w
      rw [w, w'] at e2
      cases e2
      exact Or.inl ⟨w0, rfl⟩
    · cases w
/-- has the class the field: class and model -/
theorem has_u {c r fd : Int} (hA : A = 256 ∨ A = 316) (hp : p ≤ 1) (hR : RPG A p s o mc0 mm0) (hc : uC mc0 mc) (hm : uM mm0 mm) (h0 : 0 ≤ c) (h1 : c < mc A 9) (hf : -1 ≤ fd ∧ fd < 8) (e : F121 g p c fd mm = some r) : (r = 0 ↔ F47 A c fd mc = 0) := by
  by_cases z : fd = -1
  · unfold F121 at e
    rw [if_pos (by omega)] at e
    cases e
    unfold F47
    rw [if_pos z]
  · obtain ⟨n, hn⟩ : ∃ n : Nat, fd = n := ⟨fd.toNat, by omega⟩
    obtain ⟨cn, hcn⟩ : ∃ cn : Nat, c = cn := ⟨c.toNat, by omega⟩
    subst hn
    subst hcn
    have hr : rCl A p mc mm := (hR.1.fr rfl (fun _ _ _ => rfl) (fun b q hb => hm _ _ (by omega) (by omega)) : rCl A p mc0 mm).fr (hc _ _ (by omega)) (fun b q hb => hc _ _ (by omega)) (fun _ _ _ => rfl)
    obtain ⟨r1, r2⟩ := hr.has hp (by omega) (by omega) e
    rw [F47_r, Int.toNat_natCast]
    constructor
    · intro y w
      have := r2.mpr w
      omega
    · intro y
      by_cases w : r = 1
      · exact absurd (r2.mp w) y
      · omega
/-- a cast: class -/
theorem F194_r {val tc : Int} {z : (Int ⊕ Nat) × yM} (e : F194 f A tc val mc = some z) : (val = -1 ∧ z = (.inl val, mc)) ∨ (val ≠ -1 ∧ ∃ r, F81 f A (mc (A + 8) (mc 219 val.toNat).toNat) tc mc = some r ∧ ((r = 0 ∧ z = (.inr 12, mc)) ∨ (r ≠ 0 ∧ z = (.inl val, mc)))) := by
  unfold F194 at e
  rcases ite1 e with ⟨q, e⟩ | ⟨q, e⟩
  · cases e; exact Or.inl ⟨q, rfl⟩
  · refine Or.inr ⟨q, ?_⟩
    rcases bT_e e with ⟨r, m1, e1, e2⟩ | ⟨r, m1, e1, e2⟩
    · rcases F191_r e1 with ⟨w0, -⟩ | ⟨w0, w⟩
      · exact absurd w0 q
      · injection w with w w'
        injection w with w
        rw [w, w'] at e2
        replace e2 := bP_e e2
        obtain ⟨r2, e3, e2⟩ := e2
        refine ⟨r2, e3, ?_⟩
        rcases ite1 e2 with ⟨q2, e2⟩ | ⟨q2, e2⟩
        · cases e2; exact Or.inl ⟨q2, rfl⟩
        · cases e2; exact Or.inr ⟨q2, rfl⟩
    · rcases F191_r e1 with ⟨w0, -⟩ | ⟨w0, w⟩
      · exact absurd w0 q
      · cases w
/-- the kinds 5 to 9: a value is found, and goes to a variable -/
theorem value_u {res : Int ⊕ Nat} {n2 : yM} (hA : A = 256 ∨ A = 316) (hp : p ≤ 1) (hd : d < 4) (hb : b ≤ 2000) (hR : RPG A p s o mc0 mm0) (hG : ∀ k, G k → mc0 (A + 8) k = mm0 400 (12 * p + k) ∧ 0 ≤ mc0 (A + 8) k ∧ mc0 (A + 8) k < mc0 A 9) (hgn : mc0 (A + 20 + t) 0 = 5 → ∀ x : Nat, mc0 (A + 20 + t) 6 = x → x < 12 ∧ G x) (h18 : mm0 376 18 = p) (hZ : OPZ A p t b mc0 mm0) (hk : 5 ≤ mc0 (A + 20 + t) 0) (h : uS G mc0 mm0 d mc mm) (e1 : bT (F195_48 f A (A + 20 + t) (252 + d) mc) (fun r m' => bU (F188_48 f (252 + d) (mc (A + 20 + t) 2) r m') (fun m'' => some ((.inl 0 : Int ⊕ Nat), m''))) (fun e' m' => some ((.inr e' : Int ⊕ Nat), m')) = some (res, mc')) (e2 : F209 g (b : Int) mm = some n2) : (∃ e, res = .inr e ∧ uX mc0 mm0 e mc' n2) ∨ (res = .inl 0 ∧ uS G mc0 mm0 d mc' n2 ∧ uK A t d mc0 mc mm mc' n2) := by
  have S := fun q => h.S (t := t) hA q
  have B := fun q hq => h.b403 (b := b) (q := q) hb hq
  have B0 : mm 403 b = mm0 403 b := h.2.2.2.1 403 _ (by decide) (by omega)
  have k18 : mm 376 18 = p := by rw [h.2.2.2.1 376 18 (by decide) (by omega)]; exact h18
  have hB5 := h.1.1
  -- the last step
  have fin : ∀ {v : Nat} {val : Int} {mx : yM} {nx : yM}, uS G mc0 mm0 d mx nx → mc0 (A + 20 + t) 2 = v → v < 48 → -1 ≤ val → val < mx 169 5 → mx 169 6 = mc 169 6 → (∀ b q, 252 ≤ b → mx b q = mc b q) → (∀ q, nx 412 q = mm 412 q) → nx 376 55 = mm 376 55 → bU (F188_48 f (252 + d) (v : Int) val mx) (fun m'' => some ((.inl 0 : Int ⊕ Nat), m'')) = some (res, mc') → F202 g (v : Int) (val + 1) nx = some n2 → (∃ e, res = .inr e ∧ uX mc0 mm0 e mc' n2) ∨ (res = .inl 0 ∧ uS G mc0 mm0 d mc' n2 ∧ uK A t d mc0 mc mm mc' n2) := by
    intro v val mx nx hx hv v48 v1 v2 x6 xf x412 x55 c1 c2
    replace c1 := bU_e c1
    obtain ⟨m3, c3, c1⟩ := c1
    injection c1 with c1
    injection c1 with c1 c1'
    subst c1'
    obtain ⟨u1, u2, u3, u4, u5, u6⟩ := hx.set hd v48 v1 v2 c3 c2
    refine Or.inr ⟨c1.symm, u1, fun q => (u5 q).trans (x412 q), u6.trans x55, (u4 6).trans x6, fun b q hb hq => ?_⟩
    rw [hv] at hq
    rw [u2 b q hb (by omega)]
    exact xf b q hb
  unfold F195_48 at e1
  unfold F209 at e2
  rw [S 0, S 2, S 3, S 6, S 7] at e1
  rw [Int.toNat_natCast, B0, show (b : Int) + 2 = (b : Int) + ((2 : Nat) : Int) by rfl, show (b : Int) + 3 = (b : Int) + ((3 : Nat) : Int) by rfl, show (b : Int) + 4 = (b : Int) + ((4 : Nat) : Int) by rfl, B 2 (by decide), B 3 (by decide), B 4 (by decide)] at e2
  obtain ⟨-, hZ⟩ := hZ
  rcases hZ with hZ | hZ | hZ | hZ | hZ | hZ | hZ | hZ
  · have := hZ.1; omega
  · have := hZ.1; omega
  · have := hZ.1; omega
  · -- new
    obtain ⟨g1, g2, g3, g4, g5, g6, g7, g8⟩ := hZ
    obtain ⟨v, hv, l2, -⟩ := g5.nat
    obtain ⟨x, hx⟩ : ∃ x : Nat, mc0 (A + 20 + t) 6 = x := ⟨(mc0 (A + 20 + t) 6).toNat, by omega⟩
    obtain ⟨x12, hGx⟩ := hgn g1 x hx
    rw [if_pos g1, hx, hv] at e1
    rw [g2, if_neg (by decide), if_neg (by decide), if_neg (by decide), if_neg (by decide), if_pos rfl, g3, g4, hx, hv] at e2
    replace e2 := bI_e e2
    obtain ⟨r, n1, e3, e2⟩ := e2
    have key : ∀ z, F186 f (x : Int) mc = some z → (mc 169 5 = 30 ∧ z = (.inr 10, mc) ∧ n1 = yup mm 376 57 4) ∨ (mc 169 5 < 30 ∧ ∃ mc1, z = (.inl (mc 169 5), mc1) ∧ r = mc 169 5 + 1 ∧ uB G mc1 n1 ∧ uF (d + 1) mc1 n1 ∧ uC mc mc1 ∧ uM mm n1 ∧ mc1 169 5 = mc 169 5 + 1 ∧ mc1 169 6 = mc 169 6 ∧ (∀ b q, 252 ≤ b → mc1 b q = mc b q) ∧ (∀ q, 54 ≤ q → n1 376 q = mm 376 q) ∧ (∀ b q, 411 ≤ b → n1 b q = mm b q)) := fun z ez => objR h.1 h.2.1 (by omega) x12 hGx ez e3
    rcases bT_e e1 with ⟨r1, m1, c1, c2⟩ | ⟨r1, m1, c1, c2⟩
    · rcases bT_e c1 with ⟨r3, m3, c3, c4⟩ | ⟨r3, m3, c3, c4⟩
      · injection c4 with c4
        injection c4 with c4 c4'
        injection c4 with c4
        rcases key _ c3 with ⟨-, w, -⟩ | ⟨w0, mc1, w, w1, w2, w3, w4, w5, w6, w7, w8, w9, w10⟩
        · cases w
        · injection w with w w'
          injection w with w
          rw [← c4, ← c4', w, w'] at c2
          rw [w9 57 (by decide), h.2.2.2.2.2, if_pos rfl, w1] at e2
          replace e2 := bU_e e2
          obtain ⟨n3, e4, e2⟩ := e2
          injection e2 with e2
          subst e2
          exact fin ⟨w2, w3, h.2.2.1.tr w4, h.2.2.2.1.tr w5, by rw [w9 54 (by decide)]; exact h.2.2.2.2.1, by rw [w9 57 (by decide)]; exact h.2.2.2.2.2⟩ hv l2 (by omega) (by omega) w7 w8 (fun q => w10 _ _ (by decide)) (w9 55 (by decide)) c2 e4
      · cases c4
    · rcases bT_e c1 with ⟨r3, m3, c3, c4⟩ | ⟨r3, m3, c3, c4⟩
      · cases c4
      · injection c4 with c4
        injection c4 with c4 c4'
        injection c4 with c4
        rcases key _ c3 with ⟨-, w, w1⟩ | ⟨w0, mc1, w, -⟩
        · injection w with w w'
          injection w with w
          rw [← c4, ← c4', w, w'] at c2
          injection c2 with c2
          injection c2 with c2 c2'
          rw [w1, yup_eq, if_neg (by decide)] at e2
          injection e2 with e2
          subst e2
          subst c2'
          exact Or.inl ⟨10, c2.symm, h.err (by decide) rfl⟩
        · cases w
  · -- null
    obtain ⟨g1, g2, g3, g4⟩ := hZ
    obtain ⟨v, hv, l2, -⟩ := g4.nat
    rw [if_neg (by omega), if_pos g1, hv] at e1
    rw [g2, if_pos rfl, g3, hv] at e2
    replace e2 := bU_e e2
    obtain ⟨n3, e4, e2⟩ := e2
    injection e2 with e2
    subst e2
    rcases bT_e e1 with ⟨r1, m1, c1, c2⟩ | ⟨r1, m1, c1, c2⟩
    · injection c1 with c1
      injection c1 with c1 c1'
      injection c1 with c1
      rw [← c1, ← c1'] at c2
      exact fin h hv l2 (by omega) (by omega) rfl (fun _ _ _ => rfl) (fun _ => rfl) rfl c2 (by rw [show ((-1 : Int) + 1) = 0 by decide]; exact e4)
    · cases c1
  · -- a cast
    obtain ⟨g1, g2, g3, g4, g5, g6, g7, g8, g9, g10, g11, g12, g13, g14⟩ := hZ
    obtain ⟨v, hv, l2, -⟩ := g5.nat
    obtain ⟨v3, hv3, l3, -⟩ := g6.nat
    obtain ⟨c, hc⟩ : ∃ c : Nat, mm0 403 (b + 4) = c := ⟨(mm0 403 (b + 4)).toNat, by omega⟩
    obtain ⟨tc, htc⟩ : ∃ tc, mc0 (A + 20 + t) 7 = tc := ⟨_, rfl⟩
    rw [htc, hc, Int.toNat_natCast] at g12
    rw [htc] at g13
    rw [if_neg (by omega), if_neg (by omega), if_pos g1, hv, hv3, Int.toNat_natCast, htc] at e1
    rw [g2, if_neg (by decide), if_neg (by decide), if_neg (by decide), if_neg (by decide), if_neg (by decide), g3, g4, hv, hv3, hc, h.f205 hd l3, k18, ixp8 hp (by omega), h.2.2.2.1 402 _ (by decide) (by omega), g12] at e2
    have vr := h.vr l3
    obtain ⟨val, hval⟩ : ∃ val, mc (252 + d) v3 = val := ⟨_, rfl⟩
    rw [hval] at e1 e2 vr
    have good : J209_167 g (v : Int) (val + 1) mm = some n2 → F202 g (v : Int) (val + 1) (yup mm 376 57 0) = some n2 := by
      intro e
      unfold J209_167 J209_172 at e
      replace e := bI_e e
      obtain ⟨r5, n5, e5, e⟩ := e
      obtain ⟨q1, c5, q2, -, q4⟩ := F23_x e5
      rw [q1, if_neg (by decide)] at e
      rw [q4 (by decide)] at q2
      replace e := bU_e e
      obtain ⟨n6, e6, e⟩ := e
      injection e with e
      subst e
      rw [← q2]; exact e6
    have go : bU (F188_48 f (252 + d) (v : Int) val mc) (fun m'' => some ((.inl 0 : Int ⊕ Nat), m'')) = some (res, mc') → J209_167 g (v : Int) (val + 1) mm = some n2 → (∃ e, res = .inr e ∧ uX mc0 mm0 e mc' n2) ∨ (res = .inl 0 ∧ uS G mc0 mm0 d mc' n2 ∧ uK A t d mc0 mc mm mc' n2) := fun c1 c2 => fin h.f57 hv l2 vr.1 vr.2 rfl (fun _ _ _ => rfl) (fun q => yup_na (by decide)) (yup_nk (by decide)) c1 (good c2)
    have mod : ∀ r : Int, val ≠ -1 → F81 f A (mc (A + 8) (mc 219 val.toNat).toNat) tc mc = some r → (r = 0 ∧ J209_172 g (v : Int) (val + 1) 0 mm = some n2) ∨ (r ≠ 0 ∧ J209_167 g (v : Int) (val + 1) mm = some n2) := by
      intro r hz e5
      rw [if_neg (by omega)] at e2
      replace e2 := bP_e e2
      obtain ⟨r2, e6, e2⟩ := e2
      obtain ⟨c1, c2, c3⟩ := h.1.cls hA hp hG h18 h.2.2.1 h.2.2.2.1 (by omega) vr.2
      rw [c1] at e6
      have hr : rCl A p mc mm := (hR.1.fr rfl (fun _ _ _ => rfl) (fun b q hb => h.2.2.2.1 _ _ (by omega) (by omega)) : rCl A p mc0 mm).fr (h.2.2.1 _ _ (by omega)) (fun b q hb => h.2.2.1 _ _ (by omega)) (fun _ _ _ => rfl)
      obtain ⟨y1, -⟩ := below_r hr hp g13 c2 c3 e5 e6
      rw [← y1] at e2
      rcases ite1 e2 with ⟨q, e2⟩ | ⟨q, e2⟩
      · exact Or.inl ⟨q, e2⟩
      · exact Or.inr ⟨q, e2⟩
    rcases bT_e e1 with ⟨r1, m1, c1, c2⟩ | ⟨r1, m1, c1, c2⟩
    · rcases bT_e c1 with ⟨r3, m3, c3, c4⟩ | ⟨r3, m3, c3, c4⟩
      · injection c4 with c4
        injection c4 with c4 c4'
        injection c4 with c4
        rcases F194_r c3 with ⟨w0, w⟩ | ⟨w0, r5, w1, ⟨-, w⟩ | ⟨w2, w⟩⟩
        · injection w with w w'
          injection w with w
          rw [← c4, ← c4', w, w'] at c2
          rw [if_pos (by omega)] at e2
          exact go c2 e2
        · cases w
        · injection w with w w'
          injection w with w
          rw [← c4, ← c4', w, w'] at c2
          rcases mod r5 w0 w1 with ⟨y, -⟩ | ⟨-, y⟩
          · exact absurd y w2
          · exact go c2 y
      · cases c4
    · rcases bT_e c1 with ⟨r3, m3, c3, c4⟩ | ⟨r3, m3, c3, c4⟩
      · cases c4
      · injection c4 with c4
        injection c4 with c4 c4'
        injection c4 with c4
        rcases F194_r c3 with ⟨w0, w⟩ | ⟨w0, r5, w1, ⟨w2, w⟩ | ⟨-, w⟩⟩
        · cases w
        · injection w with w w'
          injection w with w
          rw [← c4, ← c4', w, w'] at c2
          injection c2 with c2
          injection c2 with c2 c2'
          subst c2'
          rcases mod r5 w0 w1 with ⟨-, y⟩ | ⟨y, -⟩
          · unfold J209_172 at y
            replace y := bI_e y
            obtain ⟨r6, n6, e6, y⟩ := y
            obtain ⟨q1, c5, q2, q3, -⟩ := F23_x e6
            rw [q1, if_pos rfl] at y
            injection y with y
            subst y
            rw [q2, q3 rfl]
            exact Or.inl ⟨12, c2.symm, h.err (by decide) rfl⟩
          · exact absurd w2 y
        · cases w
  · -- a copy
    obtain ⟨g1, g2, g3, g4, g5, g6⟩ := hZ
    obtain ⟨v, hv, l2, -⟩ := g5.nat
    obtain ⟨v3, hv3, l3, -⟩ := g6.nat
    rw [if_neg (by omega), if_neg (by omega), if_neg (by omega), if_pos g1, hv, hv3, Int.toNat_natCast] at e1
    rw [g2, if_neg (by decide), if_pos rfl, g3, g4, hv, hv3, h.f205 hd l3] at e2
    have vr := h.vr l3
    replace e2 := bU_e e2
    obtain ⟨n3, e4, e2⟩ := e2
    injection e2 with e2
    subst e2
    rcases bT_e e1 with ⟨r1, m1, c1, c2⟩ | ⟨r1, m1, c1, c2⟩
    · injection c1 with c1
      injection c1 with c1 c1'
      injection c1 with c1
      rw [← c1, ← c1'] at c2
      exact fin h hv l2 vr.1 vr.2 rfl (fun _ _ _ => rfl) (fun _ => rfl) rfl c2 e4
    · cases c1
  · -- a load
    obtain ⟨g1, g2, g3, g4, g5, g6, g7, g8, g9⟩ := hZ
    obtain ⟨v, hv, l2, -⟩ := g5.nat
    obtain ⟨v3, hv3, l3, -⟩ := g6.nat
    obtain ⟨fd, hfd⟩ : ∃ fd, mc0 (A + 20 + t) 6 = fd := ⟨_, rfl⟩
    rw [hfd] at g7 g8 g9
    rw [if_neg (by omega), if_neg (by omega), if_neg (by omega), if_neg (by omega), if_pos g1, hv, hv3, Int.toNat_natCast, hfd] at e1
    rw [g2, if_neg (by decide), if_neg (by decide), if_pos rfl] at e2
    have vr := h.vr l3
    obtain ⟨val, hval⟩ : ∃ val, mc (252 + d) v3 = val := ⟨_, rfl⟩
    rw [hval] at e1 vr
    unfold J209_66 F208 at e2
    replace e2 := bU_e e2
    obtain ⟨n3, e4, e2⟩ := e2
    injection e2 with e2
    rw [e2] at e4
    rw [Int.toNat_natCast, B0, g2, if_pos rfl] at e4
    unfold J208_15 J208_40 at e4
    rw [if_neg (by decide), show (b : Int) + 3 = (b : Int) + ((3 : Nat) : Int) by rfl, B 3 (by decide), g4, hv3, h.f205 hd l3, hval] at e4
    -- the model, behind its test for null
    have mod : ∀ {xs : Int} {n5 : yM}, J208_54 g (b : Int) 1 (val + 1) xs mm = some n5 → (xs = 0 → n5 = yup mm 376 57 1) ∧ (xs ≠ 0 → ∃ r, F121 g p (F206 (val + 1) (yup mm 376 57 0)) fd (yup mm 376 57 0) = some r ∧ ((r = 0 ∧ n5 = yup (yup mm 376 57 0) 376 57 3) ∨ (r ≠ 0 ∧ F202 g (v : Int) (yup (yup mm 376 57 0) 376 57 0 410 (wr ((wr (8 * (wr (val + 1 - 1)))) + fd)).toNat) (yup (yup mm 376 57 0) 376 57 0) = some n5))) := by
      intro xs n5 e
      unfold J208_54 at e
      replace e := bI_e e
      obtain ⟨r5, n6, e5, e⟩ := e
      obtain ⟨q1, c5, q2, q3, q4⟩ := F23_x e5
      refine ⟨fun z => ?_, fun z => ?_⟩
      · rw [q1, if_pos z] at e
        injection e with e
        rw [← e, q2, q3 z]
      · rw [q1, if_neg z] at e
        rw [q4 z] at q2
        rw [q2] at e
        have hh := h.f57
        replace e := bP_e e
        obtain ⟨r6, e6, e⟩ := e
        have y18 : yup mm 376 57 0 376 18 = p := by rw [yup_nk (by decide)]; exact k18
        have B' := fun q hq => hh.b403 (b := b) (q := q) hb hq
        rw [y18, show (b : Int) + 4 = (b : Int) + ((4 : Nat) : Int) by rfl, B' 4 (by decide), g7] at e6
        refine ⟨r6, e6, ?_⟩
        replace e := bI_e e
        obtain ⟨r7, n7, e7, e⟩ := e
        obtain ⟨p1, c6, p2, p3, p4⟩ := F23_x e7
        by_cases w : r6 = 0
        · rw [p1, if_pos w] at e
          injection e with e
          exact Or.inl ⟨w, by rw [← e, p2, p3 w]⟩
        · rw [p1, if_neg w, if_neg (by decide)] at e
          rw [p4 w] at p2
          rw [p2] at e
          replace e := bU_e e
          obtain ⟨n8, e8, e⟩ := e
          injection e with e
          subst e
          have B2 := fun q hq => hh.f57.b403 (b := b) (q := q) hb hq
          rw [show (b : Int) + 4 = (b : Int) + ((4 : Nat) : Int) by rfl, show (b : Int) + 2 = (b : Int) + ((2 : Nat) : Int) by rfl, B2 4 (by decide), B2 2 (by decide), g7, g3, hv] at e8
          exact Or.inr ⟨w, e8⟩
    have e4' : Hid ((val = -1 → n2 = yup mm 376 57 1) ∧ (val ≠ -1 → ∃ r, F121 g p (F206 (val + 1) (yup mm 376 57 0)) fd (yup mm 376 57 0) = some r ∧ ((r = 0 ∧ n2 = yup (yup mm 376 57 0) 376 57 3) ∨ (r ≠ 0 ∧ F202 g (v : Int) (yup (yup mm 376 57 0) 376 57 0 410 (wr ((wr (8 * (wr (val + 1 - 1)))) + fd)).toNat) (yup (yup mm 376 57 0) 376 57 0) = some n2)))) := by
      refine ⟨fun z => ?_, fun z => ?_⟩
      · rw [if_neg (by omega)] at e4
        exact (mod e4).1 rfl
      · rw [if_pos (by omega)] at e4
        exact (mod e4).2 (by decide)
    clear mod
    have hh := h.f57.f57
    rcases bT_e e1 with ⟨r1, m1, c1, c2⟩ | ⟨r1, m1, c1, c2⟩
    · rcases bT_e c1 with ⟨r3, m3, c3, c4⟩ | ⟨r3, m3, c3, c4⟩
      · rcases F192_r c3 with ⟨-, w⟩ | ⟨-, -, w⟩ | ⟨w0, w1, w⟩
        · cases w
        · cases w
        · injection w with w w'
          injection w with w
          rw [w, w'] at c4
          obtain ⟨i, hi⟩ : ∃ i : Nat, val = i := ⟨val.toNat, by omega⟩
          have h30 := h.1.1.2.2
          rw [if_pos (by omega), S 6, hfd] at c4
          injection c4 with c4
          injection c4 with c4 c4'
          injection c4 with c4
          rw [← c4, ← c4'] at c2
          obtain ⟨y1, y2⟩ := e4'
          obtain ⟨r6, y3, y4⟩ := y2 w0
          obtain ⟨k1, k2, k3⟩ := h.f57.1.cls hA hp hG h18 h.f57.2.2.1 h.f57.2.2.2.1 (by omega) vr.2
          rw [k1] at y3
          have hu := has_u hA hp hR h.2.2.1 h.f57.2.2.2.1 k2 k3 ⟨g8, g9⟩ y3
          rcases y4 with ⟨y5, -⟩ | ⟨y5, y6⟩
          · exact absurd (hu.mp y5) w1
          · have f0 : fd ≠ -1 := by
              intro z
              apply w1
              unfold F47
              rw [if_pos z]
            obtain ⟨fn, hfn⟩ : ∃ fn : Nat, fd = fn := ⟨fd.toNat, by omega⟩
            obtain ⟨z1, z2, z3⟩ := h.1.2.2.2.1 i fn (by omega) (by omega)
            have ix : (wr ((wr (8 * (wr (val + 1 - 1)))) + fd)).toNat = 8 * i + fn := by
              rw [hi, hfn, wr_i (x := (i : Int) + 1 - 1) (by omega) (by omega), wr_i (x := 8 * ((i : Int) + 1 - 1)) (by omega) (by omega), wr_i (by omega) (by omega)]
              omega
            rw [ix, yup_na (by decide), yup_na (by decide), z1] at y6
            rw [hi, hfn, Int.toNat_natCast, Int.toNat_natCast] at c2
            exact fin hh hv l2 z2 z3 rfl (fun _ _ _ => rfl) (fun q => by rw [yup_na (by decide), yup_na (by decide)]) (by rw [yup_nk (by decide), yup_nk (by decide)]) c2 y6
      · cases c4
    · rcases bT_e c1 with ⟨r3, m3, c3, c4⟩ | ⟨r3, m3, c3, c4⟩
      · rcases ite1 c4 with ⟨-, c4⟩ | ⟨-, c4⟩ <;> cases c4
      · injection c4 with c4
        injection c4 with c4 c4'
        injection c4 with c4
        rcases F192_r c3 with ⟨w0, w⟩ | ⟨w0, w1, w⟩ | ⟨-, -, w⟩
        · injection w with w w'
          injection w with w
          rw [← c4, ← c4', w, w'] at c2
          injection c2 with c2
          injection c2 with c2 c2'
          subst c2'
          rw [e4'.1 w0]
          exact Or.inl ⟨11, c2.symm, h.err (by decide) rfl⟩
        · injection w with w w'
          injection w with w
          rw [← c4, ← c4', w, w'] at c2
          injection c2 with c2
          injection c2 with c2 c2'
          subst c2'
          obtain ⟨r6, y3, y4⟩ := e4'.2 w0
          obtain ⟨k1, k2, k3⟩ := h.f57.1.cls hA hp hG h18 h.f57.2.2.1 h.f57.2.2.2.1 (by omega) vr.2
          rw [k1] at y3
          have hu := has_u hA hp hR h.2.2.1 h.f57.2.2.2.1 k2 k3 ⟨g8, g9⟩ y3
          rcases y4 with ⟨-, y5⟩ | ⟨y5, -⟩
          · rw [y5]
            exact Or.inl ⟨13, c2.symm, h.f57.err (by decide) rfl⟩
          · exact absurd (hu.mpr w1) y5
        · cases w
end UP

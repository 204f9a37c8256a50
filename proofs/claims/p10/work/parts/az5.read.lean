/-! READING A TEXT, whole: the same fault -/
section RDW
variable {A p : Nat} {mc mm mc' m2 : yM}
theorem clear_c {f : Nat} {m m1 : yM} (h : F30 f A m = some m1) : (∀ a q, ¬ (a = A ∧ 9 ≤ q ∧ q ≤ 16) → m1 a q = m a q) ∧ m1 A 9 = 0 ∧ m1 A 10 = 0 ∧ m1 A 11 = 0 ∧ m1 A 12 = 0 ∧ m1 A 13 = 0 ∧ m1 A 14 = 1 ∧ m1 A 15 = 0 ∧ m1 A 16 = 0 := by
  unfold F30 at h
  cases h
  refine ⟨fun a q hq => ?_, ?_, ?_, ?_, ?_, ?_, ?_, ?_, ?_⟩
  · rw [yup_ne (by omega), yup_ne (by omega), yup_ne (by omega), yup_ne (by omega), yup_ne (by omega), yup_ne (by omega), yup_ne (by omega), yup_ne (by omega)]
  · rw [yup_nk (by decide), yup_nk (by decide), yup_nk (by decide), yup_nk (by decide), yup_nk (by decide), yup_nk (by decide), yup_nk (by decide), yup_eq]
  · rw [yup_nk (by decide), yup_nk (by decide), yup_nk (by decide), yup_nk (by decide), yup_nk (by decide), yup_nk (by decide), yup_eq]
  · rw [yup_nk (by decide), yup_nk (by decide), yup_nk (by decide), yup_nk (by decide), yup_nk (by decide), yup_eq]
  · rw [yup_nk (by decide), yup_nk (by decide), yup_nk (by decide), yup_nk (by decide), yup_eq]
  · rw [yup_nk (by decide), yup_nk (by decide), yup_nk (by decide), yup_eq]
  · rw [yup_nk (by decide), yup_nk (by decide), yup_eq]
  · rw [yup_nk (by decide), yup_eq]
  · rw [yup_eq]
theorem PRG.z (h9 : mc A 9 = 0) (h10 : mc A 10 = 0) (h11 : mc A 11 = 0) (h12 : mc A 12 = 0) (h13 : mc A 13 = 0) (h14 : mc A 14 = 1) (h15 : mc A 15 = 0) (h16 : mc A 16 = 0) (g : ∀ b, 383 ≤ b → b ≤ 390 → b ≠ 388 → mm b p = 0) (g8 : mm 388 p = 1) (g9 : mm 376 9 = 0) (g17 : mm 376 17 = 0) (g400 : mm 400 (12 * p) = 0) : PRG A p 0 0 0 0 mc mm := by
  have a3 := g 383 (by omega) (by omega) (by omega)
  have a4 := g 384 (by omega) (by omega) (by omega)
  have a5 := g 385 (by omega) (by omega) (by omega)
  have a6 := g 386 (by omega) (by omega) (by omega)
  have a7 := g 387 (by omega) (by omega) (by omega)
  have a9 := g 389 (by omega) (by omega) (by omega)
  have a10 := g 390 (by omega) (by omega) (by omega)
  refine ⟨⟨by omega, by omega, by omega, fun k hk => by omega⟩, ⟨by omega, by omega, by omega, fun k hk => by omega⟩, fun k hk => by omega, ⟨by omega, by omega, by omega, fun k hk => by omega⟩, ⟨by omega, by omega, by omega, by omega, by omega, by omega, by omega, by omega, by omega⟩, by omega, ⟨by omega, by omega, by omega⟩, ⟨by omega, by omega, by omega, by omega, by omega, by omega, by omega, g400, fun c hc => by omega, fun j hj => by omega, fun j hj => by omega⟩, rfl, rfl, rfl⟩
def RO (f g A p : Nat) (mc mm mm' : yM) (r : Int) (mc' : yM) : Prop := (0 ≤ r ∧ mm' 376 8 = r ∧ (((∀ q, mc' (A + 8) q = mc (A + 8) q) ∧ (∀ a q, ¬ arM p a q → mm' a q = mm a q)) ∨ ∃ (k s o a : Nat) (M N : yM), PRG A p k s o a M N ∧ (∀ q, M (A + 8) q = mc (A + 8) q) ∧ F73 f A M = some (r, mc') ∧ F141 g p N = some mm' ∧ (∀ a q, ¬ arM p a q → N a q = mm a q))) ∨ (r = -1 ∧ mm' 376 8 = -1 ∧ ∃ (k s o a : Nat) (M N : yM), PRG A p k s o a M N ∧ 1 ≤ M A 9 ∧ N 376 8 = -1 ∧ F73 f A M = some (-1, mc') ∧ F141 g p N = some mm' ∧ (∀ q, M (A + 8) q = mc (A + 8) q))
theorem read_m {g : Nat} {b : Int} (hp : p ≤ 1) (h18 : mm 376 18 = 1 - (p : Int)) (h : F152 g mm = some (b, m2)) : ∃ m0 m1 m3 H fin, (∀ a q, ¬ arM p a q → m0 a q = mm a q) ∧ (∀ b, 383 ≤ b → b ≤ 390 → b ≠ 388 → m0 b p = 0) ∧ m0 388 p = 1 ∧ m0 376 9 = 0 ∧ m0 376 17 = 0 ∧ m0 400 (12 * p) = 0 ∧ m0 376 6 = 0 ∧ m0 376 8 = -1 ∧ F99 g m0 = some m1 ∧ F119 g m1 = some m3 ∧ MRest g p g H m3 fin ∧ J152_120 g p fin = some (b, m2) := by
  have e96 : F96 mm = p := by
    unfold F96
    rw [h18, wr_i (by omega) (by omega)]
    omega
  unfold F152 at h
  rw [e96, Int.toNat_natCast, wr_i (x := 12 * (p : Int)) (by omega) (by omega), show (12 * (p : Int)).toNat = 12 * p by omega] at h
  replace h := bU_e h
  obtain ⟨m1, e1, h⟩ := h
  replace h := bU_e h
  obtain ⟨m5, e2, h⟩ := h
  unfold F140 at e2
  replace e2 := bU_e e2
  obtain ⟨m3, e3, e2⟩ := e2
  have key : ∃ fin, yloop (fun (_ : Unit) ml => B152_99 g p ml) g () m5 = some (.inl ((), fin)) ∧ J152_120 g p fin = some (b, m2) := by
    rcases bL_e h with ⟨l, m, e4, e5⟩ | ⟨l, m, e4, e5⟩
    · exact ⟨m, e4, e5⟩
    · exfalso
      obtain ⟨l', m', -, e6⟩ := yloop_inv (fun _ _ => True) (fun _ _ _ _ _ _ => trivial) _ _ _ _ trivial e4
      unfold B152_99 at e6
      rcases ite1 e6 with ⟨-, e6⟩ | ⟨-, e6⟩
      · rcases ite1 e6 with ⟨-, e6⟩ | ⟨-, e6⟩
        · cases e6
        · replace e6 := bU_e e6
          obtain ⟨m7, -, e6⟩ := e6
          cases e6
      · cases e6
  obtain ⟨fin, e4, e5⟩ := key
  refine ⟨_, m1, m3, g, fin, ?_, ?_, ?_, ?_, ?_, ?_, ?_, ?_, e1, e3, ⟨m5, e2, e4⟩, e5⟩
  · intro a q ha
    have n1 : ∀ b q', arM p b q' → ¬ (a = b ∧ q = q') := fun b q' hb e => ha (by rw [e.1, e.2]; exact hb)
    rw [yup_ne (n1 _ _ (by unfold arM; omega)), yup_ne (n1 _ _ (by unfold arM; omega)), yup_ne (n1 _ _ (by unfold arM; omega)), yup_ne (n1 _ _ (by unfold arM; omega)), yup_ne (n1 _ _ (by unfold arM; omega)), yup_ne (n1 _ _ (by unfold arM; omega)), yup_ne (n1 _ _ (by unfold arM; omega)), yup_ne (n1 _ _ (by unfold arM; omega)), yup_ne (n1 _ _ (by unfold arM; omega)), yup_ne (n1 _ _ (by unfold arM; omega)), yup_ne (n1 _ _ (by unfold arM; omega)), yup_ne (n1 _ _ (by unfold arM; omega)), yup_ne (n1 _ _ (by unfold arM; omega))]
  · intro b b1 b2 b3
    rcases (show b = 383 ∨ b = 384 ∨ b = 385 ∨ b = 386 ∨ b = 387 ∨ b = 389 ∨ b = 390 by omega) with rfl | rfl | rfl | rfl | rfl | rfl | rfl
    · rw [yup_na (by decide), yup_na (by decide), yup_na (by decide), yup_na (by decide), yup_na (by decide), yup_na (by decide), yup_na (by decide), yup_na (by decide), yup_na (by decide), yup_na (by decide), yup_na (by decide), yup_na (by decide), yup_eq]
    · rw [yup_na (by decide), yup_na (by decide), yup_na (by decide), yup_na (by decide), yup_na (by decide), yup_na (by decide), yup_na (by decide), yup_na (by decide), yup_na (by decide), yup_na (by decide), yup_na (by decide), yup_eq]
    · rw [yup_na (by decide), yup_na (by decide), yup_na (by decide), yup_na (by decide), yup_na (by decide), yup_na (by decide), yup_na (by decide), yup_na (by decide), yup_na (by decide), yup_na (by decide), yup_eq]
    · rw [yup_na (by decide), yup_na (by decide), yup_na (by decide), yup_na (by decide), yup_na (by decide), yup_na (by decide), yup_na (by decide), yup_na (by decide), yup_na (by decide), yup_eq]
    · rw [yup_na (by decide), yup_na (by decide), yup_na (by decide), yup_na (by decide), yup_na (by decide), yup_na (by decide), yup_na (by decide), yup_na (by decide), yup_eq]
    · rw [yup_na (by decide), yup_na (by decide), yup_na (by decide), yup_na (by decide), yup_na (by decide), yup_na (by decide), yup_eq]
    · rw [yup_na (by decide), yup_na (by decide), yup_na (by decide), yup_na (by decide), yup_na (by decide), yup_eq]
  · rw [yup_na (by decide), yup_na (by decide), yup_na (by decide), yup_na (by decide), yup_na (by decide), yup_na (by decide), yup_na (by decide), yup_eq]
  · rw [yup_nk (by decide), yup_nk (by decide), yup_nk (by decide), yup_eq]
  · rw [yup_nk (by decide), yup_nk (by decide), yup_eq]
  · rw [yup_na (by decide), yup_na (by decide), yup_na (by decide), yup_na (by decide), yup_eq]
  · rw [yup_nk (by decide), yup_eq]
  · rw [yup_eq]
theorem parse_r {f g : Nat} {len r b : Int} (h0 : 0 ≤ len ∧ len ≤ 320) (hA : A = 256 ∨ A = 316) (hp : p ≤ 1) (h18 : mm 376 18 = 1 - (p : Int)) (hK : KW mc) (ht : ∀ t : Int, 0 ≤ t → t < len → mm 377 t.toNat = mc 1 t.toNat ∧ 32 ≤ mc 1 t.toNat ∧ mc 1 t.toNat ≤ 126) (hl : mm 376 1 = len) (h1 : F74 f len A mc = some (r, mc')) (h2 : F152 g mm = some (b, m2)) : (∀ a q, a ≠ 2 → a ≠ 3 → a ≠ 5 → a ≠ 6 → a ≠ 7 → ¬ (A ≤ a ∧ a < A + 60) → mc' a q = mc a q) ∧ ∃ mm', J152_132 g p mm' = some (b, m2) ∧ (∀ a q, ¬ arM p a q → a ≠ 400 → a ≠ 402 → a ≠ 403 → mm' a q = mm a q) ∧ RO f g A p mc mm mm' r mc' := by
  obtain ⟨m0, m1, m3, H, fin, k1, k2, k3, k4, k5, k5b, k6, k7, k8, k9, k10, k11⟩ := read_m hp h18 h2
  unfold F74 at h1
  replace h1 := bU_e h1
  obtain ⟨c1, e1, h1⟩ := h1
  obtain ⟨w0, w9, w10, w11, w12, w13, w14, w15, w16⟩ := clear_c e1
  replace h1 := bU_e h1
  obtain ⟨c2, e2, h1⟩ := h1
  have c1t : ∀ a q, a ≠ 2 → ¬ (A ≤ a ∧ a < A + 60) → c1 a q = mc a q := fun a q z1 z2 => by rw [w0 a q (by omega), yup_na z1]
  obtain ⟨⟨n, en, T⟩, w2⟩ := F36_r (m := c1) h0.1 h0.2 (fun t t1 t2 => by rw [c1t _ _ (by omega) (by omega)]; exact (ht t t1 t2).2) (fun j j1 j2 => by rw [c1t _ _ (by omega) (by omega)]; exact hK j j1 j2) e2
  replace h1 := bI_e h1
  obtain ⟨r1, c3, e3, h1⟩ := h1
  have hP8 : ∀ a q : Nat, (fun (a _ : Nat) => a = A + 8) a q → a ≠ 2 ∧ a ≠ 3 ∧ a ≠ 5 ∧ a ≠ 6 ∧ a ≠ 7 ∧ ¬ (A ≤ a ∧ a < A + 60 ∧ a ≠ A + 8) := fun a q h => by
    have h : a = A + 8 := h
    omega
  have k81 : KC A (fun (a _ : Nat) => a = A + 8) mc c1 := ⟨fun a q ha => by
    have ha : a = A + 8 := ha
    rw [w0 a q (by omega), yup_na (by omega)], by omega, by omega, by omega, by omega⟩
  have k82 : KC A (fun (a _ : Nat) => a = A + 8) mc c2 := kpa_F36 hA hP8 k81 _ e2
  have k83 : KC A (fun (a _ : Nat) => a = A + 8) mc c3 := kpa_F45 hA hP8 ((KC.up (a := 2) (q := 2) (v := 0) k82 (fun h => by have h : 2 = A + 8 := h; omega) (by omega)).up (a := 2) (q := 3) (v := 0) (fun h => by have h : 2 = A + 8 := h; omega) (by omega)) _ e3
  have c2t : ∀ a q, a ≠ 2 → a ≠ 3 → a ≠ 5 → a ≠ 6 → a ≠ 7 → yup (yup c2 2 2 0) 2 3 0 a q = c1 a q := fun a q z1 z2 z3 z4 z5 => by rw [yup_na z1, yup_na z1, w2 a q z2 z3 z4 z5]
  have hC : CT (c2 5) (c2 6) (c2 7) 0 (yup (yup c2 2 2 0) 2 3 0) := ⟨by rw [yup_nk (by decide), yup_eq]; rfl, fun j => by rw [yup_na (by decide), yup_na (by decide)], fun j => by rw [yup_na (by decide), yup_na (by decide)], fun j => by rw [yup_na (by decide), yup_na (by decide)]⟩
  have t0 : ∀ t : Int, 0 ≤ t → t < len → m0 377 t.toNat = c1 1 t.toNat := fun t z1 z2 => by rw [k1 377 _ (by unfold arM; omega), c1t _ _ (by omega) (by omega)]; exact (ht t z1 z2).1
  have m01 : m0 376 1 = len := by rw [k1 376 1 (by unfold arM; omega)]; exact hl
  obtain ⟨f9, hk9⟩ := F99_r T h0.2 m01 t0 (i := 0) (by omega) (by rw [k6, T.1]) k8
  have hM : MT (fun t => c1 1 t.toNat) len n en (c2 5) (c2 6) (c2 7) p 0 m1 := ⟨by rw [f9 376 1 (by omega)]; exact m01, fun t z1 z2 => by rw [f9 377 _ (by omega)]; exact t0 t z1 z2, by rw [f9 376 18 (by omega), k1 376 18 (by unfold arM; omega)]; exact h18, by rw [f9 376 8 (by omega)]; exact k7, hk9⟩
  have e5A : ∀ q, yup (yup c2 2 2 0) 2 3 0 A q = c1 A q := fun q => c2t A q (by omega) (by omega) (by omega) (by omega) (by omega)
  have hP : PRG A p 0 0 0 0 (yup (yup c2 2 2 0) 2 3 0) m1 := PRG.z (by rw [e5A]; exact w9) (by rw [e5A]; exact w10) (by rw [e5A]; exact w11) (by rw [e5A]; exact w12) (by rw [e5A]; exact w13) (by rw [e5A]; exact w14) (by rw [e5A]; exact w15) (by rw [e5A]; exact w16) (fun b b1 b2 b3 => by rw [f9 b p (by omega)]; exact k2 b b1 b2 b3) (by rw [f9 388 p (by omega)]; exact k3) (by rw [f9 376 9 (by omega)]; exact k4) (by rw [f9 376 17 (by omega)]; exact k5) (by rw [f9 400 _ (by omega)]; exact k5b)
  have hP0 := hP
  obtain ⟨p1, p2, p3, -⟩ := hP
  have x23 : yup (yup c2 2 2 0) 2 3 0 2 3 = 0 := yup_eq _ _ _ _
  generalize yup (yup c2 2 2 0) 2 3 0 = mc0 at *
  have fmc : ∀ {M : yM}, FrC A mc0 M → (∀ a q, a ≠ 2 → a ≠ 3 → a ≠ 5 → a ≠ 6 → a ≠ 7 → ¬ (A ≤ a ∧ a < A + 60) → M a q = mc a q) := fun hF a q z1 z2 z3 z4 z5 z6 => by rw [hF a q z1 z6, c2t a q z1 z2 z3 z4 z5, c1t a q z1 z6]
  have fmm : ∀ {N : yM}, FrM p m1 N → (∀ a q, ¬ arM p a q → N a q = mm a q) := fun hF a q z => by rw [hF a q z, f9 a q (fun e => z (Or.inl ⟨e.1, by omega⟩)), k1 a q z]
  obtain ⟨fc, fm, hr⟩ := head_r T h0.2 hA hp hC hM p1 e3 k9
  -- what the class and the model do behind the loops
  have bad : ∀ {M : yM} {x : Int}, FrC A mc0 M → FrM p m1 fin → Flt M fin → (∀ q, M (A + 8) q = mc (A + 8) q) → J74_139 f A 0 M = some (r, mc') → ((∀ a q, a ≠ 2 → a ≠ 3 → a ≠ 5 → a ≠ 6 → a ≠ 7 → ¬ (A ≤ a ∧ a < A + 60) → mc' a q = mc a q) ∧ ∃ mm', J152_132 g p mm' = some (b, m2) ∧ (∀ a q, ¬ arM p a q → a ≠ 400 → a ≠ 402 → a ≠ 403 → mm' a q = mm a q) ∧ RO f g A p mc mm mm' r mc') := by
    intro M x hF1 hF2 hF3 h8 e
    unfold J74_139 at e
    rw [if_pos rfl] at e
    cases e
    unfold J152_120 at k11
    have q := hF3.2
    rw [if_neg (by omega)] at k11
    exact ⟨fmc hF1, fin, k11, fun a q z _ _ _ => fmm hF2 a q z, Or.inl ⟨by rw [hF3.1]; exact q, hF3.1.symm, Or.inl ⟨h8, fmm hF2⟩⟩⟩
  have key : ∃ l M, CLM f A f (r1, 0) c3 = some (.inl (l, M)) ∧ J74_139 f A l.1 M = some (r, mc') := by
    rcases bL_e h1 with ⟨l, M, e4, e5⟩ | ⟨l, M, e4, e5⟩
    · exact ⟨l, M, e4, e5⟩
    · exfalso
      obtain ⟨l', m', -, e6⟩ := yloop_inv (fun _ _ => True) (fun _ _ _ _ _ _ => trivial) _ _ _ _ trivial e4
      unfold B74_40 J74_133 at e6
      rcases ite1 e6 with ⟨-, e6⟩ | ⟨-, e6⟩
      · rcases ite1 e6 with ⟨-, e6⟩ | ⟨-, e6⟩
        · cases e6
        rcases ite1 e6 with ⟨-, e6⟩ | ⟨-, e6⟩
        · rcases ite1 e6 with ⟨-, e6⟩ | ⟨-, e6⟩
          · obtain ⟨_, _, -, e6⟩ := bI_e e6; cases e6
          rcases ite1 e6 with ⟨-, e6⟩ | ⟨-, e6⟩
          · obtain ⟨_, _, -, e6⟩ := bI_e e6; cases e6
          rcases ite1 e6 with ⟨-, e6⟩ | ⟨-, e6⟩
          · obtain ⟨_, _, -, e6⟩ := bI_e e6; cases e6
          · obtain ⟨_, _, -, e6⟩ := bI_e e6; cases e6
        · cases e6
      · cases e6
  obtain ⟨l, M, e4, e5⟩ := key
  have m8 : ∀ q, M (A + 8) q = mc (A + 8) q := fun q => (show KC A (fun (a _ : Nat) => a = A + 8) mc M from HK.yl (fun (l : Int × Int) m hm => kpa_B74_40 (f := f) (x4 := l.1) (x5 := l.2) hA hP8 hm) f (r1, 0) c3 k83 _ e4).1 (A + 8) q rfl
  rcases hr with ⟨rfl, hF⟩ | ⟨rfl, -, i', i1, d1, d2, d3, d4, d5, d6, d7, d8⟩
  · have z := k10.w hF.2
    subst z
    have z2 := CLM.z (Or.inl rfl) e4
    cases z2
    exact bad (x := 0) fc fm hF m8 e5
  · have E9 : c3 A 9 = 1 := by rw [d4, e5A]; omega
    have hP3 : PRG A p 0 0 0 0 c3 m3 := hP0.fr d3 (p2.fr (d5 _ _ (by omega) (by omega) (by omega) (by omega) (by omega)) (fun q => d5 _ _ (by omega) (by omega) (by omega) (by omega) (by omega)) (fun b q hb => d7 _ _ (by omega) (by omega) (by omega) (by omega) (by omega))) (p3.hd d8 (d5 _ _ (by omega) (by omega) (by omega) (by omega) (by omega))) (by omega) (fun b q hb => d5 _ _ (by omega) (by omega) (by omega) (by omega) (by omega)) (fun b q hb => d7 _ _ (by omega) (by omega) (by omega) (by omega) (by omega))
    obtain ⟨x4, x5, M', g1, g2, g3, g4⟩ := cls_r T h0.2 hA hp f i' 0 0 0 0 g H 0 c3 m3 fin _ d1 d2 hP3 (by omega) (by rw [d6]; exact x23) (by omega) (by omega) e4 k10
    cases g1
    rcases g4 with ⟨rfl, hF⟩ | ⟨rfl, g5, g6, k, s, o, a, hPf⟩
    · exact bad (x := 0) (fc.tr g2) (fm.tr g3) hF m8 e5
    · have e5' : J74_139 f A 1 M = some (r, mc') := e5
      unfold J74_139 at e5'
      rw [if_neg (by decide)] at e5'
      replace e5' := bI_e e5'
      obtain ⟨r7, M7, e7, e8⟩ := e5'
      cases e8
      unfold J152_120 at k11
      rw [if_pos (by omega)] at k11
      replace k11 := bU_e k11
      obtain ⟨mm', e9, k11⟩ := k11
      obtain ⟨f1, f2, f3⟩ := F73_r hp hPf g5 e7 e9
      refine ⟨fun a q z1 z2 z3 z4 z5 z6 => ?_, mm', k11, fun a q z z1 z2 z3 => ?_, ?_⟩
      · rw [f1 a q (by omega) (by omega) (by omega)]
        exact fmc (fc.tr g2) a q z1 z2 z3 z4 z5 z6
      · rw [f2 a q (fun e => z (Or.inl ⟨e.1, by omega⟩)) z1 z2 z3]
        exact fmm (fm.tr g3) a q z
      · rcases f3 with f3 | ⟨f3, f4⟩
        · exact Or.inl ⟨f3.1, f3.2, Or.inr ⟨k, s, o, a, M, fin, hPf, m8, e7, e9, fmm (fm.tr g3)⟩⟩
        · subst f3
          exact Or.inr ⟨rfl, f4, k, s, o, a, M, fin, hPf, g6, g5, e7, e9, m8⟩
end RDW

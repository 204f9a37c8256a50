/-! FAULT: what stands between the law's steps, and that both faults are the same -/
def I5 (m : yM) : Prop := TXT m ∧ KW m ∧ m 0 7 = m 376 2 ∧ (m 376 18 = 0 ∨ m 376 18 = 1)
def P5 (a q : Nat) : Prop := (a = 0 ∧ (q = 6 ∨ q = 7)) ∨ a = 1 ∨ a = 4 ∨ (a = 376 ∧ (q = 1 ∨ q = 2 ∨ q = 18)) ∨ a = 377
section L5
variable {m m1 m2 : yM} {f g : Nat}
theorem I5.fr (h : I5 m) (e : KP P5 m m1) : I5 m1 := by
  obtain ⟨⟨t1, t2, t3, t4⟩, hK, h7, h18⟩ := h
  have e06 := e 0 6 (by unfold P5; omega)
  have e07 := e 0 7 (by unfold P5; omega)
  have e1 := e 376 1 (by unfold P5; omega)
  have e2 := e 376 2 (by unfold P5; omega)
  have e18 := e 376 18 (by unfold P5; omega)
  refine ⟨⟨by omega, by omega, by omega, fun t z1 z2 => ?_⟩, fun j j1 j2 => ?_, by omega, by omega⟩
  · rw [e 1 _ (by unfold P5; omega), e 377 _ (by unfold P5; omega)]
    exact t4 t z1 (by omega)
  · rw [e 4 _ (by unfold P5; omega)]
    exact hK j j1 j2
theorem KP.tr {P : Nat → Nat → Prop} (h : KP P m m1) (h' : KP P m1 m2) : KP P m m2 := fun a q ha => (h' a q ha).trans (h a q ha)
theorem KP.rf {P : Nat → Nat → Prop} : KP P m m := fun _ _ _ => rfl
theorem F74_fr {A : Nat} {len r : Int} (hA : A = 256 ∨ A = 316) (h : F74 f len A m = some (r, m1)) : ∀ a q, a ≠ 2 → a ≠ 3 → a ≠ 5 → a ≠ 6 → a ≠ 7 → ¬ (A ≤ a ∧ a < A + 60) → m1 a q = m a q := by
  have hP : ∀ a q : Nat, (fun (a _ : Nat) => a ≠ 2 ∧ a ≠ 3 ∧ a ≠ 5 ∧ a ≠ 6 ∧ a ≠ 7 ∧ ¬ (A ≤ a ∧ a < A + 60)) a q → a ≠ 2 ∧ a ≠ 3 ∧ a ≠ 5 ∧ a ≠ 6 ∧ a ≠ 7 ∧ ¬ (A ≤ a ∧ a < A + 60) := fun a q h => h
  unfold F74 at h
  replace h := bU_e h
  obtain ⟨c1, e1, h⟩ := h
  obtain ⟨w0, w9, w10, w11, w12, w13, w14, w15, w16⟩ := clear_c e1
  have k1 : KC A (fun (a _ : Nat) => a ≠ 2 ∧ a ≠ 3 ∧ a ≠ 5 ∧ a ≠ 6 ∧ a ≠ 7 ∧ ¬ (A ≤ a ∧ a < A + 60)) m c1 := ⟨fun a q ha => by
    obtain ⟨z1, z2, z3, z4, z5, z6⟩ := ha
    rw [w0 a q (by omega), yup_na z1], by omega, by omega, by omega, by omega⟩
  replace h := bU_e h
  obtain ⟨c2, e2, h⟩ := h
  have k2 := kpa_F36 hA hP k1 _ e2
  replace h := bI_e h
  obtain ⟨r3, c3, e3, h⟩ := h
  have k3 := kpa_F45 hA hP ((KC.up (a := 2) (q := 2) (v := 0) k2 (fun h => absurd rfl h.1) (by omega)).up (a := 2) (q := 3) (v := 0) (fun h => absurd rfl h.1) (by omega)) _ e3
  have kl := HK.yl (fun (l : Int × Int) m hm => kpa_B74_40 (f := f) (x4 := l.1) (x5 := l.2) hA hP hm) f (r3, 0) c3 k3
  intro a q z1 z2 z3 z4 z5 z6
  rcases bL_e h with ⟨l, m', e4, e5⟩ | ⟨l, m', e4, e5⟩
  · have k4 := kl _ e4
    exact (kpa_J74_139 hA hP k4 _ e5).1 a q ⟨z1, z2, z3, z4, z5, z6⟩
  · have k4 := kl _ e4
    cases e5
    exact k4.1 a q ⟨z1, z2, z3, z4, z5, z6⟩
/-- the class's read -/
theorem F95_r {r : Int} (h : F95 f m = some (r, m1)) : ∃ r7 m7, F74 f (m 0 6) (pA (m 0 5)) m = some (r7, m7) ∧ m1 0 7 = r7 ∧ (∀ a q, (a = 0 ∧ q = 6) ∨ a = 1 ∨ a = 4 ∨ (376 ≤ a ∧ a ≠ 413) → m1 a q = m a q) := by
  have hA := pA_is (m 0 5)
  have main : ∀ z, F94 f m = some z → ∃ r7 m7, F74 f (m 0 6) (pA (m 0 5)) m = some (r7, m7) ∧ z.2 0 7 = r7 ∧ (∀ a q, (a = 0 ∧ q = 6) ∨ a = 1 ∨ a = 4 ∨ (376 ≤ a ∧ a ≠ 413) → z.2 a q = m a q) := by
    intro z e
    unfold F94 at e
    replace e := bI_e e
    obtain ⟨r7, m7, e7, e⟩ := e
    have f7 := F74_fr hA e7
    refine ⟨r7, m7, e7, ?_⟩
    rcases ite1 e with ⟨q, e⟩ | ⟨q, e⟩
    · replace e := bU_e e
      obtain ⟨m8, e8, e⟩ := e
      replace e := bU_e e
      obtain ⟨m9, e9, e⟩ := e
      replace e := bP_e e
      obtain ⟨r9, -, e⟩ := e
      cases e
      have k8 := kan_F91 (P := fun a _ => a < 8 ∨ 256 ≤ a) (fun a q h => by omega) KP.rf _ e8
      have k9 := ksn_F92 (P := fun a _ => a < 8 ∨ 256 ≤ a) (fun a q h => by omega) k8 _ e9
      have k : ∀ a q, a < 8 ∨ 256 ≤ a → m9 a q = yup (yup (yup m7 0 7 r7) 0 4 (pX (pA (m7 0 5)))) 0 5 (pX (pA (m7 0 4))) a q := k9
      refine ⟨?_, fun a q ha => ?_⟩
      · show m9 0 7 = r7
        rw [k 0 7 (by omega), yup_nk (by decide), yup_nk (by decide), yup_eq]
      · show m9 a q = m a q
        rw [k a q (by omega), yup_ne (by omega), yup_ne (by omega), yup_ne (by omega)]
        exact f7 a q (by omega) (by omega) (by omega) (by omega) (by omega) (by omega)
    · cases e
      refine ⟨(yup_eq _ _ _ _ : yup m7 0 7 r7 0 7 = r7), fun a q ha => ?_⟩
      show yup m7 0 7 r7 a q = m a q
      rw [yup_ne (by omega)]
      exact f7 a q (by omega) (by omega) (by omega) (by omega) (by omega) (by omega)
  unfold F95 at h
  rcases bT_e h with ⟨r2, m2, e1, e2⟩ | ⟨r2, m2, e1, e2⟩
  · obtain ⟨r7, m7, a1, a2, a3⟩ := main _ e1
    cases e2
    refine ⟨r7, m7, a1, ?_, fun a q ha => ?_⟩
    · rw [yup_na (by decide)]; exact a2
    · rw [yup_na (by omega)]; exact a3 a q ha
  · obtain ⟨r7, m7, a1, a2, a3⟩ := main _ e1
    rcases ite1 e2 with ⟨-, e2⟩ | ⟨-, e2⟩
    · cases e2
      exact ⟨r7, m7, a1, a2, a3⟩
    · cases e2
/-- the model, behind the reading -/
theorem J132_r {p b : Int} (h : J152_132 g p m = some (b, m2)) : (0 ≤ m 376 8 ∧ ∃ c, m2 = yup (yup m 376 2 (m 376 8)) 376 57 c) ∨ (m 376 8 < 0 ∧ ∃ N, KP (fun a q => ¬ (a = 376 ∧ 45 ≤ q ∧ q ≤ 47) ∧ ¬ (404 ≤ a ∧ a ≤ 408)) N m2 ∧ ∃ c, N = yup (yup (yup (yup (yup m 376 2 (m 376 8)) 376 57 c) 376 18 p) 376 19 1) 376 51 0) := by
  unfold J152_132 at h
  have key : ∀ {x : Int}, J152_153 g p x (yup m 376 2 (m 376 8)) = some (b, m2) → (x = 0 → ∃ c, m2 = yup (yup m 376 2 (m 376 8)) 376 57 c) ∧ (x ≠ 0 → ∃ N, KP (fun a q => ¬ (a = 376 ∧ 45 ≤ q ∧ q ≤ 47) ∧ ¬ (404 ≤ a ∧ a ≤ 408)) N m2 ∧ ∃ c, N = yup (yup (yup (yup (yup m 376 2 (m 376 8)) 376 57 c) 376 18 p) 376 19 1) 376 51 0) := by
    intro x e
    unfold J152_153 at e
    replace e := bI_e e
    obtain ⟨r1, n1, e1, e⟩ := e
    obtain ⟨rfl, c, rfl⟩ := F23_r e1
    refine ⟨fun z => ?_, fun z => ?_⟩
    · rw [if_pos z] at e
      cases e
      exact ⟨c, rfl⟩
    · rw [if_neg z] at e
      refine ⟨_, ?_, c, rfl⟩
      have hB : ∀ (l : Int) (mi : yM), KP (fun a q => ¬ (a = 376 ∧ 45 ≤ q ∧ q ≤ 47) ∧ ¬ (404 ≤ a ∧ a ≤ 408)) (yup (yup (yup (yup (yup m 376 2 (m 376 8)) 376 57 c) 376 18 p) 376 19 1) 376 51 0) mi → HK mB (KP (fun a q => ¬ (a = 376 ∧ 45 ≤ q ∧ q ≤ 47) ∧ ¬ (404 ≤ a ∧ a ≤ 408)) (yup (yup (yup (yup (yup m 376 2 (m 376 8)) 376 57 c) 376 18 p) 376 19 1) 376 51 0)) (B152_179 g l mi) := by
        intro l mi hm
        unfold B152_179
        refine HK.ite (fun _ => HK.so1 (KP.up hm (fun h => by omega))) (fun _ => HK.so2 hm)
      have hB2 : ∀ (l : Int × Int) (mi : yM), KP (fun a q => ¬ (a = 376 ∧ 45 ≤ q ∧ q ≤ 47) ∧ ¬ (404 ≤ a ∧ a ≤ 408)) (yup (yup (yup (yup (yup m 376 2 (m 376 8)) 376 57 c) 376 18 p) 376 19 1) 376 51 0) mi → HK mB (KP (fun a q => ¬ (a = 376 ∧ 45 ≤ q ∧ q ≤ 47) ∧ ¬ (404 ≤ a ∧ a ≤ 408)) (yup (yup (yup (yup (yup m 376 2 (m 376 8)) 376 57 c) 376 18 p) 376 19 1) 376 51 0)) (B152_207 g l.1 l.2 mi) := by
        intro l mi hm
        unfold B152_207 J152_226
        refine HK.ite (fun _ => HK.ite (fun _ => HK.so1 hm) (fun _ => HK.so1 hm)) (fun _ => HK.so2 hm)
      have hE : HK (fun x : Int × yM => x.2) (KP (fun a q => ¬ (a = 376 ∧ 45 ≤ q ∧ q ≤ 47) ∧ ¬ (404 ≤ a ∧ a ≤ 408)) (yup (yup (yup (yup (yup m 376 2 (m 376 8)) 376 57 c) 376 18 p) 376 19 1) 376 51 0)) _ := HK.cL (HK.yl hB g 0 _ KP.rf) (fun l mi hm => HK.cU (kma_F151 (f := g) (fun a q h => by omega) hm) (fun mi hm => HK.cL (HK.yl hB2 g (0, 0) mi hm) (fun l mi hm => HK.soP (r := l.1) hm) (fun r mi hm => HK.soP (r := r) hm))) (fun r mi hm => HK.soP (r := r) hm)
      exact hE _ e
  rcases ite1 h with ⟨q, h⟩ | ⟨q, h⟩
  · exact Or.inr ⟨q, (key h).2 (by decide)⟩
  · exact Or.inl ⟨by omega, (key h).1 rfl⟩
theorem read5 {r b : Int} (hI : I5 m) (h1 : F95 f m = some (r, m1)) (h2 : F152 g m1 = some (b, m2)) : I5 m2 := by
  obtain ⟨⟨t1, t2, t3, t4⟩, hK, h7, h18⟩ := hI
  obtain ⟨r7, m7, e7, c7, fr⟩ := F95_r h1
  obtain ⟨p, hp, hp18⟩ : ∃ p : Nat, p ≤ 1 ∧ m 376 18 = 1 - (p : Int) := ⟨(1 - m 376 18).toNat, by omega, by omega⟩
  have x6 := fr 0 6 (by omega)
  have x1 := fr 376 1 (by omega)
  have x18 := fr 376 18 (by omega)
  obtain ⟨-, mm', k1, k2, hR⟩ := parse_r ⟨t2, t3⟩ (pA_is (m 0 5)) hp (by omega) hK (fun t z1 z2 => by
    rw [fr 377 _ (by omega)]
    have := t4 t z1 z2
    exact ⟨this.1.symm, this.2⟩) (by omega) e7 h2
  have y : ∀ a q, (a = 0 ∧ (q = 6 ∨ q = 7)) ∨ a = 1 ∨ a = 4 ∨ (a = 376 ∧ (q = 1 ∨ q = 18)) ∨ a = 377 → mm' a q = m1 a q := fun a q ha => k2 a q (by unfold arM; omega) (by omega) (by omega) (by omega)
  have fin : ∀ {v w : Int}, v = w → m2 0 6 = m1 0 6 → m2 0 7 = v → m2 376 1 = m1 376 1 → m2 376 2 = w → (m2 376 18 = 0 ∨ m2 376 18 = 1) → (∀ q, m2 1 q = m1 1 q) → (∀ q, m2 377 q = m1 377 q) → (∀ q, m2 4 q = m1 4 q) → I5 m2 := by
    intro v w a0 a1 a2 a3 a4 a5 a6 a7 a8
    refine ⟨⟨by omega, by omega, by omega, fun t z1 z2 => ?_⟩, fun j j1 j2 => ?_, by omega, a5⟩
    · rw [a6, a7, fr 1 _ (by omega), fr 377 _ (by omega)]
      exact t4 t z1 (by omega)
    · rw [a8, fr 4 _ (by omega)]
      exact hK j j1 j2
  rcases J132_r k1 with ⟨q, c, rfl⟩ | ⟨q, N, kN, c, rfl⟩
  · rcases hR with ⟨q1, q2⟩ | ⟨-, q2, -⟩
    · refine fin (v := r7) (w := mm' 376 8) q2.symm ?_ ?_ ?_ ?_ ?_ (fun q => ?_) (fun q => ?_) (fun q => ?_)
      · rw [yup_na (by decide), yup_na (by decide)]; exact y 0 6 (by omega)
      · rw [yup_na (by decide), yup_na (by decide), y 0 7 (by omega)]; exact c7
      · rw [yup_nk (by decide), yup_nk (by decide)]; exact y 376 1 (by omega)
      · rw [yup_nk (by decide), yup_eq]
      · rw [yup_nk (by decide), yup_nk (by decide), y 376 18 (by omega)]; omega
      · rw [yup_na (by decide), yup_na (by decide)]; exact y 1 q (by omega)
      · rw [yup_na (by decide), yup_na (by decide)]; exact y 377 q (by omega)
      · rw [yup_na (by decide), yup_na (by decide)]; exact y 4 q (by omega)
    · omega
  · rcases hR with ⟨q1, q2⟩ | ⟨q1, q2, -⟩
    · omega
    · have z : ∀ a q, ¬ (a = 376 ∧ 45 ≤ q ∧ q ≤ 47) → ¬ (404 ≤ a ∧ a ≤ 408) → m2 a q = yup (yup (yup (yup (yup mm' 376 2 (mm' 376 8)) 376 57 c) 376 18 (p : Int)) 376 19 1) 376 51 0 a q := fun a q z1 z2 => kN a q ⟨z1, z2⟩
      refine fin (v := r7) (w := mm' 376 8) (by omega) ?_ ?_ ?_ ?_ ?_ (fun q => ?_) (fun q => ?_) (fun q => ?_)
      · rw [z 0 6 (by omega) (by omega), yup_na (by decide), yup_na (by decide), yup_na (by decide), yup_na (by decide), yup_na (by decide)]; exact y 0 6 (by omega)
      · rw [z 0 7 (by omega) (by omega), yup_na (by decide), yup_na (by decide), yup_na (by decide), yup_na (by decide), yup_na (by decide), y 0 7 (by omega)]; exact c7
      · rw [z 376 1 (by omega) (by omega), yup_nk (by decide), yup_nk (by decide), yup_nk (by decide), yup_nk (by decide), yup_nk (by decide)]; exact y 376 1 (by omega)
      · rw [z 376 2 (by omega) (by omega), yup_nk (by decide), yup_nk (by decide), yup_nk (by decide), yup_nk (by decide), yup_eq]
      · rw [z 376 18 (by omega) (by omega), yup_nk (by decide), yup_nk (by decide), yup_eq]; omega
      · rw [z 1 q (by omega) (by omega), yup_na (by decide), yup_na (by decide), yup_na (by decide), yup_na (by decide), yup_na (by decide)]; exact y 1 q (by omega)
      · rw [z 377 q (by omega) (by omega), yup_na (by decide), yup_na (by decide), yup_na (by decide), yup_na (by decide), yup_na (by decide)]; exact y 377 q (by omega)
      · rw [z 4 q (by omega) (by omega), yup_na (by decide), yup_na (by decide), yup_na (by decide), yup_na (by decide), yup_na (by decide)]; exact y 4 q (by omega)
theorem fTx.I5 (h : I5 m) (ht : TXT m2) (e : fTx m m2) : I5 m2 := by
  obtain ⟨-, hK, h7, h18⟩ := h
  refine ⟨ht, fun j j1 j2 => ?_, ?_, ?_⟩
  · rw [e 4 _ (by omega) (by omega) (by omega) (by omega) (by omega)]; exact hK j j1 j2
  · rw [e 0 7 (by omega) (by omega) (by omega) (by omega) (by omega), e 376 2 (by omega) (by omega) (by omega) (by omega) (by omega)]; exact h7
  · rw [e 376 18 (by omega) (by omega) (by omega) (by omega) (by omega)]; exact h18
theorem P5_cq : ∀ a q, P5 a q → a ≠ 413 := fun a q h => by unfold P5 at h; omega
theorem P5_mq : ∀ a q, P5 a q → ¬ (a = 376 ∧ q = 57) := fun a q h => by unfold P5 at h; omega
theorem P5_ru : ∀ a q, P5 a q → a < 169 ∨ (256 ≤ a ∧ a ≠ 413) := fun a q h => by unfold P5 at h; omega
theorem P5_mr : ∀ a q, P5 a q → ¬ (a = 376 ∧ (q = 51 ∨ (54 ≤ q ∧ q ≤ 57))) ∧ ¬ (408 ≤ a ∧ a ≤ 412) := fun a q h => by unfold P5 at h; omega
theorem two5 {L : Nat} {xs : Nat → Int32} {x4 : Int} {o : Option (Int × yM)} {G : yM → Option (Int × yM)} {y : (Int × yM) ⊕ ((Int × yM) ⊕ (Int × yM))} (h : bI o (fun _ m1 => bI (G m1) (fun _ m2 => J218_t0_589 f L xs x4 m2)) = some y) (hI : ∀ r m1 r2 m2, o = some (r, m1) → G m1 = some (r2, m2) → I5 m2) : ∃ l' m', y = .inl (l', m') ∧ I5 m' := by
  replace h := bI_e h
  obtain ⟨r, m1, e1, h⟩ := h
  replace h := bI_e h
  obtain ⟨r2, m2, e2, h⟩ := h
  unfold J218_t0_589 at h
  cases h
  exact ⟨_, _, rfl, hI _ _ _ _ e1 e2⟩
theorem step5 {L : Nat} {xs : Nat → Int32} {x4 : Int} {y : (Int × yM) ⊕ ((Int × yM) ⊕ (Int × yM))} (hI : I5 m) (h : B218_t0_23 f L xs x4 m = some y) : (∃ l' m', y = .inl (l', m') ∧ I5 m') ∨ (∃ l', y = .inr (.inl (l', m))) := by
  unfold B218_t0_23 at h
  rcases ite1 h with ⟨-, h⟩ | ⟨-, h⟩
  · cases h
    exact Or.inr ⟨_, rfl⟩
  left
  rcases ite1 h with ⟨-, h⟩ | ⟨-, h⟩
  · exact two5 h (fun r m1 r2 m2 e1 e2 => by obtain ⟨a, b⟩ := append_r hI.1 e1 e2; exact fTx.I5 hI a b)
  rcases ite1 h with ⟨-, h⟩ | ⟨-, h⟩
  · exact two5 h (fun r m1 r2 m2 e1 e2 => by obtain ⟨a, b⟩ := cut_r hI.1 e1 e2; exact fTx.I5 hI a b)
  rcases ite1 h with ⟨-, h⟩ | ⟨-, h⟩
  · exact two5 h (fun r m1 r2 m2 e1 e2 => read5 hI e1 e2)
  rcases ite1 h with ⟨-, h⟩ | ⟨-, h⟩
  · replace h := bI_e h
    obtain ⟨r, m1, e1, h⟩ := h
    unfold F154 at e1
    cases e1
    unfold F153 at h
    rw [if_pos hI.2.2.1] at h
    unfold J218_t0_589 at h
    cases h
    exact ⟨_, _, rfl, hI.fr (KP.up KP.rf (fun h => P5_mq _ _ h ⟨rfl, rfl⟩))⟩
  rcases ite1 h with ⟨-, h⟩ | ⟨-, h⟩
  · exact two5 h (fun r m1 r2 m2 e1 e2 => hI.fr ((show KP P5 m m1 from kcq_F159 P5_cq KP.rf _ e1).tr (show KP P5 m1 m2 from kmq_F163 P5_mq KP.rf _ e2)))
  rcases ite1 h with ⟨-, h⟩ | ⟨-, h⟩
  · exact two5 h (fun r m1 r2 m2 e1 e2 => hI.fr ((show KP P5 m m1 from kcq_F165 P5_cq KP.rf _ e1).tr (show KP P5 m1 m2 from kmq_F166 P5_mq KP.rf _ e2)))
  rcases ite1 h with ⟨-, h⟩ | ⟨-, h⟩
  · exact two5 h (fun r m1 r2 m2 e1 e2 => hI.fr ((show KP P5 m m1 from kcq_F169 P5_cq KP.rf _ e1).tr (show KP P5 m1 m2 from kmq_F171 P5_mq KP.rf _ e2)))
  rcases ite1 h with ⟨-, h⟩ | ⟨-, h⟩
  · exact two5 h (fun r m1 r2 m2 e1 e2 => hI.fr ((show KP P5 m m1 from kcq_F173 P5_cq KP.rf _ e1).tr (show KP P5 m1 m2 from kmq_F174 P5_mq KP.rf _ e2)))
  rcases ite1 h with ⟨-, h⟩ | ⟨-, h⟩
  · exact two5 h (fun r m1 r2 m2 e1 e2 => hI.fr ((show KP P5 m m1 from kcq_F177 P5_cq KP.rf _ e1).tr (show KP P5 m1 m2 from kmq_F178 P5_mq KP.rf _ e2)))
  rcases ite1 h with ⟨-, h⟩ | ⟨-, h⟩
  · exact two5 h (fun r m1 r2 m2 e1 e2 => hI.fr ((show KP P5 m m1 from kcq_F181 P5_cq KP.rf _ e1).tr (show KP P5 m1 m2 from kmq_F182 P5_mq KP.rf _ e2)))
  rcases ite1 h with ⟨-, h⟩ | ⟨-, h⟩
  · exact two5 h (fun r m1 r2 m2 e1 e2 => hI.fr ((show KP P5 m m1 from kcq_F184 P5_cq KP.rf _ e1).tr (show KP P5 m1 m2 from kmq_F185 P5_mq KP.rf _ e2)))
  rcases ite1 h with ⟨-, h⟩ | ⟨-, h⟩
  · exact two5 h (fun r m1 r2 m2 e1 e2 => hI.fr ((show KP P5 m m1 from kru_F200 P5_ru KP.rf _ e1).tr (show KP P5 m1 m2 from kmr_F211 P5_mr KP.rf _ e2)))
  rcases ite1 h with ⟨-, h⟩ | ⟨-, h⟩
  · exact two5 h (fun r m1 r2 m2 e1 e2 => hI.fr ((show KP P5 m m1 from kcq_F213 P5_cq KP.rf _ e1).tr (show KP P5 m1 m2 from kmq_F214 P5_mq KP.rf _ e2)))
  rcases ite1 h with ⟨-, h⟩ | ⟨-, h⟩
  · exact two5 h (fun r m1 r2 m2 e1 e2 => hI.fr ((show KP P5 m m1 from kcq_F216 P5_cq KP.rf _ e1).tr (show KP P5 m1 m2 from kmq_F217 P5_mq KP.rf _ e2)))
  unfold J218_t0_589 at h
  cases h
  exact ⟨_, _, rfl, hI⟩
theorem law5 {L : Nat} {xs : Nat → Int32} {x4 r : Int} (hI : I5 m) (h : FL f L xs x4 m = some (r, m1)) : r = 1 := by
  unfold FL at h
  rcases bL_e h with ⟨l, mi, e1, e2⟩ | ⟨l, mi, e1, e2⟩
  · cases e2
    rfl
  · exfalso
    obtain ⟨l', m', hI', e3⟩ := yloop_inv (fun _ m => I5 m) (fun l m l' m' hI hB => by
      rcases step5 hI hB with ⟨l2, m2, e, e'⟩ | ⟨l2, e⟩
      · cases e; exact e'
      · cases e) _ _ _ _ hI e1
    rcases step5 hI' e3 with ⟨l2, m2, e, e'⟩ | ⟨l2, e⟩
    · cases e
    · cases e
end L5
theorem I50 : I5 gMem := by
  have h6 : gMem 0 6 = 0 := rfl
  refine ⟨⟨rfl, by omega, by omega, fun t z1 z2 => by omega⟩, fun j j1 j2 => ?_, rfl, Or.inl rfl⟩
  have : ∀ a : Fin 10, gMem 4 (((a : Nat) : Int) + 1).toNat = kw (((a : Nat) : Int) + 1) := by decide +kernel
  have h := this ⟨(j - 1).toNat, by omega⟩
  have e : (((j - 1).toNat : Nat) : Int) + 1 = j := by omega
  simp only [e] at h
  exact h
theorem gLawOk {f L : Nat} {xs : Nat → Int32} {r : Int} {m' : yM} (h : FL f L xs 0 gMem = some (r, m')) : r = 1 := law5 I50 h

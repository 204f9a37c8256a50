/-! READING, for every claim: what the class and the model do around the two readers -/
section CM
variable {m m1 m2 : yM} {f g : Nat}
theorem KP.tr {P : Nat → Nat → Prop} (h : KP P m m1) (h' : KP P m1 m2) : KP P m m2 := fun a q ha => (h' a q ha).trans (h a q ha)
theorem KP.rf {P : Nat → Nat → Prop} : KP P m m := fun _ _ _ => rfl
theorem pA_d {x y : Int} (h : (x = 0 ∧ y = 1) ∨ (x = 1 ∧ y = 0)) : (pA x = 256 ∧ pA y = 316) ∨ (pA x = 316 ∧ pA y = 256) := by
  rcases h with ⟨rfl, rfl⟩ | ⟨rfl, rfl⟩
  · exact Or.inl ⟨rfl, rfl⟩
  · exact Or.inr ⟨rfl, rfl⟩
theorem F74_fr {A : Nat} {len r : Int} (hA : A = 256 ∨ A = 316) (h : F74 f len A m = some (r, m1)) : ∀ a q, a ≠ 2 → a ≠ 3 → a ≠ 5 → a ≠ 6 → a ≠ 7 → ¬ (A ≤ a ∧ a < A + 60) → m1 a q = m a q := by
  have hP : ∀ a q : Nat, (fun (a _ : Nat) => a ≠ 2 ∧ a ≠ 3 ∧ a ≠ 5 ∧ a ≠ 6 ∧ a ≠ 7 ∧ ¬ (A ≤ a ∧ a < A + 60)) a q → a ≠ 2 ∧ a ≠ 3 ∧ a ≠ 5 ∧ a ≠ 6 ∧ a ≠ 7 ∧ ¬ (A ≤ a ∧ a < A + 60) := fun a q h => h
  have hW : ∀ a q : Nat, (fun (a _ : Nat) => a ≠ 2 ∧ a ≠ 3 ∧ a ≠ 5 ∧ a ≠ 6 ∧ a ≠ 7 ∧ ¬ (A ≤ a ∧ a < A + 60)) a q → a ≠ 2 ∧ a ≠ 3 ∧ a ≠ 5 ∧ a ≠ 6 ∧ a ≠ 7 ∧ ¬ (A ≤ a ∧ a < A + 60 ∧ a ≠ A + 8) := fun a q h => ⟨h.1, h.2.1, h.2.2.1, h.2.2.2.1, h.2.2.2.2.1, fun z => h.2.2.2.2.2 ⟨z.1, z.2.1⟩⟩
  unfold F74 at h
  replace h := bU_e h
  obtain ⟨c1, e1, h⟩ := h
  obtain ⟨w0, w9, w10, w11, w12, w13, w14, w15, w16⟩ := clear_c e1
  have k1 : KC A (fun (a _ : Nat) => a ≠ 2 ∧ a ≠ 3 ∧ a ≠ 5 ∧ a ≠ 6 ∧ a ≠ 7 ∧ ¬ (A ≤ a ∧ a < A + 60)) m c1 := ⟨fun a q ha => by
    obtain ⟨z1, z2, z3, z4, z5, z6⟩ := ha
    rw [w0 a q (by omega), yup_na z1], by omega, by omega, by omega, by omega⟩
  replace h := bU_e h
  obtain ⟨c2, e2, h⟩ := h
  have k2 := kpa_F36 hA hW k1 _ e2
  replace h := bI_e h
  obtain ⟨r3, c3, e3, h⟩ := h
  have k3 := kpa_F45 hA hW ((KC.up (a := 2) (q := 2) (v := 0) k2 (fun h => absurd rfl h.1) (by omega)).up (a := 2) (q := 3) (v := 0) (fun h => absurd rfl h.1) (by omega)) _ e3
  have kl := HK.yl (fun (l : Int × Int) m hm => kpa_B74_40 (f := f) (x4 := l.1) (x5 := l.2) hA hW hm) f (r3, 0) c3 k3
  intro a q z1 z2 z3 z4 z5 z6
  rcases bL_e h with ⟨l, m', e4, e5⟩ | ⟨l, m', e4, e5⟩
  · have k4 := kl _ e4
    exact (kpa_J74_139 hA hP k4 _ e5).1 a q ⟨z1, z2, z3, z4, z5, z6⟩
  · have k4 := kl _ e4
    cases e5
    exact k4.1 a q ⟨z1, z2, z3, z4, z5, z6⟩
/-- the class's read -/
theorem F95_r {r : Int} (h : F95 f m = some (r, m1)) : ∃ r7 m7, F74 f (m 0 6) (pA (m 0 5)) m = some (r7, m7) ∧ ((r7 ≠ -1 ∧ m1 = yup m7 0 7 r7) ∨ (r7 = -1 ∧ ∀ a q, a < 8 ∨ 256 ≤ a → a ≠ 413 → m1 a q = yup (yup (yup m7 0 7 r7) 0 4 (pX (pA (m7 0 5)))) 0 5 (pX (pA (m7 0 4))) a q)) := by
  have main : ∀ z, F94 f m = some z → ∃ r7 m7, F74 f (m 0 6) (pA (m 0 5)) m = some (r7, m7) ∧ ((r7 ≠ -1 ∧ z = (.inr 9, yup m7 0 7 r7)) ∨ (r7 = -1 ∧ ∃ v m9, z = (.inl v, m9) ∧ ∀ a q, a < 8 ∨ 256 ≤ a → m9 a q = yup (yup (yup m7 0 7 r7) 0 4 (pX (pA (m7 0 5)))) 0 5 (pX (pA (m7 0 4))) a q)) := by
    intro z e
    unfold F94 at e
    replace e := bI_e e
    obtain ⟨r7, m7, e7, e⟩ := e
    refine ⟨r7, m7, e7, ?_⟩
    rcases ite1 e with ⟨q, e⟩ | ⟨q, e⟩
    · replace e := bU_e e
      obtain ⟨m8, e8, e⟩ := e
      replace e := bU_e e
      obtain ⟨m9, e9, e⟩ := e
      replace e := bP_e e
      obtain ⟨r9, -, e⟩ := e
      cases e
      have k8 := kan_F91 (P := fun a _ => a < 8 ∨ 256 ≤ a) (fun a q h => by omega) KP.rf _ e8
      have k9 := ksn_F92 (P := fun a _ => a < 8 ∨ 256 ≤ a) (fun a q h => by omega) k8 _ e9
      exact Or.inr ⟨q, _, _, rfl, k9⟩
    · cases e
      exact Or.inl ⟨q, rfl⟩
  unfold F95 at h
  rcases bT_e h with ⟨r2, m2, e1, e2⟩ | ⟨r2, m2, e1, e2⟩
  · obtain ⟨r7, m7, a1, ⟨-, a2⟩ | ⟨a2, v, m9, a3, a4⟩⟩ := main _ e1
    · cases a2
    · cases a3
      cases e2
      exact ⟨r7, m7, a1, Or.inr ⟨a2, fun a q z1 z2 => by rw [yup_na z2]; exact a4 a q z1⟩⟩
  · obtain ⟨r7, m7, a1, ⟨a0, a2⟩ | ⟨a2, v, m9, a3, a4⟩⟩ := main _ e1
    · cases a2
      rw [if_pos rfl] at e2
      cases e2
      exact ⟨r7, m7, a1, Or.inl ⟨a0, rfl⟩⟩
    · cases a3
/-- the model, behind the reading -/
theorem J132_r {p b : Int} (h : J152_132 g p m = some (b, m2)) : (0 ≤ m 376 8 ∧ ∃ c, m2 = yup (yup m 376 2 (m 376 8)) 376 57 c) ∨ (m 376 8 < 0 ∧ ∃ N, KP (fun a q => ¬ (a = 376 ∧ 45 ≤ q ∧ q ≤ 47) ∧ ¬ (404 ≤ a ∧ a ≤ 408)) N m2 ∧ ∃ c, N = yup (yup (yup (yup (yup m 376 2 (m 376 8)) 376 57 c) 376 18 p) 376 19 1) 376 51 0) := by
  unfold J152_132 at h
  have key : ∀ {x : Int}, J152_153 g p x (yup m 376 2 (m 376 8)) = some (b, m2) → (x = 0 → ∃ c, m2 = yup (yup m 376 2 (m 376 8)) 376 57 c) ∧ (x ≠ 0 → ∃ N, KP (fun a q => ¬ (a = 376 ∧ 45 ≤ q ∧ q ≤ 47) ∧ ¬ (404 ≤ a ∧ a ≤ 408)) N m2 ∧ ∃ c, N = yup (yup (yup (yup (yup m 376 2 (m 376 8)) 376 57 c) 376 18 p) 376 19 1) 376 51 0) := by
    intro x e
    unfold J152_153 at e
    replace e := bI_e e
    obtain ⟨r1, n1, e1, e⟩ := e
    obtain ⟨rfl, c, rfl⟩ := F23_r e1
    refine ⟨fun z => ?_, fun z => ?_⟩
    · rw [if_pos z] at e
      cases e
      exact ⟨c, rfl⟩
    · rw [if_neg z] at e
      refine ⟨_, ?_, c, rfl⟩
      have hB : ∀ (l : Int) (mi : yM), KP (fun a q => ¬ (a = 376 ∧ 45 ≤ q ∧ q ≤ 47) ∧ ¬ (404 ≤ a ∧ a ≤ 408)) (yup (yup (yup (yup (yup m 376 2 (m 376 8)) 376 57 c) 376 18 p) 376 19 1) 376 51 0) mi → HK mB (KP (fun a q => ¬ (a = 376 ∧ 45 ≤ q ∧ q ≤ 47) ∧ ¬ (404 ≤ a ∧ a ≤ 408)) (yup (yup (yup (yup (yup m 376 2 (m 376 8)) 376 57 c) 376 18 p) 376 19 1) 376 51 0)) (B152_179 g l mi) := by
        intro l mi hm
        unfold B152_179
        refine HK.ite (fun _ => HK.so1 (KP.up hm (fun h => by omega))) (fun _ => HK.so2 hm)
      have hB2 : ∀ (l : Int × Int) (mi : yM), KP (fun a q => ¬ (a = 376 ∧ 45 ≤ q ∧ q ≤ 47) ∧ ¬ (404 ≤ a ∧ a ≤ 408)) (yup (yup (yup (yup (yup m 376 2 (m 376 8)) 376 57 c) 376 18 p) 376 19 1) 376 51 0) mi → HK mB (KP (fun a q => ¬ (a = 376 ∧ 45 ≤ q ∧ q ≤ 47) ∧ ¬ (404 ≤ a ∧ a ≤ 408)) (yup (yup (yup (yup (yup m 376 2 (m 376 8)) 376 57 c) 376 18 p) 376 19 1) 376 51 0)) (B152_207 g l.1 l.2 mi) := by
        intro l mi hm
        unfold B152_207 J152_226
        refine HK.ite (fun _ => HK.ite (fun _ => HK.so1 hm) (fun _ => HK.so1 hm)) (fun _ => HK.so2 hm)
      have hE : HK (fun x : Int × yM => x.2) (KP (fun a q => ¬ (a = 376 ∧ 45 ≤ q ∧ q ≤ 47) ∧ ¬ (404 ≤ a ∧ a ≤ 408)) (yup (yup (yup (yup (yup m 376 2 (m 376 8)) 376 57 c) 376 18 p) 376 19 1) 376 51 0)) _ := HK.cL (HK.yl hB g 0 _ KP.rf) (fun l mi hm => HK.cU (kma_F151 (f := g) (fun a q h => by omega) hm) (fun mi hm => HK.cL (HK.yl hB2 g (0, 0) mi hm) (fun l mi hm => HK.soP (r := l.1) hm) (fun r mi hm => HK.soP (r := r) hm))) (fun r mi hm => HK.soP (r := r) hm)
      exact hE _ e
  rcases ite1 h with ⟨q, h⟩ | ⟨q, h⟩
  · exact Or.inr ⟨q, (key h).2 (by decide)⟩
  · exact Or.inl ⟨by omega, (key h).1 rfl⟩
theorem F155_1 {x n : Int} : F155 x n ≠ 0 ↔ (0 ≤ x ∧ x < n) := by
  unfold F155
  split
  · simp; omega
  · split
    · simp; omega
    · simp; omega
theorem i2l_i {r : Int} (h : rg r) : (i2l r).toInt = r := by
  unfold i2l
  rw [Int32.toInt_toInt64]
  exact y_rng h
theorem F162_r {x b : Int} (h : F162 g x m = some (b, m1)) : (m 376 19 ≠ 0 ∧ x ≠ 0 ∧ b = 1 ∧ m1 = yup m 376 57 0) ∨ (¬ (m 376 19 ≠ 0 ∧ x ≠ 0) ∧ b = 0 ∧ m1 = yup m 376 57 1) := by
  unfold F162 at h
  have J : ∀ {z : Int}, J162_17 g z m = some (b, m1) → b = z ∧ m1 = yup m 376 57 (if z = 0 then 1 else 0) := by
    intro z e
    unfold J162_17 F23 J23_10 at e
    replace e := bI_e e
    obtain ⟨r, n1, e1, e⟩ := e
    cases e
    rcases ite1 e1 with ⟨q, e1⟩ | ⟨q, e1⟩
    · cases e1
      exact ⟨rfl, by rw [if_pos q]⟩
    · cases e1
      exact ⟨rfl, by rw [if_neg q]⟩
  rcases ite1 h with ⟨q, h⟩ | ⟨q, h⟩
  · unfold J162_16 at h
    obtain ⟨e1, e2⟩ := J h
    exact Or.inr ⟨fun w => w.1 q, e1, e2⟩
  rcases ite1 h with ⟨q2, h⟩ | ⟨q2, h⟩
  · unfold J162_16 at h
    obtain ⟨e1, e2⟩ := J h
    exact Or.inr ⟨fun w => w.2 q2, e1, e2⟩
  · obtain ⟨e1, e2⟩ := J h
    exact Or.inl ⟨q, q2, e1, e2⟩
theorem F22_1 {x a b : Int} : F22 x a b ≠ 0 ↔ (a ≤ x ∧ x ≤ b) := by
  have := F22_0 (x := x) (a := a) (b := b)
  omega
end CM

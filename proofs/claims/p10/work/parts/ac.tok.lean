/-! TOKENS: what the class has split, and how the model comes to the same ones -/
def TokG (tx : Int → Int) (e k p w : Int) : Prop :=
  ((∀ t, p ≤ t → t < e → ltr (tx t)) ∧ ((e - p ≤ 6 ∧ w = nE 32 (lts tx p) (e - p).toNat ∧ KdB k w) ∨ (6 < e - p ∧ k = 12))) ∨ (e = p + 1 ∧ sgn (tx p) ∧ k = tx p) ∨ (e = p + 1 ∧ ¬ ltr (tx p) ∧ ¬ sgn (tx p) ∧ tx p ≠ 32 ∧ k = 12)
def TokF (tx : Int → Int) (len a e k p w : Int) : Prop :=
  a ≤ p ∧ p < e ∧ e ≤ len ∧ (∀ t, a ≤ t → t < p → tx t = 32) ∧ WMax tx len e p ∧ TokG tx e k p w
def TOK (tx : Int → Int) (len : Int) (n : Nat) (en tk tp tn : Nat → Int) : Prop :=
  en 0 = 0 ∧ (∀ j, j < n → TokF tx len (en j) (en (j + 1)) (tk j) (tp j) (tn j)) ∧ tk n = 0 ∧ tp n = en n ∧ 0 ≤ en n ∧ en n ≤ len ∧ (∀ t, en n ≤ t → t < len → tx t = 32) ∧ (n : Int) ≤ len
theorem B36_f {f : Nat} {x2 x3 x4 x5 : Int} {m : yM} {l' : Int × Int × Int} {m' : yM} (hB : B36_13 f x2 x3 x4 x5 m = some (.inl (l', m'))) : ∀ a q, a ≠ 3 → a ≠ 5 → a ≠ 6 → a ≠ 7 → m' a q = m a q := by
  intro a q h3 h5 h6 h7
  unfold B36_13 at hB
  rcases ite1 hB with ⟨-, hB⟩ | ⟨-, hB⟩
  · rcases ite1 hB with ⟨-, hB⟩ | ⟨-, hB⟩
    · rcases ite1 hB with ⟨-, hB⟩ | ⟨-, hB⟩
      · obtain ⟨rfl, -⟩ := J36_80_e hB
        rfl
      · have key : ∀ k, J36_75 f x2 x3 0 x5 (m 1 x5.toNat) k m = some (.inl (l', m')) → m' a q = m a q := by
          intro k hB
          unfold J36_75 at hB
          obtain ⟨m1, h1, hB⟩ := bU_e hB
          obtain ⟨rfl, -⟩ := J36_80_e hB
          unfold F32 at h1
          cases h1
          rw [yup_na h3, yup_na h7, yup_na h6, yup_na h5]
        rcases ite1 hB with ⟨-, hB⟩ | ⟨-, hB⟩
        · exact key _ hB
        · exact key _ hB
    · obtain ⟨m1, h1, hB⟩ := bU_e hB
      obtain ⟨rfl, -⟩ := J36_80_e hB
      unfold F33 at h1
      have key : ∀ {m0 m1 : yM}, J33_12 f (m 1 x5.toNat) (wr (x4 + 1)) m0 = some m1 → m1 a q = m0 a q := by
        intro m0 m1 h
        unfold J33_12 at h
        rcases ite1 h with ⟨-, h⟩ | ⟨-, h⟩
        · cases h
          rw [yup_na h5, yup_na h7]
        · cases h
          rw [yup_na h7]
      rcases ite1 h1 with ⟨-, h1⟩ | ⟨-, h1⟩
      · obtain ⟨m2, h2, h1⟩ := bU_e h1
        rw [key h1]
        unfold F32 at h2
        cases h2
        rw [yup_na h3, yup_na h7, yup_na h6, yup_na h5]
      · exact key h1
  · cases hB
theorem B36_x {f : Nat} {x2 x3 x4 x5 : Int} {m : yM} {r : ((Int × Int × Int) × yM) ⊕ (Unit × yM)} (hB : B36_13 f x2 x3 x4 x5 m = some (.inr r)) : ¬ x5 < x2 ∧ r = .inl ((x3, x4, x5), m) := by
  unfold B36_13 at hB
  rcases ite1 hB with ⟨-, hB⟩ | ⟨h, hB⟩
  · exfalso
    rcases ite1 hB with ⟨-, hB⟩ | ⟨-, hB⟩
    · rcases ite1 hB with ⟨-, hB⟩ | ⟨-, hB⟩
      · exact J36_80_n hB
      · rcases ite1 hB with ⟨-, hB⟩ | ⟨-, hB⟩
        · unfold J36_75 at hB
          obtain ⟨m1, h1, hB⟩ := bU_e hB
          exact J36_80_n hB
        · unfold J36_75 at hB
          obtain ⟨m1, h1, hB⟩ := bU_e hB
          exact J36_80_n hB
    · obtain ⟨m1, h1, hB⟩ := bU_e hB
      exact J36_80_n hB
  · cases hB
    exact ⟨h, rfl⟩
theorem F36_r {f : Nat} {len : Int} {m m' : yM} (h0 : 0 ≤ len) (hl : len ≤ 320) (h32 : ∀ t, 0 ≤ t → t < len → 32 ≤ m 1 t.toNat ∧ m 1 t.toNat ≤ 126) (hK : KW m) (h : F36 f len m = some m') : (∃ n en, TOK (fun t => m 1 t.toNat) len n en (m' 5) (m' 6) (m' 7)) ∧ (∀ a q, a ≠ 3 → a ≠ 5 → a ≠ 6 → a ≠ 7 → m' a q = m a q) := by
  unfold F36 at h
  have key : ∀ {r : ((Int × Int × Int) × yM) ⊕ (Unit × yM)}, yloop (fun (l : Int × Int × Int) m => B36_13 f len l.1 l.2.1 l.2.2 m) f (0, 0, 0) (yup m 3 4 0) = some r → ∃ l m1, r = .inl (l, m1) ∧ SpI (fun t => m 1 t.toNat) len l.1 l.2.1 len m1 ∧ (∀ a q, a ≠ 3 → a ≠ 5 → a ≠ 6 → a ≠ 7 → m1 a q = m a q) := by
    intro r h
    obtain ⟨l', m1, hI, hB⟩ := yloop_inv (fun (l : Int × Int × Int) m1 => SpI (fun t => m 1 t.toNat) len l.1 l.2.1 l.2.2 m1 ∧ (∀ a q, a ≠ 3 → a ≠ 5 → a ≠ 6 → a ≠ 7 → m1 a q = m a q)) (fun l m1 l' m2 hI hB => ⟨B36_s hl h32 hI.1 hB, fun a q h3 h5 h6 h7 => (B36_f hB a q h3 h5 h6 h7).trans (hI.2 a q h3 h5 h6 h7)⟩) f (0, 0, 0) _ r ⟨⟨0, fun _ => 0, yup_eq _ _ _ _, rfl, rfl, Int.le_refl _, h0, Int.le_refl _, Int.le_refl _, Int.le_refl _, Int.le_refl _, fun t h1 h2 => by have h1 : (0 : Int) ≤ t := h1; have h2 : t < (0 : Int) := h2; omega, fun j hj => by omega, fun j hj => by omega, fun q => by have q : (0 : Int) < 0 := q; omega, fun t h1 h2 => yup_na (by decide)⟩, fun a q h3 _ _ _ => yup_na h3⟩ h
    obtain ⟨hx, hr⟩ := B36_x hB
    have e5 : l'.2.2 = len := by
      obtain ⟨c, en, e1, e2, e3, e4, e5, -⟩ := hI.1
      omega
    refine ⟨_, m1, hr, ?_, hI.2⟩
    have := hI.1
    rw [e5] at this
    exact this
  rcases bL_e h with ⟨l, m1, h1, h⟩ | ⟨r, m1, h1, h⟩
  · obtain ⟨l2, m2, hr, hS, hF⟩ := key h1
    cases hr
    obtain ⟨m3, h3, h⟩ := bU_e h
    obtain ⟨m4, h4, h⟩ := bU_e h
    cases h
    unfold F32 at h3
    cases h3
    obtain ⟨c, en, e1, e2, e3, e4, e5, e6, e7, e8, e9, e10, e11, e12, e13, e14⟩ := hS
    have ec : (m1 3 4).toNat = c := by omega
    have ew : wr (m1 3 4 + 1) = (c : Int) + 1 := by rw [e1]; exact wr_i (by omega) (by omega)
    rw [ec, ew] at h4
    have hK2 : KW (yup (yup (yup (yup m1 5 c 0) 6 c l.1) 7 c 0) 3 4 ((c : Int) + 1)) := fun j j1 j2 => by
      rw [yup_na (by decide), yup_na (by decide), yup_na (by decide), yup_na (by decide), hF 4 _ (by decide) (by decide) (by decide) (by decide)]
      exact hK j j1 j2
    obtain ⟨k1, k2, k3⟩ := F35_r (n := c + 1) (by rw [yup_eq]; omega) (by omega) hK2 h4
    have r5 : ∀ j, j ≠ c → yup (yup (yup (yup m1 5 c 0) 6 c l.1) 7 c 0) 3 4 ((c : Int) + 1) 5 j = m1 5 j := fun j hj => by
      rw [yup_na (by decide), yup_na (by decide), yup_na (by decide), yup_nk hj]
    have r6 : ∀ j, j ≠ c → m' 6 j = m1 6 j := fun j hj => by
      rw [k2 6 j (by decide), yup_na (by decide), yup_na (by decide), yup_nk hj, yup_na (by decide)]
    have r7 : ∀ j, j ≠ c → m' 7 j = m1 7 j := fun j hj => by
      rw [k2 7 j (by decide), yup_na (by decide), yup_nk hj, yup_na (by decide), yup_na (by decide)]
    have q7 : ∀ j, j ≠ c → yup (yup (yup (yup m1 5 c 0) 6 c l.1) 7 c 0) 3 4 ((c : Int) + 1) 7 j = m1 7 j := fun j hj => by
      rw [yup_na (by decide), yup_nk hj, yup_na (by decide), yup_na (by decide)]
    refine ⟨⟨c, en, e2, fun j hj => ?_, ?_, ?_, by omega, by omega, ?_, e9⟩, fun a q h3 h5 h6 h7 => ?_⟩
    · obtain ⟨t1, t2, t3, t4, t5⟩ := e11 j hj
      have K := k1 j (by omega)
      rw [r5 j (by omega), q7 j (by omega)] at K
      rw [r6 j (by omega), r7 j (by omega)]
      refine ⟨t1, t2, t3, t4, ?_, ?_⟩
      · rcases e12 j hj with q | ⟨q, q2⟩
        · exact q
        · intro _
          left
          rw [q, e3]
          exact (e13 q2).2.1
      · rcases t5 with ⟨q, q2⟩ | ⟨q1, q2, q3⟩ | ⟨q1, q2, q3, q4, q5⟩
        · refine Or.inl ⟨q, ?_⟩
          rcases q2 with ⟨q3, q4, q5⟩ | ⟨q3, q4⟩
          · rcases K with ⟨z, -⟩ | ⟨-, z⟩
            · exact absurd q4 z
            · exact Or.inl ⟨q3, q5, z⟩
          · rcases K with ⟨-, z⟩ | ⟨z, -⟩
            · exact Or.inr ⟨q3, by rw [z]; exact q4⟩
            · omega
        · rcases K with ⟨-, z⟩ | ⟨z, -⟩
          · exact Or.inr (Or.inl ⟨q1, q2, by rw [z]; exact q3⟩)
          · rw [q3] at z
            unfold sgn at q2
            omega
        · rcases K with ⟨-, z⟩ | ⟨z, -⟩
          · exact Or.inr (Or.inr ⟨q1, q2, q3, q4, by rw [z]; exact q5⟩)
          · omega
    · have K := k1 c (by omega)
      have z0 : yup (yup (yup (yup m1 5 c 0) 6 c l.1) 7 c 0) 3 4 ((c : Int) + 1) 5 c = 0 := by
        rw [yup_na (by decide), yup_na (by decide), yup_na (by decide), yup_eq]
      rw [z0] at K
      rcases K with ⟨-, z⟩ | ⟨z, -⟩
      · exact z
      · omega
    · rw [k2 6 c (by decide), yup_na (by decide), yup_na (by decide), yup_eq, e3]
    · rw [e3]
      exact e10
    · rw [k2 a q h5, yup_na h3, yup_na h7, yup_na h6, yup_na h5]
      exact hF a q h3 h5 h6 h7
  · obtain ⟨l2, m2, hr, -⟩ := key h1
    cases hr
/-- the model's token is the class's: kind and name against kind and token -/
def Lk (k w kd tok : Int) : Prop := (KdB k w ∧ kd = 1 ∧ Nm w tok) ∨ (k = 12 ∧ kd = 3) ∨ (sgn k ∧ kd = 2 ∧ tok = k)
theorem TOK.mono {tx : Int → Int} {len : Int} {n : Nat} {en tk tp tn : Nat → Int} (h : TOK tx len n en tk tp tn) : ∀ j, j ≤ n → 0 ≤ en j ∧ en j ≤ len := by
  obtain ⟨h1, h2, h3, h4, h5, h6, h7, h8⟩ := h
  intro j
  induction j with
  | zero => intro _; omega
  | succ j ih =>
    intro hj
    have := h2 j (by omega)
    have := ih (by omega)
    have := (h2 j (by omega)).1
    have := (h2 j (by omega)).2.1
    have := (h2 j (by omega)).2.2.1
    omega
theorem B99_13_r {f g : Nat} {tx : Int → Int} {len a p : Int} {m0 : yM} (h1 : m0 376 1 = len) (hl : len ≤ 320) (ht : ∀ t, 0 ≤ t → t < len → m0 377 t.toNat = tx t) (ha : 0 ≤ a) (hap : a ≤ p) (hp : p ≤ len) (hb : ∀ t, a ≤ t → t < p → tx t = 32) (hn : p = len ∨ tx p ≠ 32) {r : (Int × yM) ⊕ (Unit × yM)} (h : yloop (fun (l : Int) m => B99_13 f l m) g a m0 = some r) : r = .inl (p, m0) := by
  obtain ⟨l', m1, hI, hB⟩ := yloop_inv (fun (l : Int) m1 => m1 = m0 ∧ a ≤ l ∧ l ≤ p) (fun l m1 l' m2 hI hB => by
    obtain ⟨rfl, i1, i2⟩ := hI
    simp only [B99_13] at hB
    rcases ite1 hB with ⟨hx, hB⟩ | ⟨-, hB⟩
    · rw [h1] at hx
      rcases ite1 hB with ⟨hc, hB⟩ | ⟨-, hB⟩
      · rw [ht l (by omega) hx] at hc
        cases hB
        rw [wr_i (by omega) (by omega)]
        refine ⟨rfl, by omega, ?_⟩
        by_cases q : l = p
        · rw [q] at hc hx
          rcases hn with z | z
          · omega
          · exact absurd hc z
        · omega
      · cases hB
    · cases hB) g a m0 r ⟨rfl, by omega, by omega⟩ h
  obtain ⟨rfl, i1, i2⟩ := hI
  simp only [B99_13] at hB
  rcases ite1 hB with ⟨hx, hB⟩ | ⟨hx, hB⟩
  · rw [h1] at hx
    rcases ite1 hB with ⟨hc, hB⟩ | ⟨hc, hB⟩
    · cases hB
    · rw [ht l' (by omega) hx] at hc
      cases hB
      have : l' = p := by
        by_cases q : l' = p
        · exact q
        · exact absurd (hb l' i1 (by omega)) hc
      rw [this]
  · rw [h1] at hx
    cases hB
    have : l' = p := by omega
    rw [this]
theorem nE27_succ (tx : Int → Int) (p e : Int) (hp : p ≤ e) : nE 27 (lts tx p) (e + 1 - p).toNat = 27 * nE 27 (lts tx p) (e - p).toNat + (tx e - 96) := by
  have h1 : (e + 1 - p).toNat = (e - p).toNat + 1 := by omega
  rw [h1]
  simp only [nE]
  congr 1
  unfold lts
  congr 2
  omega
theorem nE27_5 {s : Nat → Int} {k : Nat} (h : nL s k) (hk : k ≤ 5) : 0 ≤ nE 27 s k ∧ nE 27 s k < 14348907 := by
  have h1 := (nE_pos (b := 27) (by decide) h).1
  have h2 := nE_le (b := 27) (by decide) h
  have h3 : (27 : Int) ^ k ≤ 27 ^ 5 := by
    rcases (show k = 0 ∨ k = 1 ∨ k = 2 ∨ k = 3 ∨ k = 4 ∨ k = 5 by omega) with rfl | rfl | rfl | rfl | rfl | rfl <;> decide
  have h4 : (27 : Int) ^ 5 = 14348907 := by decide
  omega
theorem B99_107_r {f g : Nat} {tx : Int → Int} {len e p : Int} {m0 : yM} (h1 : m0 376 1 = len) (hl : len ≤ 320) (ht : ∀ t, 0 ≤ t → t < len → m0 377 t.toNat = tx t) (hp : 0 ≤ p) (hpe : p < e) (he : e ≤ len) (hL : ∀ t, p ≤ t → t < e → ltr (tx t)) (hM : e = len ∨ ¬ ltr (tx e)) (h4 : m0 376 4 = 0) {r : ((Int × Int) × yM) ⊕ (Unit × yM)} (h : yloop (fun (l : Int × Int) m => B99_107 f l.1 l.2 m) g (p, 0) m0 = some r) : ∃ tok, r = .inl ((e, e - p), yup m0 376 4 tok) ∧ (e - p ≤ 6 → tok = nE 27 (lts tx p) (e - p).toNat) := by
  have hid : m0 = yup m0 376 4 0 := by
    funext b j
    unfold yup
    split
    · rename_i q
      rw [q.1, q.2, h4]
    · rfl
  have yy : ∀ u v, yup (yup m0 376 4 u) 376 4 v = yup m0 376 4 v := fun u v => by
    funext b j
    unfold yup
    split <;> rfl
  obtain ⟨l', m1, hI, hB⟩ := yloop_inv (fun (l : Int × Int) m1 => p ≤ l.1 ∧ l.1 ≤ e ∧ l.2 = l.1 - p ∧ ∃ tok, m1 = yup m0 376 4 tok ∧ (l.1 - p ≤ 6 → tok = nE 27 (lts tx p) (l.1 - p).toNat)) (fun l m1 l' m2 hI hB => by
    obtain ⟨i1, i2, i3, tok, rfl, i4⟩ := hI
    simp only [B99_107, J99_156] at hB
    rw [show yup m0 376 4 tok 376 1 = len from (yup_nk (by decide)).trans h1] at hB
    rcases ite1 hB with ⟨hx, hB⟩ | ⟨-, hB⟩
    · rw [show yup m0 376 4 tok 377 l.1.toNat = tx l.1 from (yup_na (by decide)).trans (ht l.1 (by omega) hx)] at hB
      rcases ite1 hB with ⟨-, hB⟩ | ⟨hc, hB⟩
      · cases hB
      · rw [F98_0, Classical.not_not] at hc
        have hlt : l.1 < e := by
          by_cases q : l.1 = e
          · rw [q] at hc hx
            rcases hM with z | z
            · omega
            · exact absurd hc z
          · omega
        have w1 : wr (l.1 + 1) = l.1 + 1 := wr_i (by omega) (by omega)
        have w2 : wr (l.2 + 1) = l.2 + 1 := wr_i (by omega) (by omega)
        rw [w1, w2] at hB
        have hc2 := hc
        unfold ltr at hc2
        rcases ite1 hB with ⟨h6, hB⟩ | ⟨h6, hB⟩
        · have hn := nE27_5 (lts_nL (tx := tx) (p := p) (e := l.1) (fun t t1 t2 => hL t t1 (by omega))) (by omega)
          have e4 := i4 (by omega)
          rw [show yup m0 376 4 tok 376 4 = tok from yup_eq _ _ _ _, e4, wr_i (x := 27 * nE 27 (lts tx p) (l.1 - p).toNat) (by omega) (by omega), wr_i (x := 27 * nE 27 (lts tx p) (l.1 - p).toNat + tx l.1) (by omega) (by omega), wr_i (x := 27 * nE 27 (lts tx p) (l.1 - p).toNat + tx l.1 - 97) (by omega) (by omega), wr_i (by omega) (by omega), yy] at hB
          cases hB
          refine ⟨by omega, by omega, by omega, _, rfl, fun _ => ?_⟩
          rw [nE27_succ tx p l.1 i1]
          omega
        · cases hB
          exact ⟨by omega, by omega, by omega, tok, rfl, fun q => by omega⟩
    · cases hB) g (p, 0) m0 r ⟨Int.le_refl _, by omega, by omega, 0, hid, fun _ => by simp [nE]⟩ h
  obtain ⟨i1, i2, i3, tok, rfl, i4⟩ := hI
  have fin : r = .inl (l', yup m0 376 4 tok) ∧ l'.1 = e := by
    simp only [B99_107, J99_156] at hB
    rw [show yup m0 376 4 tok 376 1 = len from (yup_nk (by decide)).trans h1] at hB
    rcases ite1 hB with ⟨hx, hB⟩ | ⟨hx, hB⟩
    · rw [show yup m0 376 4 tok 377 l'.1.toNat = tx l'.1 from (yup_na (by decide)).trans (ht l'.1 (by omega) hx)] at hB
      rcases ite1 hB with ⟨hc, hB⟩ | ⟨hc, hB⟩
      · rw [F98_0] at hc
        cases hB
        refine ⟨rfl, ?_⟩
        by_cases q : l'.1 = e
        · exact q
        · exact absurd (hL l'.1 i1 (by omega)) hc
      · rcases ite1 hB with ⟨-, hB⟩ | ⟨-, hB⟩ <;> cases hB
    · cases hB
      exact ⟨rfl, by omega⟩
  refine ⟨tok, ?_, ?_⟩
  · rw [fin.1]
    have : l' = (e, e - p) := by
      apply Prod.ext
      · exact fin.2
      · rw [i3, fin.2]
    rw [this]
  · rw [← fin.2]
    exact i4
theorem F99_r {f : Nat} {tx : Int → Int} {len : Int} {n : Nat} {en tk tp tn : Nat → Int} (T : TOK tx len n en tk tp tn) (hl : len ≤ 320) {m m' : yM} (h1 : m 376 1 = len) (ht : ∀ t, 0 ≤ t → t < len → m 377 t.toNat = tx t) {i : Nat} (hi : i ≤ n) (h6 : m 376 6 = en i) (h : F99 f m = some m') : (∀ a q, ¬ (a = 376 ∧ 3 ≤ q ∧ q ≤ 7) → m' a q = m a q) ∧ ((i = n ∧ m' 376 3 = 0 ∧ m' 376 7 = tp n ∧ m' 376 6 = en n) ∨ (i < n ∧ m' 376 5 = tp i ∧ m' 376 6 = en (i + 1) ∧ Lk (tk i) (tn i) (m' 376 3) (m' 376 4))) := by
  have M := T.mono
  obtain ⟨T1, T2, T3, T4, T5, T6, T7, T8⟩ := T
  unfold F99 at h
  rw [h6] at h
  have g1 : yup m 376 7 (en i) 376 1 = len := (yup_nk (by decide)).trans h1
  have gt : ∀ t, 0 ≤ t → t < len → yup m 376 7 (en i) 377 t.toNat = tx t := fun t t1 t2 => (yup_na (by decide)).trans (ht t t1 t2)
  by_cases q : i = n
  · subst q
    have L : ∀ {r : (Int × yM) ⊕ (Unit × yM)}, yloop (fun (l : Int) m => B99_13 f l m) f (en i) (yup m 376 7 (en i)) = some r → r = .inl (len, yup m 376 7 (en i)) := fun hh => B99_13_r g1 hl gt (by omega) (by omega) (by omega) T7 (Or.inl rfl) hh
    rcases bL_e h with ⟨l, m1, hh, h⟩ | ⟨r, m1, hh, h⟩
    · have e := L hh
      cases e
      simp only [J99_38] at h
      rw [if_pos g1.symm] at h
      cases h
      refine ⟨fun a q hq => ?_, Or.inl ⟨rfl, yup_eq _ _ _ _, ?_, ?_⟩⟩
      · rw [yup_ne (by omega), yup_ne (by omega), yup_ne (by omega)]
      · rw [yup_nk (by decide), yup_nk (by decide), yup_eq, T4]
      · rw [yup_nk (by decide), yup_nk (by decide), yup_nk (by decide), h6]
    · have e := L hh
      cases e
  · have hlt : i < n := by omega
    obtain ⟨t1, t2, t3, t4, t5, t6⟩ := T2 i hlt
    have m0 := M i hi
    have hp0 : 0 ≤ tp i := by omega
    have hne : tx (tp i) ≠ 32 := by
      rcases t6 with ⟨z, -⟩ | ⟨-, z, -⟩ | ⟨-, -, -, z, -⟩
      · have := z (tp i) (by omega) (by omega)
        unfold ltr at this
        omega
      · unfold sgn at z
        omega
      · exact z
    have L : ∀ {r : (Int × yM) ⊕ (Unit × yM)}, yloop (fun (l : Int) m => B99_13 f l m) f (en i) (yup m 376 7 (en i)) = some r → r = .inl (tp i, yup m 376 7 (en i)) := fun hh => B99_13_r g1 hl gt (by omega) (by omega) (by omega) t4 (Or.inr hne) hh
    rcases bL_e h with ⟨l, m1, hh, h⟩ | ⟨r, m1, hh, h⟩
    · have e := L hh
      cases e
      simp only [J99_38] at h
      rw [if_neg (by rw [g1]; omega), gt (tp i) hp0 (by omega)] at h
      have w1 : wr (tp i + 1) = tp i + 1 := wr_i (by omega) (by omega)
      have key : ∀ kd, (kd = 3 ∧ ¬ sgn (tx (tp i))) ∨ (kd = 2 ∧ sgn (tx (tp i))) → J99_77 f (tp i) (tx (tp i)) kd (yup (yup m 376 7 (en i)) 376 5 (tp i)) = some m' → (∀ a q, ¬ (a = 376 ∧ 3 ≤ q ∧ q ≤ 7) → m' a q = m a q) ∧ (i < n ∧ m' 376 5 = tp i ∧ m' 376 6 = en (i + 1) ∧ Lk (tk i) (tn i) (m' 376 3) (m' 376 4)) := by
        intro kd hkd h
        unfold J99_77 at h
        rw [w1] at h
        rcases ite1 h with ⟨hc, h⟩ | ⟨hc, h⟩
        · rw [F98_0] at hc
          cases h
          refine ⟨fun a q hq => ?_, hlt, ?_, ?_, ?_⟩
          · rw [yup_ne (by omega), yup_ne (by omega), yup_ne (by omega), yup_ne (by omega), yup_ne (by omega)]
          · rw [yup_nk (by decide), yup_nk (by decide), yup_nk (by decide), yup_eq]
          · rw [yup_eq]
            rcases t6 with ⟨z, -⟩ | ⟨z, -⟩ | ⟨z, -⟩
            · exact absurd (z (tp i) (by omega) (by omega)) hc
            · exact z.symm
            · exact z.symm
          · rw [yup_nk (by decide), yup_nk (by decide), yup_eq, yup_nk (by decide), yup_eq]
            rcases t6 with ⟨z, -⟩ | ⟨-, z2, z3⟩ | ⟨-, -, z2, -, z3⟩
            · exact absurd (z (tp i) (by omega) (by omega)) hc
            · rcases hkd with ⟨k1, k2⟩ | ⟨k1, -⟩
              · exact absurd z2 k2
              · exact Or.inr (Or.inr ⟨by rw [z3]; exact z2, k1, z3.symm⟩)
            · rcases hkd with ⟨k1, -⟩ | ⟨k1, k2⟩
              · exact Or.inr (Or.inl ⟨z3, k1⟩)
              · exact absurd k2 z2
        · rw [F98_0, Classical.not_not] at hc
          have W : (∀ t, tp i ≤ t → t < en (i + 1) → ltr (tx t)) ∧ ((en (i + 1) - tp i ≤ 6 ∧ tn i = nE 32 (lts tx (tp i)) (en (i + 1) - tp i).toNat ∧ KdB (tk i) (tn i)) ∨ (6 < en (i + 1) - tp i ∧ tk i = 12)) := by
            rcases t6 with z | ⟨-, z2, -⟩ | ⟨-, z2, -⟩
            · exact z
            · unfold ltr at hc
              unfold sgn at z2
              omega
            · exact absurd hc z2
          have L2 : ∀ {r : ((Int × Int) × yM) ⊕ (Unit × yM)}, yloop (fun (l : Int × Int) m => B99_107 f l.1 l.2 m) f (tp i, 0) (yup (yup (yup (yup (yup (yup m 376 7 (en i)) 376 5 (tp i)) 376 3 kd) 376 4 (tx (tp i))) 376 6 (tp i + 1)) 376 4 0) = some r → _ := fun hh => B99_107_r (tx := tx) (len := len) (e := en (i + 1)) (p := tp i) (by rw [yup_nk (by decide), yup_nk (by decide), yup_nk (by decide), yup_nk (by decide), yup_nk (by decide), yup_nk (by decide)]; exact h1) hl (fun t u1 u2 => by rw [yup_na (by decide), yup_na (by decide), yup_na (by decide), yup_na (by decide), yup_na (by decide), yup_na (by decide)]; exact ht t u1 u2) hp0 t2 t3 W.1 (t5 hc) (yup_eq _ _ _ _) hh
          rcases bL_e h with ⟨l, m1, hh2, h⟩ | ⟨r, m1, hh2, h⟩
          · obtain ⟨tok, e2, e3⟩ := L2 hh2
            cases e2
            simp only [J99_165, J99_182] at h
            have fr : ∀ (v : Int) (a q : Nat), ¬ (a = 376 ∧ 3 ≤ q ∧ q ≤ 7) → yup (yup (yup (yup (yup (yup (yup (yup (yup m 376 7 (en i)) 376 5 (tp i)) 376 3 kd) 376 4 (tx (tp i))) 376 6 (tp i + 1)) 376 4 0) 376 4 tok) 376 6 (en (i + 1))) 376 3 v a q = m a q := fun v a q hq => by
              rw [yup_ne (by omega), yup_ne (by omega), yup_ne (by omega), yup_ne (by omega), yup_ne (by omega), yup_ne (by omega), yup_ne (by omega), yup_ne (by omega), yup_ne (by omega)]
            rcases ite1 h with ⟨h7, h⟩ | ⟨h7, h⟩
            · cases h
              refine ⟨fr 3, hlt, ?_, ?_, ?_⟩
              · rw [yup_nk (by decide), yup_nk (by decide), yup_nk (by decide), yup_nk (by decide), yup_nk (by decide), yup_nk (by decide), yup_nk (by decide), yup_eq]
              · rw [yup_nk (by decide), yup_eq]
              · rw [yup_eq]
                rcases W.2 with ⟨z, -⟩ | ⟨-, z⟩
                · omega
                · exact Or.inr (Or.inl ⟨z, rfl⟩)
            · cases h
              refine ⟨fr 1, hlt, ?_, ?_, ?_⟩
              · rw [yup_nk (by decide), yup_nk (by decide), yup_nk (by decide), yup_nk (by decide), yup_nk (by decide), yup_nk (by decide), yup_nk (by decide), yup_eq]
              · rw [yup_nk (by decide), yup_eq]
              · rw [yup_eq, yup_nk (by decide), yup_nk (by decide), yup_eq]
                rcases W.2 with ⟨z1, z2, z3⟩ | ⟨z, -⟩
                · refine Or.inl ⟨z3, rfl, lts tx (tp i), (en (i + 1) - tp i).toNat, by omega, by omega, lts_nL W.1, z2, e3 (by omega)⟩
                · omega
          · obtain ⟨tok, e2, e3⟩ := L2 hh2
            cases e2
      rcases ite1 h with ⟨hc, h⟩ | ⟨hc, h⟩
      · rw [F97_0] at hc
        have := key 3 (Or.inl ⟨rfl, hc⟩) h
        exact ⟨this.1, Or.inr this.2⟩
      · rw [F97_0, Classical.not_not] at hc
        have := key 2 (Or.inr ⟨rfl, hc⟩) h
        exact ⟨this.1, Or.inr this.2⟩
    · have e := L hh
      cases e

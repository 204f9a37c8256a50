/-! THE RULES, one by one -/
section RU
variable {G : Nat → Prop} {V : Int} {A p f g s o : Nat} {mc mm mc' mm' mc0 mm0 : yM}
theorem site_r {w n : Nat} {Bc Bm : Int → yM → Option ((Int × yM) ⊕ ((Int × yM) ⊕ (Unit × yM)))} {Pc Pm : Nat → yM → yM → Prop} {F H : Nat} {rc rm : (Int × yM) ⊕ (Unit × yM)} (h : FS G V mc0 mm0 mc mm) (hw : w < 48) (hn : n ≤ 12) (hc : ∀ (k : Nat) (m : yM) y, k ≤ n → CF mc0 m → Bc (k : Int) m = some y → (k = n ∧ y = .inr (.inl ((k : Int), m))) ∨ (k < n ∧ F78 (m (10 + w) k) m = 0 ∧ y = .inl (((k + 1 : Nat) : Int), m)) ∨ (k < n ∧ F78 (m (10 + w) k) m ≠ 0 ∧ ∃ m1, y = .inl (((k + 1 : Nat) : Int), m1) ∧ Pc k m m1)) (hm : ∀ (k : Nat) (m : yM) y, k ≤ n → MF mm0 m → Bm (k : Int) m = some y → (k = n ∧ y = .inr (.inl ((k : Int), m))) ∨ (k < n ∧ F144 (m 404 (12 * w + k)) m = 0 ∧ y = .inl (((k + 1 : Nat) : Int), m)) ∨ (k < n ∧ F144 (m 404 (12 * w + k)) m ≠ 0 ∧ ∃ m1, y = .inl (((k + 1 : Nat) : Int), m1) ∧ Pm k m m1)) (hs : ∀ (k : Nat) (m m' m1 m1' : yM), k < n → G k → FS G V mc0 mm0 m m' → Pc k m m1 → Pm k m' m1' → FS G V mc0 mm0 m1 m1') (e1 : yloop Bc F 0 mc = some rc) (e2 : yloop Bm H 0 mm = some rm) : ∃ l m l' m', rc = .inl (l, m) ∧ rm = .inl (l', m') ∧ FS G V mc0 mm0 m m' := by
  refine yl2 (fun (l : Int) m (l' : Int) m' => ∃ k : Nat, l = k ∧ l' = k ∧ k ≤ n ∧ FS G V mc0 mm0 m m') (fun r r' => ∃ l m l' m', r = .inl (l, m) ∧ r' = .inl (l', m') ∧ FS G V mc0 mm0 m m') (fun l m l' m' y y' hR a1 a2 => ?_) F H 0 mc 0 mm rc rm ⟨0, rfl, rfl, by omega, h⟩ e1 e2
  obtain ⟨k, rfl, rfl, hk, hS⟩ := hR
  rcases hc k m y hk hS.2.1 a1 with ⟨z1, z2⟩ | ⟨z1, z2, z3⟩ | ⟨z1, z2, m1, z3, z4⟩
  · rcases hm k m' y' hk hS.2.2.1 a2 with ⟨w1, w2⟩ | ⟨w1, -⟩ | ⟨w1, -⟩
    · exact Or.inr ⟨_, _, z2, w2, _, _, _, _, rfl, rfl, hS⟩
    · omega
    · omega
  · have ho := hS.1.old (t := 0) (i := w) (j := k) (by decide) (by simp [fN]; omega) (by simp [ww]; omega)
    have ho1 : F78 (m (10 + w) k) m = F144 (m' 404 (12 * w + k)) m' := ho.1
    rcases hm k m' y' hk hS.2.2.1 a2 with ⟨w1, w2⟩ | ⟨w1, w2, w3⟩ | ⟨w1, w2, -⟩
    · omega
    · exact Or.inl ⟨_, _, _, _, z3, w3, k + 1, rfl, rfl, by omega, hS⟩
    · exact absurd (ho1 ▸ z2) w2
  · have ho := hS.1.old (t := 0) (i := w) (j := k) (by decide) (by simp [fN]; omega) (by simp [ww]; omega)
    have ho1 : F78 (m (10 + w) k) m = F144 (m' 404 (12 * w + k)) m' := ho.1
    have hG : G k := ho.2 z2 (by decide)
    rcases hm k m' y' hk hS.2.2.1 a2 with ⟨w1, w2⟩ | ⟨w1, w2, w3⟩ | ⟨w1, w2, m2, w3, w4⟩
    · omega
    · exact absurd (ho1.trans w2) z2
    · exact Or.inl ⟨_, _, _, _, z3, w3, k + 1, rfl, rfl, by omega, hs k m m' m1 m2 z1 hG hS z4 w4⟩
theorem F83_e {k d : Nat} (hk : k ≤ 12) (hd : d < 8) : F83 (k : Int) (d : Int) = cc 1 (8 * k + d) := by
  unfold F83 cc
  rw [if_neg (by decide), if_pos rfl, wr_i (x := (k : Int) * 8) (by omega) (by omega), wr_i (by omega) (by omega)]
  omega
theorem ix96 {k d l : Nat} (hk : k < 12) (hd : d < 8) (hl : l ≤ 12) : (wr ((wr ((wr (96 * (k : Int))) + (wr (12 * (d : Int))))) + (l : Int))) = ((12 * (8 * k + d) + l : Nat) : Int) := by
  rw [wr_i (x := 96 * (k : Int)) (by omega) (by omega), wr_i (x := 12 * (d : Int)) (by omega) (by omega), wr_i (x := 96 * (k : Int) + 12 * (d : Int)) (by omega) (by omega), wr_i (by omega) (by omega)]
  omega
/-- what the program's rows are, seen from a memory of the round -/
theorem RPG.cl (h : RPG A p s o mc0 mm0) (hF : MF mm0 mm) : rCl A p mc0 mm := h.1.fr rfl (fun _ _ _ => rfl) (fun b q hb => hF _ _ (by omega) (by omega))
theorem RPG.me (h : RPG A p s o mc0 mm0) (hF : MF mm0 mm) : rMe A p mc0 mm := h.2.1.fr rfl (Int.le_refl _) (fun _ _ _ _ => rfl) (fun b q hb => hF _ _ (by omega) (by omega))
theorem rCl.cf (hA : A = 256 ∨ A = 316) (h : rCl A p mc0 mm) (hF : CF mc0 mc) : rCl A p mc mm := h.fr (hF _ _ (by omega)) (fun b q hb => hF _ _ (by omega)) (fun _ _ _ => rfl)
theorem rMe.cf (hA : A = 256 ∨ A = 316) (h : rMe A p mc0 mm) (hF : CF mc0 mc) : rMe A p mc mm := h.fr (hF _ _ (by omega)) (Int.le_of_eq (hF _ _ (by omega)).symm) (fun k q k1 k2 => hF _ _ (by omega)) (fun _ _ _ => rfl)
theorem bL_u {γ : Type} {o : Option ((Int × yM) ⊕ (γ × yM))} {m : yM} (h : bL o (fun _ m => some m) (fun _ mr => some mr) = some m) : ∃ r, o = some r ∧ (∀ l m2, r = .inl (l, m2) → m = m2) := by
  rcases bL_e h with ⟨l, m, d1, d2⟩ | ⟨l, m, d1, d2⟩
  · cases d2
    exact ⟨_, d1, fun l m e => by cases e; rfl⟩
  · exact ⟨_, d1, fun l m e => by cases e⟩
/-- v . f = w -/
theorem store_r {S b v2 v3 n : Nat} {fd : Int} (hA : A = 256 ∨ A = 316) (hp : p ≤ 1) (hR : RPG A p s o mc0 mm0) (hG : ∀ k, G k → mc0 (A + 8) k = mm0 400 (12 * p + k) ∧ 0 ≤ mc0 (A + 8) k ∧ mc0 (A + 8) k < mc0 A 9) (h18 : mm0 376 18 = p) (hn : mc0 A 14 = n) (hn2 : n ≤ 12) (h388 : mm0 388 p = n) (hS : 169 ≤ S) (hb : b ≤ 2000) (s2 : mc0 S 2 = v2) (s3 : mc0 S 3 = v3) (s6 : mc0 S 6 = fd) (hv2 : v2 < 48) (hv3 : v3 < 48) (hf : -1 ≤ fd ∧ fd < 8) (b0 : mm0 403 b = 5) (b2 : mm0 403 (b + 2) = v2) (b3 : mm0 403 (b + 3) = v3) (b4 : mm0 403 (b + 4) = fd) (h : FS G V mc0 mm0 mc mm) (e1 : F85 f A S mc = some mc') (e2 : F147 g (b : Int) mm = some mm') : FS G V mc0 mm0 mc' mm' := by
  have bb : ∀ {m : yM} (q : Nat), q < 8 → MF mm0 m → m 403 (wr ((b : Int) + (q : Int))).toNat = mm0 403 (b + q) := fun q hq hF => by
    rw [wr_i (by omega) (by omega), show ((b : Int) + (q : Int)).toNat = b + q by omega]
    exact hF _ _ (by decide) (by omega)
  unfold F147 at e2
  rw [Int.toNat_natCast, h.2.2.1 403 b (by decide) (by omega), b0, if_neg (by decide)] at e2
  unfold J147_15 at e2
  rw [if_pos rfl, show (b : Int) + 4 = (b : Int) + ((4 : Nat) : Int) by rfl, show (b : Int) + 2 = (b : Int) + ((2 : Nat) : Int) by rfl, bb 4 (by decide) h.2.2.1, bb 2 (by decide) h.2.2.1, b4, b2] at e2
  unfold J147_48 at e2
  obtain ⟨rm, e3, e4⟩ := bL_u e2
  unfold F85 at e1
  obtain ⟨rc, e5, e6⟩ := bL_u e1
  have k1 : ∀ k : Nat, k ≤ 12 → wr ((k : Int) + 1) = ((k + 1 : Nat) : Int) := fun k hk => by rw [wr_i (by omega) (by omega)]; omega
  by_cases fz : fd = -1
  · -- no such field
    have hm0 : rm = .inl (0, mm) := by
      have hB : B147_53 g (b : Int) 0 fd (v2 : Int) 0 mm = some (.inr (.inl (0, mm))) := by
        unfold B147_53
        by_cases q : (0 : Int) < mm 388 (mm 376 18).toNat
        · rw [if_pos q, if_pos (by omega)]
        · rw [if_neg q]
      obtain ⟨f', -, ⟨l', m', a1, a2⟩ | a1⟩ := yloop_s e3
      · rw [hB] at a1; cases a1
      · rw [hB] at a1; cases a1; rfl
    have hc0 : ∃ l, rc = .inl (l, mc) := by
      have st : ∀ (l : Int) (m : yM) y, m = mc → B85_2 f A S l m = some y → (∃ l', y = .inl (l', m)) ∨ y = .inr (.inl (l, m)) := by
        intro l m y hm e
        subst hm
        unfold B85_2 J85_76 at e
        rcases ite1 e with ⟨-, e⟩ | ⟨-, e⟩
        · rcases ite1 e with ⟨-, e⟩ | ⟨-, e⟩
          · rcases ite1 e with ⟨-, e⟩ | ⟨-, e⟩
            · cases e; exact Or.inl ⟨_, rfl⟩
            · have h47 : F47 A (m (A + 8) l.toNat) (m S 6) m = 0 := by
                unfold F47
                rw [h.2.1 S 6 (by omega), s6, if_pos fz]
              rw [if_pos h47] at e
              cases e; exact Or.inl ⟨_, rfl⟩
          · cases e
        · cases e; exact Or.inr rfl
      obtain ⟨l', m', hI, a1⟩ := yloop_inv (fun _ m => m = mc) (fun l m l' m' hI hB => by
        rcases st l m _ hI hB with ⟨l2, z⟩ | z
        · cases z; exact hI
        · cases z) _ _ _ _ rfl e5
      rcases st l' m' _ hI a1 with ⟨l2, z⟩ | z
      · cases z
      · cases z; exact ⟨_, by rw [hI]⟩
    obtain ⟨l, hc0⟩ := hc0
    have z1 := e6 _ _ hc0
    have z2 := e4 _ _ hm0
    rw [z1, z2]
    exact h
  · obtain ⟨d, hd⟩ : ∃ d : Nat, fd = d := ⟨fd.toNat, by omega⟩
    subst hd
    obtain ⟨l, m, l', m', z1, z2, z3⟩ := site_r (w := v2) (n := n) (Pc := fun k m m1 => (F47 A (m (A + 8) k) (d : Int) m = 0 ∧ m1 = m) ∨ (F47 A (m (A + 8) k) (d : Int) m ≠ 0 ∧ F80_12_12 f A (10 + v3) (cc 1 (8 * k + d)) m = some m1)) (Pm := fun k m m1 => ∃ r : (Int × yM) ⊕ (Unit × yM), yloop (fun (l : Int) ml => B147_94 g (b : Int) 0 (d : Int) (v2 : Int) (k : Int) l ml) g 0 m = some r ∧ (∀ l m2, r = .inl (l, m2) → m1 = m2)) h hv2 hn2 (fun k m y hk hF e => by
        have S2 : m S 2 = v2 := by rw [hF S 2 (by omega)]; exact s2
        have S3 : m S 3 = v3 := by rw [hF S 3 (by omega)]; exact s3
        have S6 : m S 6 = d := by rw [hF S 6 (by omega)]; exact s6
        have A14 : m A 14 = n := by rw [hF A 14 (by omega)]; exact hn
        unfold B85_2 J85_76 at e
        rw [A14, S2, S3, S6, Int.toNat_natCast, Int.toNat_natCast, Int.toNat_natCast, F83_e (by omega) (by omega), k1 k (by omega)] at e
        rcases ite1 e with ⟨q, e⟩ | ⟨q, e⟩
        · right
          rw [if_pos (by omega)] at e
          rcases ite1 e with ⟨q2, e⟩ | ⟨q2, e⟩
          · cases e; exact Or.inl ⟨by omega, q2, rfl⟩
          · refine Or.inr ⟨by omega, q2, ?_⟩
            rcases ite1 e with ⟨q3, e⟩ | ⟨q3, e⟩
            · cases e; exact ⟨_, rfl, Or.inl ⟨q3, rfl⟩⟩
            · rw [if_pos (by omega)] at e
              rcases ite1 e with ⟨q4, e⟩ | ⟨q4, e⟩
              · replace e := bU_e e
                obtain ⟨m2, e2, e⟩ := e
                cases e
                exact ⟨_, rfl, Or.inr ⟨q3, e2⟩⟩
              · cases e
        · cases e; exact Or.inl ⟨by omega, rfl⟩) (fun k m y hk hF e => by
        have k18 : m 376 18 = p := by rw [hF 376 18 (by decide) (by omega)]; exact h18
        have k388 : m 388 p = n := by rw [hF 388 p (by decide) (by omega)]; exact h388
        unfold B147_53 J147_244 at e
        rw [k18, Int.toNat_natCast, k388, ix12 hv2 (by omega), k1 k (by omega)] at e
        rcases ite1 e with ⟨q, e⟩ | ⟨q, e⟩
        · right
          rw [if_neg (by omega)] at e
          rcases ite1 e with ⟨q2, e⟩ | ⟨q2, e⟩
          · cases e; exact Or.inl ⟨by omega, q2, rfl⟩
          · refine Or.inr ⟨by omega, q2, ?_⟩
            rcases bL_e e with ⟨l, m2, a1, a2⟩ | ⟨l, m2, a1, a2⟩
            · cases a2
              exact ⟨_, rfl, _, a1, fun l m e => by cases e; rfl⟩
            · exfalso
              obtain ⟨l', m', -, i3⟩ := yloop_inv (fun _ _ => True) (fun _ _ _ _ _ _ => trivial) _ _ _ _ trivial a1
              unfold B147_94 J147_155 J147_238 at i3
              rcases ite1 i3 with ⟨-, i3⟩ | ⟨-, i3⟩
              · rw [if_pos rfl, if_pos rfl] at i3
                rcases ite1 i3 with ⟨-, i3⟩ | ⟨-, i3⟩
                · cases i3
                rcases ite1 i3 with ⟨-, i3⟩ | ⟨-, i3⟩
                · replace i3 := bP_e i3
                  obtain ⟨r, -, i3⟩ := i3
                  rcases ite1 i3 with ⟨-, i3⟩ | ⟨-, i3⟩ <;> cases i3
                · cases i3
              · cases i3
        · cases e; exact Or.inl ⟨by omega, rfl⟩) (fun k m m' m1 m1' hk hGk hS0 hPc hPm => by
        obtain ⟨r, a1, a2⟩ := hPm
        obtain ⟨c1, c2, c3⟩ := hG k hGk
        have hmc : m (A + 8) k = mc0 (A + 8) k := hS0.2.1 _ _ (by omega)
        obtain ⟨cn, hcn⟩ : ∃ cn : Nat, mc0 (A + 8) k = cn := ⟨(mc0 (A + 8) k).toNat, by omega⟩
        have b47 : F47 A (m (A + 8) k) (d : Int) m = 0 ↔ ¬ bt (mc0 (A + 3) cn) d := by
          rw [F47_r, hmc, hcn, Int.toNat_natCast, hS0.2.1 (A + 3) cn (by omega)]
        -- the model's inner loop
        have sp : ∀ (l : Nat) (m2 : yM) y, l ≤ n → MF mm0 m2 → B147_94 g (b : Int) 0 (d : Int) (v2 : Int) (k : Int) (l : Int) m2 = some y → (l = n ∧ y = .inr (.inl ((l : Int), m2))) ∨ (l < n ∧ F144 (m2 404 (12 * v3 + l)) m2 = 0 ∧ y = .inl (((l + 1 : Nat) : Int), m2)) ∨ (l < n ∧ F144 (m2 404 (12 * v3 + l)) m2 ≠ 0 ∧ ((bt (mc0 (A + 3) cn) d ∧ y = .inl (((l + 1 : Nat) : Int), tlm m2 405 (12 * (8 * k + d) + l))) ∨ (¬ bt (mc0 (A + 3) cn) d ∧ y = .inl (((l + 1 : Nat) : Int), m2)))) := by
          intro l m2 y hl hF e
          have k18 : m2 376 18 = p := by rw [hF 376 18 (by decide) (by omega)]; exact h18
          have k388 : m2 388 p = n := by rw [hF 388 p (by decide) (by omega)]; exact h388
          have k400 : m2 400 (12 * p + k) = cn := by rw [hF 400 _ (by decide) (by omega), ← c1]; exact hcn
          have ixp : (wr ((wr (12 * (p : Int))) + (k : Int))).toNat = 12 * p + k := by
            rw [wr_i (x := 12 * (p : Int)) (by omega) (by omega), wr_i (by omega) (by omega)]; omega
          unfold B147_94 J147_155 J147_238 at e
          rw [if_pos rfl, if_pos rfl, ix96 (by omega) (by omega) (by omega), k18, Int.toNat_natCast, Int.toNat_natCast, k388, show (b : Int) + 3 = (b : Int) + ((3 : Nat) : Int) by rfl, bb 3 (by decide) hF, b3, ix12 hv3 (by omega), ixp, k400, k1 l (by omega)] at e
          rcases ite1 e with ⟨q, e⟩ | ⟨q, e⟩
          · right
            rcases ite1 e with ⟨q2, e⟩ | ⟨q2, e⟩
            · cases e; exact Or.inl ⟨by omega, q2, rfl⟩
            · refine Or.inr ⟨by omega, q2, ?_⟩
              rcases ite1 e with ⟨q3, e⟩ | ⟨q3, e⟩
              · replace e := bP_e e
                obtain ⟨r, er, e⟩ := e
                obtain ⟨r1, r2⟩ := (hR.cl hF).has hp (by omega) (by omega) er
                rcases ite1 e with ⟨q4, e⟩ | ⟨q4, e⟩
                · cases e
                  exact Or.inr ⟨fun z => by have := r2.mpr z; omega, rfl⟩
                · cases e
                  refine Or.inl ⟨r2.mp (by omega), ?_⟩
                  unfold tlm
                  rw [if_pos q3]
              · cases e
                by_cases z : bt (mc0 (A + 3) cn) d
                · refine Or.inl ⟨z, ?_⟩
                  unfold tlm
                  rw [if_neg q3]
                · exact Or.inr ⟨z, rfl⟩
          · cases e; exact Or.inl ⟨by omega, rfl⟩
        rcases hPc with ⟨y1, rfl⟩ | ⟨y1, y2⟩
        · rw [b47] at y1
          -- nothing is told
          have st : ∀ (l : Int) (m2 : yM) y, (∃ l' : Nat, l = l' ∧ l' ≤ n) ∧ m2 = m' → B147_94 g (b : Int) 0 (d : Int) (v2 : Int) (k : Int) l m2 = some y → (∃ l' : Nat, y = .inl ((l' : Int), m2) ∧ l' ≤ n) ∨ y = .inr (.inl (l, m2)) := by
            rintro l m2 y ⟨⟨l', rfl, hl⟩, rfl⟩ e
            rcases sp l' _ y hl hS0.2.2.1 e with ⟨-, z⟩ | ⟨z0, -, z⟩ | ⟨z0, -, ⟨z1, -⟩ | ⟨-, z⟩⟩
            · exact Or.inr z
            · exact Or.inl ⟨_, z, by omega⟩
            · exact absurd z1 y1
            · exact Or.inl ⟨_, z, by omega⟩
          obtain ⟨l', m2, hI, i3⟩ := yloop_inv (fun (l : Int) (m2 : yM) => (∃ l' : Nat, l = l' ∧ l' ≤ n) ∧ m2 = m') (fun l m2 l' m2' hI hB => by
            rcases st l m2 _ hI hB with ⟨l2, z, z2⟩ | z
            · cases z; exact ⟨⟨l2, rfl, z2⟩, hI.2⟩
            · cases z) _ _ _ _ ⟨⟨0, rfl, by omega⟩, rfl⟩ a1
          rcases st l' m2 _ hI i3 with ⟨l2, z, -⟩ | z
          · cases z
          · cases z
            have := a2 _ _ rfl
            rw [this, hI.2]
            exact hS0
        · have hbt : bt (mc0 (A + 3) cn) d := by
            by_cases z : bt (mc0 (A + 3) cn) d
            · exact z
            · exact absurd (b47.mpr z) y1
          obtain ⟨rc2, a3, a4⟩ := F80_e y2
          obtain ⟨l5, m5, l6, m6, w1, w2, w3⟩ := copy_r (t := 0) (i := v3) (t' := 1) (i' := 8 * k + d) hA hS0 (by decide) (by simp [fN]; omega) (by decide) (by simp [fN]; omega) (fun z => absurd z (by decide)) hn hn2 (fun l m2 y hl hF e => by
            rcases sp l m2 y hl hF e with z | z | ⟨z0, z1, ⟨-, z⟩ | ⟨z2, -⟩⟩
            · exact Or.inl z
            · exact Or.inr (Or.inl z)
            · exact Or.inr (Or.inr ⟨z0, z1, z⟩)
            · exact absurd hbt z2) a3 a1
          rw [a4 _ _ w1, a2 _ _ w2]
          exact w3) e5 e3
    rw [e6 _ _ z1, e4 _ _ z2]
    exact z3
/-- v = w . f -/
theorem load_r {S b v2 v3 n : Nat} {fd : Int} (hA : A = 256 ∨ A = 316) (hp : p ≤ 1) (h18 : mm0 376 18 = p) (hn : mc0 A 14 = n) (hn2 : n ≤ 12) (h388 : mm0 388 p = n) (hS : 169 ≤ S) (hb : b ≤ 2000) (s2 : mc0 S 2 = v2) (s3 : mc0 S 3 = v3) (s6 : mc0 S 6 = fd) (hv2 : v2 < 48) (hv2V : (v2 : Int) < V) (hv3 : v3 < 48) (hf : -1 ≤ fd ∧ fd < 8) (b0 : mm0 403 b = 4) (b2 : mm0 403 (b + 2) = v2) (b3 : mm0 403 (b + 3) = v3) (b4 : mm0 403 (b + 4) = fd) (h : FS G V mc0 mm0 mc mm) (e1 : F84 f A S mc = some mc') (e2 : F147 g (b : Int) mm = some mm') : FS G V mc0 mm0 mc' mm' := by
  have bb : ∀ {m : yM} (q : Nat), q < 8 → MF mm0 m → m 403 (wr ((b : Int) + (q : Int))).toNat = mm0 403 (b + q) := fun q hq hF => by
    rw [wr_i (by omega) (by omega), show ((b : Int) + (q : Int)).toNat = b + q by omega]
    exact hF _ _ (by decide) (by omega)
  unfold F147 at e2
  rw [Int.toNat_natCast, h.2.2.1 403 b (by decide) (by omega), b0, if_pos rfl] at e2
  unfold J147_15 at e2
  rw [if_neg (by decide), show (b : Int) + 4 = (b : Int) + ((4 : Nat) : Int) by rfl, show (b : Int) + 3 = (b : Int) + ((3 : Nat) : Int) by rfl, bb 4 (by decide) h.2.2.1, bb 3 (by decide) h.2.2.1, b4, b3] at e2
  unfold J147_48 at e2
  obtain ⟨rm, e3, e4⟩ := bL_u e2
  unfold F84 at e1
  obtain ⟨rc, e5, e6⟩ := bL_u e1
  have k1 : ∀ k : Nat, k ≤ 12 → wr ((k : Int) + 1) = ((k + 1 : Nat) : Int) := fun k hk => by rw [wr_i (by omega) (by omega)]; omega
  by_cases fz : fd = -1
  · have hm0 : rm = .inl (0, mm) := by
      have hB : B147_53 g (b : Int) 1 fd (v3 : Int) 0 mm = some (.inr (.inl (0, mm))) := by
        unfold B147_53
        by_cases q : (0 : Int) < mm 388 (mm 376 18).toNat
        · rw [if_pos q, if_pos (by omega)]
        · rw [if_neg q]
      obtain ⟨f', -, ⟨l', m', a1, a2⟩ | a1⟩ := yloop_s e3
      · rw [hB] at a1; cases a1
      · rw [hB] at a1; cases a1; rfl
    have hc0 : ∃ l, rc = .inl (l, mc) := by
      have st : ∀ (l : Int) (m : yM) y, m = mc → B84_2 f A S l m = some y → (∃ l', y = .inl (l', m)) ∨ y = .inr (.inl (l, m)) := by
        intro l m y hm e
        subst hm
        unfold B84_2 J84_61 at e
        rcases ite1 e with ⟨-, e⟩ | ⟨-, e⟩
        · rcases ite1 e with ⟨-, e⟩ | ⟨-, e⟩
          · rcases ite1 e with ⟨-, e⟩ | ⟨-, e⟩
            · cases e; exact Or.inl ⟨_, rfl⟩
            · rw [h.2.1 S 6 (by omega), s6, if_pos fz] at e
              cases e; exact Or.inl ⟨_, rfl⟩
          · cases e
        · cases e; exact Or.inr rfl
      obtain ⟨l', m', hI, a1⟩ := yloop_inv (fun _ m => m = mc) (fun l m l' m' hI hB => by
        rcases st l m _ hI hB with ⟨l2, z⟩ | z
        · cases z; exact hI
        · cases z) _ _ _ _ rfl e5
      rcases st l' m' _ hI a1 with ⟨l2, z⟩ | z
      · cases z
      · cases z; exact ⟨_, by rw [hI]⟩
    obtain ⟨l, hc0⟩ := hc0
    have z1 := e6 _ _ hc0
    have z2 := e4 _ _ hm0
    rw [z1, z2]
    exact h
  · obtain ⟨d, hd⟩ : ∃ d : Nat, fd = d := ⟨fd.toNat, by omega⟩
    subst hd
    obtain ⟨l, m, l', m', z1, z2, z3⟩ := site_r (w := v3) (n := n) (Pc := fun k m m1 => F80_12_12 f A (cc 1 (8 * k + d)) (10 + v2) m = some m1) (Pm := fun k m m1 => ∃ r : (Int × yM) ⊕ (Unit × yM), yloop (fun (l : Int) ml => B147_94 g (b : Int) 1 (d : Int) (v3 : Int) (k : Int) l ml) g 0 m = some r ∧ (∀ l m2, r = .inl (l, m2) → m1 = m2)) h hv3 hn2 (fun k m y hk hF e => by
        have S2 : m S 2 = v2 := by rw [hF S 2 (by omega)]; exact s2
        have S3 : m S 3 = v3 := by rw [hF S 3 (by omega)]; exact s3
        have S6 : m S 6 = d := by rw [hF S 6 (by omega)]; exact s6
        have A14 : m A 14 = n := by rw [hF A 14 (by omega)]; exact hn
        unfold B84_2 J84_61 at e
        rw [A14, S2, S3, S6, Int.toNat_natCast, Int.toNat_natCast, Int.toNat_natCast, F83_e (by omega) (by omega), k1 k (by omega)] at e
        rcases ite1 e with ⟨q, e⟩ | ⟨q, e⟩
        · right
          rw [if_pos (by omega)] at e
          rcases ite1 e with ⟨q2, e⟩ | ⟨q2, e⟩
          · cases e; exact Or.inl ⟨by omega, q2, rfl⟩
          · refine Or.inr ⟨by omega, q2, ?_⟩
            rw [if_neg (by omega)] at e
            rcases ite1 e with ⟨q4, e⟩ | ⟨q4, e⟩
            · rw [if_pos (by omega)] at e
              replace e := bU_e e
              obtain ⟨m2, e2, e⟩ := e
              cases e
              exact ⟨_, rfl, e2⟩
            · cases e
        · cases e; exact Or.inl ⟨by omega, rfl⟩) (fun k m y hk hF e => by
        have k18 : m 376 18 = p := by rw [hF 376 18 (by decide) (by omega)]; exact h18
        have k388 : m 388 p = n := by rw [hF 388 p (by decide) (by omega)]; exact h388
        unfold B147_53 J147_244 at e
        rw [k18, Int.toNat_natCast, k388, ix12 hv3 (by omega), k1 k (by omega)] at e
        rcases ite1 e with ⟨q, e⟩ | ⟨q, e⟩
        · right
          rw [if_neg (by omega)] at e
          rcases ite1 e with ⟨q2, e⟩ | ⟨q2, e⟩
          · cases e; exact Or.inl ⟨by omega, q2, rfl⟩
          · refine Or.inr ⟨by omega, q2, ?_⟩
            rcases bL_e e with ⟨l, m2, a1, a2⟩ | ⟨l, m2, a1, a2⟩
            · cases a2
              exact ⟨_, rfl, _, a1, fun l m e => by cases e; rfl⟩
            · exfalso
              obtain ⟨l', m', -, i3⟩ := yloop_inv (fun _ _ => True) (fun _ _ _ _ _ _ => trivial) _ _ _ _ trivial a1
              unfold B147_94 J147_155 J147_238 at i3
              rcases ite1 i3 with ⟨-, i3⟩ | ⟨-, i3⟩
              · rw [if_neg (by decide)] at i3
                rcases ite1 i3 with ⟨-, i3⟩ | ⟨-, i3⟩
                · cases i3
                · replace i3 := bU_e i3
                  obtain ⟨m5, -, i3⟩ := i3
                  rw [if_neg (by decide)] at i3
                  cases i3
              · cases i3
        · cases e; exact Or.inl ⟨by omega, rfl⟩) (fun k m m' m1 m1' hk hGk hS0 hPc hPm => by
        obtain ⟨r, a1, a2⟩ := hPm
        obtain ⟨rc2, a3, a4⟩ := F80_e hPc
        obtain ⟨l5, m5, l6, m6, w1, w2, w3⟩ := copy_r (t := 1) (i := 8 * k + d) (t' := 0) (i' := v2) hA hS0 (by decide) (by simp [fN]; omega) (by decide) (by simp [fN]; omega) (fun _ => hv2V) hn hn2 (fun l m2 y hl hF e => by
          have k18 : m2 376 18 = p := by rw [hF 376 18 (by decide) (by omega)]; exact h18
          have k388 : m2 388 p = n := by rw [hF 388 p (by decide) (by omega)]; exact h388
          unfold B147_94 J147_155 J147_238 at e
          simp only [if_neg (show ¬ ((1 : Int) = 0) by decide)] at e
          rw [ix96 (by omega) (by omega) (by omega), k18, Int.toNat_natCast, Int.toNat_natCast, k388, show (b : Int) + 2 = (b : Int) + ((2 : Nat) : Int) by rfl, bb 2 (by decide) hF, b2, k1 l (by omega)] at e
          rcases ite1 e with ⟨q, e⟩ | ⟨q, e⟩
          · right
            rcases ite1 e with ⟨q2, e⟩ | ⟨q2, e⟩
            · cases e; exact Or.inl ⟨by omega, q2, rfl⟩
            · replace e := bU_e e
              obtain ⟨m7, e7, e⟩ := e
              have := F145_t hv2 (by omega) e7
              subst this
              cases e
              exact Or.inr ⟨by omega, q2, rfl⟩
          · cases e; exact Or.inl ⟨by omega, rfl⟩) a3 a1
        rw [a4 _ _ w1, a2 _ _ w2]
        exact w3) e5 e3
    rw [e6 _ _ z1, e4 _ _ z2]
    exact z3
end RU

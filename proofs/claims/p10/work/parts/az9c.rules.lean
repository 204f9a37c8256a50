/-! THE RULES: casts and calls -/
section RV
variable {G : Nat → Prop} {V : Int} {A p f g s o : Nat} {mc mm mc' mm' mc0 mm0 : yM}
theorem ixp12 {k : Nat} (hp : p ≤ 1) (hk : k ≤ 12) : (wr ((wr (12 * (p : Int))) + (k : Int))).toNat = 12 * p + k := by
  rw [wr_i (x := 12 * (p : Int)) (by omega) (by omega), wr_i (by omega) (by omega)]; omega
theorem ixp10 {k : Nat} (hp : p ≤ 1) (hk : k ≤ 12) : (wr ((wr (10 * (p : Int))) + (k : Int))).toNat = 10 * p + k := by
  rw [wr_i (x := 10 * (p : Int)) (by omega) (by omega), wr_i (by omega) (by omega)]; omega
theorem ixp8 {k : Nat} (hp : p ≤ 1) (hk : k ≤ 12) : (wr ((wr (8 * (p : Int))) + (k : Int))).toNat = 8 * p + k := by
  rw [wr_i (x := 8 * (p : Int)) (by omega) (by omega), wr_i (by omega) (by omega)]; omega
/-- v = ( C ) w -/
theorem cast_r2 {S b v2 v3 n c : Nat} {tc : Int} (hA : A = 256 ∨ A = 316) (hp : p ≤ 1) (hR : RPG A p s o mc0 mm0) (hG : ∀ k, G k → mc0 (A + 8) k = mm0 400 (12 * p + k) ∧ 0 ≤ mc0 (A + 8) k ∧ mc0 (A + 8) k < mc0 A 9) (h18 : mm0 376 18 = p) (hn : mc0 A 14 = n) (hn2 : n ≤ 12) (h388 : mm0 388 p = n) (hS : 169 ≤ S) (hb : b ≤ 2000) (s2 : mc0 S 2 = v2) (s3 : mc0 S 3 = v3) (s7 : mc0 S 7 = tc) (ht : 0 ≤ tc) (hv2 : v2 < 48) (hv2V : (v2 : Int) < V) (hv3 : v3 < 48) (hc : c < 8) (b4 : mm0 403 (b + 4) = c) (h402 : mm0 402 (8 * p + c) = tc) (h : FS G V mc0 mm0 mc mm) (e1 : F82 f A S mc = some mc') {rm : (Int × yM) ⊕ (Unit × yM)} (e3 : yloop (fun (l : Int) ml => B150_131 g (b : Int) (v2 : Int) (v3 : Int) l ml) g 0 mm = some rm) (e4 : ∀ l m2, rm = .inl (l, m2) → mm' = m2) : FS G V mc0 mm0 mc' mm' := by
  have bb : ∀ {m : yM} (q : Nat), q < 8 → MF mm0 m → m 403 (wr ((b : Int) + (q : Int))).toNat = mm0 403 (b + q) := fun q hq hF => by
    rw [wr_i (by omega) (by omega), show ((b : Int) + (q : Int)).toNat = b + q by omega]
    exact hF _ _ (by decide) (by omega)
  unfold F82 at e1
  obtain ⟨rc, e5, e6⟩ := bL_u e1
  have k1 : ∀ k : Nat, k ≤ 12 → wr ((k : Int) + 1) = ((k + 1 : Nat) : Int) := fun k hk => by rw [wr_i (by omega) (by omega)]; omega
  obtain ⟨l, m, l', m', z1, z2, z3⟩ := site_r (w := v3) (n := n) (Pc := fun k m m1 => ∃ r, F81 f A (m (A + 8) k) tc m = some r ∧ ((r = 0 ∧ m1 = m) ∨ (r ≠ 0 ∧ F79_12 f (10 + v2) (k : Int) m = some m1))) (Pm := fun k m m1 => ∃ r, F149 g p (mm0 400 (12 * p + k)) tc m = some r ∧ ((r = 0 ∧ m1 = m) ∨ (r ≠ 0 ∧ F145 g (v2 : Int) (k : Int) m = some m1))) h hv3 hn2 (fun k m y hk hF e => by
      have S2 : m S 2 = v2 := by rw [hF S 2 (by omega)]; exact s2
      have S3 : m S 3 = v3 := by rw [hF S 3 (by omega)]; exact s3
      have S7 : m S 7 = tc := by rw [hF S 7 (by omega)]; exact s7
      have A14 : m A 14 = n := by rw [hF A 14 (by omega)]; exact hn
      unfold B82_2 J82_68 at e
      rw [A14, S2, S3, S7, Int.toNat_natCast, Int.toNat_natCast, Int.toNat_natCast, k1 k (by omega)] at e
      rcases ite1 e with ⟨q, e⟩ | ⟨q, e⟩
      · right
        rw [if_pos (by omega)] at e
        rcases ite1 e with ⟨q2, e⟩ | ⟨q2, e⟩
        · cases e; exact Or.inl ⟨by omega, q2, rfl⟩
        · refine Or.inr ⟨by omega, q2, ?_⟩
          replace e := bP_e e
          obtain ⟨r, er, e⟩ := e
          rcases ite1 e with ⟨q3, e⟩ | ⟨q3, e⟩
          · cases e; exact ⟨_, rfl, r, er, Or.inl ⟨q3, rfl⟩⟩
          · rw [if_pos (by omega)] at e
            replace e := bU_e e
            obtain ⟨m2, e2, e⟩ := e
            cases e
            exact ⟨_, rfl, r, er, Or.inr ⟨q3, e2⟩⟩
      · cases e; exact Or.inl ⟨by omega, rfl⟩) (fun k m y hk hF e => by
      have k18 : m 376 18 = p := by rw [hF 376 18 (by decide) (by omega)]; exact h18
      have k388 : m 388 p = n := by rw [hF 388 p (by decide) (by omega)]; exact h388
      unfold B150_131 J150_219 at e
      rw [k18, Int.toNat_natCast, k388, ix12 hv3 (by omega), k1 k (by omega), ixp12 hp (by omega), show (b : Int) + 4 = (b : Int) + ((4 : Nat) : Int) by rfl, bb 4 (by decide) hF, b4, ixp8 hp (by omega), hF 402 _ (by decide) (by omega), h402, hF 400 _ (by decide) (by omega)] at e
      rcases ite1 e with ⟨q, e⟩ | ⟨q, e⟩
      · right
        rcases ite1 e with ⟨q2, e⟩ | ⟨q2, e⟩
        · cases e; exact Or.inl ⟨by omega, q2, rfl⟩
        · refine Or.inr ⟨by omega, q2, ?_⟩
          replace e := bP_e e
          obtain ⟨r, er, e⟩ := e
          rcases ite1 e with ⟨q3, e⟩ | ⟨q3, e⟩
          · cases e; exact ⟨_, rfl, r, er, Or.inl ⟨q3, rfl⟩⟩
          · replace e := bU_e e
            obtain ⟨m2, e2, e⟩ := e
            cases e
            exact ⟨_, rfl, r, er, Or.inr ⟨q3, e2⟩⟩
      · cases e; exact Or.inl ⟨by omega, rfl⟩) (fun k m m' m1 m1' hk hGk hS0 hPc hPm => by
      obtain ⟨r, a1, a2⟩ := hPc
      obtain ⟨r', b1, b2⟩ := hPm
      obtain ⟨c1, c2, c3⟩ := hG k hGk
      have hmc : m (A + 8) k = mc0 (A + 8) k := hS0.2.1 _ _ (by omega)
      have hm9 : m A 9 = mc0 A 9 := hS0.2.1 _ _ (by omega)
      rw [hmc] at a1
      rw [← c1] at b1
      obtain ⟨y1, -⟩ := below_r ((hR.cl hS0.2.2.1).cf hA hS0.2.1) hp ht c2 (by omega) a1 b1
      subst y1
      rcases a2 with ⟨a2, rfl⟩ | ⟨a2, a3⟩
      · rcases b2 with ⟨-, rfl⟩ | ⟨b2, -⟩
        · exact hS0
        · exact absurd a2 b2
      · rcases b2 with ⟨b2, -⟩ | ⟨-, b3⟩
        · exact absurd b2 a2
        · have t1 := F79_12_t ⟨hS0.1.2.2.1, hS0.1.2.2.2.1⟩ a3
          rw [Int.toNat_natCast] at t1
          have t2 := F145_t hv2 (by omega) b3
          subst t1
          subst t2
          exact hS0.tell (t := 0) (i := v2) (j := k) (by decide) (by simp [fN]; omega) (by simp [ww]; omega) (fun _ => hGk) (fun _ => hv2V)) e5 e3
  rw [e6 _ _ z1, e4 _ _ z2]
  exact z3
theorem FS.tell2 {i j : Nat} (h : FS G V mc0 mm0 mc mm) (hi : i < 12) (hj : j < 10) : FS G V mc0 mm0 (tlc mc (59 + i) j) (tlm mm 406 (10 * i + j)) := h.tell (t := 2) (i := i) (j := j) (by decide) (by simp [fN]; omega) (by simp [ww]; omega) (fun z => absurd z (by decide)) (fun z => absurd z (by decide))
theorem FS.tell3 {j : Nat} (h : FS G V mc0 mm0 mc mm) (hj : j < 10) : FS G V mc0 mm0 (tlc mc 71 j) (tlm mm 407 j) := by
  have := h.tell (t := 3) (i := 0) (j := j) (by decide) (by simp [fN]) (by simp [ww]; omega) (fun z => absurd z (by decide)) (fun z => absurd z (by decide))
  simpa [cc, ww] using this
theorem FS.tell0 {i j : Nat} (h : FS G V mc0 mm0 mc mm) (hi : i < 48) (hj : j < 12) (hG : G j) (hV : (i : Int) < V) : FS G V mc0 mm0 (tlc mc (10 + i) j) (tlm mm 404 (12 * i + j)) := h.tell (t := 0) (i := i) (j := j) (by decide) (by simp [fN]; omega) (by simp [ww]; omega) (fun _ => hG) (fun _ => hV)
/-- a call: where it may go -/
theorem call1_r {S b v3 n c na : Nat} {nm nm' : Int} (hA : A = 256 ∨ A = 316) (hp : p ≤ 1) (hR : RPG A p s o mc0 mm0) (hVV : V = mc0 A 15) (hG : ∀ k, G k → mc0 (A + 8) k = mm0 400 (12 * p + k) ∧ 0 ≤ mc0 (A + 8) k ∧ mc0 (A + 8) k < mc0 A 9) (h18 : mm0 376 18 = p) (hn : mc0 A 14 = n) (hn2 : n ≤ 12) (h388 : mm0 388 p = n) (hS : 169 ≤ S) (hb : b ≤ 2000) (s3 : mc0 S 3 = v3) (s4 : mc0 S 4 = nm) (s6 : mc0 S 6 = c) (s8 : mc0 S 8 = na) (hv3 : v3 < 48) (hc : c < 12) (hN : Nm nm nm') (b4 : mm0 403 (b + 4) = nm') (h : FS G V mc0 mm0 mc mm) (e1 : F86 f A S mc = some mc') {rm : (Int × yM) ⊕ (Unit × yM)} (e3 : yloop (fun (l : Int) ml => B148_37 g (b : Int) (v3 : Int) (c : Int) (na : Int) l ml) g 0 mm = some rm) : ∃ l m2, rm = .inl (l, m2) ∧ FS G V mc0 mm0 mc' m2 := by
  have bb : ∀ {m : yM} (q : Nat), q < 8 → MF mm0 m → m 403 (wr ((b : Int) + (q : Int))).toNat = mm0 403 (b + q) := fun q hq hF => by
    rw [wr_i (by omega) (by omega), show ((b : Int) + (q : Int)).toNat = b + q by omega]
    exact hF _ _ (by decide) (by omega)
  unfold F86 at e1
  obtain ⟨rc, e5, e6⟩ := bL_u e1
  have k1 : ∀ k : Nat, k ≤ 12 → wr ((k : Int) + 1) = ((k + 1 : Nat) : Int) := fun k hk => by rw [wr_i (by omega) (by omega)]; omega
  have h10 := hR.2.1.2.2.1
  obtain ⟨l, m, l', m', z1, z2, z3⟩ := site_r (w := v3) (n := n) (Pc := fun k m m1 => ∃ r, F72 f A (m (A + 8) k) nm (na : Int) m = some r ∧ ((r = -1 ∧ m1 = m) ∨ (∃ q : Nat, r = q ∧ q < 10 ∧ ∃ m2 m3, F79_10 f (59 + c) (q : Int) m = some m2 ∧ F79_10 f 71 (q : Int) m2 = some m3 ∧ F79_12 f (10 + (F57 (A + 10 + q) m3).toNat) (k : Int) m3 = some m1 ∧ 0 ≤ F57 (A + 10 + q) m3 ∧ F57 (A + 10 + q) m3 < 48))) (Pm := fun k m m1 => ∃ r, F142 g p (mm0 400 (12 * p + k)) nm' (na : Int) m = some r ∧ J148_107 g (b : Int) (v3 : Int) (c : Int) (na : Int) (k : Int) r m = some (.inl (((k + 1 : Nat) : Int), m1))) h hv3 hn2 (fun k m y hk hF e => by
      have S3 : m S 3 = v3 := by rw [hF S 3 (by omega)]; exact s3
      have S4 : m S 4 = nm := by rw [hF S 4 (by omega)]; exact s4
      have S6 : m S 6 = c := by rw [hF S 6 (by omega)]; exact s6
      have S8 : m S 8 = na := by rw [hF S 8 (by omega)]; exact s8
      have A14 : m A 14 = n := by rw [hF A 14 (by omega)]; exact hn
      unfold B86_2 J86_106 at e
      rw [A14, S3, S4, S6, S8, Int.toNat_natCast, Int.toNat_natCast, Int.toNat_natCast, k1 k (by omega)] at e
      rcases ite1 e with ⟨q, e⟩ | ⟨q, e⟩
      · right
        rw [if_pos (by omega)] at e
        rcases ite1 e with ⟨q2, e⟩ | ⟨q2, e⟩
        · cases e; exact Or.inl ⟨by omega, q2, rfl⟩
        · refine Or.inr ⟨by omega, q2, ?_⟩
          replace e := bP_e e
          obtain ⟨r, er, e⟩ := e
          rcases ite1 e with ⟨q3, e⟩ | ⟨q3, e⟩
          · cases e; exact ⟨_, rfl, r, er, Or.inl ⟨q3, rfl⟩⟩
          · rw [if_pos (by omega)] at e
            replace e := bU_e e
            obtain ⟨m2, e2, e⟩ := e
            replace e := bU_e e
            obtain ⟨m3, e3, e⟩ := e
            rcases ite1 e with ⟨q4, e⟩ | ⟨q4, e⟩
            · obtain ⟨rn, rfl⟩ : ∃ rn : Nat, r = rn := ⟨r.toNat, by omega⟩
              rw [Int.toNat_natCast] at e
              rcases ite1 e with ⟨q5, e⟩ | ⟨q5, e⟩
              · replace e := bU_e e
                obtain ⟨m4, e4, e⟩ := e
                cases e
                exact ⟨_, rfl, _, er, Or.inr ⟨rn, rfl, by omega, m2, m3, e2, e3, e4, q5.1, q5.2⟩⟩
              · cases e
            · cases e
      · cases e; exact Or.inl ⟨by omega, rfl⟩) (fun k m y hk hF e => by
      have k18 : m 376 18 = p := by rw [hF 376 18 (by decide) (by omega)]; exact h18
      have k388 : m 388 p = n := by rw [hF 388 p (by decide) (by omega)]; exact h388
      unfold B148_37 at e
      rw [k18, Int.toNat_natCast, k388, ix12 hv3 (by omega), ixp12 hp (by omega), show (b : Int) + 4 = (b : Int) + ((4 : Nat) : Int) by rfl, bb 4 (by decide) hF, b4, hF 400 _ (by decide) (by omega)] at e
      have J1 : ∀ {r : Int} {m2 : yM} {y : (Int × yM) ⊕ ((Int × yM) ⊕ (Unit × yM))}, J148_107 g (b : Int) (v3 : Int) (c : Int) (na : Int) (k : Int) r m2 = some y → ∃ m3, y = .inl (((k + 1 : Nat) : Int), m3) := by
        intro r m2 y e
        have J2 : ∀ {m2 : yM} {y : (Int × yM) ⊕ ((Int × yM) ⊕ (Unit × yM))}, J148_176 g (b : Int) (v3 : Int) (c : Int) (na : Int) (k : Int) r m2 = some y → ∃ m3, y = .inl (((k + 1 : Nat) : Int), m3) := by
          intro m2 y e
          unfold J148_176 J148_199 at e
          rw [k1 k (by omega)] at e
          replace e := bU_e e
          obtain ⟨m3, -, e⟩ := e
          cases e
          exact ⟨_, rfl⟩
        have J3 : ∀ {m2 : yM} {y : (Int × yM) ⊕ ((Int × yM) ⊕ (Unit × yM))}, J148_150 g (b : Int) (v3 : Int) (c : Int) (na : Int) (k : Int) r m2 = some y → ∃ m3, y = .inl (((k + 1 : Nat) : Int), m3) := by
          intro m2 y e
          unfold J148_150 at e
          rcases ite1 e with ⟨-, e⟩ | ⟨-, e⟩ <;> exact J2 e
        unfold J148_107 at e
        rcases ite1 e with ⟨-, e⟩ | ⟨-, e⟩
        · unfold J148_199 at e
          rw [k1 k (by omega)] at e
          cases e
          exact ⟨_, rfl⟩
        · rcases ite1 e with ⟨-, e⟩ | ⟨-, e⟩ <;> exact J3 e
      rcases ite1 e with ⟨q, e⟩ | ⟨q, e⟩
      · right
        rcases ite1 e with ⟨q2, e⟩ | ⟨q2, e⟩
        · unfold J148_107 J148_199 at e
          rw [if_pos (by decide), k1 k (by omega)] at e
          cases e; exact Or.inl ⟨by omega, q2, rfl⟩
        · refine Or.inr ⟨by omega, q2, ?_⟩
          replace e := bP_e e
          obtain ⟨r, er, e⟩ := e
          obtain ⟨m3, z⟩ := J1 e
          subst z
          exact ⟨_, rfl, r, er, e⟩
      · cases e; exact Or.inl ⟨by omega, rfl⟩) (fun k m m' m1 m1' hk hGk hS0 hPc hPm => by
      obtain ⟨c1, c2, c3⟩ := hG k hGk
      have hI : (169 ≤ A + 8 ∧ 169 ≤ A) ∧ k ≤ 12 := by clear hPc hPm; omega
      have hmc : m (A + 8) k = mc0 (A + 8) k := hS0.2.1 _ _ (Or.inl hI.1.1)
      have hm9 : m A 9 = mc0 A 9 := hS0.2.1 _ _ (Or.inl hI.1.2)
      have hm10 : m A 10 = mc0 A 10 := hS0.2.1 _ _ (Or.inl hI.1.2)
      have c3' : mc0 (A + 8) k < m A 9 := by rw [hm9]; exact c3
      obtain ⟨r, a1, a2⟩ := hPc
      obtain ⟨r', b1, b2⟩ := hPm
      rw [hmc] at a1
      rw [← c1] at b1
      obtain ⟨y1, y2⟩ := found_r ((hR.cl hS0.2.2.1).cf hA hS0.2.1) ((hR.me hS0.2.2.1).cf hA hS0.2.1) hp hN c2 c3' a1 b1
      subst y1
      have F8 : 0 ≤ m 8 5 ∧ m 8 5 ≤ 2000 := ⟨hS0.1.2.2.1, hS0.1.2.2.2.1⟩
      rcases a2 with ⟨a2, rfl⟩ | ⟨q, rfl, q10, m2, m3, a3, a4, a5, a6, a7⟩
      · unfold J148_107 J148_199 at b2
        rw [if_pos (by omega), k1 k hI.2] at b2
        cases b2
        exact hS0
      · have t2 := F79_10_t F8 a3
        rw [Int.toNat_natCast] at t2
        have M' : ∀ b q, ¬ (b = 376 ∧ q = 46) → b < 404 → m' b q = mm0 b q := fun b q z1 z2 => hS0.2.2.1 b q z2 z1
        have ix6 : (wr ((wr (10 * (c : Int))) + (q : Int))).toNat = 10 * c + q := by
          rw [wr_i (x := 10 * (c : Int)) (by omega) (by omega), wr_i (by omega) (by omega)]; omega
        have T2 := hS0.tell2 hc q10
        have T3 := T2.tell3 q10
        have F82 : 0 ≤ m2 8 5 ∧ m2 8 5 ≤ 2000 := by rw [t2]; exact ⟨T2.1.2.2.1, T2.1.2.2.2.1⟩
        have t3 := F79_10_t F82 a4
        rw [Int.toNat_natCast, t2] at t3
        have F83 : 0 ≤ m3 8 5 ∧ m3 8 5 ≤ 2000 := by rw [t3]; exact ⟨T3.1.2.2.1, T3.1.2.2.2.1⟩
        have t4 := F79_12_t F83 a5
        rw [Int.toNat_natCast] at t4
        obtain ⟨self, hself⟩ : ∃ self : Nat, F57 (A + 10 + q) m3 = self := ⟨(F57 (A + 10 + q) m3).toNat, by omega⟩
        rw [hself, Int.toNat_natCast, t3] at t4
        -- the model
        unfold J148_107 at b2
        rw [if_neg (by omega), ix6] at b2
        have u2 : (if m' 406 (10 * c + q) < 0 then J148_150 g (b : Int) (v3 : Int) (c : Int) (na : Int) (k : Int) (q : Int) (yup (yup m' 406 (10 * c + q) (m' 376 45)) 376 46 1) else J148_150 g (b : Int) (v3 : Int) (c : Int) (na : Int) (k : Int) (q : Int) m') = J148_150 g (b : Int) (v3 : Int) (c : Int) (na : Int) (k : Int) (q : Int) (tlm m' 406 (10 * c + q)) := by
          unfold tlm
          split <;> rfl
        rw [u2] at b2
        unfold J148_150 at b2
        rw [Int.toNat_natCast] at b2
        have u3 : ∀ m5 : yM, (if m5 407 q < 0 then J148_176 g (b : Int) (v3 : Int) (c : Int) (na : Int) (k : Int) (q : Int) (yup (yup m5 407 q (m5 376 45)) 376 46 1) else J148_176 g (b : Int) (v3 : Int) (c : Int) (na : Int) (k : Int) (q : Int) m5) = J148_176 g (b : Int) (v3 : Int) (c : Int) (na : Int) (k : Int) (q : Int) (tlm m5 407 q) := by
          intro m5
          unfold tlm
          split <;> rfl
        rw [u3] at b2
        unfold J148_176 J148_199 at b2
        rw [k1 k hI.2] at b2
        replace b2 := bU_e b2
        obtain ⟨m6, b3, b2⟩ := b2
        cases b2
        have k18 : tlm (tlm m' 406 (10 * c + q)) 407 q 376 18 = p := by rw [T3.2.2.1 376 18 (by decide) (by omega)]; exact h18
        rw [k18, ixp10 hp (by omega), T3.2.2.1 398 _ (by decide) (by omega)] at b3
        obtain ⟨-, -, -, g4, -, -, g7, -, g9, g10⟩ := hR.2.1.2.2.2 q (by omega)
        have hs2 : F57 (A + 10 + q) m3 = mc0 (A + 10 + q) 2 + 1 := by
          unfold F57
          rw [t3, T3.2.1 (A + 10 + q) 2 (by omega), wr_i (by omega) (by omega)]
        have hv : wr (mm0 398 (10 * p + q) + 1) = (self : Int) := by
          rw [← g4, wr_i (by omega) (by omega)]; omega
        rw [hv] at b3
        have t5 := F145_t (by omega) (by omega) b3
        rw [t4, t5]
        have hvn := hR.2.2.2.2.1.2.2.2.2.1 q (by omega)
        exact T3.tell0 (by omega) (by omega) hGk (by omega)) e5 e3
  have := e6 _ _ z1
  subst this
  exact ⟨_, _, z2, z3⟩
end RV

/-! THE PROGRAM, its names looked up: statements and ops side by side -/
/-- statements s to s1 lie at ops o to o1: simple ones by Q, branches by B, ops without a statement by Z -/
def ALN (Q B : Nat → Nat → Prop) (Z : Nat → Prop) : Nat → Nat → Nat → Nat → Nat → Prop
  | 0, s, s1, o, o1 => s = s1 ∧ o = o1
  | n + 1, s, s1, o, o1 => ((Q s o ∨ B s o) ∧ ALN Q B Z n (s + 1) s1 (o + 1) o1) ∨ (Z o ∧ ALN Q B Z n s s1 (o + 1) o1)
section AL
variable {Q B Q' B' : Nat → Nat → Prop} {Z Z' : Nat → Prop}
theorem ALN.le : ∀ {n s s1 o o1 : Nat}, ALN Q B Z n s s1 o o1 → s ≤ s1 ∧ o ≤ o1 := by
  intro n
  induction n with
  | zero => intro s s1 o o1 h; obtain ⟨rfl, rfl⟩ := h; omega
  | succ n ih =>
    intro s s1 o o1 h
    rcases h with ⟨-, h⟩ | ⟨-, h⟩
    · have := ih h; omega
    · have := ih h; omega
theorem ALN.app : ∀ {n k s s1 s2 o o1 o2 : Nat}, ALN Q B Z n s s1 o o1 → ALN Q B Z k s1 s2 o1 o2 → ALN Q B Z (n + k) s s2 o o2 := by
  intro n
  induction n with
  | zero =>
    intro k s s1 s2 o o1 o2 h h'
    obtain ⟨rfl, rfl⟩ := h
    rw [Nat.zero_add]
    exact h'
  | succ n ih =>
    intro k s s1 s2 o o1 o2 h h'
    rw [show n + 1 + k = (n + k) + 1 by omega]
    rcases h with ⟨h1, h⟩ | ⟨h1, h⟩
    · exact Or.inl ⟨h1, ih h h'⟩
    · exact Or.inr ⟨h1, ih h h'⟩
theorem ALN.mp : ∀ {n s s1 o o1 : Nat}, ALN Q B Z n s s1 o o1 → (∀ t u, t < s1 → u < o1 → Q t u → Q' t u) → (∀ t u, t < s1 → u < o1 → B t u → B' t u) → (∀ u, u < o1 → Z u → Z' u) → ALN Q' B' Z' n s s1 o o1 := by
  intro n
  induction n with
  | zero => intro s s1 o o1 h _ _ _; exact h
  | succ n ih =>
    intro s s1 o o1 h e1 e2 e3
    rcases h with ⟨h1, h⟩ | ⟨h1, h⟩
    · have l := h.le
      refine Or.inl ⟨?_, ih h e1 e2 e3⟩
      rcases h1 with h1 | h1
      · exact Or.inl (e1 _ _ (by omega) (by omega) h1)
      · exact Or.inr (e2 _ _ (by omega) (by omega) h1)
    · have l := h.le
      exact Or.inr ⟨e3 _ (by omega) h1, ih h e1 e2 e3⟩
/-- every statement is there -/
theorem ALN.all : ∀ {n s s1 o o1 : Nat}, ALN Q B Z n s s1 o o1 → ∀ t, s ≤ t → t < s1 → ∃ u, u < o1 ∧ (Q t u ∨ B t u) := by
  intro n
  induction n with
  | zero => intro s s1 o o1 h t t1 t2; obtain ⟨rfl, rfl⟩ := h; omega
  | succ n ih =>
    intro s s1 o o1 h t t1 t2
    rcases h with ⟨h1, h⟩ | ⟨h1, h⟩
    · by_cases z : t = s
      · subst z
        have l := h.le
        exact ⟨o, by omega, h1⟩
      · exact ih h t (by omega) t2
    · exact ih h t t1 t2
end AL
section RS
variable {A p k s o a f g : Nat} {mc mm mc' mm' M N : yM}
def qSi (A p : Nat) (mc mm : yM) (t u : Nat) : Prop := ∃ a a', OPR A p t u a a' mc mm
def qB (A p : Nat) (mc mm : yM) (t u : Nat) : Prop := BRH A p t u 0 9 mc mm ∨ BRH A p t u 1 10 mc mm
def qZ (p : Nat) (mm : yM) (u : Nat) : Prop := mm 403 (1000 * p + 8 * u) = 11 ∨ mm 403 (1000 * p + 8 * u) = 12
theorem SEG.aln : ∀ {f s0 s1 o0 o1 a0 a1 : Nat}, SEG A p mc mm f s0 s1 o0 o1 a0 a1 → ∃ n, ALN (qSi A p mc mm) (qB A p mc mm) (qZ p mm) n s0 s1 o0 o1 := by
  intro f
  induction f with
  | zero =>
    intro s0 s1 o0 o1 a0 a1 h
    obtain ⟨rfl, rfl, rfl⟩ := h
    exact ⟨0, rfl, rfl⟩
  | succ f ih =>
    intro s0 s1 o0 o1 a0 a1 h
    rcases h with ⟨rfl, rfl, rfl⟩ | ⟨s2, o2, a2, h1, h2, h3, h4, h5, h6, h7, h8, h9⟩
    · exact ⟨0, rfl, rfl⟩
    · obtain ⟨n8, e8⟩ := ih h8
      have key : ∃ n, ALN (qSi A p mc mm) (qB A p mc mm) (qZ p mm) n s0 s2 o0 o2 := by
        rcases h9 with ⟨g1, g2, g3⟩ | ⟨g1, o3, g2, g2', g3, g4, g5, g6, g7⟩ | ⟨g1, g2, g3, g4⟩ | ⟨g1, s3, o3, a3, g2, g3, g4, g5, g6, g7, g8, g9, g10, g11, g12, g13⟩
        · exact ⟨1, Or.inl ⟨Or.inl ⟨_, _, g3⟩, g1.symm, g2.symm⟩⟩
        · obtain ⟨n7, e7⟩ := ih g7
          have z : ALN (qSi A p mc mm) (qB A p mc mm) (qZ p mm) 1 s2 s2 o3 o2 := Or.inr ⟨Or.inl g5, rfl, g2.symm⟩
          exact ⟨n7 + 1 + 1, Or.inl ⟨Or.inr (Or.inr g1), e7.app z⟩⟩
        · obtain ⟨n4, e4⟩ := ih g4
          exact ⟨n4 + 1, Or.inl ⟨Or.inr (Or.inl g1), e4⟩⟩
        · obtain ⟨n12, e12⟩ := ih g12
          obtain ⟨n13, e13⟩ := ih g13
          have z : ALN (qSi A p mc mm) (qB A p mc mm) (qZ p mm) (n13 + 1) s3 s2 o3 o2 := Or.inr ⟨Or.inl g10, e13⟩
          exact ⟨n12 + (n13 + 1) + 1, Or.inl ⟨Or.inr (Or.inl g1), e12.app z⟩⟩
      obtain ⟨n, e⟩ := key
      exact ⟨_, e.app e8⟩
theorem MCH.aln : ∀ {k s o a : Nat}, MCH A p mc mm k s o a → ∃ n, ALN (qSi A p mc mm) (qB A p mc mm) (qZ p mm) n 0 s 0 o := by
  intro k
  induction k with
  | zero =>
    intro s o a h
    obtain ⟨rfl, rfl, -⟩ := h
    exact ⟨0, rfl, rfl⟩
  | succ k ih =>
    intro s o a h
    obtain ⟨s0, o0, a0, o1, fu, h1, h2, h3, h4, h5, h6, h7, h8⟩ := h
    obtain ⟨n1, e1⟩ := ih h1
    obtain ⟨n2, e2⟩ := h6.aln
    have z : ALN (qSi A p mc mm) (qB A p mc mm) (qZ p mm) 1 s s o1 o := Or.inr ⟨Or.inr h7, rfl, h5.symm⟩
    exact ⟨_, (e1.app e2).app z⟩
/-- the class's lookups -/
def RSc (A s : Nat) (M mc' : yM) : Prop := ∀ t : Nat, t < s → ((M (A + 20 + t) 0 = 3 ∨ M (A + 20 + t) 0 = 9) → IX (M A 11) (fun q => M (A + 4) q = M (A + 20 + t) 4) (mc' (A + 20 + t) 6)) ∧ (¬ (M (A + 20 + t) 0 = 3 ∨ M (A + 20 + t) 0 = 9) → mc' (A + 20 + t) 6 = M (A + 20 + t) 6) ∧ ((M (A + 20 + t) 0 = 5 ∨ M (A + 20 + t) 0 = 7) → IX (M A 9) (fun q => M (A + 1) q = M (A + 20 + t) 4) (mc' (A + 20 + t) 7) ∧ mc' (A + 20 + t) 7 ≠ -1) ∧ (M (A + 20 + t) 0 = 5 → IX (M A 9) (fun q => M (A + 1) q = M (A + 20 + t) 4) (mc' (A + 8) (M (A + 20 + t) 6).toNat))
theorem res_c {r : Int} (hs : s ≤ 40) (h16 : M A 16 = s) (h9 : 0 ≤ M A 9 ∧ M A 9 ≤ 6) (h11 : 0 ≤ M A 11 ∧ M A 11 ≤ 8) (hU : ∀ t u : Nat, t < s → u < s → M (A + 20 + t) 0 = 5 → M (A + 20 + u) 0 = 5 → (M (A + 20 + t) 6).toNat = (M (A + 20 + u) 6).toNat → M (A + 20 + t) 4 = M (A + 20 + u) 4) (h : F73 f A M = some (r, mc')) (hr : r = -1) (h5 : ∀ t : Nat, t < s → (M (A + 20 + t) 0 = 5 ∨ M (A + 20 + t) 0 = 7) → 0 ≤ M (A + 20 + t) 5) : RSc A s M mc' ∧ fNc A M mc' ∧ (∃ m1, F72 f A 0 239 0 m1 = some (mc' A 17) ∧ fNc A M m1) ∧ (∀ q, (∀ t : Nat, t < s → M (A + 20 + t) 0 = 5 → (M (A + 20 + t) 6).toNat ≠ q) → mc' (A + 8) q = M (A + 8) q) := by
  unfold F73 at h
  have inv : ∀ (l : Int) (m : yM) (y : (Int × yM) ⊕ ((Int × yM) ⊕ (Int × yM))), (0 ≤ l ∧ l ≤ s ∧ fNc A M m ∧ (∀ t : Nat, (t : Int) < l → ((M (A + 20 + t) 0 = 3 ∨ M (A + 20 + t) 0 = 9) → IX (M A 11) (fun q => M (A + 4) q = M (A + 20 + t) 4) (m (A + 20 + t) 6)) ∧ ((M (A + 20 + t) 0 = 5 ∨ M (A + 20 + t) 0 = 7) → IX (M A 9) (fun q => M (A + 1) q = M (A + 20 + t) 4) (m (A + 20 + t) 7) ∧ m (A + 20 + t) 7 ≠ -1) ∧ (M (A + 20 + t) 0 = 5 → IX (M A 9) (fun q => M (A + 1) q = M (A + 20 + t) 4) (m (A + 8) (M (A + 20 + t) 6).toNat))) ∧ (∀ t : Nat, t < s → (l ≤ t ∨ ¬ (M (A + 20 + t) 0 = 3 ∨ M (A + 20 + t) 0 = 9)) → m (A + 20 + t) 6 = M (A + 20 + t) 6) ∧ (∀ q, (∀ t : Nat, t < s → M (A + 20 + t) 0 = 5 → (M (A + 20 + t) 6).toNat ≠ q) → m (A + 8) q = M (A + 8) q)) → B73_2 f A l m = some y → (∃ m', y = .inl (l + 1, m') ∧ l < s ∧ (0 ≤ l + 1 ∧ l + 1 ≤ s ∧ fNc A M m' ∧ (∀ t : Nat, (t : Int) < l + 1 → ((M (A + 20 + t) 0 = 3 ∨ M (A + 20 + t) 0 = 9) → IX (M A 11) (fun q => M (A + 4) q = M (A + 20 + t) 4) (m' (A + 20 + t) 6)) ∧ ((M (A + 20 + t) 0 = 5 ∨ M (A + 20 + t) 0 = 7) → IX (M A 9) (fun q => M (A + 1) q = M (A + 20 + t) 4) (m' (A + 20 + t) 7) ∧ m' (A + 20 + t) 7 ≠ -1) ∧ (M (A + 20 + t) 0 = 5 → IX (M A 9) (fun q => M (A + 1) q = M (A + 20 + t) 4) (m' (A + 8) (M (A + 20 + t) 6).toNat))) ∧ (∀ t : Nat, t < s → (l + 1 ≤ t ∨ ¬ (M (A + 20 + t) 0 = 3 ∨ M (A + 20 + t) 0 = 9)) → m' (A + 20 + t) 6 = M (A + 20 + t) 6) ∧ (∀ q, (∀ t : Nat, t < s → M (A + 20 + t) 0 = 5 → (M (A + 20 + t) 6).toNat ≠ q) → m' (A + 8) q = M (A + 8) q))) ∨ (∃ x, y = .inr (.inr x) ∧ 0 ≤ x.1) ∨ (y = .inr (.inl (l, m)) ∧ l = s) := by
    intro l m y ⟨i1, i2, i3, i4, i5, i6⟩ e
    unfold B73_2 at e
    have m16 : m A 16 = s := by rw [i3 A 16 (by omega) (by omega) (by omega)]; exact h16
    have m9 : m A 9 = M A 9 := i3 A 9 (by omega) (by omega) (by omega)
    have m11 : m A 11 = M A 11 := i3 A 11 (by omega) (by omega) (by omega)
    rw [m16] at e
    rcases ite1 e with ⟨ql, e⟩ | ⟨ql, e⟩
    case inr =>
      cases e
      exact Or.inr (Or.inr ⟨rfl, by omega⟩)
    obtain ⟨n, rfl⟩ : ∃ n : Nat, l = n := ⟨l.toNat, by omega⟩
    have hn : n < s := by omega
    rw [Int.toNat_natCast] at e
    have c0 : ∀ q, q ≠ 6 → q ≠ 7 → m (A + 20 + n) q = M (A + 20 + n) q := fun q z1 z2 => i3 _ _ (by omega) (by omega) (by omega)
    have w1 : wr ((n : Int) + 1) = (n : Int) + 1 := wr_i (by omega) (by omega)
    have sp : ∀ t : Nat, (t : Int) < (n : Int) + 1 → t = n ∨ (t : Int) < n := fun t ht => by omega
    -- a field's name
    have s34 : (M (A + 20 + n) 0 = 3 ∨ M (A + 20 + n) 0 = 9) → J73_34 f A (n : Int) (A + 20 + n) m = some y → (∃ m', y = .inl ((n : Int) + 1, m') ∧ (n : Int) < s ∧ (0 ≤ (n : Int) + 1 ∧ (n : Int) + 1 ≤ s ∧ fNc A M m' ∧ (∀ t : Nat, (t : Int) < (n : Int) + 1 → ((M (A + 20 + t) 0 = 3 ∨ M (A + 20 + t) 0 = 9) → IX (M A 11) (fun q => M (A + 4) q = M (A + 20 + t) 4) (m' (A + 20 + t) 6)) ∧ ((M (A + 20 + t) 0 = 5 ∨ M (A + 20 + t) 0 = 7) → IX (M A 9) (fun q => M (A + 1) q = M (A + 20 + t) 4) (m' (A + 20 + t) 7) ∧ m' (A + 20 + t) 7 ≠ -1) ∧ (M (A + 20 + t) 0 = 5 → IX (M A 9) (fun q => M (A + 1) q = M (A + 20 + t) 4) (m' (A + 8) (M (A + 20 + t) 6).toNat))) ∧ (∀ t : Nat, t < s → ((n : Int) + 1 ≤ t ∨ ¬ (M (A + 20 + t) 0 = 3 ∨ M (A + 20 + t) 0 = 9)) → m' (A + 20 + t) 6 = M (A + 20 + t) 6) ∧ (∀ q, (∀ t : Nat, t < s → M (A + 20 + t) 0 = 5 → (M (A + 20 + t) 6).toNat ≠ q) → m' (A + 8) q = M (A + 8) q))) := by
      intro hk e
      unfold J73_34 J73_112 at e
      replace e := bP_e e
      obtain ⟨r6, e6, e⟩ := e
      rw [w1] at e
      cases e
      have I6 := F46_r (by omega) (by omega) e6
      rw [m11, c0 4 (by decide) (by decide)] at I6
      have I6' : IX (M A 11) (fun q => M (A + 4) q = M (A + 20 + n) 4) r6 := I6.mp (fun z hz => by rw [i3 (A + 4) z (by omega) (by omega) (by omega)])
      refine ⟨_, rfl, by omega, by omega, by omega, i3.st (by omega) (Or.inl rfl), fun t ht => ?_, fun t ht hh => ?_, fun q hq => ?_⟩
      · rcases sp t ht with rfl | ht'
        · refine ⟨fun _ => by rw [yup_eq]; exact I6', fun hh => by omega, fun hh => by omega⟩
        · obtain ⟨j1, j2, j3⟩ := i4 t ht'
          refine ⟨fun hh => by rw [yup_na (by omega)]; exact j1 hh, fun hh => by rw [yup_na (by omega)]; exact j2 hh, fun hh => by rw [yup_na (by omega)]; exact j3 hh⟩
      · rw [yup_na (by rintro z; have : t = n := by omega
                       subst this; omega)]
        exact i5 t ht (by omega)
      · rw [yup_na (by omega)]; exact i6 q hq
    -- a class's name
    have s66 : (M (A + 20 + n) 0 = 5 ∨ M (A + 20 + n) 0 = 7) → J73_66 f A (n : Int) (A + 20 + n) m = some y → (∃ m', y = .inl ((n : Int) + 1, m') ∧ (n : Int) < s ∧ (0 ≤ (n : Int) + 1 ∧ (n : Int) + 1 ≤ s ∧ fNc A M m' ∧ (∀ t : Nat, (t : Int) < (n : Int) + 1 → ((M (A + 20 + t) 0 = 3 ∨ M (A + 20 + t) 0 = 9) → IX (M A 11) (fun q => M (A + 4) q = M (A + 20 + t) 4) (m' (A + 20 + t) 6)) ∧ ((M (A + 20 + t) 0 = 5 ∨ M (A + 20 + t) 0 = 7) → IX (M A 9) (fun q => M (A + 1) q = M (A + 20 + t) 4) (m' (A + 20 + t) 7) ∧ m' (A + 20 + t) 7 ≠ -1) ∧ (M (A + 20 + t) 0 = 5 → IX (M A 9) (fun q => M (A + 1) q = M (A + 20 + t) 4) (m' (A + 8) (M (A + 20 + t) 6).toNat))) ∧ (∀ t : Nat, t < s → ((n : Int) + 1 ≤ t ∨ ¬ (M (A + 20 + t) 0 = 3 ∨ M (A + 20 + t) 0 = 9)) → m' (A + 20 + t) 6 = M (A + 20 + t) 6) ∧ (∀ q, (∀ t : Nat, t < s → M (A + 20 + t) 0 = 5 → (M (A + 20 + t) 6).toNat ≠ q) → m' (A + 8) q = M (A + 8) q))) ∨ (∃ x, y = .inr (.inr x) ∧ 0 ≤ x.1) := by
      intro hk e
      unfold J73_66 J73_112 at e
      replace e := bP_e e
      obtain ⟨r7, e7, e⟩ := e
      have I7 := F41_r (by omega) (by omega) e7
      rw [m9, c0 4 (by decide) (by decide)] at I7
      have I7' : IX (M A 9) (fun q => M (A + 1) q = M (A + 20 + n) 4) r7 := I7.mp (fun z hz => by rw [i3 (A + 1) z (by omega) (by omega) (by omega)])
      have c6 : m (A + 20 + n) 6 = M (A + 20 + n) 6 := i5 n hn (Or.inr (by omega))
      rw [w1, c0 5 (by decide) (by decide), c0 0 (by decide) (by decide), c6] at e
      rcases ite1 e with ⟨z, e⟩ | ⟨z, e⟩
      · cases e
        exact Or.inr ⟨_, rfl, h5 n hn hk⟩
      left
      rcases ite1 e with ⟨z5, e⟩ | ⟨z5, e⟩
      · cases e
        refine ⟨_, rfl, by omega, by omega, by omega, (i3.st (by omega) (Or.inr rfl)).a8, fun t ht => ?_, fun t ht hh => ?_, fun q hq => ?_⟩
        · rcases sp t ht with rfl | ht'
          · refine ⟨fun hh => by omega, fun _ => ?_, fun _ => ?_⟩
            · rw [yup_na (by omega), yup_eq]; exact ⟨I7', z⟩
            · rw [yup_eq]; exact I7'
          · obtain ⟨j1, j2, j3⟩ := i4 t ht'
            refine ⟨fun hh => by rw [yup_na (by omega), yup_na (by omega)]; exact j1 hh, fun hh => by rw [yup_na (by omega), yup_na (by omega)]; exact j2 hh, fun hh => ?_⟩
            by_cases w : (M (A + 20 + t) 6).toNat = (M (A + 20 + n) 6).toNat
            · rw [w, yup_eq, hU t n (by omega) hn hh z5 w]; exact I7'
            · rw [yup_nk w, yup_na (by omega)]; exact j3 hh
        · rw [yup_na (by omega), yup_ne (by omega)]
          exact i5 t ht (by omega)
        · rw [yup_nk (fun w => hq n hn z5 w.symm), yup_na (by omega)]; exact i6 q hq
      · cases e
        refine ⟨_, rfl, by omega, by omega, by omega, i3.st (by omega) (Or.inr rfl), fun t ht => ?_, fun t ht hh => ?_, fun q hq => ?_⟩
        · rcases sp t ht with rfl | ht'
          · refine ⟨fun hh => by omega, fun _ => ?_, fun hh => by omega⟩
            rw [yup_eq]; exact ⟨I7', z⟩
          · obtain ⟨j1, j2, j3⟩ := i4 t ht'
            exact ⟨fun hh => by rw [yup_na (by omega)]; exact j1 hh, fun hh => by rw [yup_na (by omega)]; exact j2 hh, fun hh => by rw [yup_na (by omega)]; exact j3 hh⟩
        · rw [yup_ne (by omega)]
          exact i5 t ht (by omega)
        · rw [yup_na (by omega)]; exact i6 q hq
    rw [c0 0 (by decide) (by decide)] at e
    rcases ite1 e with ⟨k9, e⟩ | ⟨k9, e⟩
    · exact Or.inl (s34 (Or.inr k9) e)
    rcases ite1 e with ⟨k3, e⟩ | ⟨k3, e⟩
    · exact Or.inl (s34 (Or.inl k3) e)
    rcases ite1 e with ⟨k5, e⟩ | ⟨k5, e⟩
    · rcases s66 (Or.inl k5) e with z | z
      · exact Or.inl z
      · exact Or.inr (Or.inl z)
    rcases ite1 e with ⟨k7, e⟩ | ⟨k7, e⟩
    · rcases s66 (Or.inr k7) e with z | z
      · exact Or.inl z
      · exact Or.inr (Or.inl z)
    unfold J73_112 at e
    rw [w1] at e
    cases e
    refine Or.inl ⟨_, rfl, by omega, by omega, by omega, i3, fun t ht => ?_, fun t ht hh => i5 t ht (by omega), i6⟩
    rcases sp t ht with rfl | ht'
    · exact ⟨fun hh => by omega, fun hh => by omega, fun hh => by omega⟩
    · exact i4 t ht'
  have I0 : (0 ≤ (0 : Int) ∧ (0 : Int) ≤ s ∧ fNc A M M ∧ (∀ t : Nat, (t : Int) < 0 → ((M (A + 20 + t) 0 = 3 ∨ M (A + 20 + t) 0 = 9) → IX (M A 11) (fun q => M (A + 4) q = M (A + 20 + t) 4) (M (A + 20 + t) 6)) ∧ ((M (A + 20 + t) 0 = 5 ∨ M (A + 20 + t) 0 = 7) → IX (M A 9) (fun q => M (A + 1) q = M (A + 20 + t) 4) (M (A + 20 + t) 7) ∧ M (A + 20 + t) 7 ≠ -1) ∧ (M (A + 20 + t) 0 = 5 → IX (M A 9) (fun q => M (A + 1) q = M (A + 20 + t) 4) (M (A + 8) (M (A + 20 + t) 6).toNat))) ∧ (∀ t : Nat, t < s → ((0 : Int) ≤ t ∨ ¬ (M (A + 20 + t) 0 = 3 ∨ M (A + 20 + t) 0 = 9)) → M (A + 20 + t) 6 = M (A + 20 + t) 6) ∧ (∀ q, (∀ t : Nat, t < s → M (A + 20 + t) 0 = 5 → (M (A + 20 + t) 6).toNat ≠ q) → M (A + 8) q = M (A + 8) q)) := ⟨by omega, by omega, fNc.rf, fun t ht => by omega, fun _ _ _ => rfl, fun _ _ => rfl⟩
  rcases bL_e h with ⟨l, m, e1, e2⟩ | ⟨l, m, e1, e2⟩
  · obtain ⟨l', m', hI, e3⟩ := yloop_inv _ (fun l m l' m' hI hB => by
      rcases inv l m _ hI hB with ⟨m2, z, -, z2⟩ | ⟨x, z, -⟩ | ⟨z, -⟩
      · cases z; exact z2
      · cases z
      · cases z) _ _ _ _ I0 e1
    rcases inv l' m' _ hI e3 with ⟨m2, z, -⟩ | ⟨x, z, -⟩ | ⟨z, zl⟩
    · cases z
    · cases z
    · cases z
      obtain ⟨i1, i2, i3, i4, i5, i6⟩ := hI
      replace e2 := bP_e e2
      obtain ⟨v, ev, e2⟩ := e2
      cases e2
      refine ⟨fun t ht => ?_, fun b q z1 z2 z3 => by rw [yup_ne z3]; exact i3 b q z1 z2 z3, ⟨m, by rw [yup_eq]; exact ev, i3⟩, fun q hq => by rw [yup_na (by omega)]; exact i6 q hq⟩
      obtain ⟨j1, j2, j3⟩ := i4 t (by omega)
      have n1 : A + 20 + t ≠ A := by omega
      have n2 : A + 8 ≠ A := by omega
      rw [yup_na n1, yup_na n1, yup_na n2]
      exact ⟨j1, fun hh => i5 t ht (Or.inr hh), j2, j3⟩
  · exfalso
    obtain ⟨l', m', hI, e3⟩ := yloop_inv _ (fun l m l' m' hI hB => by
      rcases inv l m _ hI hB with ⟨m2, z, -, z2⟩ | ⟨x, z, -⟩ | ⟨z, -⟩
      · cases z; exact z2
      · cases z
      · cases z) _ _ _ _ I0 e1
    rcases inv l' m' _ hI e3 with ⟨m2, z, -⟩ | ⟨x, z, z2⟩ | ⟨z, zl⟩
    · cases z
    · cases z
      cases e2
      have : 0 ≤ r := z2
      omega
    · cases z
end RS

/-! FACTS: the class's rows and the model's, side by side. t: 0 variables, 1 fields, 2 calls, 3 methods -/
def cc (t i : Nat) : Nat := if t = 0 then 10 + i else if t = 1 then 73 + i else if t = 2 then 59 + i else 71
def ww (t : Nat) : Nat := if t < 2 then 12 else 10
def fN (t : Nat) : Nat := if t = 0 then 48 else if t = 1 then 96 else if t = 2 then 12 else 1
def FR (G : Nat → Prop) (V : Int) (mc mm : yM) : Prop := (∀ t i j : Nat, t < 4 → i < fN t → j < ww t → mc (cc t i) j = mm (404 + t) (ww t * i + j) ∧ (-1 ≤ mc (cc t i) j ∧ mc (cc t i) j ≤ 2001) ∧ (t < 2 → mc (cc t i) j ≠ -1 → G j) ∧ (t = 0 → mc (cc t i) j ≠ -1 → (i : Int) < V)) ∧ mm 376 45 = mc 8 5 + 1 ∧ 0 ≤ mc 8 5 ∧ mc 8 5 ≤ 2000 ∧ ((mc 8 6 = mc 8 5 + 1 ∧ mm 376 46 = 1) ∨ (mc 8 6 = mc 8 5 ∧ mm 376 46 = 0))
def CF (mc mc' : yM) : Prop := ∀ a q : Nat, 169 ≤ a ∨ (a = 8 ∧ q ≠ 6) → mc' a q = mc a q
def MF (mm mm' : yM) : Prop := ∀ a q : Nat, a < 404 → ¬ (a = 376 ∧ q = 46) → mm' a q = mm a q
def tlc (mc : yM) (a j : Nat) : yM := if mc a j = -1 then yup (yup mc a j (mc 8 5 + 1)) 8 6 (mc 8 5 + 1) else mc
def tlm (mm : yM) (b j : Nat) : yM := if mm b j < 0 then yup (yup mm b j (mm 376 45)) 376 46 1 else mm
/-- between two steps of a round -/
def fL : List (Nat × Nat) := (List.range 4).flatMap (fun t => (List.range (fN t)).flatMap (fun i => (List.range (ww t)).map (fun j => (cc t i, j))))
/-- how many facts are not there -/
def fU (mc : yM) : Nat := fL.countP (fun x => decide (mc x.1 x.2 = -1))
def UB (mc0 mc : yM) : Prop := fU mc ≤ fU mc0 ∧ (mc 8 6 = mc 8 5 + 1 → fU mc < fU mc0)
def FS (G : Nat → Prop) (V : Int) (mc0 mm0 mc mm : yM) : Prop := FR G V mc mm ∧ CF mc0 mc ∧ MF mm0 mm ∧ UB mc0 mc
section FA
variable {G : Nat → Prop} {V : Int} {A p f g : Nat} {mc mm mc' mm' mc0 mm0 : yM}
theorem cc_inj {t t' i i' : Nat} (h1 : t < 4) (h2 : t' < 4) (h3 : i < fN t) (h4 : i' < fN t') (e : cc t i = cc t' i') : t = t' ∧ i = i' := by
  rcases (show t = 0 ∨ t = 1 ∨ t = 2 ∨ t = 3 by omega) with rfl | rfl | rfl | rfl <;> rcases (show t' = 0 ∨ t' = 1 ∨ t' = 2 ∨ t' = 3 by omega) with rfl | rfl | rfl | rfl <;> simp [cc, fN] at h3 h4 e ⊢ <;> omega
theorem cc_rng {t i : Nat} (h1 : t < 4) (h3 : i < fN t) : 10 ≤ cc t i ∧ cc t i < 169 := by
  rcases (show t = 0 ∨ t = 1 ∨ t = 2 ∨ t = 3 by omega) with rfl | rfl | rfl | rfl <;> simp [cc, fN] at h3 ⊢ <;> omega
theorem ww_inj {t i i' j j' : Nat} (h : j < ww t) (h' : j' < ww t) (e : ww t * i + j = ww t * i' + j') : i = i' ∧ j = j' := by
  unfold ww at h h' e
  split at h
  · rw [if_pos ‹_›] at h' e; omega
  · rw [if_neg ‹_›] at h' e; omega
theorem tlc_fr {a j : Nat} (ha : 10 ≤ a ∧ a < 169) : CF mc (tlc mc a j) := by
  intro b q hb
  unfold tlc
  split
  · rw [yup_ne (by omega), yup_na (by omega)]
  · rfl
theorem tlm_fr {b j : Nat} (hb : 404 ≤ b) : MF mm (tlm mm b j) := by
  intro a q ha hq
  unfold tlm
  split
  · rw [yup_ne hq, yup_na (by omega)]
  · rfl
theorem CF.tr {m1 : yM} (h : CF mc m1) (h' : CF m1 mc') : CF mc mc' := fun a q ha => (h' a q ha).trans (h a q ha)
theorem MF.tr {m1 : yM} (h : MF mm m1) (h' : MF m1 mm') : MF mm mm' := fun a q ha hq => (h' a q ha hq).trans (h a q ha hq)
theorem CF.rf : CF mc mc := fun _ _ _ => rfl
theorem MF.rf : MF mm mm := fun _ _ _ _ => rfl
theorem FR.tell {t i j : Nat} (h : FR G V mc mm) (h1 : t < 4) (h3 : i < fN t) (hj : j < ww t) (hG : t < 2 → G j) (hV : t = 0 → (i : Int) < V) : FR G V (tlc mc (cc t i) j) (tlm mm (404 + t) (ww t * i + j)) := by
  have hr := cc_rng h1 h3
  obtain ⟨k1, k2, k3, k4, k5⟩ := h
  obtain ⟨e1, e2, e3⟩ := k1 t i j h1 h3 hj
  unfold tlc tlm
  by_cases z : mc (cc t i) j = -1
  · rw [if_pos z, if_pos (by omega)]
    refine ⟨fun t' i' j' g1 g2 g3 => ?_, ?_, ?_, ?_, Or.inl ⟨?_, ?_⟩⟩
    · have hr' := cc_rng g1 g2
      obtain ⟨d1, d2, d3⟩ := k1 t' i' j' g1 g2 g3
      rw [yup_na (show cc t' i' ≠ 8 by omega), yup_na (show 404 + t' ≠ 376 by omega)]
      by_cases w : cc t' i' = cc t i ∧ j' = j
      · obtain ⟨rfl, rfl⟩ := cc_inj g1 h1 g2 h3 w.1
        obtain rfl := w.2
        rw [yup_eq, yup_eq]
        exact ⟨by omega, by omega, fun h2 _ => hG h2, fun h2 _ => hV h2⟩
      · have w' : ¬ (404 + t' = 404 + t ∧ ww t' * i' + j' = ww t * i + j) := by
          rintro ⟨y1, y2⟩
          obtain rfl : t' = t := by omega
          obtain ⟨rfl, rfl⟩ := ww_inj g3 hj y2
          exact w ⟨rfl, rfl⟩
        rw [yup_ne w, yup_ne w']
        exact ⟨d1, d2, d3⟩
    · rw [yup_nk (by decide), yup_na (by omega), yup_nk (by decide), yup_na (by omega)]; exact k2
    · rw [yup_nk (by decide), yup_na (by omega)]; exact k3
    · rw [yup_nk (by decide), yup_na (by omega)]; exact k4
    · rw [yup_eq, yup_nk (by decide), yup_na (by omega)]
    · rw [yup_eq]
  · rw [if_neg z, if_neg (by omega)]
    exact ⟨k1, k2, k3, k4, k5⟩
theorem cP_le {α : Type} {p q : α → Bool} : ∀ (l : List α), (∀ x, x ∈ l → q x = true → p x = true) → l.countP q ≤ l.countP p := by
  intro l
  induction l with
  | nil => intro _; exact Nat.le_refl _
  | cons x l ih =>
    intro h
    have h1 := ih (fun y hy => h y (List.mem_cons_of_mem _ hy))
    have h2 := h x (List.mem_cons_self ..)
    rw [List.countP_cons, List.countP_cons]
    cases hq : q x with
    | false =>
      simp
      omega
    | true =>
      rw [h2 hq]
      simp
      omega
theorem cP_lt {α : Type} {p q : α → Bool} : ∀ (l : List α), (∀ x, x ∈ l → q x = true → p x = true) → (∃ x, x ∈ l ∧ p x = true ∧ q x = false) → l.countP q < l.countP p := by
  intro l
  induction l with
  | nil => intro _ ⟨x, hx, _⟩; cases hx
  | cons x l ih =>
    intro h ⟨y, hy, hp, hq⟩
    have h0 : ∀ y, y ∈ l → q y = true → p y = true := fun y hy => h y (List.mem_cons_of_mem _ hy)
    rw [List.countP_cons, List.countP_cons]
    rcases List.mem_cons.mp hy with e | e
    · subst e
      have h1 := cP_le l h0
      rw [hp, hq]
      simp
      omega
    · have h1 := ih h0 ⟨y, e, hp, hq⟩
      have h2 := h x (List.mem_cons_self ..)
      cases hqx : q x with
      | false =>
        simp
        omega
      | true =>
        rw [h2 hqx]
        simp
        omega
theorem fL_in {t i j : Nat} (h1 : t < 4) (h3 : i < fN t) (hj : j < ww t) : (cc t i, j) ∈ fL := by
  unfold fL
  rw [List.mem_flatMap]
  refine ⟨t, List.mem_range.mpr h1, ?_⟩
  rw [List.mem_flatMap]
  refine ⟨i, List.mem_range.mpr h3, ?_⟩
  rw [List.mem_map]
  exact ⟨j, List.mem_range.mpr hj, rfl⟩
theorem fL_no8 {x : Nat × Nat} (h : x ∈ fL) : x.1 ≠ 8 := by
  unfold fL at h
  rw [List.mem_flatMap] at h
  obtain ⟨t, ht, h⟩ := h
  rw [List.mem_flatMap] at h
  obtain ⟨i, hi, h⟩ := h
  rw [List.mem_map] at h
  obtain ⟨j, hj, rfl⟩ := h
  have := cc_rng (List.mem_range.mp ht) (List.mem_range.mp hi)
  show cc t i ≠ 8
  omega
theorem fL_len : fL.length = 1858 := by decide +kernel
theorem fU_le : fU mc ≤ 1858 := by
  rw [← fL_len]
  exact List.countP_le_length
theorem fU_eq (h : ∀ x, x ∈ fL → mc' x.1 x.2 = mc x.1 x.2) : fU mc' = fU mc := by
  apply Nat.le_antisymm
  · exact cP_le _ (fun x hx hq => by rw [h x hx] at hq; exact hq)
  · exact cP_le _ (fun x hx hq => by rw [h x hx]; exact hq)
theorem UB.tell {t i j : Nat} (h85 : 0 ≤ mc 8 5) (h : UB mc0 mc) (h1 : t < 4) (h3 : i < fN t) (hj : j < ww t) : UB mc0 (tlc mc (cc t i) j) := by
  unfold tlc
  by_cases z : mc (cc t i) j = -1
  · rw [if_pos z]
    have lt : fU (yup (yup mc (cc t i) j (mc 8 5 + 1)) 8 6 (mc 8 5 + 1)) < fU mc := by
      refine cP_lt _ (fun x hx hq => ?_) ⟨_, fL_in h1 h3 hj, ?_, ?_⟩
      · have hq := of_decide_eq_true hq
        rw [yup_na (fL_no8 hx)] at hq
        refine decide_eq_true ?_
        by_cases w : x.1 = cc t i ∧ x.2 = j
        · rw [w.1, w.2]; exact z
        · rw [yup_ne w] at hq; exact hq
      · exact decide_eq_true z
      · refine decide_eq_false ?_
        have hr := cc_rng h1 h3
        show ¬ (yup (yup mc (cc t i) j (mc 8 5 + 1)) 8 6 (mc 8 5 + 1) (cc t i) j = -1)
        rw [yup_na (by omega), yup_eq]
        omega
    exact ⟨by have := h.1; omega, fun _ => by have := h.1; omega⟩
  · rw [if_neg z]
    exact h
theorem FS.tell {t i j : Nat} (h : FS G V mc0 mm0 mc mm) (h1 : t < 4) (h3 : i < fN t) (hj : j < ww t) (hG : t < 2 → G j) (hV : t = 0 → (i : Int) < V) : FS G V mc0 mm0 (tlc mc (cc t i) j) (tlm mm (404 + t) (ww t * i + j)) := ⟨h.1.tell h1 h3 hj hG hV, h.2.1.tr (tlc_fr (cc_rng h1 h3)), h.2.2.1.tr (tlm_fr (by omega)), h.2.2.2.tell h.1.2.2.1 h1 h3 hj⟩
theorem FR.old {t i j : Nat} (h : FR G V mc mm) (h1 : t < 4) (h3 : i < fN t) (hj : j < ww t) : F78 (mc (cc t i) j) mc = F144 (mm (404 + t) (ww t * i + j)) mm ∧ (F78 (mc (cc t i) j) mc ≠ 0 → t < 2 → G j) := by
  obtain ⟨k1, k2, k3, k4, k5⟩ := h
  obtain ⟨e1, e2, e3⟩ := k1 t i j h1 h3 hj
  rw [← e1]
  unfold F78 F144
  refine ⟨?_, fun hz h2 => e3.1 h2 (fun w => hz (by rw [if_pos w]))⟩
  by_cases z : mc (cc t i) j = -1
  · rw [if_pos z, if_pos (by omega)]
  · rw [if_neg z, if_neg (show ¬ mc (cc t i) j < 0 by omega)]
    by_cases y : mc 8 5 < mc (cc t i) j
    · rw [if_pos y, if_neg (by omega)]
    · rw [if_neg y, if_pos (by omega)]
theorem F79_12_t {a : Nat} {x : Int} (h : 0 ≤ mc 8 5 ∧ mc 8 5 ≤ 2000) (e : F79_12 f a x mc = some mc') : mc' = tlc mc a x.toNat := by
  unfold F79_12 at e
  unfold tlc
  rw [wr_i (by omega) (by omega)] at e
  rcases ite1 e with ⟨q, e⟩ | ⟨q, e⟩
  · cases e; rw [if_pos q]
  · cases e; rw [if_neg q]
theorem F79_10_t {a : Nat} {x : Int} (h : 0 ≤ mc 8 5 ∧ mc 8 5 ≤ 2000) (e : F79_10 f a x mc = some mc') : mc' = tlc mc a x.toNat := by
  unfold F79_10 at e
  unfold tlc
  rw [wr_i (by omega) (by omega)] at e
  rcases ite1 e with ⟨q, e⟩ | ⟨q, e⟩
  · cases e; rw [if_pos q]
  · cases e; rw [if_neg q]
theorem ix12 {v x : Nat} (hv : v < 48) (hx : x ≤ 12) : (wr ((wr (12 * (v : Int))) + (x : Int))).toNat = 12 * v + x := by
  rw [wr_i (x := 12 * (v : Int)) (by omega) (by omega), wr_i (by omega) (by omega)]; omega
theorem F145_t {v x : Nat} (hv : v < 48) (hx : x < 12) (e : F145 g (v : Int) (x : Int) mm = some mm') : mm' = tlm mm 404 (12 * v + x) := by
  unfold F145 at e
  unfold tlm
  rw [ix12 hv (by omega)] at e
  rcases ite1 e with ⟨q, e⟩ | ⟨q, e⟩
  · cases e; rw [if_pos q]
  · cases e; rw [if_neg q]
/-- two loops side by side -/
theorem yl2 {α β γ δ : Type} {B1 : α → yM → Option ((α × yM) ⊕ ((α × yM) ⊕ (γ × yM)))} {B2 : β → yM → Option ((β × yM) ⊕ ((β × yM) ⊕ (δ × yM)))} (R : α → yM → β → yM → Prop) (E : (α × yM) ⊕ (γ × yM) → (β × yM) ⊕ (δ × yM) → Prop) (hB : ∀ l m l' m' y y', R l m l' m' → B1 l m = some y → B2 l' m' = some y' → (∃ l1 m1 l2 m2, y = .inl (l1, m1) ∧ y' = .inl (l2, m2) ∧ R l1 m1 l2 m2) ∨ (∃ x x', y = .inr x ∧ y' = .inr x' ∧ E x x')) : ∀ (f g : Nat) (l : α) (m : yM) (l' : β) (m' : yM) (r : (α × yM) ⊕ (γ × yM)) (r' : (β × yM) ⊕ (δ × yM)), R l m l' m' → yloop B1 f l m = some r → yloop B2 g l' m' = some r' → E r r' := by
  intro f
  induction f with
  | zero => intro g l m l' m' r r' _ h; cases h
  | succ f ih =>
    intro g l m l' m' r r' hR h h'
    obtain ⟨f1, hf, h1⟩ := yloop_s h
    obtain rfl : f = f1 := by omega
    obtain ⟨g1, hg, h2⟩ := yloop_s h'
    rcases h1 with ⟨l1, m1, a1, a2⟩ | a1
    · rcases h2 with ⟨l2, m2, b1, b2⟩ | b1
      · rcases hB _ _ _ _ _ _ hR a1 b1 with ⟨u1, u2, u3, u4, w1, w2, w3⟩ | ⟨x, x', w1, -⟩
        · cases w1; cases w2
          exact ih _ _ _ _ _ _ _ w3 a2 b2
        · cases w1
      · rcases hB _ _ _ _ _ _ hR a1 b1 with ⟨u1, u2, u3, u4, w1, w2, w3⟩ | ⟨x, x', w1, -⟩
        · cases w2
        · cases w1
    · rcases h2 with ⟨l2, m2, b1, b2⟩ | b1
      · rcases hB _ _ _ _ _ _ hR a1 b1 with ⟨u1, u2, u3, u4, w1, w2, w3⟩ | ⟨x, x', w1, w2, w3⟩
        · cases w1
        · cases w2
      · rcases hB _ _ _ _ _ _ hR a1 b1 with ⟨u1, u2, u3, u4, w1, w2, w3⟩ | ⟨x, x', w1, w2, w3⟩
        · cases w1
        · cases w1; cases w2
          exact w3
/-- what a fact's row holds goes to another row. Bm: the model's loop for it -/
theorem copy_r {t i t' i' n : Nat} {Bm : Int → yM → Option ((Int × yM) ⊕ ((Int × yM) ⊕ (Unit × yM)))} {F H : Nat} {rc rm : (Int × yM) ⊕ (Unit × yM)} (hA : A = 256 ∨ A = 316) (h : FS G V mc0 mm0 mc mm) (h1 : t < 2) (h2 : i < fN t) (h3 : t' < 2) (h4 : i' < fN t') (hV : t' = 0 → (i' : Int) < V) (hn : mc0 A 14 = n) (hn2 : n ≤ 12) (hB : ∀ (l : Nat) (m : yM) y, l ≤ n → MF mm0 m → Bm (l : Int) m = some y → (l = n ∧ y = .inr (.inl ((l : Int), m))) ∨ (l < n ∧ F144 (m (404 + t) (12 * i + l)) m = 0 ∧ y = .inl (((l + 1 : Nat) : Int), m)) ∨ (l < n ∧ F144 (m (404 + t) (12 * i + l)) m ≠ 0 ∧ y = .inl (((l + 1 : Nat) : Int), tlm m (404 + t') (12 * i' + l)))) (e1 : yloop (fun (l : Int) ml => B80_12_12_2 f A (cc t i) (cc t' i') l ml) F 0 mc = some rc) (e2 : yloop Bm H 0 mm = some rm) : ∃ l m l' m', rc = .inl (l, m) ∧ rm = .inl (l', m') ∧ FS G V mc0 mm0 m m' := by
  have w1 : ww t = 12 := by unfold ww; rw [if_pos h1]
  have w2 : ww t' = 12 := by unfold ww; rw [if_pos h3]
  refine yl2 (fun (l : Int) m (l' : Int) m' => ∃ k : Nat, l = k ∧ l' = k ∧ k ≤ n ∧ FS G V mc0 mm0 m m') (fun r r' => ∃ l m l' m', r = .inl (l, m) ∧ r' = .inl (l', m') ∧ FS G V mc0 mm0 m m') (fun l m l' m' y y' hR a1 a2 => ?_) F H 0 mc 0 mm rc rm ⟨0, rfl, rfl, by omega, h⟩ e1 e2
  obtain ⟨k, rfl, rfl, hk, hS⟩ := hR
  have m14 : m A 14 = n := by rw [hS.2.1 A 14 (by omega)]; exact hn
  have m85 : 0 ≤ m 8 5 ∧ m 8 5 ≤ 2000 := ⟨hS.1.2.2.1, hS.1.2.2.2.1⟩
  have k1 : wr ((k : Int) + 1) = ((k + 1 : Nat) : Int) := by rw [wr_i (by omega) (by omega)]; omega
  simp only [B80_12_12_2, J80_12_12_29, m14, Int.toNat_natCast, k1] at a1
  rcases hB k m' y' hk hS.2.2.1 a2 with ⟨z1, z2⟩ | ⟨z1, z2, z3⟩ | ⟨z1, z2, z3⟩
  · rw [if_neg (by omega)] at a1
    cases a1
    exact Or.inr ⟨_, _, rfl, z2, _, _, _, _, rfl, rfl, hS⟩
  · have ho := hS.1.old (t := t) (i := i) (j := k) (by omega) h2 (by omega)
    rw [w1, z2] at ho
    rw [if_pos (by omega), if_pos ho.1] at a1
    cases a1
    exact Or.inl ⟨_, _, _, _, rfl, z3, k + 1, rfl, rfl, by omega, hS⟩
  · have ho := hS.1.old (t := t) (i := i) (j := k) (by omega) h2 (by omega)
    rw [w1] at ho
    have hz : F78 (m (cc t i) k) m ≠ 0 := by rw [ho.1]; exact z2
    rw [if_pos (by omega), if_neg hz] at a1
    replace a1 := bU_e a1
    obtain ⟨m3, a3, a1⟩ := a1
    cases a1
    have e3 := F79_12_t m85 a3
    rw [Int.toNat_natCast] at e3
    subst e3
    have T := hS.tell (t := t') (i := i') (j := k) (by omega) h4 (by omega) (fun _ => ho.2 hz h1) hV
    rw [w2] at T
    exact Or.inl ⟨_, _, _, _, rfl, z3, k + 1, rfl, rfl, by omega, T⟩
/-- the class's loop, whole -/
theorem F80_e {a1 a2 : Nat} (h : F80_12_12 f A a1 a2 mc = some mc') : ∃ r, yloop (fun (l : Int) ml => B80_12_12_2 f A a1 a2 l ml) f 0 mc = some r ∧ (∀ l m, r = .inl (l, m) → mc' = m) := by
  unfold F80_12_12 at h
  rcases bL_e h with ⟨l, m, e1, e2⟩ | ⟨l, m, e1, e2⟩
  · cases e2
    exact ⟨_, e1, fun l m e => by cases e; rfl⟩
  · exact ⟨_, e1, fun l m e => by cases e⟩
/-- a variable's sites go to another -/
theorem tellAll_r {u v n : Nat} (hA : A = 256 ∨ A = 316) (h : FS G V mc0 mm0 mc mm) (hu : u < 48) (hv : v < 48) (hvV : (v : Int) < V) (hn : mc0 A 14 = n) (hn2 : n ≤ 12) (hp : mm0 376 18 = p) (h388 : mm0 388 p = n) (e1 : F80_12_12 f A (10 + u) (10 + v) mc = some mc') (e2 : F146 g (v : Int) (u : Int) mm = some mm') : FS G V mc0 mm0 mc' mm' := by
  obtain ⟨r, e3, e4⟩ := F80_e e1
  have key : ∃ r', yloop (fun (l : Int) ml => B146_2 g (v : Int) (u : Int) l ml) g 0 mm = some r' ∧ (∀ l m, r' = .inl (l, m) → mm' = m) := by
    unfold F146 at e2
    rcases bL_e e2 with ⟨l, m, d1, d2⟩ | ⟨l, m, d1, d2⟩
    · cases d2
      exact ⟨_, d1, fun l m e => by cases e; rfl⟩
    · exact ⟨_, d1, fun l m e => by cases e⟩
  obtain ⟨r', e5, e6⟩ := key
  obtain ⟨l, m, l', m', z1, z2, z3⟩ := copy_r (t := 0) (i := u) (t' := 0) (i' := v) hA h (by decide) (by simp [fN]; omega) (by decide) (by simp [fN]; omega) (fun _ => hvV) hn hn2 (fun l m y hl hF e => by
    unfold B146_2 J146_39 at e
    have k18 : m 376 18 = p := by rw [hF 376 18 (by decide) (by decide)]; exact hp
    have k388 : m 388 p = n := by rw [hF 388 p (by decide) (by omega)]; exact h388
    have k1 : wr ((l : Int) + 1) = ((l + 1 : Nat) : Int) := by rw [wr_i (by omega) (by omega)]; omega
    rw [k18, Int.toNat_natCast, k388, ix12 hu (by omega), k1] at e
    rcases ite1 e with ⟨q, e⟩ | ⟨q, e⟩
    · right
      rcases ite1 e with ⟨q2, e⟩ | ⟨q2, e⟩
      · cases e
        exact Or.inl ⟨by omega, q2, rfl⟩
      · replace e := bU_e e
        obtain ⟨m3, e3, e⟩ := e
        cases e
        have := F145_t hv (by omega) e3
        subst this
        exact Or.inr ⟨by omega, q2, rfl⟩
    · cases e
      exact Or.inl ⟨by omega, rfl⟩) e3 e5
  have := e4 _ _ z1
  subst this
  have := e6 _ _ z2
  subst this
  exact z3
end FA

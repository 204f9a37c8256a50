/-! THE RULES: an instruction each -/
section YR1
variable {Z : yZ} {i d pc pc' w a b : Nat} {ls ls' : xL} {st st' : List Value} {m m' : yM} {n n' : Nat} {Q : xO → yM → Nat → Prop} {o : xI}
theorem YW.go (ho : zP Z i pc = some o) (hs : ∀ h, yLay Z m n h → ∃ h', zStp Z o pc ls st h = some (.inl (pc', ls', st', h')) ∧ yLay Z m' n' h') (k : YW Z i d pc' ls' st' m' n' Q) : YW Z i d pc ls st m n Q := by
  intro h hL
  obtain ⟨h', hs', hL'⟩ := hs h hL
  obtain ⟨r, h'', m'', n'', hx, hl, hq⟩ := k h' hL'
  exact ⟨r, h'', m'', n'', XR.go ho hs' hx, hl, hq⟩
theorem YW.gp (ho : zP Z i pc = some o) (hs : ∀ h, zStp Z o pc ls st h = some (.inl (pc', ls', st', h))) (k : YW Z i d pc' ls' st' m n Q) : YW Z i d pc ls st m n Q := YW.go ho (fun h hL => ⟨h, hs h, hL⟩) k
theorem YW.mono {Q' : xO → yM → Nat → Prop} (k : YW Z i d pc ls st m n Q) (hq : ∀ r m' n', Q r m' n' → Q' r m' n') : YW Z i d pc ls st m n Q' := by
  intro h hL
  obtain ⟨r, h', m', n', hx, hl, q⟩ := k h hL
  exact ⟨r, h', m', n', hx, hl, hq _ _ _ q⟩
theorem YC.mono {j : Nat} {as : List Value} {Q' : xO → yM → Nat → Prop} (k : YC Z d j as m n Q) (hq : ∀ r m' n', Q r m' n' → Q' r m' n') : YC Z d j as m n Q' := by
  intro h hL
  obtain ⟨r, h', m', n', hx, hl, q⟩ := k h hL
  exact ⟨r, h', m', n', hx, hl, hq _ _ _ q⟩
theorem YC.mk {j : Nat} {as : List Value} {ls0 : xL} (he : xent as (zMx Z j) = ls0) (hn : ls0.length = zMx Z j) (k : YW Z j d 0 ls0 [] m n Q) : YC Z d j as m n Q := by
  intro h hL
  obtain ⟨r, h', m', n', hx, hl, q⟩ := k h hL
  subst he
  exact ⟨r, h', m', n', ⟨hn, hx⟩, hl, q⟩
theorem y_iconst (pc' : Nat) {v : Int} (ho : zP Z i pc = some (.iconst v, w, a, b)) (hp : pc + w = pc') (k : YW Z i d pc' ls (yI v :: st) m n Q) : YW Z i d pc ls st m n Q := YW.gp ho (fun _ => by subst hp; rfl) k
theorem y_lconst (pc' : Nat) {v : Int} (ho : zP Z i pc = some (.goto_w v, w, a, b)) (hp : pc + w = pc') (k : YW Z i d pc' ls (.long (Int64.ofInt v) :: st) m n Q) : YW Z i d pc ls st m n Q := YW.gp ho (fun _ => by subst hp; rfl) k
theorem y_ldc (pc' : Nat) {v : Nat} (ho : zP Z i pc = some (.ldc v, w, a, b)) (hp : pc + w = pc') (hv : v < (zLit Z).length) (k : YW Z i d pc' ls (.retAddr (2 * v + 1) :: st) m n Q) : YW Z i d pc ls st m n Q := YW.gp ho (fun _ => by subst hp; exact if_pos hv) k
theorem y_static0 (pc' : Nat) (ho : zP Z i pc = some (.getstatic 0, w, a, b)) (hp : pc + w = pc') (k : YW Z i d pc' ls (yI 1 :: st) m n Q) : YW Z i d pc ls st m n Q := YW.gp ho (fun _ => by subst hp; rfl) k
theorem y_static1 (pc' : Nat) (ho : zP Z i pc = some (.getstatic 1, w, a, b)) (hp : pc + w = pc') (k : YW Z i d pc' ls (.float 0 :: st) m n Q) : YW Z i d pc ls st m n Q := YW.gp ho (fun _ => by subst hp; rfl) k
theorem y_text (pc' : Nat) {j : Nat} (ho : zP Z i pc = some (.saload, w, a, b)) (hp : pc + w = pc') (hj : j % 2 = 0 ∧ j / 2 < (zLit Z).length) (k : YW Z i d pc' ls (.retAddr (j + 2) :: st) m n Q) : YW Z i d pc ls (.retAddr (j + 1) :: st) m n Q := YW.gp ho (fun _ => by subst hp; exact if_pos hj) k
theorem y_coder (pc' : Nat) {j : Nat} (ho : zP Z i pc = some (.sastore, w, a, b)) (hp : pc + w = pc') (hj : j % 2 = 0 ∧ j / 2 < (zLit Z).length) (k : YW Z i d pc' ls (yI 0 :: st) m n Q) : YW Z i d pc ls (.retAddr (j + 1) :: st) m n Q := YW.gp ho (fun _ => by subst hp; exact if_pos hj) k
theorem y_iload (pc' : Nat) {q : Nat} {x : Int} (ho : zP Z i pc = some (.iload q, w, a, b)) (hp : pc + w = pc') (hl : ls[q]? = some (some (yI x))) (k : YW Z i d pc' ls (yI x :: st) m n Q) : YW Z i d pc ls st m n Q := YW.gp ho (fun _ => by subst hp; simp only [zStp, xstep, hl, yI]; rfl) k
theorem y_lload (pc' : Nat) {q : Nat} {x : Int64} (ho : zP Z i pc = some (.lload q, w, a, b)) (hp : pc + w = pc') (hl : ls[q]? = some (some (.long x))) (k : YW Z i d pc' ls (.long x :: st) m n Q) : YW Z i d pc ls st m n Q := YW.gp ho (fun _ => by subst hp; simp only [zStp, xstep, hl]; rfl) k
theorem y_aload (pc' : Nat) {q : Nat} {v : Value} (ho : zP Z i pc = some (.aload q, w, a, b)) (hp : pc + w = pc') (hl : ls[q]? = some (some v)) (hv : xref v = true) (k : YW Z i d pc' ls (v :: st) m n Q) : YW Z i d pc ls st m n Q := YW.gp ho (fun _ => by subst hp; simp only [zStp, xstep, hl, hv]; rfl) k
theorem y_istore (pc' : Nat) {q : Nat} {x : Int} (ho : zP Z i pc = some (.istore q, w, a, b)) (hp : pc + w = pc') (hl : xset ls q (yI x) = some ls') (k : YW Z i d pc' ls' st m n Q) : YW Z i d pc ls (yI x :: st) m n Q := YW.gp ho (fun _ => by subst hp; simp only [zStp, xstep, yI] at hl ⊢; simp only [hl]; rfl) k
theorem y_astore (pc' : Nat) {q : Nat} {v : Value} (ho : zP Z i pc = some (.astore q, w, a, b)) (hp : pc + w = pc') (hv : xref v = true) (hl : xset ls q v = some ls') (k : YW Z i d pc' ls' st m n Q) : YW Z i d pc ls (v :: st) m n Q := YW.gp ho (fun _ => by subst hp; simp only [zStp, xstep, hv, hl]; rfl) k
theorem y_iinc (pc' : Nat) {q : Nat} {x c : Int} (ho : zP Z i pc = some (.iinc q c, w, a, b)) (hp : pc + w = pc') (hl : ls[q]? = some (some (yI x))) (hs : xset ls q (yI (x + c)) = some ls') (k : YW Z i d pc' ls' st m n Q) : YW Z i d pc ls st m n Q := YW.gp ho (fun _ => by subst hp; simp only [yI, Int32.ofInt_add] at hs; simp only [zStp, xstep, hl, yI, hs]; rfl) k
theorem yI_add (x y : Int) : yI (x + y) = .int (Int32.ofInt x + Int32.ofInt y) := by simp [yI]
theorem yI_sub (x y : Int) : yI (x - y) = .int (Int32.ofInt x - Int32.ofInt y) := by simp [yI]
theorem yI_mul (x y : Int) : yI (x * y) = .int (Int32.ofInt x * Int32.ofInt y) := by simp [yI]
theorem y_iadd (pc' : Nat) {x y : Int} (ho : zP Z i pc = some (.iadd, w, a, b)) (hp : pc + w = pc') (k : YW Z i d pc' ls (yI (x + y) :: st) m n Q) : YW Z i d pc ls (yI y :: yI x :: st) m n Q := YW.gp ho (fun _ => by subst hp; rw [yI_add]; rfl) k
theorem y_isub (pc' : Nat) {x y : Int} (ho : zP Z i pc = some (.isub, w, a, b)) (hp : pc + w = pc') (k : YW Z i d pc' ls (yI (x - y) :: st) m n Q) : YW Z i d pc ls (yI y :: yI x :: st) m n Q := YW.gp ho (fun _ => by subst hp; rw [yI_sub]; rfl) k
theorem y_imul (pc' : Nat) {x y : Int} (ho : zP Z i pc = some (.imul, w, a, b)) (hp : pc + w = pc') (k : YW Z i d pc' ls (yI (x * y) :: st) m n Q) : YW Z i d pc ls (yI y :: yI x :: st) m n Q := YW.gp ho (fun _ => by subst hp; rw [yI_mul]; rfl) k
theorem y_back (x : Int32) : yI x.toInt = .int x := by simp [yI]
theorem y_iand (pc' : Nat) {x y : Int} (ho : zP Z i pc = some (.iand, w, a, b)) (hp : pc + w = pc') (k : YW Z i d pc' ls (yI (Int32.ofInt x &&& Int32.ofInt y).toInt :: st) m n Q) : YW Z i d pc ls (yI y :: yI x :: st) m n Q := YW.gp ho (fun _ => by subst hp; rw [y_back]; rfl) k
theorem y_ior (pc' : Nat) {x y : Int} (ho : zP Z i pc = some (.ior, w, a, b)) (hp : pc + w = pc') (k : YW Z i d pc' ls (yI (Int32.ofInt x ||| Int32.ofInt y).toInt :: st) m n Q) : YW Z i d pc ls (yI y :: yI x :: st) m n Q := YW.gp ho (fun _ => by subst hp; rw [y_back]; rfl) k
theorem y_ishl (pc' : Nat) {x y : Int} (ho : zP Z i pc = some (.ishl, w, a, b)) (hp : pc + w = pc') (k : YW Z i d pc' ls (yI (Int32.ofInt x <<< (Int32.ofInt y &&& 31)).toInt :: st) m n Q) : YW Z i d pc ls (yI y :: yI x :: st) m n Q := YW.gp ho (fun _ => by subst hp; rw [y_back]; rfl) k
theorem y_ishr (pc' : Nat) {x y : Int} (ho : zP Z i pc = some (.ishr, w, a, b)) (hp : pc + w = pc') (k : YW Z i d pc' ls (yI (Int32.ofInt x >>> (Int32.ofInt y &&& 31)).toInt :: st) m n Q) : YW Z i d pc ls (yI y :: yI x :: st) m n Q := YW.gp ho (fun _ => by subst hp; rw [y_back]; rfl) k
theorem y_land (pc' : Nat) {x y : Int64} (ho : zP Z i pc = some (.land, w, a, b)) (hp : pc + w = pc') (k : YW Z i d pc' ls (.long (x &&& y) :: st) m n Q) : YW Z i d pc ls (.long y :: .long x :: st) m n Q := YW.gp ho (fun _ => by subst hp; rfl) k
theorem y_lor (pc' : Nat) {x y : Int64} (ho : zP Z i pc = some (.lor, w, a, b)) (hp : pc + w = pc') (k : YW Z i d pc' ls (.long (x ||| y) :: st) m n Q) : YW Z i d pc ls (.long y :: .long x :: st) m n Q := YW.gp ho (fun _ => by subst hp; rfl) k
theorem y_lushr (pc' : Nat) {x : Int64} {y : Int} (ho : zP Z i pc = some (.lushr, w, a, b)) (hp : pc + w = pc') (k : YW Z i d pc' ls (.long (x.toUInt64 >>> ((Int32.ofInt y).toInt64.toUInt64 &&& Int64.toUInt64 63)).toInt64 :: st) m n Q) : YW Z i d pc ls (yI y :: .long x :: st) m n Q := YW.gp ho (fun _ => by subst hp; rfl) k
theorem y_lshl (pc' : Nat) {x : Int64} {y : Int} (ho : zP Z i pc = some (.lshl, w, a, b)) (hp : pc + w = pc') (k : YW Z i d pc' ls (.long (x <<< ((Int32.ofInt y).toInt64 &&& 63)) :: st) m n Q) : YW Z i d pc ls (yI y :: .long x :: st) m n Q := YW.gp ho (fun _ => by subst hp; rfl) k
theorem y_lshr (pc' : Nat) {x : Int64} {y : Int} (ho : zP Z i pc = some (.lshr, w, a, b)) (hp : pc + w = pc') (k : YW Z i d pc' ls (.long (x >>> ((Int32.ofInt y).toInt64 &&& 63)) :: st) m n Q) : YW Z i d pc ls (yI y :: .long x :: st) m n Q := YW.gp ho (fun _ => by subst hp; rfl) k
theorem y_lcmp (pc' : Nat) {x y : Int64} (ho : zP Z i pc = some (.lcmp, w, a, b)) (hp : pc + w = pc') (k : YW Z i d pc' ls (yI (lg_cmp x y).toInt :: st) m n Q) : YW Z i d pc ls (.long y :: .long x :: st) m n Q := YW.gp ho (fun _ => by subst hp; rw [y_back]; rfl) k
theorem y_i2l (pc' : Nat) {x : Int} (ho : zP Z i pc = some (.i2l, w, a, b)) (hp : pc + w = pc') (k : YW Z i d pc' ls (.long (Int32.ofInt x).toInt64 :: st) m n Q) : YW Z i d pc ls (yI x :: st) m n Q := YW.gp ho (fun _ => by subst hp; rfl) k
theorem y_l2i (pc' : Nat) {x : Int64} (ho : zP Z i pc = some (.l2i, w, a, b)) (hp : pc + w = pc') (k : YW Z i d pc' ls (yI x.toInt32.toInt :: st) m n Q) : YW Z i d pc ls (.long x :: st) m n Q := YW.gp ho (fun _ => by subst hp; rw [y_back]; rfl) k
theorem y_i2c (pc' : Nat) {x : Int} (ho : zP Z i pc = some (.i2c, w, a, b)) (hp : pc + w = pc') (k : YW Z i d pc' ls (yI ((Int32.ofInt x).toUInt32 % 65536).toInt32.toInt :: st) m n Q) : YW Z i d pc ls (yI x :: st) m n Q := YW.gp ho (fun _ => by subst hp; rw [y_back]; rfl) k
theorem y_dup (pc' : Nat) {v : Value} (ho : zP Z i pc = some (.dup, w, a, b)) (hp : pc + w = pc') (hv : v.category = 1) (k : YW Z i d pc' ls (v :: v :: st) m n Q) : YW Z i d pc ls (v :: st) m n Q := YW.gp ho (fun _ => by subst hp; exact if_pos hv) k
theorem y_dup2 (pc' : Nat) {v u : Value} (ho : zP Z i pc = some (.dup2, w, a, b)) (hp : pc + w = pc') (hv : v.category = 1 ∧ u.category = 1) (k : YW Z i d pc' ls (v :: u :: v :: u :: st) m n Q) : YW Z i d pc ls (v :: u :: st) m n Q := YW.gp ho (fun _ => by subst hp; exact if_pos hv) k
theorem y_pop (pc' : Nat) {v : Value} (ho : zP Z i pc = some (.pop, w, a, b)) (hp : pc + w = pc') (hv : v.category = 1) (k : YW Z i d pc' ls st m n Q) : YW Z i d pc ls (v :: st) m n Q := YW.gp ho (fun _ => by subst hp; exact if_pos hv) k
theorem y_goto (pc' : Nat) {t : Int} (ho : zP Z i pc = some (.goto t, w, a, b)) (hp : t.toNat = pc') (k : YW Z i d pc' ls st m n Q) : YW Z i d pc ls st m n Q := YW.gp ho (fun _ => by subst hp; rfl) k
theorem y_if (pt pc' : Nat) {c : ClassFile.Cond} {t x : Int} {φ : Prop} (ho : zP Z i pc = some (.ifCond c t, w, a, b)) (ht : t.toNat = pt) (hp : pc + w = pc') (hφ : xcmp c (Int32.ofInt x) 0 = true ↔ φ) (k1 : φ → YW Z i d pt ls st m n Q) (k2 : ¬ φ → YW Z i d pc' ls st m n Q) : YW Z i d pc ls (yI x :: st) m n Q := by
  subst ht
  subst hp
  by_cases hc : φ
  · exact YW.gp ho (fun _ => if_pos (hφ.mpr hc)) (k1 hc)
  · exact YW.gp ho (fun _ => if_neg (fun q => hc (hφ.mp q))) (k2 hc)
theorem y_icmp (pt pc' : Nat) {c : ClassFile.Cond} {t x y : Int} {φ : Prop} (ho : zP Z i pc = some (.if_icmp c t, w, a, b)) (ht : t.toNat = pt) (hp : pc + w = pc') (hφ : xcmp c (Int32.ofInt x) (Int32.ofInt y) = true ↔ φ) (k1 : φ → YW Z i d pt ls st m n Q) (k2 : ¬ φ → YW Z i d pc' ls st m n Q) : YW Z i d pc ls (yI y :: yI x :: st) m n Q := by
  subst ht
  subst hp
  by_cases hc : φ
  · exact YW.gp ho (fun _ => if_pos (hφ.mpr hc)) (k1 hc)
  · exact YW.gp ho (fun _ => if_neg (fun q => hc (hφ.mp q))) (k2 hc)
theorem y_rng {x : Int} (hx : -2147483648 ≤ x ∧ x < 2147483648) : (Int32.ofInt x).toInt = x := Int32.toInt_ofInt_of_le (by omega) (by omega)
theorem yc_eq {x y : Int} (hx : -2147483648 ≤ x ∧ x < 2147483648) (hy : -2147483648 ≤ y ∧ y < 2147483648) : xcmp .eq (Int32.ofInt x) (Int32.ofInt y) = true ↔ x = y := by
  unfold xcmp
  rw [decide_eq_true_iff, ← Int32.toInt_inj, y_rng hx, y_rng hy]
theorem yc_ne {x y : Int} (hx : -2147483648 ≤ x ∧ x < 2147483648) (hy : -2147483648 ≤ y ∧ y < 2147483648) : xcmp .ne (Int32.ofInt x) (Int32.ofInt y) = true ↔ ¬ x = y := by
  unfold xcmp
  rw [decide_eq_true_iff, ← Int32.toInt_inj, y_rng hx, y_rng hy]
theorem yc_lt {x y : Int} (hx : -2147483648 ≤ x ∧ x < 2147483648) (hy : -2147483648 ≤ y ∧ y < 2147483648) : xcmp .lt (Int32.ofInt x) (Int32.ofInt y) = true ↔ x < y := by
  unfold xcmp
  rw [decide_eq_true_iff, Int32.lt_iff_toInt_lt, y_rng hx, y_rng hy]
theorem yc_ge {x y : Int} (hx : -2147483648 ≤ x ∧ x < 2147483648) (hy : -2147483648 ≤ y ∧ y < 2147483648) : xcmp .ge (Int32.ofInt x) (Int32.ofInt y) = true ↔ y ≤ x := by
  unfold xcmp
  rw [decide_eq_true_iff, Int32.le_iff_toInt_le, y_rng hx, y_rng hy]
theorem yc_gt {x y : Int} (hx : -2147483648 ≤ x ∧ x < 2147483648) (hy : -2147483648 ≤ y ∧ y < 2147483648) : xcmp .gt (Int32.ofInt x) (Int32.ofInt y) = true ↔ y < x := by
  unfold xcmp
  rw [decide_eq_true_iff, Int32.lt_iff_toInt_lt, y_rng hx, y_rng hy]
theorem yc_le {x y : Int} (hx : -2147483648 ≤ x ∧ x < 2147483648) (hy : -2147483648 ≤ y ∧ y < 2147483648) : xcmp .le (Int32.ofInt x) (Int32.ofInt y) = true ↔ x ≤ y := by
  unfold xcmp
  rw [decide_eq_true_iff, Int32.le_iff_toInt_le, y_rng hx, y_rng hy]
theorem yz_eq {x : Int} (hx : -2147483648 ≤ x ∧ x < 2147483648) : xcmp .eq (Int32.ofInt x) 0 = true ↔ x = 0 := yc_eq hx (y := 0) (by omega)
theorem yz_ne {x : Int} (hx : -2147483648 ≤ x ∧ x < 2147483648) : xcmp .ne (Int32.ofInt x) 0 = true ↔ ¬ x = 0 := yc_ne hx (y := 0) (by omega)
theorem yz_lt {x : Int} (hx : -2147483648 ≤ x ∧ x < 2147483648) : xcmp .lt (Int32.ofInt x) 0 = true ↔ x < 0 := yc_lt hx (y := 0) (by omega)
theorem yz_ge {x : Int} (hx : -2147483648 ≤ x ∧ x < 2147483648) : xcmp .ge (Int32.ofInt x) 0 = true ↔ 0 ≤ x := yc_ge hx (y := 0) (by omega)
theorem yz_gt {x : Int} (hx : -2147483648 ≤ x ∧ x < 2147483648) : xcmp .gt (Int32.ofInt x) 0 = true ↔ 0 < x := yc_gt hx (y := 0) (by omega)
theorem yz_le {x : Int} (hx : -2147483648 ≤ x ∧ x < 2147483648) : xcmp .le (Int32.ofInt x) 0 = true ↔ x ≤ 0 := yc_le hx (y := 0) (by omega)
theorem y_idiv (pc' : Nat) {x y : Int} (ho : zP Z i pc = some (.idiv, w, a, b)) (hp : pc + w = pc') (hx : 0 ≤ x ∧ x < 2147483648) (hy : 0 < y ∧ y < 2147483648) (k : YW Z i d pc' ls (yI (x / y) :: st) m n Q) : YW Z i d pc ls (yI y :: yI x :: st) m n Q := by
  subst hp
  refine YW.gp ho (fun _ => ?_) k
  have h0 : ¬ (Int32.ofInt y = 0) := fun q => by
    have := congrArg Int32.toInt q
    rw [y_rng (by omega)] at this
    simp at this
    omega
  have e : Int32.ofInt x / Int32.ofInt y = Int32.ofInt (x / y) := by
    rw [← Int.tdiv_eq_ediv_of_nonneg hx.1]
    exact (Int32.ofInt_tdiv (by have : Int32.minValue.toInt = -2147483648 := rfl; omega) (by have : Int32.maxValue.toInt = 2147483647 := rfl; omega) (by have : Int32.minValue.toInt = -2147483648 := rfl; omega) (by have : Int32.maxValue.toInt = 2147483647 := rfl; omega)).symm
  show (if Int32.ofInt y = 0 then none else _) = _
  rw [if_neg h0, e]
  rfl
theorem y_irem (pc' : Nat) {x y : Int} (ho : zP Z i pc = some (.irem, w, a, b)) (hp : pc + w = pc') (hx : 0 ≤ x ∧ x < 2147483648) (hy : 0 < y ∧ y < 2147483648) (k : YW Z i d pc' ls (yI (x % y) :: st) m n Q) : YW Z i d pc ls (yI y :: yI x :: st) m n Q := by
  subst hp
  refine YW.gp ho (fun _ => ?_) k
  have h0 : ¬ (Int32.ofInt y = 0) := fun q => by
    have := congrArg Int32.toInt q
    rw [y_rng (by omega)] at this
    simp at this
    omega
  have e : Int32.ofInt x - Int32.ofInt x / Int32.ofInt y * Int32.ofInt y = Int32.ofInt (x % y) := by
    have e1 : Int32.ofInt x / Int32.ofInt y = Int32.ofInt (x / y) := by
      rw [← Int.tdiv_eq_ediv_of_nonneg hx.1]
      exact (Int32.ofInt_tdiv (by have : Int32.minValue.toInt = -2147483648 := rfl; omega) (by have : Int32.maxValue.toInt = 2147483647 := rfl; omega) (by have : Int32.minValue.toInt = -2147483648 := rfl; omega) (by have : Int32.maxValue.toInt = 2147483647 := rfl; omega)).symm
    rw [e1, ← Int32.ofInt_mul, ← Int32.ofInt_sub]
    congr 1
    have := Int.mul_ediv_add_emod x y
    rw [Int.mul_comm] at this
    omega
  show (if Int32.ofInt y = 0 then none else _) = _
  rw [if_neg h0, e]
  rfl
end YR1

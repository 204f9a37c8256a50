/-! PARTIAL RUNS: what holds of a run if it ends; its fuel is at most k. A function of the memory stands for each method (parts t2 and on, printed by wip/fn/dc.py); nothing of bounds or ends is asked for here: that a run ends is what the parts before this one say. -/
def rg (x : Int) : Prop := -2147483648 ≤ x ∧ x < 2147483648
def wr (x : Int) : Int := (Int32.ofInt x).toInt
theorem rgD {x : Int} (h : (decide (-2147483648 ≤ x) && decide (x < 2147483648)) = true) : rg x := by
  simp only [Bool.and_eq_true, decide_eq_true_eq] at h
  exact h
theorem rg_wr (x : Int) : rg (wr x) := ⟨(Int32.ofInt x).le_toInt, (Int32.ofInt x).toInt_lt⟩
theorem wr_id {x : Int} (h : rg x) : wr x = x := y_rng h
theorem yI_wr (x : Int) : yI (wr x) = yI x := y_back _
theorem rg_to (x : Int32) : rg x.toInt := ⟨x.le_toInt, x.toInt_lt⟩
def PW (Z : yZ) (k i d pc : Nat) (ls : xL) (st : List Value) (m : yM) (n : Nat) (Q : xO → yM → Nat → Prop) : Prop := ∀ h, yLay Z m n h → ∀ j, j ≤ k → ∀ r h', xrun (zStp Z) (zP Z) (zMx Z) (zHd Z) j d i pc ls st h = some (r, h') → ∃ m' n', yLay Z m' n' h' ∧ Q r m' n'
def PC (Z : yZ) (k d j : Nat) (as : List Value) (m : yM) (n : Nat) (Q : xO → yM → Nat → Prop) : Prop := PW Z k j d 0 (xent as (zMx Z j)) [] m n Q
section PR1
variable {Z : yZ} {k i d pc pc' w a b : Nat} {ls ls' : xL} {st st' st0 : List Value} {m m' : yM} {n n' : Nat} {Q Qs : xO → yM → Nat → Prop} {o : xI}
theorem PW.le {k' : Nat} (h : PW Z k i d pc ls st m n Q) (hk : k' ≤ k) : PW Z k' i d pc ls st m n Q := fun h0 hL j hj r h' hr => h h0 hL j (Nat.le_trans hj hk) r h' hr
theorem PW.mono {Q' : xO → yM → Nat → Prop} (h : PW Z k i d pc ls st m n Q) (hq : ∀ r m' n', Q r m' n' → Q' r m' n') : PW Z k i d pc ls st m n Q' := by
  intro h0 hL j hj r h' hr
  obtain ⟨m1, n1, e1, e2⟩ := h h0 hL j hj r h' hr
  exact ⟨m1, n1, e1, hq _ _ _ e2⟩
theorem PW.goD (ho : zP Z i pc = some o) (hs : ∀ h, yLay Z m n h → zStp Z o pc ls st h = none ∨ ∃ h', zStp Z o pc ls st h = some (.inl (pc', ls', st', h')) ∧ yLay Z m' n' h') (K : ∀ k', k' < k → PW Z k' i d pc' ls' st' m' n' Q) : PW Z k i d pc ls st m n Q := by
  intro h hL j hj r h' hr
  cases j with
  | zero => cases hr
  | succ j =>
    simp only [xrun, ho] at hr
    rcases hs h hL with e | ⟨h1, e, hL1⟩
    · rw [e] at hr
      cases hr
    · rw [e] at hr
      exact K j (by omega) h1 hL1 j (Nat.le_refl _) r h' hr
theorem PW.go (ho : zP Z i pc = some o) (hs : ∀ h, yLay Z m n h → zStp Z o pc ls st h = none ∨ ∃ h', zStp Z o pc ls st h = some (.inl (pc', ls', st', h')) ∧ yLay Z m' n' h') (K : PW Z k i d pc' ls' st' m' n' Q) : PW Z k i d pc ls st m n Q := PW.goD ho hs (fun k' hk => K.le (by omega))
theorem PW.gp (ho : zP Z i pc = some o) (hs : ∀ h, zStp Z o pc ls st h = some (.inl (pc', ls', st', h))) (K : PW Z k i d pc' ls' st' m n Q) : PW Z k i d pc ls st m n Q := PW.go ho (fun h hL => Or.inr ⟨h, hs h, hL⟩) K
theorem PW.gpD (ho : zP Z i pc = some o) (hs : ∀ h, zStp Z o pc ls st h = some (.inl (pc', ls', st', h))) (K : ∀ k', k' < k → PW Z k' i d pc' ls' st' m n Q) : PW Z k i d pc ls st m n Q := PW.goD ho (fun h hL => Or.inr ⟨h, hs h, hL⟩) K
theorem PW.gq (ho : zP Z i pc = some o) (hs : ∀ h, zStp Z o pc ls st h = none ∨ zStp Z o pc ls st h = some (.inl (pc', ls', st', h))) (K : PW Z k i d pc' ls' st' m n Q) : PW Z k i d pc ls st m n Q := PW.go ho (fun h hL => (hs h).imp (fun e => e) (fun e => ⟨h, e, hL⟩)) K
theorem PW.stuck (ho : zP Z i pc = some o) (hs : ∀ h, yLay Z m n h → zStp Z o pc ls st h = none) : PW Z k i d pc ls st m n Q := by
  intro h hL j hj r h' hr
  cases j with
  | zero => cases hr
  | succ j =>
    simp only [xrun, ho] at hr
    rw [hs h hL] at hr
    cases hr
theorem PC.mk {j : Nat} {as : List Value} (ls0 : xL) {kx : Nat} (hx : zMx Z j = kx) (he : xent as kx = ls0) (K : PW Z k j d 0 ls0 [] m n Q) : PC Z k d j as m n Q := by
  unfold PC
  rw [hx, he]
  exact K
theorem p_iconst (pc' : Nat) {v : Int} (ho : zP Z i pc = some (.iconst v, w, a, b)) (hp : pc + w = pc') (K : PW Z k i d pc' ls (yI v :: st) m n Q) : PW Z k i d pc ls st m n Q := PW.gp ho (fun _ => by subst hp; rfl) K
theorem p_lconst (pc' : Nat) {v : Int} (ho : zP Z i pc = some (.goto_w v, w, a, b)) (hp : pc + w = pc') (K : PW Z k i d pc' ls (.long (Int64.ofInt v) :: st) m n Q) : PW Z k i d pc ls st m n Q := PW.gp ho (fun _ => by subst hp; rfl) K
theorem p_iload (pc' : Nat) {q : Nat} {x : Int} (ho : zP Z i pc = some (.iload q, w, a, b)) (hp : pc + w = pc') (hl : ls[q]? = some (some (yI x))) (K : PW Z k i d pc' ls (yI x :: st) m n Q) : PW Z k i d pc ls st m n Q := PW.gp ho (fun _ => by subst hp; simp only [zStp, xstep, hl, yI]; rfl) K
theorem p_lload (pc' : Nat) {q : Nat} {x : Int64} (ho : zP Z i pc = some (.lload q, w, a, b)) (hp : pc + w = pc') (hl : ls[q]? = some (some (.long x))) (K : PW Z k i d pc' ls (.long x :: st) m n Q) : PW Z k i d pc ls st m n Q := PW.gp ho (fun _ => by subst hp; simp only [zStp, xstep, hl]; rfl) K
theorem p_aload (pc' : Nat) {q : Nat} {v : Value} (ho : zP Z i pc = some (.aload q, w, a, b)) (hp : pc + w = pc') (hl : ls[q]? = some (some v)) (K : PW Z k i d pc' ls (v :: st) m n Q) : PW Z k i d pc ls st m n Q := PW.gq ho (fun _ => by
  subst hp
  simp only [zStp, xstep, hl]
  split
  · exact Or.inr rfl
  · exact Or.inl rfl) K
theorem xset_some {q : Nat} {v : Value} : xset ls q v = none ∨ xset ls q v = some (ls.set q (some v)) := by
  unfold xset
  split
  · split
    · exact Or.inl rfl
    · exact Or.inl rfl
    · exact Or.inr rfl
  · exact Or.inl rfl
theorem p_istore (pc' : Nat) {q : Nat} {x : Int} (ho : zP Z i pc = some (.istore q, w, a, b)) (hp : pc + w = pc') (hl : ls.set q (some (yI x)) = ls') (K : PW Z k i d pc' ls' st m n Q) : PW Z k i d pc ls (yI x :: st) m n Q := PW.gq ho (fun _ => by
  subst hp
  subst hl
  simp only [zStp, xstep, yI]
  rcases xset_some (ls := ls) (q := q) (v := .int (Int32.ofInt x)) with e | e
  · rw [e]; exact Or.inl rfl
  · rw [e]; exact Or.inr rfl) K
theorem p_astore (pc' : Nat) {q : Nat} {v : Value} (ho : zP Z i pc = some (.astore q, w, a, b)) (hp : pc + w = pc') (hl : ls.set q (some v) = ls') (K : PW Z k i d pc' ls' st m n Q) : PW Z k i d pc ls (v :: st) m n Q := PW.gq ho (fun _ => by
  subst hp
  subst hl
  simp only [zStp, xstep]
  split
  · rcases xset_some (ls := ls) (q := q) (v := v) with e | e
    · rw [e]; exact Or.inl rfl
    · rw [e]; exact Or.inr rfl
  · exact Or.inl rfl) K
theorem p_iinc (pc' : Nat) {q : Nat} {x c : Int} (ho : zP Z i pc = some (.iinc q c, w, a, b)) (hp : pc + w = pc') (hl : ls[q]? = some (some (yI x))) (hs : ls.set q (some (yI (wr (x + c)))) = ls') (K : PW Z k i d pc' ls' st m n Q) : PW Z k i d pc ls st m n Q := PW.gq ho (fun _ => by
  subst hp
  subst hs
  rw [yI_wr]
  simp only [zStp, xstep, hl, yI, Int32.ofInt_add]
  rcases xset_some (ls := ls) (q := q) (v := .int (Int32.ofInt x + Int32.ofInt c)) with e | e
  · rw [e]; exact Or.inl rfl
  · rw [e]; exact Or.inr rfl) K
theorem p_iadd (pc' : Nat) {x y : Int} (ho : zP Z i pc = some (.iadd, w, a, b)) (hp : pc + w = pc') (K : PW Z k i d pc' ls (yI (wr (x + y)) :: st) m n Q) : PW Z k i d pc ls (yI y :: yI x :: st) m n Q := PW.gp ho (fun _ => by subst hp; rw [yI_wr, yI_add]; rfl) K
theorem p_isub (pc' : Nat) {x y : Int} (ho : zP Z i pc = some (.isub, w, a, b)) (hp : pc + w = pc') (K : PW Z k i d pc' ls (yI (wr (x - y)) :: st) m n Q) : PW Z k i d pc ls (yI y :: yI x :: st) m n Q := PW.gp ho (fun _ => by subst hp; rw [yI_wr, yI_sub]; rfl) K
theorem p_imul (pc' : Nat) {x y : Int} (ho : zP Z i pc = some (.imul, w, a, b)) (hp : pc + w = pc') (K : PW Z k i d pc' ls (yI (wr (x * y)) :: st) m n Q) : PW Z k i d pc ls (yI y :: yI x :: st) m n Q := PW.gp ho (fun _ => by subst hp; rw [yI_wr, yI_mul]; rfl) K
def iAnd (x y : Int) : Int := (Int32.ofInt x &&& Int32.ofInt y).toInt
def iOr (x y : Int) : Int := (Int32.ofInt x ||| Int32.ofInt y).toInt
def iShl (x y : Int) : Int := (Int32.ofInt x <<< (Int32.ofInt y &&& 31)).toInt
def iShr (x y : Int) : Int := (Int32.ofInt x >>> (Int32.ofInt y &&& 31)).toInt
def iDiv (x y : Int) : Int := (Int32.ofInt x / Int32.ofInt y).toInt
def iRem (x y : Int) : Int := (Int32.ofInt x - Int32.ofInt x / Int32.ofInt y * Int32.ofInt y).toInt
def l2i (x : Int64) : Int := x.toInt32.toInt
def i2l (x : Int) : Int64 := (Int32.ofInt x).toInt64
def i2c (x : Int) : Int := ((Int32.ofInt x).toUInt32 % 65536).toInt32.toInt
def lcm (x y : Int64) : Int := (lg_cmp x y).toInt
def lUsh (x : Int64) (y : Int) : Int64 := (x.toUInt64 >>> ((Int32.ofInt y).toInt64.toUInt64 &&& Int64.toUInt64 63)).toInt64
def lShl (x : Int64) (y : Int) : Int64 := x <<< ((Int32.ofInt y).toInt64 &&& 63)
def lShr (x : Int64) (y : Int) : Int64 := x >>> ((Int32.ofInt y).toInt64 &&& 63)
def nar (t : Nat) (v : Int) : Int := (if t = 3 then vp_nar .char (Int32.ofInt v) else if t = 1 then vp_nar .boolean (Int32.ofInt v) else if t = 2 then vp_nar .byte (Int32.ofInt v) else Int32.ofInt v).toInt
theorem nar0 {v : Int} (h : rg v) : nar 0 v = v := y_rng h
theorem p_iand (pc' : Nat) {x y : Int} (ho : zP Z i pc = some (.iand, w, a, b)) (hp : pc + w = pc') (K : PW Z k i d pc' ls (yI (iAnd x y) :: st) m n Q) : PW Z k i d pc ls (yI y :: yI x :: st) m n Q := PW.gp ho (fun _ => by subst hp; unfold iAnd; rw [y_back]; rfl) K
theorem p_ior (pc' : Nat) {x y : Int} (ho : zP Z i pc = some (.ior, w, a, b)) (hp : pc + w = pc') (K : PW Z k i d pc' ls (yI (iOr x y) :: st) m n Q) : PW Z k i d pc ls (yI y :: yI x :: st) m n Q := PW.gp ho (fun _ => by subst hp; unfold iOr; rw [y_back]; rfl) K
theorem p_ishl (pc' : Nat) {x y : Int} (ho : zP Z i pc = some (.ishl, w, a, b)) (hp : pc + w = pc') (K : PW Z k i d pc' ls (yI (iShl x y) :: st) m n Q) : PW Z k i d pc ls (yI y :: yI x :: st) m n Q := PW.gp ho (fun _ => by subst hp; unfold iShl; rw [y_back]; rfl) K
theorem p_ishr (pc' : Nat) {x y : Int} (ho : zP Z i pc = some (.ishr, w, a, b)) (hp : pc + w = pc') (K : PW Z k i d pc' ls (yI (iShr x y) :: st) m n Q) : PW Z k i d pc ls (yI y :: yI x :: st) m n Q := PW.gp ho (fun _ => by subst hp; unfold iShr; rw [y_back]; rfl) K
theorem p_idiv (pc' : Nat) {x y : Int} (ho : zP Z i pc = some (.idiv, w, a, b)) (hp : pc + w = pc') (K : PW Z k i d pc' ls (yI (iDiv x y) :: st) m n Q) : PW Z k i d pc ls (yI y :: yI x :: st) m n Q := PW.gq ho (fun _ => by
  subst hp
  unfold iDiv
  rw [y_back]
  simp only [zStp, xstep, yI]
  split
  · exact Or.inl rfl
  · exact Or.inr rfl) K
theorem p_irem (pc' : Nat) {x y : Int} (ho : zP Z i pc = some (.irem, w, a, b)) (hp : pc + w = pc') (K : PW Z k i d pc' ls (yI (iRem x y) :: st) m n Q) : PW Z k i d pc ls (yI y :: yI x :: st) m n Q := PW.gq ho (fun _ => by
  subst hp
  unfold iRem
  rw [y_back]
  simp only [zStp, xstep, yI]
  split
  · exact Or.inl rfl
  · exact Or.inr rfl) K
theorem p_land (pc' : Nat) {x y : Int64} (ho : zP Z i pc = some (.land, w, a, b)) (hp : pc + w = pc') (K : PW Z k i d pc' ls (.long (x &&& y) :: st) m n Q) : PW Z k i d pc ls (.long y :: .long x :: st) m n Q := PW.gp ho (fun _ => by subst hp; rfl) K
theorem p_lor (pc' : Nat) {x y : Int64} (ho : zP Z i pc = some (.lor, w, a, b)) (hp : pc + w = pc') (K : PW Z k i d pc' ls (.long (x ||| y) :: st) m n Q) : PW Z k i d pc ls (.long y :: .long x :: st) m n Q := PW.gp ho (fun _ => by subst hp; rfl) K
theorem p_lushr (pc' : Nat) {x : Int64} {y : Int} (ho : zP Z i pc = some (.lushr, w, a, b)) (hp : pc + w = pc') (K : PW Z k i d pc' ls (.long (lUsh x y) :: st) m n Q) : PW Z k i d pc ls (yI y :: .long x :: st) m n Q := PW.gp ho (fun _ => by subst hp; rfl) K
theorem p_lshl (pc' : Nat) {x : Int64} {y : Int} (ho : zP Z i pc = some (.lshl, w, a, b)) (hp : pc + w = pc') (K : PW Z k i d pc' ls (.long (lShl x y) :: st) m n Q) : PW Z k i d pc ls (yI y :: .long x :: st) m n Q := PW.gp ho (fun _ => by subst hp; rfl) K
theorem p_lshr (pc' : Nat) {x : Int64} {y : Int} (ho : zP Z i pc = some (.lshr, w, a, b)) (hp : pc + w = pc') (K : PW Z k i d pc' ls (.long (lShr x y) :: st) m n Q) : PW Z k i d pc ls (yI y :: .long x :: st) m n Q := PW.gp ho (fun _ => by subst hp; rfl) K
theorem p_lcmp (pc' : Nat) {x y : Int64} (ho : zP Z i pc = some (.lcmp, w, a, b)) (hp : pc + w = pc') (K : PW Z k i d pc' ls (yI (lcm x y) :: st) m n Q) : PW Z k i d pc ls (.long y :: .long x :: st) m n Q := PW.gp ho (fun _ => by subst hp; unfold lcm; rw [y_back]; rfl) K
theorem p_i2l (pc' : Nat) {x : Int} (ho : zP Z i pc = some (.i2l, w, a, b)) (hp : pc + w = pc') (K : PW Z k i d pc' ls (.long (i2l x) :: st) m n Q) : PW Z k i d pc ls (yI x :: st) m n Q := PW.gp ho (fun _ => by subst hp; rfl) K
theorem p_l2i (pc' : Nat) {x : Int64} (ho : zP Z i pc = some (.l2i, w, a, b)) (hp : pc + w = pc') (K : PW Z k i d pc' ls (yI (l2i x) :: st) m n Q) : PW Z k i d pc ls (.long x :: st) m n Q := PW.gp ho (fun _ => by subst hp; unfold l2i; rw [y_back]; rfl) K
theorem p_i2c (pc' : Nat) {x : Int} (ho : zP Z i pc = some (.i2c, w, a, b)) (hp : pc + w = pc') (K : PW Z k i d pc' ls (yI (i2c x) :: st) m n Q) : PW Z k i d pc ls (yI x :: st) m n Q := PW.gp ho (fun _ => by subst hp; unfold i2c; rw [y_back]; rfl) K
theorem p_dup (pc' : Nat) {v : Value} (ho : zP Z i pc = some (.dup, w, a, b)) (hp : pc + w = pc') (hv : v.category = 1) (K : PW Z k i d pc' ls (v :: v :: st) m n Q) : PW Z k i d pc ls (v :: st) m n Q := PW.gp ho (fun _ => by subst hp; exact if_pos hv) K
theorem p_dup2 (pc' : Nat) {v u : Value} (ho : zP Z i pc = some (.dup2, w, a, b)) (hp : pc + w = pc') (hv : v.category = 1 ∧ u.category = 1) (K : PW Z k i d pc' ls (v :: u :: v :: u :: st) m n Q) : PW Z k i d pc ls (v :: u :: st) m n Q := PW.gp ho (fun _ => by subst hp; exact if_pos hv) K
theorem p_pop (pc' : Nat) {v : Value} (ho : zP Z i pc = some (.pop, w, a, b)) (hp : pc + w = pc') (hv : v.category = 1) (K : PW Z k i d pc' ls st m n Q) : PW Z k i d pc ls (v :: st) m n Q := PW.gp ho (fun _ => by subst hp; exact if_pos hv) K
theorem p_goto (pc' : Nat) {t : Int} (ho : zP Z i pc = some (.goto t, w, a, b)) (hp : t.toNat = pc') (K : PW Z k i d pc' ls st m n Q) : PW Z k i d pc ls st m n Q := PW.gp ho (fun _ => by subst hp; rfl) K
theorem p_gotoD (pc' : Nat) {t : Int} (ho : zP Z i pc = some (.goto t, w, a, b)) (hp : t.toNat = pc') (K : ∀ k', k' < k → PW Z k' i d pc' ls st m n Q) : PW Z k i d pc ls st m n Q := PW.gpD ho (fun _ => by subst hp; rfl) K
theorem p_if (pt pc' : Nat) {c : ClassFile.Cond} {t x : Int} {φ : Prop} (ho : zP Z i pc = some (.ifCond c t, w, a, b)) (ht : t.toNat = pt) (hp : pc + w = pc') (hφ : xcmp c (Int32.ofInt x) 0 = true ↔ φ) (k1 : φ → ∀ k', k' < k → PW Z k' i d pt ls st m n Q) (k2 : ¬ φ → ∀ k', k' < k → PW Z k' i d pc' ls st m n Q) : PW Z k i d pc ls (yI x :: st) m n Q := by
  subst ht
  subst hp
  by_cases hc : φ
  · exact PW.gpD ho (fun _ => if_pos (hφ.mpr hc)) (k1 hc)
  · exact PW.gpD ho (fun _ => if_neg (fun q => hc (hφ.mp q))) (k2 hc)
theorem p_icmp (pt pc' : Nat) {c : ClassFile.Cond} {t x y : Int} {φ : Prop} (ho : zP Z i pc = some (.if_icmp c t, w, a, b)) (ht : t.toNat = pt) (hp : pc + w = pc') (hφ : xcmp c (Int32.ofInt x) (Int32.ofInt y) = true ↔ φ) (k1 : φ → ∀ k', k' < k → PW Z k' i d pt ls st m n Q) (k2 : ¬ φ → ∀ k', k' < k → PW Z k' i d pc' ls st m n Q) : PW Z k i d pc ls (yI y :: yI x :: st) m n Q := by
  subst ht
  subst hp
  by_cases hc : φ
  · exact PW.gpD ho (fun _ => if_pos (hφ.mpr hc)) (k1 hc)
  · exact PW.gpD ho (fun _ => if_neg (fun q => hc (hφ.mp q))) (k2 hc)
theorem p_ldc (pc' : Nat) {v : Nat} (ho : zP Z i pc = some (.ldc v, w, a, b)) (hp : pc + w = pc') (K : PW Z k i d pc' ls (.retAddr (2 * v + 1) :: st) m n Q) : PW Z k i d pc ls st m n Q := PW.gq ho (fun _ => by
  subst hp
  simp only [zStp, xstep]
  split
  · exact Or.inr rfl
  · exact Or.inl rfl) K
end PR1

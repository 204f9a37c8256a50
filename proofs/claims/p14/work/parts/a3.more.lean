section
/-! an int's range -/
theorem i32r (x : Int32) : -2147483648 ≤ x.toInt ∧ x.toInt < 2147483648 := ⟨x.le_toInt, x.toInt_lt⟩
end
section
/-! PARTIAL RUNS: what holds of a run if it ends; its fuel is at most k. A function of the memory stands for each method (parts t2 and on, printed by wip/fn/dc.py); nothing of bounds or ends is asked for here: that a run ends is what the parts before this one say. -/
def rg (x : Int) : Prop := -2147483648 ≤ x ∧ x < 2147483648
def wr (x : Int) : Int := (Int32.ofInt x).toInt
theorem rgD {x : Int} (h : (decide (-2147483648 ≤ x) && decide (x < 2147483648)) = true) : rg x := by
  simp only [Bool.and_eq_true, decide_eq_true_eq] at h
  exact h
theorem rg_wr (x : Int) : rg (wr x) := ⟨(Int32.ofInt x).le_toInt, (Int32.ofInt x).toInt_lt⟩
theorem wr_id {x : Int} (h : rg x) : wr x = x := y_rng h
theorem yI_wr (x : Int) : yI (wr x) = yI x := y_back _
theorem rg_to (x : Int32) : rg x.toInt := ⟨x.le_toInt, x.toInt_lt⟩
def PW (Z : yZ) (k i d pc : Nat) (ls : xL) (st : List Value) (m : yM) (n : Nat) (Q : xO → yM → Nat → Prop) : Prop := ∀ h, yLay Z m n h → ∀ j, j ≤ k → ∀ r h', xrun (zStp Z) (zP Z) (zMx Z) (zHd Z) j d i pc ls st h = some (r, h') → ∃ m' n', yLay Z m' n' h' ∧ Q r m' n'
def PC (Z : yZ) (k d j : Nat) (as : List Value) (m : yM) (n : Nat) (Q : xO → yM → Nat → Prop) : Prop := PW Z k j d 0 (xent as (zMx Z j)) [] m n Q
section PR1
variable {Z : yZ} {k i d pc pc' w a b : Nat} {ls ls' : xL} {st st' st0 : List Value} {m m' : yM} {n n' : Nat} {Q Qs : xO → yM → Nat → Prop} {o : xI}
theorem PW.le {k' : Nat} (h : PW Z k i d pc ls st m n Q) (hk : k' ≤ k) : PW Z k' i d pc ls st m n Q := fun h0 hL j hj r h' hr => h h0 hL j (Nat.le_trans hj hk) r h' hr
theorem PW.mono {Q' : xO → yM → Nat → Prop} (h : PW Z k i d pc ls st m n Q) (hq : ∀ r m' n', Q r m' n' → Q' r m' n') : PW Z k i d pc ls st m n Q' := by
  intro h0 hL j hj r h' hr
  obtain ⟨m1, n1, e1, e2⟩ := h h0 hL j hj r h' hr
  exact ⟨m1, n1, e1, hq _ _ _ e2⟩
theorem PW.goD (ho : zP Z i pc = some o) (hs : ∀ h, yLay Z m n h → zStp Z o pc ls st h = none ∨ ∃ h', zStp Z o pc ls st h = some (.inl (pc', ls', st', h')) ∧ yLay Z m' n' h') (K : ∀ k', k' < k → PW Z k' i d pc' ls' st' m' n' Q) : PW Z k i d pc ls st m n Q := by
  intro h hL j hj r h' hr
  cases j with
  | zero => cases hr
  | succ j =>
    simp only [xrun, ho] at hr
    rcases hs h hL with e | ⟨h1, e, hL1⟩
    · rw [e] at hr
      cases hr
    · rw [e] at hr
      exact K j (by omega) h1 hL1 j (Nat.le_refl _) r h' hr
theorem PW.go (ho : zP Z i pc = some o) (hs : ∀ h, yLay Z m n h → zStp Z o pc ls st h = none ∨ ∃ h', zStp Z o pc ls st h = some (.inl (pc', ls', st', h')) ∧ yLay Z m' n' h') (K : PW Z k i d pc' ls' st' m' n' Q) : PW Z k i d pc ls st m n Q := PW.goD ho hs (fun k' hk => K.le (by omega))
theorem PW.gp (ho : zP Z i pc = some o) (hs : ∀ h, zStp Z o pc ls st h = some (.inl (pc', ls', st', h))) (K : PW Z k i d pc' ls' st' m n Q) : PW Z k i d pc ls st m n Q := PW.go ho (fun h hL => Or.inr ⟨h, hs h, hL⟩) K
theorem PW.gpD (ho : zP Z i pc = some o) (hs : ∀ h, zStp Z o pc ls st h = some (.inl (pc', ls', st', h))) (K : ∀ k', k' < k → PW Z k' i d pc' ls' st' m n Q) : PW Z k i d pc ls st m n Q := PW.goD ho (fun h hL => Or.inr ⟨h, hs h, hL⟩) K
theorem PW.gq (ho : zP Z i pc = some o) (hs : ∀ h, zStp Z o pc ls st h = none ∨ zStp Z o pc ls st h = some (.inl (pc', ls', st', h))) (K : PW Z k i d pc' ls' st' m n Q) : PW Z k i d pc ls st m n Q := PW.go ho (fun h hL => (hs h).imp (fun e => e) (fun e => ⟨h, e, hL⟩)) K
theorem PW.stuck (ho : zP Z i pc = some o) (hs : ∀ h, yLay Z m n h → zStp Z o pc ls st h = none) : PW Z k i d pc ls st m n Q := by
  intro h hL j hj r h' hr
  cases j with
  | zero => cases hr
  | succ j =>
    simp only [xrun, ho] at hr
    rw [hs h hL] at hr
    cases hr
theorem PC.mk {j : Nat} {as : List Value} (ls0 : xL) {kx : Nat} (hx : zMx Z j = kx) (he : xent as kx = ls0) (K : PW Z k j d 0 ls0 [] m n Q) : PC Z k d j as m n Q := by
  unfold PC
  rw [hx, he]
  exact K
theorem p_iconst (pc' : Nat) {v : Int} (ho : zP Z i pc = some (.iconst v, w, a, b)) (hp : pc + w = pc') (K : PW Z k i d pc' ls (yI v :: st) m n Q) : PW Z k i d pc ls st m n Q := PW.gp ho (fun _ => by subst hp; rfl) K
theorem p_lconst (pc' : Nat) {v : Int} (ho : zP Z i pc = some (.goto_w v, w, a, b)) (hp : pc + w = pc') (K : PW Z k i d pc' ls (.long (Int64.ofInt v) :: st) m n Q) : PW Z k i d pc ls st m n Q := PW.gp ho (fun _ => by subst hp; rfl) K
theorem p_iload (pc' : Nat) {q : Nat} {x : Int} (ho : zP Z i pc = some (.iload q, w, a, b)) (hp : pc + w = pc') (hl : ls[q]? = some (some (yI x))) (K : PW Z k i d pc' ls (yI x :: st) m n Q) : PW Z k i d pc ls st m n Q := PW.gp ho (fun _ => by subst hp; simp only [zStp, xstep, hl, yI]; rfl) K
theorem p_lload (pc' : Nat) {q : Nat} {x : Int64} (ho : zP Z i pc = some (.lload q, w, a, b)) (hp : pc + w = pc') (hl : ls[q]? = some (some (.long x))) (K : PW Z k i d pc' ls (.long x :: st) m n Q) : PW Z k i d pc ls st m n Q := PW.gp ho (fun _ => by subst hp; simp only [zStp, xstep, hl]; rfl) K
theorem p_aload (pc' : Nat) {q : Nat} {v : Value} (ho : zP Z i pc = some (.aload q, w, a, b)) (hp : pc + w = pc') (hl : ls[q]? = some (some v)) (K : PW Z k i d pc' ls (v :: st) m n Q) : PW Z k i d pc ls st m n Q := PW.gq ho (fun _ => by
  subst hp
  simp only [zStp, xstep, hl]
  split
  · exact Or.inr rfl
  · exact Or.inl rfl) K
theorem xset_some {q : Nat} {v : Value} : xset ls q v = none ∨ xset ls q v = some (ls.set q (some v)) := by
  unfold xset
  split
  · split
    · exact Or.inl rfl
    · exact Or.inl rfl
    · exact Or.inr rfl
  · exact Or.inl rfl
theorem p_istore (pc' : Nat) {q : Nat} {x : Int} (ho : zP Z i pc = some (.istore q, w, a, b)) (hp : pc + w = pc') (hl : ls.set q (some (yI x)) = ls') (K : PW Z k i d pc' ls' st m n Q) : PW Z k i d pc ls (yI x :: st) m n Q := PW.gq ho (fun _ => by
  subst hp
  subst hl
  simp only [zStp, xstep, yI]
  rcases xset_some (ls := ls) (q := q) (v := .int (Int32.ofInt x)) with e | e
  · rw [e]; exact Or.inl rfl
  · rw [e]; exact Or.inr rfl) K
theorem p_astore (pc' : Nat) {q : Nat} {v : Value} (ho : zP Z i pc = some (.astore q, w, a, b)) (hp : pc + w = pc') (hl : ls.set q (some v) = ls') (K : PW Z k i d pc' ls' st m n Q) : PW Z k i d pc ls (v :: st) m n Q := PW.gq ho (fun _ => by
  subst hp
  subst hl
  simp only [zStp, xstep]
  split
  · rcases xset_some (ls := ls) (q := q) (v := v) with e | e
    · rw [e]; exact Or.inl rfl
    · rw [e]; exact Or.inr rfl
  · exact Or.inl rfl) K
theorem p_iinc (pc' : Nat) {q : Nat} {x c : Int} (ho : zP Z i pc = some (.iinc q c, w, a, b)) (hp : pc + w = pc') (hl : ls[q]? = some (some (yI x))) (hs : ls.set q (some (yI (wr (x + c)))) = ls') (K : PW Z k i d pc' ls' st m n Q) : PW Z k i d pc ls st m n Q := PW.gq ho (fun _ => by
  subst hp
  subst hs
  rw [yI_wr]
  simp only [zStp, xstep, hl, yI, Int32.ofInt_add]
  rcases xset_some (ls := ls) (q := q) (v := .int (Int32.ofInt x + Int32.ofInt c)) with e | e
  · rw [e]; exact Or.inl rfl
  · rw [e]; exact Or.inr rfl) K
theorem p_iadd (pc' : Nat) {x y : Int} (ho : zP Z i pc = some (.iadd, w, a, b)) (hp : pc + w = pc') (K : PW Z k i d pc' ls (yI (wr (x + y)) :: st) m n Q) : PW Z k i d pc ls (yI y :: yI x :: st) m n Q := PW.gp ho (fun _ => by subst hp; rw [yI_wr, yI_add]; rfl) K
theorem p_isub (pc' : Nat) {x y : Int} (ho : zP Z i pc = some (.isub, w, a, b)) (hp : pc + w = pc') (K : PW Z k i d pc' ls (yI (wr (x - y)) :: st) m n Q) : PW Z k i d pc ls (yI y :: yI x :: st) m n Q := PW.gp ho (fun _ => by subst hp; rw [yI_wr, yI_sub]; rfl) K
theorem p_imul (pc' : Nat) {x y : Int} (ho : zP Z i pc = some (.imul, w, a, b)) (hp : pc + w = pc') (K : PW Z k i d pc' ls (yI (wr (x * y)) :: st) m n Q) : PW Z k i d pc ls (yI y :: yI x :: st) m n Q := PW.gp ho (fun _ => by subst hp; rw [yI_wr, yI_mul]; rfl) K
def iAnd (x y : Int) : Int := (Int32.ofInt x &&& Int32.ofInt y).toInt
def iOr (x y : Int) : Int := (Int32.ofInt x ||| Int32.ofInt y).toInt
def iShl (x y : Int) : Int := (Int32.ofInt x <<< (Int32.ofInt y &&& 31)).toInt
def iShr (x y : Int) : Int := (Int32.ofInt x >>> (Int32.ofInt y &&& 31)).toInt
def iDiv (x y : Int) : Int := (Int32.ofInt x / Int32.ofInt y).toInt
def iRem (x y : Int) : Int := (Int32.ofInt x - Int32.ofInt x / Int32.ofInt y * Int32.ofInt y).toInt
def l2i (x : Int64) : Int := x.toInt32.toInt
def i2l (x : Int) : Int64 := (Int32.ofInt x).toInt64
def i2c (x : Int) : Int := ((Int32.ofInt x).toUInt32 % 65536).toInt32.toInt
def lcm (x y : Int64) : Int := (lg_cmp x y).toInt
def lUsh (x : Int64) (y : Int) : Int64 := (x.toUInt64 >>> ((Int32.ofInt y).toInt64.toUInt64 &&& Int64.toUInt64 63)).toInt64
def lShl (x : Int64) (y : Int) : Int64 := x <<< ((Int32.ofInt y).toInt64 &&& 63)
def lShr (x : Int64) (y : Int) : Int64 := x >>> ((Int32.ofInt y).toInt64 &&& 63)
def nar (t : Nat) (v : Int) : Int := (if t = 3 then vp_nar .char (Int32.ofInt v) else if t = 1 then vp_nar .boolean (Int32.ofInt v) else if t = 2 then vp_nar .byte (Int32.ofInt v) else Int32.ofInt v).toInt
theorem nar0 {v : Int} (h : rg v) : nar 0 v = v := y_rng h
theorem p_iand (pc' : Nat) {x y : Int} (ho : zP Z i pc = some (.iand, w, a, b)) (hp : pc + w = pc') (K : PW Z k i d pc' ls (yI (iAnd x y) :: st) m n Q) : PW Z k i d pc ls (yI y :: yI x :: st) m n Q := PW.gp ho (fun _ => by subst hp; unfold iAnd; rw [y_back]; rfl) K
theorem p_ior (pc' : Nat) {x y : Int} (ho : zP Z i pc = some (.ior, w, a, b)) (hp : pc + w = pc') (K : PW Z k i d pc' ls (yI (iOr x y) :: st) m n Q) : PW Z k i d pc ls (yI y :: yI x :: st) m n Q := PW.gp ho (fun _ => by subst hp; unfold iOr; rw [y_back]; rfl) K
theorem p_ishl (pc' : Nat) {x y : Int} (ho : zP Z i pc = some (.ishl, w, a, b)) (hp : pc + w = pc') (K : PW Z k i d pc' ls (yI (iShl x y) :: st) m n Q) : PW Z k i d pc ls (yI y :: yI x :: st) m n Q := PW.gp ho (fun _ => by subst hp; unfold iShl; rw [y_back]; rfl) K
theorem p_ishr (pc' : Nat) {x y : Int} (ho : zP Z i pc = some (.ishr, w, a, b)) (hp : pc + w = pc') (K : PW Z k i d pc' ls (yI (iShr x y) :: st) m n Q) : PW Z k i d pc ls (yI y :: yI x :: st) m n Q := PW.gp ho (fun _ => by subst hp; unfold iShr; rw [y_back]; rfl) K
theorem p_idiv (pc' : Nat) {x y : Int} (ho : zP Z i pc = some (.idiv, w, a, b)) (hp : pc + w = pc') (K : PW Z k i d pc' ls (yI (iDiv x y) :: st) m n Q) : PW Z k i d pc ls (yI y :: yI x :: st) m n Q := PW.gq ho (fun _ => by
  subst hp
  unfold iDiv
  rw [y_back]
  simp only [zStp, xstep, yI]
  split
  · exact Or.inl rfl
  · exact Or.inr rfl) K
theorem p_irem (pc' : Nat) {x y : Int} (ho : zP Z i pc = some (.irem, w, a, b)) (hp : pc + w = pc') (K : PW Z k i d pc' ls (yI (iRem x y) :: st) m n Q) : PW Z k i d pc ls (yI y :: yI x :: st) m n Q := PW.gq ho (fun _ => by
  subst hp
  unfold iRem
  rw [y_back]
  simp only [zStp, xstep, yI]
  split
  · exact Or.inl rfl
  · exact Or.inr rfl) K
theorem p_land (pc' : Nat) {x y : Int64} (ho : zP Z i pc = some (.land, w, a, b)) (hp : pc + w = pc') (K : PW Z k i d pc' ls (.long (x &&& y) :: st) m n Q) : PW Z k i d pc ls (.long y :: .long x :: st) m n Q := PW.gp ho (fun _ => by subst hp; rfl) K
theorem p_lor (pc' : Nat) {x y : Int64} (ho : zP Z i pc = some (.lor, w, a, b)) (hp : pc + w = pc') (K : PW Z k i d pc' ls (.long (x ||| y) :: st) m n Q) : PW Z k i d pc ls (.long y :: .long x :: st) m n Q := PW.gp ho (fun _ => by subst hp; rfl) K
theorem p_lushr (pc' : Nat) {x : Int64} {y : Int} (ho : zP Z i pc = some (.lushr, w, a, b)) (hp : pc + w = pc') (K : PW Z k i d pc' ls (.long (lUsh x y) :: st) m n Q) : PW Z k i d pc ls (yI y :: .long x :: st) m n Q := PW.gp ho (fun _ => by subst hp; rfl) K
theorem p_lshl (pc' : Nat) {x : Int64} {y : Int} (ho : zP Z i pc = some (.lshl, w, a, b)) (hp : pc + w = pc') (K : PW Z k i d pc' ls (.long (lShl x y) :: st) m n Q) : PW Z k i d pc ls (yI y :: .long x :: st) m n Q := PW.gp ho (fun _ => by subst hp; rfl) K
theorem p_lshr (pc' : Nat) {x : Int64} {y : Int} (ho : zP Z i pc = some (.lshr, w, a, b)) (hp : pc + w = pc') (K : PW Z k i d pc' ls (.long (lShr x y) :: st) m n Q) : PW Z k i d pc ls (yI y :: .long x :: st) m n Q := PW.gp ho (fun _ => by subst hp; rfl) K
theorem p_lcmp (pc' : Nat) {x y : Int64} (ho : zP Z i pc = some (.lcmp, w, a, b)) (hp : pc + w = pc') (K : PW Z k i d pc' ls (yI (lcm x y) :: st) m n Q) : PW Z k i d pc ls (.long y :: .long x :: st) m n Q := PW.gp ho (fun _ => by subst hp; unfold lcm; rw [y_back]; rfl) K
theorem p_i2l (pc' : Nat) {x : Int} (ho : zP Z i pc = some (.i2l, w, a, b)) (hp : pc + w = pc') (K : PW Z k i d pc' ls (.long (i2l x) :: st) m n Q) : PW Z k i d pc ls (yI x :: st) m n Q := PW.gp ho (fun _ => by subst hp; rfl) K
theorem p_l2i (pc' : Nat) {x : Int64} (ho : zP Z i pc = some (.l2i, w, a, b)) (hp : pc + w = pc') (K : PW Z k i d pc' ls (yI (l2i x) :: st) m n Q) : PW Z k i d pc ls (.long x :: st) m n Q := PW.gp ho (fun _ => by subst hp; unfold l2i; rw [y_back]; rfl) K
theorem p_i2c (pc' : Nat) {x : Int} (ho : zP Z i pc = some (.i2c, w, a, b)) (hp : pc + w = pc') (K : PW Z k i d pc' ls (yI (i2c x) :: st) m n Q) : PW Z k i d pc ls (yI x :: st) m n Q := PW.gp ho (fun _ => by subst hp; unfold i2c; rw [y_back]; rfl) K
theorem p_dup (pc' : Nat) {v : Value} (ho : zP Z i pc = some (.dup, w, a, b)) (hp : pc + w = pc') (hv : v.category = 1) (K : PW Z k i d pc' ls (v :: v :: st) m n Q) : PW Z k i d pc ls (v :: st) m n Q := PW.gp ho (fun _ => by subst hp; exact if_pos hv) K
theorem p_dup2 (pc' : Nat) {v u : Value} (ho : zP Z i pc = some (.dup2, w, a, b)) (hp : pc + w = pc') (hv : v.category = 1 ∧ u.category = 1) (K : PW Z k i d pc' ls (v :: u :: v :: u :: st) m n Q) : PW Z k i d pc ls (v :: u :: st) m n Q := PW.gp ho (fun _ => by subst hp; exact if_pos hv) K
theorem p_pop (pc' : Nat) {v : Value} (ho : zP Z i pc = some (.pop, w, a, b)) (hp : pc + w = pc') (hv : v.category = 1) (K : PW Z k i d pc' ls st m n Q) : PW Z k i d pc ls (v :: st) m n Q := PW.gp ho (fun _ => by subst hp; exact if_pos hv) K
theorem p_goto (pc' : Nat) {t : Int} (ho : zP Z i pc = some (.goto t, w, a, b)) (hp : t.toNat = pc') (K : PW Z k i d pc' ls st m n Q) : PW Z k i d pc ls st m n Q := PW.gp ho (fun _ => by subst hp; rfl) K
theorem p_gotoD (pc' : Nat) {t : Int} (ho : zP Z i pc = some (.goto t, w, a, b)) (hp : t.toNat = pc') (K : ∀ k', k' < k → PW Z k' i d pc' ls st m n Q) : PW Z k i d pc ls st m n Q := PW.gpD ho (fun _ => by subst hp; rfl) K
theorem p_if (pt pc' : Nat) {c : ClassFile.Cond} {t x : Int} {φ : Prop} (ho : zP Z i pc = some (.ifCond c t, w, a, b)) (ht : t.toNat = pt) (hp : pc + w = pc') (hφ : xcmp c (Int32.ofInt x) 0 = true ↔ φ) (k1 : φ → ∀ k', k' < k → PW Z k' i d pt ls st m n Q) (k2 : ¬ φ → ∀ k', k' < k → PW Z k' i d pc' ls st m n Q) : PW Z k i d pc ls (yI x :: st) m n Q := by
  subst ht
  subst hp
  by_cases hc : φ
  · exact PW.gpD ho (fun _ => if_pos (hφ.mpr hc)) (k1 hc)
  · exact PW.gpD ho (fun _ => if_neg (fun q => hc (hφ.mp q))) (k2 hc)
theorem p_icmp (pt pc' : Nat) {c : ClassFile.Cond} {t x y : Int} {φ : Prop} (ho : zP Z i pc = some (.if_icmp c t, w, a, b)) (ht : t.toNat = pt) (hp : pc + w = pc') (hφ : xcmp c (Int32.ofInt x) (Int32.ofInt y) = true ↔ φ) (k1 : φ → ∀ k', k' < k → PW Z k' i d pt ls st m n Q) (k2 : ¬ φ → ∀ k', k' < k → PW Z k' i d pc' ls st m n Q) : PW Z k i d pc ls (yI y :: yI x :: st) m n Q := by
  subst ht
  subst hp
  by_cases hc : φ
  · exact PW.gpD ho (fun _ => if_pos (hφ.mpr hc)) (k1 hc)
  · exact PW.gpD ho (fun _ => if_neg (fun q => hc (hφ.mp q))) (k2 hc)
theorem p_ldc (pc' : Nat) {v : Nat} (ho : zP Z i pc = some (.ldc v, w, a, b)) (hp : pc + w = pc') (K : PW Z k i d pc' ls (.retAddr (2 * v + 1) :: st) m n Q) : PW Z k i d pc ls st m n Q := PW.gq ho (fun _ => by
  subst hp
  simp only [zStp, xstep]
  split
  · exact Or.inr rfl
  · exact Or.inl rfl) K
end PR1
end
section
/-! PARTIAL RUNS: cells, calls, ends, loops -/
section PR2
variable {Z : yZ} {k i d pc pc' w a b : Nat} {ls ls' : xL} {st st' st0 : List Value} {m m' : yM} {n n' : Nat} {Q Qs : xO → yM → Nat → Prop} {o : xI}
theorem p_getX (pc' : Nat) {q ci t A : Nat} (x : Int) (ho : zP Z i pc = some (.getfield q, w, ci, b)) (hp : pc + w = pc') (hf : yfld (zSh Z) (zN Z) A q ci = some (.inl t)) (hx : m A q = x) (K : PW Z k i d pc' ls (yI x :: st) m n Q) : PW Z k i d pc ls (.ref A :: st) m n Q := by
  subst hp
  subst hx
  refine PW.go ho (fun h hL => Or.inr ⟨h, ?_, hL⟩) K
  obtain ⟨vs, h1, h2, -⟩ := hL.fld hf
  simp [zStp, xstep, h1, h2, xgo, yslv]
theorem p_getR (pc' : Nat) {q ci A B : Nat} (ho : zP Z i pc = some (.getfield q, w, ci, b)) (hp : pc + w = pc') (hf : yfld (zSh Z) (zN Z) A q ci = some (.inr (.inl B))) (K : PW Z k i d pc' ls (.ref B :: st) m n Q) : PW Z k i d pc ls (.ref A :: st) m n Q := by
  subst hp
  refine PW.go ho (fun h hL => Or.inr ⟨h, ?_, hL⟩) K
  obtain ⟨vs, h1, h2, -⟩ := hL.fld hf
  simp [zStp, xstep, h1, h2, xgo, yslv]
theorem p_getV (pc' : Nat) {q ci A : Nat} {l : List Nat} (v : Value) (ho : zP Z i pc = some (.getfield q, w, ci, b)) (hp : pc + w = pc') (hf : yfld (zSh Z) (zN Z) A q ci = some (.inr (.inr l))) (hx : ysv l (m A q) = v) (K : PW Z k i d pc' ls (v :: st) m n Q) : PW Z k i d pc ls (.ref A :: st) m n Q := by
  subst hp
  refine PW.go ho (fun h hL => Or.inr ⟨h, ?_, hL⟩) K
  obtain ⟨vs, h1, h2, -⟩ := hL.fld hf
  simp [zStp, xstep, h1, h2, xgo, yslv, hx]
/-- a field of null: no step -/
theorem p_getN {q ci : Nat} (ho : zP Z i pc = some (.getfield q, w, ci, b)) : PW Z k i d pc ls (.null :: st) m n Q := PW.stuck ho (fun h hL => rfl)
theorem p_put (pc' : Nat) {q ci t A : Nat} {s : ySl} {v : Value} {x : Int} (ho : zP Z i pc = some (.putfield q, w, ci, t)) (hp : pc + w = pc') (hf : yfld (zSh Z) (zN Z) A q ci = some s) (hs : yslv s x = v) (K : PW Z k i d pc' ls st (yup m A q x) n Q) : PW Z k i d pc ls (v :: .ref A :: st) m n Q := by
  subst hp
  refine PW.go ho (fun h hL => ?_) K
  obtain ⟨vs, h1, h2, sl, h3, h4, h5, h6⟩ := hL.fld hf
  have hq : q < vs.length := (List.getElem?_eq_some_iff.mp h2).1
  by_cases hv : xfit t v = true
  · refine Or.inr ⟨h.set A (.inr (ci, vs.set q v)), ?_, hL.set h1 (by simp [xcz]) ?_⟩
    · simp [zStp, xstep, h1, hq, hv, xgo]
    · rw [h3]
      simp only [yCell]
      refine ⟨_, rfl, by simp [h5], fun j s' hj => ?_⟩
      by_cases e : j = q
      · subst e
        rw [hj] at h4
        cases h4
        rw [List.getElem?_set_self hq, yup_eq, hs]
      · rw [List.getElem?_set_ne (fun q => e q.symm), yup_nk e]
        exact h6 j s' hj
  · exact Or.inl (by simp [zStp, xstep, h1, hv])
theorem p_putI (pc' : Nat) {q ci t t0 A : Nat} {x : Int} (ho : zP Z i pc = some (.putfield q, w, ci, t)) (hp : pc + w = pc') (hf : yfld (zSh Z) (zN Z) A q ci = some (.inl t0)) (K : PW Z k i d pc' ls st (yup m A q x) n Q) : PW Z k i d pc ls (yI x :: .ref A :: st) m n Q := p_put pc' ho hp hf rfl K
theorem p_inN {x : Int} {e : Nat} (he : e ≤ 100000) (hr : rg x) (h : ¬ (0 ≤ x ∧ x < e)) : xin (Int32.ofInt x) e = false := by
  unfold xin
  rw [decide_eq_false_iff_not, Classical.not_not]
  by_cases h0 : x < 0
  · exact Or.inl (by rw [Int32.lt_iff_toInt_lt, y_rng hr]; exact h0)
  · refine Or.inr ?_
    have : (Int32.ofInt x).toNatClampNeg = x.toNat := by
      show (Int32.ofInt x).toInt.toNat = x.toNat
      rw [y_rng hr]
    rw [this]
    omega
theorem p_iaX (pc' : Nat) {t A e : Nat} {x : Int} (v : Int) (ho : zP Z i pc = some (.iaload, w, t, b)) (hp : pc + w = pc') (hf : yarr (zSh Z) (zN Z) A = some (t, e)) (hr : rg x) (hv : m A x.toNat = v) (K : 0 ≤ x ∧ x < (e : Int) → PW Z k i d pc' ls (yI v :: st) m n Q) : PW Z k i d pc ls (yI x :: .ref A :: st) m n Q := by
  subst hp
  subst hv
  by_cases hx : 0 ≤ x ∧ x < (e : Int)
  · refine PW.go ho (fun h hL => Or.inr ⟨h, ?_, hL⟩) (K hx)
    obtain ⟨hk, -, g, h1, h2⟩ := hL.arr hf
    obtain ⟨e1, e2⟩ := y_in hk hx.1 hx.2
    have e3 := h2 x.toNat (by omega)
    simp [zStp, xstep, yI, h1, e1, e2, xgo, e3]
  · refine PW.stuck ho (fun h hL => ?_)
    obtain ⟨hk, -, g, h1, h2⟩ := hL.arr hf
    have e1 := p_inN hk hr hx
    simp [zStp, xstep, yI, h1, e1]
theorem p_script (pc' : Nat) {x : Int} (ho : zP Z i pc = some (.iaload, w, 0, b)) (hp : pc + w = pc') (hl : zLn Z ≤ 100000) (hr : rg x) (K : 0 ≤ x ∧ x < (zLn Z : Int) → PW Z k i d pc' ls (yI (zXs Z x.toNat).toInt :: st) m n Q) : PW Z k i d pc ls (yI x :: .retAddr 0 :: st) m n Q := by
  subst hp
  by_cases hx : 0 ≤ x ∧ x < (zLn Z : Int)
  · refine PW.gp ho (fun h => ?_) (K hx)
    obtain ⟨e1, e2⟩ := y_in hl hx.1 hx.2
    rw [y_back]
    have e1 : xin (Int32.ofInt x) Z.1.2.1 = true := e1
    simp [zStp, xstep, yI, e1, e2, xgo, zXs]
  · refine PW.stuck ho (fun h hL => ?_)
    have e1 : xin (Int32.ofInt x) Z.1.2.1 = false := p_inN hl hr hx
    simp [zStp, xstep, yI, e1]
theorem p_iaS (pc' : Nat) {t A e : Nat} {x v : Int} (ho : zP Z i pc = some (.iastore, w, t, b)) (hp : pc + w = pc') (hf : yarr (zSh Z) (zN Z) A = some (t, e)) (hr : rg x) (v' : Int) (hv : nar t v = v') (K : 0 ≤ x ∧ x < (e : Int) → PW Z k i d pc' ls st (yup m A x.toNat v') n Q) : PW Z k i d pc ls (yI v :: yI x :: .ref A :: st) m n Q := by
  subst hp
  subst hv
  by_cases hx : 0 ≤ x ∧ x < (e : Int)
  · refine PW.go ho (fun h hL => Or.inr ?_) (K hx)
    obtain ⟨hk, hs, g, h1, h2⟩ := hL.arr hf
    obtain ⟨e1, e2⟩ := y_in hk hx.1 hx.2
    refine ⟨h.set A (.inl (t, e, .inl (upd g x.toNat (if t = 3 then vp_nar .char (Int32.ofInt v) else if t = 1 then vp_nar .boolean (Int32.ofInt v) else if t = 2 then vp_nar .byte (Int32.ofInt v) else Int32.ofInt v)))), ?_, hL.set h1 rfl ?_⟩
    · simp only [zStp, xstep, yI, h1, e1, e2, xgo, and_self, if_true]
    · rw [hs]
      simp only [yCell]
      refine ⟨_, rfl, fun j hj => ?_⟩
      by_cases q : j = x.toNat
      · subst q
        rw [yup_eq]
        simp [upd, nar]
      · rw [yup_nk q, ← h2 j hj]
        simp [upd, q]
  · refine PW.stuck ho (fun h hL => ?_)
    obtain ⟨hk, -, g, h1, h2⟩ := hL.arr hf
    have e1 := p_inN hk hr hx
    simp [zStp, xstep, yI, h1, e1]
theorem p_laX (pc' : Nat) {A e : Nat} {x : Int} (v : Int64) (ho : zP Z i pc = some (.laload, w, a, b)) (hp : pc + w = pc') (hf : ylar (zSh Z) (zN Z) A = some e) (hr : rg x) (hv : Int64.ofInt (m A x.toNat) = v) (K : 0 ≤ x ∧ x < (e : Int) → PW Z k i d pc' ls (.long v :: st) m n Q) : PW Z k i d pc ls (yI x :: .ref A :: st) m n Q := by
  subst hp
  subst hv
  by_cases hx : 0 ≤ x ∧ x < (e : Int)
  · refine PW.go ho (fun h hL => Or.inr ⟨h, ?_, hL⟩) (K hx)
    obtain ⟨hk, -, g, h1, h2⟩ := hL.lar hf
    obtain ⟨e1, e2⟩ := y_in hk hx.1 hx.2
    have e3 := h2 x.toNat (by omega)
    simp [zStp, xstep, yI, h1, e1, e2, xgo, e3]
  · refine PW.stuck ho (fun h hL => ?_)
    obtain ⟨hk, -, g, h1, h2⟩ := hL.lar hf
    have e1 := p_inN hk hr hx
    simp [zStp, xstep, yI, h1, e1]
theorem p_laS (pc' : Nat) {A e : Nat} {x : Int} {v : Int64} (ho : zP Z i pc = some (.lastore, w, a, b)) (hp : pc + w = pc') (hf : ylar (zSh Z) (zN Z) A = some e) (hr : rg x) (K : 0 ≤ x ∧ x < (e : Int) → PW Z k i d pc' ls st (yup m A x.toNat v.toInt) n Q) : PW Z k i d pc ls (.long v :: yI x :: .ref A :: st) m n Q := by
  subst hp
  by_cases hx : 0 ≤ x ∧ x < (e : Int)
  · refine PW.go ho (fun h hL => Or.inr ?_) (K hx)
    obtain ⟨hk, hs, g, h1, h2⟩ := hL.lar hf
    obtain ⟨e1, e2⟩ := y_in hk hx.1 hx.2
    refine ⟨h.set A (.inl (5, e, .inr (.inl (vp_updL g x.toNat v)))), ?_, hL.set h1 rfl ?_⟩
    · simp only [zStp, xstep, yI, h1, e1, e2, xgo, and_self, if_true]
    · rw [hs]
      simp only [yCell]
      refine ⟨_, rfl, fun j hj => ?_⟩
      by_cases q : j = x.toNat
      · subst q
        rw [yup_eq]
        simp [vp_updL]
      · rw [yup_nk q, ← h2 j hj]
        simp [vp_updL, q]
  · refine PW.stuck ho (fun h hL => ?_)
    obtain ⟨hk, -, g, h1, h2⟩ := hL.lar hf
    have e1 := p_inN hk hr hx
    simp [zStp, xstep, yI, h1, e1]
theorem p_aaX (pc' : Nat) {A e B : Nat} {x : Int} (ho : zP Z i pc = some (.aaload, w, a, b)) (hp : pc + w = pc') (hf : yrow (zSh Z) (zN Z) A = some (e, B)) (hr : rg x) (K : 0 ≤ x ∧ x < (e : Int) → PW Z k i d pc' ls (.ref (B + x.toNat) :: st) m n Q) : PW Z k i d pc ls (yI x :: .ref A :: st) m n Q := by
  subst hp
  by_cases hx : 0 ≤ x ∧ x < (e : Int)
  · refine PW.go ho (fun h hL => Or.inr ⟨h, ?_, hL⟩) (K hx)
    obtain ⟨hk, t, g, t1, t2, h1, h2⟩ := hL.row hf
    obtain ⟨e1, e2⟩ := y_in hk hx.1 hx.2
    have e3 := h2 x.toNat (by omega)
    simp [zStp, xstep, yI, h1, e1, e2, xgo, e3, t1, t2, va_rf]
  · refine PW.stuck ho (fun h hL => ?_)
    obtain ⟨hk, t, g, t1, t2, h1, h2⟩ := hL.row hf
    have e1 := p_inN hk hr hx
    simp [zStp, xstep, yI, h1, e1]
theorem p_alen (pc' : Nat) {t A e : Nat} (ho : zP Z i pc = some (.arraylength, w, a, b)) (hp : pc + w = pc') (hf : yarr (zSh Z) (zN Z) A = some (t, e)) (K : PW Z k i d pc' ls (yI e :: st) m n Q) : PW Z k i d pc ls (.ref A :: st) m n Q := by
  subst hp
  refine PW.go ho (fun h hL => Or.inr ⟨h, ?_, hL⟩) K
  obtain ⟨hk, -, g, h1, h2⟩ := hL.arr hf
  simp [zStp, xstep, yI, h1, xgo, Int32.ofInt_eq_ofNat]
theorem p_rlen (pc' : Nat) {A e B : Nat} (ho : zP Z i pc = some (.arraylength, w, a, b)) (hp : pc + w = pc') (hf : yrow (zSh Z) (zN Z) A = some (e, B)) (K : PW Z k i d pc' ls (yI e :: st) m n Q) : PW Z k i d pc ls (.ref A :: st) m n Q := by
  subst hp
  refine PW.go ho (fun h hL => Or.inr ⟨h, ?_, hL⟩) K
  obtain ⟨hk, t, g, t1, t2, h1, h2⟩ := hL.row hf
  simp [zStp, xstep, yI, h1, xgo, Int32.ofInt_eq_ofNat]
theorem p_slen (pc' : Nat) (ho : zP Z i pc = some (.arraylength, w, a, b)) (hp : pc + w = pc') (K : PW Z k i d pc' ls (yI (zLn Z) :: st) m n Q) : PW Z k i d pc ls (.retAddr 0 :: st) m n Q := by
  subst hp
  refine PW.gp ho (fun h => ?_) K
  simp [zStp, xstep, yI, xgo, Int32.ofInt_eq_ofNat, zLn]
/-- the top of the stack by another name -/
theorem p_top {x : Int} (y : Int) (h : x = y) (K : PW Z k i d pc ls (yI y :: st) m n Q) : PW Z k i d pc ls (yI x :: st) m n Q := h ▸ K
theorem p_callR {j ix kk kd : Nat} {h : xH} : zStp Z (.invokeinterface j ix, w, kk, kd) pc ls st h = none ∨ zStp Z (.invokeinterface j ix, w, kk, kd) pc ls st h = some (.inr (.inr (j, (st.take kk).reverse, pc + w, st.drop kk))) := by
  unfold zStp
  simp only [xstep]
  split
  · split
    · exact Or.inr rfl
    · split
      · rename_i a0 as0 he
        split
        · split
          · rw [he]
            exact Or.inr rfl
          · exact Or.inl rfl
        · exact Or.inl rfl
      · rename_i q0 as0 he
        split
        · rw [he]
          exact Or.inr rfl
        · exact Or.inl rfl
      · exact Or.inl rfl
  · exact Or.inl rfl
/-- a call; hd: what a thrown exception does here -/
theorem p_call (pc' : Nat) (as : List Value) (st0 : List Value) {j ix kk kd : Nat} (ho : zP Z i pc = some (.invokeinterface j ix, w, kk, kd)) (hp : pc + w = pc') (ha : (st.take kk).reverse = as) (hr : st.drop kk = st0) (hc : ∀ k', k' < k → ∀ d', PC Z k' d' j as m n Qs) (k1 : ∀ v m' n', Qs (.inl v) m' n' → ∀ k', k' < k → PW Z k' i d pc' ls (v.toList ++ st0) m' n' Q) (k2 : ∀ q x m' n', Qs (.inr (q, x)) m' n' → (∀ pq, zHd Z i pc q = some (some pq) → ∀ k', k' < k → PW Z k' i d pq ls [.ref x] m' n' Q) ∧ (zHd Z i pc q = some none → Q (.inr (q, x)) m' n')) : PW Z k i d pc ls st m n Q := by
  subst hp
  subst ha
  subst hr
  intro h hL j0 hj r h' hrun
  cases j0 with
  | zero => cases hrun
  | succ j0 =>
    simp only [xrun, ho] at hrun
    rcases p_callR (Z := Z) (pc := pc) (w := w) (ls := ls) (st := st) (j := j) (ix := ix) (kk := kk) (kd := kd) (h := h) with e | e
    · rw [e] at hrun
      cases hrun
    · rw [e] at hrun
      cases d with
      | zero => cases hrun
      | succ d =>
        simp only at hrun
        split at hrun
        · split at hrun
          · cases hrun
          · rename_i v h1 hv
            obtain ⟨m1, n1, hl1, hq1⟩ := hc j0 (by omega) d h hL j0 (Nat.le_refl _) _ _ hv
            exact k1 v m1 n1 hq1 j0 (by omega) h1 hl1 j0 (Nat.le_refl _) _ _ hrun
          · rename_i q x h1 hv
            obtain ⟨m1, n1, hl1, hq1⟩ := hc j0 (by omega) d h hL j0 (Nat.le_refl _) _ _ hv
            have k3 := k2 q x m1 n1 hq1
            split at hrun
            · rename_i pq hd
              exact k3.1 pq hd j0 (by omega) h1 hl1 j0 (Nat.le_refl _) _ _ hrun
            · rename_i hd
              cases hrun
              exact ⟨m1, n1, hl1, k3.2 hd⟩
            · cases hrun
        · cases hrun
theorem p_throw {e : Nat} (ho : zP Z i pc = some (.athrow, w, e, b)) (hq : ∀ x n', Q (.inr (e, x)) m n') : PW Z k i d pc ls st m n Q := by
  intro h hL j hj r h' hr
  cases j with
  | zero => cases hr
  | succ j =>
    simp only [xrun, ho] at hr
    by_cases hw : xw st ≤ 8
    · have e1 : zStp Z (.athrow, w, e, b) pc ls st h = some (.inr (.inl (.inr (e, h.length), h ++ [.inr (e, List.replicate 6 .null)]))) := if_pos hw
      rw [e1] at hr
      cases hr
      exact ⟨m, n + 1, hL.app e, hq _ _⟩
    · have e1 : zStp Z (.athrow, w, e, b) pc ls st h = none := if_neg hw
      rw [e1] at hr
      cases hr
theorem p_ireturn {t : Nat} {x : Int} (ho : zP Z i pc = some (.ireturn, w, t, b)) (hq : Q (.inl (some (yI x))) m n) : PW Z k i d pc ls [yI x] m n Q := by
  intro h hL j hj r h' hr
  cases j with
  | zero => cases hr
  | succ j =>
    simp only [xrun, ho] at hr
    by_cases hv : xfit t (yI x) = true
    · have e1 : zStp Z (.ireturn, w, t, b) pc ls [yI x] h = some (.inr (.inl (.inl (some (yI x)), h))) := if_pos hv
      rw [e1] at hr
      cases hr
      exact ⟨m, n, hL, hq⟩
    · have e1 : zStp Z (.ireturn, w, t, b) pc ls [yI x] h = none := if_neg hv
      rw [e1] at hr
      cases hr
theorem p_areturn {v : Value} (ho : zP Z i pc = some (.areturn, w, a, b)) (hq : Q (.inl (some v)) m n) : PW Z k i d pc ls [v] m n Q := by
  intro h hL j hj r h' hr
  cases j with
  | zero => cases hr
  | succ j =>
    simp only [xrun, ho] at hr
    by_cases hv : xref v = true
    · have e1 : zStp Z (.areturn, w, a, b) pc ls [v] h = some (.inr (.inl (.inl (some v), h))) := if_pos hv
      rw [e1] at hr
      cases hr
      exact ⟨m, n, hL, hq⟩
    · have e1 : zStp Z (.areturn, w, a, b) pc ls [v] h = none := if_neg hv
      rw [e1] at hr
      cases hr
theorem p_return (ho : zP Z i pc = some (.return_, w, a, b)) (hq : Q (.inl none) m n) : PW Z k i d pc ls [] m n Q := by
  intro h hL j hj r h' hr
  cases j with
  | zero => cases hr
  | succ j =>
    simp only [xrun, ho] at hr
    have e1 : zStp Z (.return_, w, a, b) pc ls [] h = some (.inr (.inl (.inl none, h))) := rfl
    rw [e1] at hr
    cases hr
    exact ⟨m, n, hL, hq⟩
theorem p_tsw (pt : Nat) {df lo hi c o : Int} {offs : Array Int} (ho : zP Z i pc = some (.tableswitch df lo hi offs, w, a, b)) (hr : rg c) (hc : ¬ (c < lo ∨ hi < c)) (hoff : offs[(c - lo).toNat]? = some o) (ht : ((pc : Int) + o).toNat = pt) (K : PW Z k i d pt ls st m n Q) : PW Z k i d pc ls (yI c :: st) m n Q := by
  subst ht
  refine PW.gp ho (fun h => ?_) K
  simp only [zStp, xstep, yI, y_rng hr]
  rw [if_neg hc]
  simp only [hoff]
  rfl
theorem p_tswd (pt : Nat) {df lo hi x : Int} {offs : Array Int} (ho : zP Z i pc = some (.tableswitch df lo hi offs, w, a, b)) (hr : rg x) (hc : x < lo ∨ hi < x) (ht : ((pc : Int) + df).toNat = pt) (K : PW Z k i d pt ls st m n Q) : PW Z k i d pc ls (yI x :: st) m n Q := by
  subst ht
  refine PW.gp ho (fun h => ?_) K
  simp only [zStp, xstep, yI, y_rng hr]
  rw [if_pos hc]
  rfl
theorem p_lsw (pt : Nat) {df x o : Int} {ps : Array (Int × Int)} (ho : zP Z i pc = some (.lookupswitch df ps, w, a, b)) (hr : rg x) (hoff : Op.lookupswitch.offset ps.toList df x = o) (ht : ((pc : Int) + o).toNat = pt) (K : PW Z k i d pt ls st m n Q) : PW Z k i d pc ls (yI x :: st) m n Q := by
  subst ht
  refine PW.gp ho (fun h => ?_) K
  simp only [zStp, xstep, yI, y_rng hr, hoff]
  rfl
end PR2
/-! what holds of every memory here: its places are ints; which program the parser (cell 2), the facts (8), the machine (169) work on -/
def nsel (a q : Nat) : Prop := ¬ (a = 0 ∧ (q = 4 ∨ q = 5)) ∧ ¬ (a = 2 ∧ q = 1) ∧ ¬ (a = 8 ∧ q = 4) ∧ ¬ (a = 169 ∧ q = 4)
def s01 (x : Int) : Prop := x = 0 ∨ x = 1
def pA (x : Int) : Nat := if x = 0 then 256 else 316
def pX (A : Nat) : Int := if A = 256 then 0 else 1
abbrev yS3 : Type := Int × Int × Int
def RM (c : yS3) (m : yM) : Prop := (∀ a q, rg (m a q)) ∧ s01 (m 0 4) ∧ s01 (m 0 5) ∧ m 2 1 = c.1 ∧ m 8 4 = c.2.1 ∧ m 169 4 = c.2.2
theorem pA_is (x : Int) : pA x = 256 ∨ pA x = 316 := by
  unfold pA
  split
  · exact Or.inl rfl
  · exact Or.inr rfl
theorem pA_sv {x : Int} (h : s01 x) : ysv [256, 316] x = .ref (pA x) := by
  rcases h with rfl | rfl <;> rfl
theorem pA_sv2 {x y : Int} (h : s01 x) (e : x = y) : ysv [256, 316] x = .ref (pA y) := e ▸ pA_sv h
theorem pX_of {A : Nat} {x y : Int} (hA : A = 256 ∨ A = 316) (h : x = y) (hc : y = pX A) : ysv [256, 316] x = .ref A := by
  subst h
  subst hc
  rcases hA with rfl | rfl <;> rfl
theorem pX_sv {A : Nat} (h : A = 256 ∨ A = 316) : yslv (.inr (.inr [256, 316])) (pX A) = .ref A := by
  rcases h with rfl | rfl <;> rfl
theorem pA_pX {A : Nat} (h : A = 256 ∨ A = 316) : pA (pX A) = A := by
  rcases h with rfl | rfl <;> rfl
theorem pX_01 (A : Nat) : s01 (pX A) := by
  unfold pX s01
  split
  · exact Or.inl rfl
  · exact Or.inr rfl
theorem s01_rg {x : Int} (h : s01 x) : rg x := by
  rcases h with rfl | rfl <;> exact rgD rfl
theorem nselA {a q : Nat} (h : a ≠ 0 ∧ a ≠ 2 ∧ a ≠ 8 ∧ a ≠ 169) : nsel a q := by
  unfold nsel
  omega
theorem nselD {a q : Nat} (h : (decide (a = 0 ∧ (q = 4 ∨ q = 5)) || (decide (a = 2 ∧ q = 1) || (decide (a = 8 ∧ q = 4) || decide (a = 169 ∧ q = 4)))) = false) : nsel a q := by
  simp only [Bool.or_eq_false_iff, decide_eq_false_iff_not] at h
  exact h
theorem RM.up {c : yS3} {m : yM} (h : RM c m) (a q : Nat) {v : Int} (hs : nsel a q) (hv : rg v) : RM c (yup m a q v) := by
  obtain ⟨h1, h2, h3, h4, h5, h6⟩ := h
  obtain ⟨s1, s2, s3, s4⟩ := hs
  refine ⟨fun b j => ?_, ?_, ?_, ?_, ?_, ?_⟩
  · unfold yup
    split
    · exact hv
    · exact h1 b j
  · rw [yup_ne (by omega)]; exact h2
  · rw [yup_ne (by omega)]; exact h3
  · rw [yup_ne (by omega)]; exact h4
  · rw [yup_ne (by omega)]; exact h5
  · rw [yup_ne (by omega)]; exact h6
theorem RM.s2 {c : yS3} {m : yM} (h : RM c m) {x : Int} (hx : s01 x) : RM (x, c.2) (yup m 2 1 x) := by
  obtain ⟨h1, h2, h3, h4, h5, h6⟩ := h
  refine ⟨fun b j => ?_, h2, h3, rfl, h5, h6⟩
  unfold yup
  split
  · exact s01_rg hx
  · exact h1 b j
theorem RM.s8 {c : yS3} {m : yM} (h : RM c m) {x : Int} (hx : s01 x) : RM (c.1, x, c.2.2) (yup m 8 4 x) := by
  obtain ⟨h1, h2, h3, h4, h5, h6⟩ := h
  refine ⟨fun b j => ?_, h2, h3, h4, rfl, h6⟩
  unfold yup
  split
  · exact s01_rg hx
  · exact h1 b j
theorem RM.s169 {c : yS3} {m : yM} (h : RM c m) {x : Int} (hx : s01 x) : RM (c.1, c.2.1, x) (yup m 169 4 x) := by
  obtain ⟨h1, h2, h3, h4, h5, h6⟩ := h
  refine ⟨fun b j => ?_, h2, h3, h4, h5, rfl⟩
  unfold yup
  split
  · exact s01_rg hx
  · exact h1 b j
theorem RM.s04 {c : yS3} {m : yM} (h : RM c m) {x : Int} (hx : s01 x) : RM c (yup m 0 4 x) := by
  obtain ⟨h1, h2, h3, h4, h5, h6⟩ := h
  refine ⟨fun b j => ?_, hx, h3, h4, h5, h6⟩
  unfold yup
  split
  · exact s01_rg hx
  · exact h1 b j
theorem RM.s05 {c : yS3} {m : yM} (h : RM c m) {x : Int} (hx : s01 x) : RM c (yup m 0 5 x) := by
  obtain ⟨h1, h2, h3, h4, h5, h6⟩ := h
  refine ⟨fun b j => ?_, h2, hx, h4, h5, h6⟩
  unfold yup
  split
  · exact s01_rg hx
  · exact h1 b j
theorem RM.rg {c : yS3} {m : yM} (h : RM c m) (a q : Nat) : rg (m a q) := h.1 a q
/-! what a function gives, one behind another -/
section BND
variable {α β γ : Type}
def bI (o : Option (α × yM)) (g : α → yM → Option β) : Option β := match o with
  | none => none
  | some (r, m) => g r m
def bU (o : Option yM) (g : yM → Option β) : Option β := match o with
  | none => none
  | some m => g m
def bP (o : Option α) (g : α → Option β) : Option β := match o with
  | none => none
  | some r => g r
/-- it may throw: the exception goes on -/
def bT (o : Option ((α ⊕ Nat) × yM)) (g : α → yM → Option β) (t : Nat → yM → Option β) : Option β := match o with
  | none => none
  | some (.inl r, m) => g r m
  | some (.inr e, m) => t e m
/-- behind a loop -/
def bL (o : Option ((α × yM) ⊕ (γ × yM))) (g : α → yM → Option β) (t : γ → yM → Option β) : Option β := match o with
  | none => none
  | some (.inl (l, m)) => g l m
  | some (.inr (r, m)) => t r m
theorem bI_s {o : Option (α × yM)} {g : α → yM → Option β} {r : α} {m : yM} (h : o = some (r, m)) : bI o g = g r m := by subst h; rfl
theorem bU_s {o : Option yM} {g : yM → Option β} {m : yM} (h : o = some m) : bU o g = g m := by subst h; rfl
theorem bP_s {o : Option α} {g : α → Option β} {r : α} (h : o = some r) : bP o g = g r := by subst h; rfl
theorem bT_l {o : Option ((α ⊕ Nat) × yM)} {g : α → yM → Option β} {t : Nat → yM → Option β} {r : α} {m : yM} (h : o = some (.inl r, m)) : bT o g t = g r m := by subst h; rfl
theorem bT_r {o : Option ((α ⊕ Nat) × yM)} {g : α → yM → Option β} {t : Nat → yM → Option β} {e : Nat} {m : yM} (h : o = some (.inr e, m)) : bT o g t = t e m := by subst h; rfl
theorem bL_l {o : Option ((α × yM) ⊕ (γ × yM))} {g : α → yM → Option β} {t : γ → yM → Option β} {l : α} {m : yM} (h : o = some (.inl (l, m))) : bL o g t = g l m := by subst h; rfl
theorem bL_r {o : Option ((α × yM) ⊕ (γ × yM))} {g : α → yM → Option β} {t : γ → yM → Option β} {r : γ} {m : yM} (h : o = some (.inr (r, m))) : bL o g t = t r m := by subst h; rfl
/-- a loop: its body goes on, leaves it, or ends the method -/
def yloop (B : α → yM → Option ((α × yM) ⊕ ((α × yM) ⊕ (γ × yM)))) : Nat → α → yM → Option ((α × yM) ⊕ (γ × yM))
  | 0, _, _ => none
  | f + 1, l, m => match B l m with
    | none => none
    | some (.inl (l', m')) => yloop B f l' m'
    | some (.inr r) => some r
theorem yloop_n {B : α → yM → Option ((α × yM) ⊕ ((α × yM) ⊕ (γ × yM)))} {f : Nat} {l l' : α} {m m' : yM} (h : B l m = some (.inl (l', m'))) : yloop B (f + 1) l m = yloop B f l' m' := by
  simp only [yloop, h]
theorem yloop_e {B : α → yM → Option ((α × yM) ⊕ ((α × yM) ⊕ (γ × yM)))} {f : Nat} {l : α} {m : yM} {r : (α × yM) ⊕ (γ × yM)} (h : B l m = some (.inr r)) : yloop B (f + 1) l m = some r := by
  simp only [yloop, h]
end BND
theorem PW.zero {Z : yZ} {i d pc : Nat} {ls : xL} {st : List Value} {m : yM} {n : Nat} {Q : xO → yM → Nat → Prop} : PW Z 0 i d pc ls st m n Q := by
  intro h hL j hj r h' hr
  have e : j = 0 := by omega
  subst e
  cases hr
theorem PW.loop {Lt R : Type} {Z : yZ} {i d pch pce K : Nat} {Q : xO → yM → Nat → Prop} (B : Lt → yM → Option ((Lt × yM) ⊕ ((Lt × yM) ⊕ (R × yM)))) (loc : Lt → (Nat → Option Value) → xL) (rgl : Lt → Prop) (I : yM → Prop) (RQ : R → yM → Prop) (hB : ∀ k, k ≤ K → ∀ l j m n, rgl l → I m → (∀ l' j' m' n', B l m = some (.inl (l', m')) → rgl l' → I m' → ∀ k', k' < k → PW Z k' i d pch (loc l' j') [] m' n' Q) → (∀ l' j' m' n', B l m = some (.inr (.inl (l', m'))) → rgl l' → I m' → ∀ k', k' ≤ k → PW Z k' i d pce (loc l' j') [] m' n' Q) → (∀ r m', B l m = some (.inr (.inr (r, m'))) → RQ r m') → PW Z k i d pch (loc l j) [] m n Q) : ∀ f k, k ≤ f → k ≤ K → ∀ l j m n, rgl l → I m → (∀ l' j' m' n', yloop B f l m = some (.inl (l', m')) → rgl l' → I m' → ∀ k', k' ≤ k → PW Z k' i d pce (loc l' j') [] m' n' Q) → (∀ r m', yloop B f l m = some (.inr (r, m')) → RQ r m') → PW Z k i d pch (loc l j) [] m n Q := by
  intro f
  induction f with
  | zero =>
    intro k hk hK l j m n hl hI he hr
    have e : k = 0 := by omega
    subst e
    exact PW.zero
  | succ f ih =>
    intro k hk hK l j m n hl hI he hr
    refine hB k hK l j m n hl hI (fun l' j' m' n' e1 hl' hI' k' hk' => ?_) (fun l' j' m' n' e1 hl' hI' k' hk' => ?_) (fun r m' e1 => ?_)
    · refine ih k' (by omega) (by omega) l' j' m' n' hl' hI' (fun l2 j2 m2 n2 e2 hl2 hI2 k2 hk2 => ?_) (fun r m2 e2 => ?_)
      · exact he l2 j2 m2 n2 ((yloop_n e1).trans e2) hl2 hI2 k2 (by omega)
      · exact hr r m2 ((yloop_n e1).trans e2)
    · exact he l' j' m' n' (yloop_e e1) hl' hI' k' hk'
    · exact hr r m' (yloop_e e1)
/-- a loop that changes no place -/
def ploop {α γ : Type} (B : α → Option (α ⊕ (α ⊕ γ))) : Nat → α → Option (α ⊕ γ)
  | 0, _ => none
  | f + 1, l => match B l with
    | none => none
    | some (.inl l') => ploop B f l'
    | some (.inr r) => some r
theorem ploop_n {α γ : Type} {B : α → Option (α ⊕ (α ⊕ γ))} {f : Nat} {l l' : α} (h : B l = some (.inl l')) : ploop B (f + 1) l = ploop B f l' := by
  simp only [ploop, h]
theorem ploop_e {α γ : Type} {B : α → Option (α ⊕ (α ⊕ γ))} {f : Nat} {l : α} {r : α ⊕ γ} (h : B l = some (.inr r)) : ploop B (f + 1) l = some r := by
  simp only [ploop, h]
def bQ {α β γ : Type} (o : Option (α ⊕ γ)) (g : α → Option β) (t : γ → Option β) : Option β := match o with
  | none => none
  | some (.inl l) => g l
  | some (.inr r) => t r
theorem bQ_l {α β γ : Type} {o : Option (α ⊕ γ)} {g : α → Option β} {t : γ → Option β} {l : α} (h : o = some (.inl l)) : bQ o g t = g l := by subst h; rfl
theorem bQ_r {α β γ : Type} {o : Option (α ⊕ γ)} {g : α → Option β} {t : γ → Option β} {r : γ} (h : o = some (.inr r)) : bQ o g t = t r := by subst h; rfl
theorem PW.ploop {Lt R : Type} {Z : yZ} {i d pch pce K : Nat} {m : yM} {Q : xO → yM → Nat → Prop} (B : Lt → Option (Lt ⊕ (Lt ⊕ R))) (loc : Lt → (Nat → Option Value) → xL) (rgl : Lt → Prop) (RQ : R → Prop) (hB : ∀ k, k ≤ K → ∀ l j n, rgl l → (∀ l' j' n', B l = some (.inl l') → rgl l' → ∀ k', k' < k → PW Z k' i d pch (loc l' j') [] m n' Q) → (∀ l' j' n', B l = some (.inr (.inl l')) → rgl l' → ∀ k', k' ≤ k → PW Z k' i d pce (loc l' j') [] m n' Q) → (∀ r, B l = some (.inr (.inr r)) → RQ r) → PW Z k i d pch (loc l j) [] m n Q) : ∀ f k, k ≤ f → k ≤ K → ∀ l j n, rgl l → (∀ l' j' n', ploop B f l = some (.inl l') → rgl l' → ∀ k', k' ≤ k → PW Z k' i d pce (loc l' j') [] m n' Q) → (∀ r, ploop B f l = some (.inr r) → RQ r) → PW Z k i d pch (loc l j) [] m n Q := by
  intro f
  induction f with
  | zero =>
    intro k hk hK l j n hl he hr
    have e : k = 0 := by omega
    subst e
    exact PW.zero
  | succ f ih =>
    intro k hk hK l j n hl he hr
    refine hB k hK l j n hl (fun l' j' n' e1 hl' k' hk' => ?_) (fun l' j' n' e1 hl' k' hk' => ?_) (fun r e1 => ?_)
    · refine ih k' (by omega) (by omega) l' j' n' hl' (fun l2 j2 n2 e2 hl2 k2 hk2 => ?_) (fun r e2 => ?_)
      · exact he l2 j2 n2 ((ploop_n e1).trans e2) hl2 k2 (by omega)
      · exact hr r ((ploop_n e1).trans e2)
    · exact he l' j' n' (ploop_e e1) hl' k' hk'
    · exact hr r (ploop_e e1)
/-! what a method's function says of its run: it ends so (qS an int, qV nothing, qO an int and no place changed, qX that int, qR a reference; qT, qEV, qEA: or an exception of E) -/
def qS (c : yS3) (X : Option (Int × yM)) : xO → yM → Nat → Prop := fun o m' _ => ∃ r, o = .inl (some (yI r)) ∧ rg r ∧ RM c m' ∧ X = some (r, m')
def qV (c : yS3) (X : Option yM) : xO → yM → Nat → Prop := fun o m' _ => o = .inl none ∧ RM c m' ∧ X = some m'
def qO (m : yM) (X : Option Int) : xO → yM → Nat → Prop := fun o m' _ => ∃ r, o = .inl (some (yI r)) ∧ rg r ∧ m' = m ∧ X = some r
def qX (m : yM) (x : Int) : xO → yM → Nat → Prop := fun o m' _ => o = .inl (some (yI x)) ∧ rg x ∧ m' = m
def qXR (m : yM) (P : Nat → Prop) (x : Nat) : xO → yM → Nat → Prop := fun o m' _ => o = .inl (some (.ref x)) ∧ P x ∧ m' = m
def qR (c : yS3) (P : Nat → Prop) (X : Option (Nat × yM)) : xO → yM → Nat → Prop := fun o m' _ => ∃ r, o = .inl (some (.ref r)) ∧ P r ∧ RM c m' ∧ X = some (r, m')
def qEI (E : Nat → Prop) (c : yS3) (X : Option ((Int ⊕ Nat) × yM)) : xO → yM → Nat → Prop := fun o m' _ => (∃ r, o = .inl (some (yI r)) ∧ rg r ∧ RM c m' ∧ X = some (.inl r, m')) ∨ (∃ e x, o = .inr (e, x) ∧ E e ∧ RM c m' ∧ X = some (.inr e, m'))
def qEV (E : Nat → Prop) (c : yS3) (X : Option ((Unit ⊕ Nat) × yM)) : xO → yM → Nat → Prop := fun o m' _ => (o = .inl none ∧ RM c m' ∧ X = some (.inl (), m')) ∨ (∃ e x, o = .inr (e, x) ∧ E e ∧ RM c m' ∧ X = some (.inr e, m'))
def qEA (E : Nat → Prop) (c : yS3) (P : Nat → Prop) (X : Option ((Nat ⊕ Nat) × yM)) : xO → yM → Nat → Prop := fun o m' _ => (∃ r, o = .inl (some (.ref r)) ∧ P r ∧ RM c m' ∧ X = some (.inl r, m')) ∨ (∃ e x, o = .inr (e, x) ∧ E e ∧ RM c m' ∧ X = some (.inr e, m'))
section PC1
variable {Z : yZ} {k i d pc pc' w : Nat} {ls : xL} {st st0 : List Value} {m : yM} {n : Nat} {Q : xO → yM → Nat → Prop} {c : yS3} {j ix kk kd : Nat} {as : List Value} {P : Nat → Prop} {E : Nat → Prop}
theorem p_cS (pc' : Nat) (as : List Value) (st0 : List Value) {X : Option (Int × yM)} (ho : zP Z i pc = some (.invokeinterface j ix, w, kk, kd)) (hp : pc + w = pc') (ha : (st.take kk).reverse = as) (hr : st.drop kk = st0) (hc : ∀ k', k' < k → ∀ d', PC Z k' d' j as m n (qS c X)) (K : ∀ r m', X = some (r, m') → rg r → RM c m' → ∀ n' k', k' < k → PW Z k' i d pc' ls (yI r :: st0) m' n' Q) : PW Z k i d pc ls st m n Q :=
  p_call pc' as st0 ho hp ha hr hc (fun v m' n' hq k' hk' => by
    obtain ⟨r, e, h1, h2, h3⟩ := hq
    cases e
    exact K r m' h3 h1 h2 n' k' hk') (fun q x m' n' hq => by
    obtain ⟨r, e, h1⟩ := hq
    cases e)
theorem p_cV (pc' : Nat) (as : List Value) (st0 : List Value) {X : Option yM} (ho : zP Z i pc = some (.invokeinterface j ix, w, kk, kd)) (hp : pc + w = pc') (ha : (st.take kk).reverse = as) (hr : st.drop kk = st0) (hc : ∀ k', k' < k → ∀ d', PC Z k' d' j as m n (qV c X)) (K : ∀ m', X = some m' → RM c m' → ∀ n' k', k' < k → PW Z k' i d pc' ls st0 m' n' Q) : PW Z k i d pc ls st m n Q :=
  p_call pc' as st0 ho hp ha hr hc (fun v m' n' hq k' hk' => by
    obtain ⟨e, h2, h3⟩ := hq
    cases e
    exact K m' h3 h2 n' k' hk') (fun q x m' n' hq => by
    obtain ⟨e, h1⟩ := hq
    cases e)
theorem p_cO (pc' : Nat) (as : List Value) (st0 : List Value) {X : Option Int} (ho : zP Z i pc = some (.invokeinterface j ix, w, kk, kd)) (hp : pc + w = pc') (ha : (st.take kk).reverse = as) (hr : st.drop kk = st0) (hc : ∀ k', k' < k → ∀ d', PC Z k' d' j as m n (qO m X)) (K : ∀ r, X = some r → rg r → ∀ n' k', k' < k → PW Z k' i d pc' ls (yI r :: st0) m n' Q) : PW Z k i d pc ls st m n Q :=
  p_call pc' as st0 ho hp ha hr hc (fun v m' n' hq k' hk' => by
    obtain ⟨r, e, h1, h2, h3⟩ := hq
    cases e
    subst h2
    exact K r h3 h1 n' k' hk') (fun q x m' n' hq => by
    obtain ⟨r, e, h1⟩ := hq
    cases e)
theorem p_cX (pc' : Nat) (as : List Value) (st0 : List Value) {X : Int} (ho : zP Z i pc = some (.invokeinterface j ix, w, kk, kd)) (hp : pc + w = pc') (ha : (st.take kk).reverse = as) (hr : st.drop kk = st0) (hc : ∀ k', k' < k → ∀ d', PC Z k' d' j as m n (qX m X)) (K : rg X → ∀ n' k', k' < k → PW Z k' i d pc' ls (yI X :: st0) m n' Q) : PW Z k i d pc ls st m n Q :=
  p_call pc' as st0 ho hp ha hr hc (fun v m' n' hq k' hk' => by
    obtain ⟨e, h1, h2⟩ := hq
    cases e
    subst h2
    exact K h1 n' k' hk') (fun q x m' n' hq => by
    obtain ⟨e, h1⟩ := hq
    cases e)
theorem p_cXR (pc' : Nat) (as : List Value) (st0 : List Value) {X : Nat} (ho : zP Z i pc = some (.invokeinterface j ix, w, kk, kd)) (hp : pc + w = pc') (ha : (st.take kk).reverse = as) (hr : st.drop kk = st0) (hc : ∀ k', k' < k → ∀ d', PC Z k' d' j as m n (qXR m P X)) (K : P X → ∀ n' k', k' < k → PW Z k' i d pc' ls (.ref X :: st0) m n' Q) : PW Z k i d pc ls st m n Q :=
  p_call pc' as st0 ho hp ha hr hc (fun v m' n' hq k' hk' => by
    obtain ⟨e, h1, h2⟩ := hq
    cases e
    subst h2
    exact K h1 n' k' hk') (fun q x m' n' hq => by
    obtain ⟨e, h1⟩ := hq
    cases e)
theorem p_cR (pc' : Nat) (as : List Value) (st0 : List Value) {X : Option (Nat × yM)} (ho : zP Z i pc = some (.invokeinterface j ix, w, kk, kd)) (hp : pc + w = pc') (ha : (st.take kk).reverse = as) (hr : st.drop kk = st0) (hc : ∀ k', k' < k → ∀ d', PC Z k' d' j as m n (qR c P X)) (K : ∀ r m', X = some (r, m') → P r → RM c m' → ∀ n' k', k' < k → PW Z k' i d pc' ls (.ref r :: st0) m' n' Q) : PW Z k i d pc ls st m n Q :=
  p_call pc' as st0 ho hp ha hr hc (fun v m' n' hq k' hk' => by
    obtain ⟨r, e, h1, h2, h3⟩ := hq
    cases e
    exact K r m' h3 h1 h2 n' k' hk') (fun q x m' n' hq => by
    obtain ⟨r, e, h1⟩ := hq
    cases e)
/-- with exceptions: T says what is due where one is thrown -/
theorem p_cTI (pc' : Nat) (as : List Value) (st0 : List Value) {X : Option ((Int ⊕ Nat) × yM)} (ho : zP Z i pc = some (.invokeinterface j ix, w, kk, kd)) (hp : pc + w = pc') (ha : (st.take kk).reverse = as) (hr : st.drop kk = st0) (hc : ∀ k', k' < k → ∀ d', PC Z k' d' j as m n (qEI E c X)) (K : ∀ r m', X = some (.inl r, m') → rg r → RM c m' → ∀ n' k', k' < k → PW Z k' i d pc' ls (yI r :: st0) m' n' Q) (T : ∀ e x m' n', X = some (.inr e, m') → E e → RM c m' → (∀ pq, zHd Z i pc e = some (some pq) → ∀ k', k' < k → PW Z k' i d pq ls [.ref x] m' n' Q) ∧ (zHd Z i pc e = some none → Q (.inr (e, x)) m' n')) : PW Z k i d pc ls st m n Q :=
  p_call pc' as st0 ho hp ha hr hc (fun v m' n' hq k' hk' => by
    rcases hq with ⟨r, e, h1, h2, h3⟩ | ⟨q, x, e, h1⟩
    · cases e
      exact K r m' h3 h1 h2 n' k' hk'
    · cases e) (fun q x m' n' hq => by
    rcases hq with ⟨r, e, h1, h2, h3⟩ | ⟨q, x, e, h0, h1, h2⟩
    · cases e
    · cases e
      exact T q x m' n' h2 h0 h1)
theorem p_cTV (pc' : Nat) (as : List Value) (st0 : List Value) {X : Option ((Unit ⊕ Nat) × yM)} (ho : zP Z i pc = some (.invokeinterface j ix, w, kk, kd)) (hp : pc + w = pc') (ha : (st.take kk).reverse = as) (hr : st.drop kk = st0) (hc : ∀ k', k' < k → ∀ d', PC Z k' d' j as m n (qEV E c X)) (K : ∀ m', X = some (.inl (), m') → RM c m' → ∀ n' k', k' < k → PW Z k' i d pc' ls st0 m' n' Q) (T : ∀ e x m' n', X = some (.inr e, m') → E e → RM c m' → (∀ pq, zHd Z i pc e = some (some pq) → ∀ k', k' < k → PW Z k' i d pq ls [.ref x] m' n' Q) ∧ (zHd Z i pc e = some none → Q (.inr (e, x)) m' n')) : PW Z k i d pc ls st m n Q :=
  p_call pc' as st0 ho hp ha hr hc (fun v m' n' hq k' hk' => by
    rcases hq with ⟨e, h2, h3⟩ | ⟨q, x, e, h1⟩
    · cases e
      exact K m' h3 h2 n' k' hk'
    · cases e) (fun q x m' n' hq => by
    rcases hq with ⟨e, h2, h3⟩ | ⟨q, x, e, h0, h1, h2⟩
    · cases e
    · cases e
      exact T q x m' n' h2 h0 h1)
theorem p_cTA (pc' : Nat) (as : List Value) (st0 : List Value) {X : Option ((Nat ⊕ Nat) × yM)} (ho : zP Z i pc = some (.invokeinterface j ix, w, kk, kd)) (hp : pc + w = pc') (ha : (st.take kk).reverse = as) (hr : st.drop kk = st0) (hc : ∀ k', k' < k → ∀ d', PC Z k' d' j as m n (qEA E c P X)) (K : ∀ r m', X = some (.inl r, m') → P r → RM c m' → ∀ n' k', k' < k → PW Z k' i d pc' ls (.ref r :: st0) m' n' Q) (T : ∀ e x m' n', X = some (.inr e, m') → E e → RM c m' → (∀ pq, zHd Z i pc e = some (some pq) → ∀ k', k' < k → PW Z k' i d pq ls [.ref x] m' n' Q) ∧ (zHd Z i pc e = some none → Q (.inr (e, x)) m' n')) : PW Z k i d pc ls st m n Q :=
  p_call pc' as st0 ho hp ha hr hc (fun v m' n' hq k' hk' => by
    rcases hq with ⟨r, e, h1, h2, h3⟩ | ⟨q, x, e, h1⟩
    · cases e
      exact K r m' h3 h1 h2 n' k' hk'
    · cases e) (fun q x m' n' hq => by
    rcases hq with ⟨r, e, h1, h2, h3⟩ | ⟨q, x, e, h0, h1, h2⟩
    · cases e
    · cases e
      exact T q x m' n' h2 h0 h1)
end PC1
end
section
/-! ROWS OF THE CELLS, and what goes with them -/
theorem kP_0 {A : Nat} (hA : A = 256 ∨ A = 316) : yfld gSh 414 A 0 6 = some (.inr (.inl (A + 1))) := by rcases hA with rfl | rfl <;> decide +kernel
theorem kP_1 {A : Nat} (hA : A = 256 ∨ A = 316) : yfld gSh 414 A 1 6 = some (.inr (.inl (A + 2))) := by rcases hA with rfl | rfl <;> decide +kernel
theorem kP_2 {A : Nat} (hA : A = 256 ∨ A = 316) : yfld gSh 414 A 2 6 = some (.inr (.inl (A + 3))) := by rcases hA with rfl | rfl <;> decide +kernel
theorem kP_3 {A : Nat} (hA : A = 256 ∨ A = 316) : yfld gSh 414 A 3 6 = some (.inr (.inl (A + 4))) := by rcases hA with rfl | rfl <;> decide +kernel
theorem kP_4 {A : Nat} (hA : A = 256 ∨ A = 316) : yfld gSh 414 A 4 6 = some (.inr (.inl (A + 5))) := by rcases hA with rfl | rfl <;> decide +kernel
theorem kP_5 {A : Nat} (hA : A = 256 ∨ A = 316) : yfld gSh 414 A 5 6 = some (.inr (.inl (A + 6))) := by rcases hA with rfl | rfl <;> decide +kernel
theorem kP_6 {A : Nat} (hA : A = 256 ∨ A = 316) : yfld gSh 414 A 6 6 = some (.inr (.inl (A + 7))) := by rcases hA with rfl | rfl <;> decide +kernel
theorem kP_7 {A : Nat} (hA : A = 256 ∨ A = 316) : yfld gSh 414 A 7 6 = some (.inr (.inl (A + 8))) := by rcases hA with rfl | rfl <;> decide +kernel
theorem kP_8 {A : Nat} (hA : A = 256 ∨ A = 316) : yfld gSh 414 A 8 6 = some (.inr (.inl (A + 9))) := by rcases hA with rfl | rfl <;> decide +kernel
theorem kP_9 {A : Nat} (hA : A = 256 ∨ A = 316) : yfld gSh 414 A 9 6 = some (.inl 0) := by rcases hA with rfl | rfl <;> decide +kernel
theorem kP_10 {A : Nat} (hA : A = 256 ∨ A = 316) : yfld gSh 414 A 10 6 = some (.inl 0) := by rcases hA with rfl | rfl <;> decide +kernel
theorem kP_11 {A : Nat} (hA : A = 256 ∨ A = 316) : yfld gSh 414 A 11 6 = some (.inl 0) := by rcases hA with rfl | rfl <;> decide +kernel
theorem kP_12 {A : Nat} (hA : A = 256 ∨ A = 316) : yfld gSh 414 A 12 6 = some (.inl 0) := by rcases hA with rfl | rfl <;> decide +kernel
theorem kP_13 {A : Nat} (hA : A = 256 ∨ A = 316) : yfld gSh 414 A 13 6 = some (.inl 0) := by rcases hA with rfl | rfl <;> decide +kernel
theorem kP_14 {A : Nat} (hA : A = 256 ∨ A = 316) : yfld gSh 414 A 14 6 = some (.inl 0) := by rcases hA with rfl | rfl <;> decide +kernel
theorem kP_15 {A : Nat} (hA : A = 256 ∨ A = 316) : yfld gSh 414 A 15 6 = some (.inl 0) := by rcases hA with rfl | rfl <;> decide +kernel
theorem kP_16 {A : Nat} (hA : A = 256 ∨ A = 316) : yfld gSh 414 A 16 6 = some (.inl 0) := by rcases hA with rfl | rfl <;> decide +kernel
theorem kP_17 {A : Nat} (hA : A = 256 ∨ A = 316) : yfld gSh 414 A 17 6 = some (.inl 0) := by rcases hA with rfl | rfl <;> decide +kernel
theorem kPa_1 {A : Nat} (hA : A = 256 ∨ A = 316) : yarr gSh 414 (A + 1) = some (0, 6) := by rcases hA with rfl | rfl <;> decide +kernel
theorem kPa_2 {A : Nat} (hA : A = 256 ∨ A = 316) : yarr gSh 414 (A + 2) = some (0, 6) := by rcases hA with rfl | rfl <;> decide +kernel
theorem kPa_3 {A : Nat} (hA : A = 256 ∨ A = 316) : yarr gSh 414 (A + 3) = some (0, 6) := by rcases hA with rfl | rfl <;> decide +kernel
theorem kPa_4 {A : Nat} (hA : A = 256 ∨ A = 316) : yarr gSh 414 (A + 4) = some (0, 8) := by rcases hA with rfl | rfl <;> decide +kernel
theorem kPa_5 {A : Nat} (hA : A = 256 ∨ A = 316) : yarr gSh 414 (A + 5) = some (0, 48) := by rcases hA with rfl | rfl <;> decide +kernel
theorem kPa_8 {A : Nat} (hA : A = 256 ∨ A = 316) : yarr gSh 414 (A + 8) = some (0, 12) := by rcases hA with rfl | rfl <;> decide +kernel
theorem kPa_9 {A : Nat} (hA : A = 256 ∨ A = 316) : yarr gSh 414 (A + 9) = some (0, 8) := by rcases hA with rfl | rfl <;> decide +kernel
theorem kPr_6 {A : Nat} (hA : A = 256 ∨ A = 316) : yrow gSh 414 (A + 6) = some (10, A + 10) := by rcases hA with rfl | rfl <;> decide +kernel
theorem kPr_7 {A : Nat} (hA : A = 256 ∨ A = 316) : yrow gSh 414 (A + 7) = some (40, A + 20) := by rcases hA with rfl | rfl <;> decide +kernel
theorem kS_all : ((List.range 376).all (fun a => !(decide ((276 ≤ a ∧ a < 316) ∨ (336 ≤ a ∧ a < 376))) || (List.range 13).all (fun q => decide (yfld gSh 414 a q 5 = some (.inl 0))))) = true := by decide +kernel
theorem kM_all : ((List.range 376).all (fun a => !(decide ((266 ≤ a ∧ a < 276) ∨ (326 ≤ a ∧ a < 336))) || (List.range 6).all (fun q => decide (yfld gSh 414 a q 4 = some (.inl 0))))) = true := by decide +kernel
theorem kS_q {a q : Nat} (h : (276 ≤ a ∧ a < 316) ∨ (336 ≤ a ∧ a < 376)) (hq : q < 13) : yfld gSh 414 a q 5 = some (.inl 0) := by
  have h1 := List.all_eq_true.mp kS_all a (List.mem_range.mpr (by omega))
  rw [Bool.or_eq_true] at h1
  rcases h1 with h1 | h1
  · rw [Bool.not_eq_true', decide_eq_false_iff_not] at h1
    exact absurd h h1
  · exact of_decide_eq_true (List.all_eq_true.mp h1 q (List.mem_range.mpr hq))
theorem kM_q {a q : Nat} (h : (266 ≤ a ∧ a < 276) ∨ (326 ≤ a ∧ a < 336)) (hq : q < 6) : yfld gSh 414 a q 4 = some (.inl 0) := by
  have h1 := List.all_eq_true.mp kM_all a (List.mem_range.mpr (by omega))
  rw [Bool.or_eq_true] at h1
  rcases h1 with h1 | h1
  · rw [Bool.not_eq_true', decide_eq_false_iff_not] at h1
    exact absurd h h1
  · exact of_decide_eq_true (List.all_eq_true.mp h1 q (List.mem_range.mpr hq))
theorem kS_0 {a : Nat} (h : (276 ≤ a ∧ a < 316) ∨ (336 ≤ a ∧ a < 376)) : yfld gSh 414 a 0 5 = some (.inl 0) := kS_q h (by decide)
theorem kS_1 {a : Nat} (h : (276 ≤ a ∧ a < 316) ∨ (336 ≤ a ∧ a < 376)) : yfld gSh 414 a 1 5 = some (.inl 0) := kS_q h (by decide)
theorem kS_2 {a : Nat} (h : (276 ≤ a ∧ a < 316) ∨ (336 ≤ a ∧ a < 376)) : yfld gSh 414 a 2 5 = some (.inl 0) := kS_q h (by decide)
theorem kS_3 {a : Nat} (h : (276 ≤ a ∧ a < 316) ∨ (336 ≤ a ∧ a < 376)) : yfld gSh 414 a 3 5 = some (.inl 0) := kS_q h (by decide)
theorem kS_4 {a : Nat} (h : (276 ≤ a ∧ a < 316) ∨ (336 ≤ a ∧ a < 376)) : yfld gSh 414 a 4 5 = some (.inl 0) := kS_q h (by decide)
theorem kS_5 {a : Nat} (h : (276 ≤ a ∧ a < 316) ∨ (336 ≤ a ∧ a < 376)) : yfld gSh 414 a 5 5 = some (.inl 0) := kS_q h (by decide)
theorem kS_6 {a : Nat} (h : (276 ≤ a ∧ a < 316) ∨ (336 ≤ a ∧ a < 376)) : yfld gSh 414 a 6 5 = some (.inl 0) := kS_q h (by decide)
theorem kS_7 {a : Nat} (h : (276 ≤ a ∧ a < 316) ∨ (336 ≤ a ∧ a < 376)) : yfld gSh 414 a 7 5 = some (.inl 0) := kS_q h (by decide)
theorem kS_8 {a : Nat} (h : (276 ≤ a ∧ a < 316) ∨ (336 ≤ a ∧ a < 376)) : yfld gSh 414 a 8 5 = some (.inl 0) := kS_q h (by decide)
theorem kS_9 {a : Nat} (h : (276 ≤ a ∧ a < 316) ∨ (336 ≤ a ∧ a < 376)) : yfld gSh 414 a 9 5 = some (.inl 0) := kS_q h (by decide)
theorem kS_10 {a : Nat} (h : (276 ≤ a ∧ a < 316) ∨ (336 ≤ a ∧ a < 376)) : yfld gSh 414 a 10 5 = some (.inl 0) := kS_q h (by decide)
theorem kS_11 {a : Nat} (h : (276 ≤ a ∧ a < 316) ∨ (336 ≤ a ∧ a < 376)) : yfld gSh 414 a 11 5 = some (.inl 0) := kS_q h (by decide)
theorem kS_12 {a : Nat} (h : (276 ≤ a ∧ a < 316) ∨ (336 ≤ a ∧ a < 376)) : yfld gSh 414 a 12 5 = some (.inl 0) := kS_q h (by decide)
theorem kM_0 {a : Nat} (h : (266 ≤ a ∧ a < 276) ∨ (326 ≤ a ∧ a < 336)) : yfld gSh 414 a 0 4 = some (.inl 0) := kM_q h (by decide)
theorem kM_1 {a : Nat} (h : (266 ≤ a ∧ a < 276) ∨ (326 ≤ a ∧ a < 336)) : yfld gSh 414 a 1 4 = some (.inl 0) := kM_q h (by decide)
theorem kM_2 {a : Nat} (h : (266 ≤ a ∧ a < 276) ∨ (326 ≤ a ∧ a < 336)) : yfld gSh 414 a 2 4 = some (.inl 0) := kM_q h (by decide)
theorem kM_3 {a : Nat} (h : (266 ≤ a ∧ a < 276) ∨ (326 ≤ a ∧ a < 336)) : yfld gSh 414 a 3 4 = some (.inl 0) := kM_q h (by decide)
theorem kM_4 {a : Nat} (h : (266 ≤ a ∧ a < 276) ∨ (326 ≤ a ∧ a < 336)) : yfld gSh 414 a 4 4 = some (.inl 0) := kM_q h (by decide)
theorem kM_5 {a : Nat} (h : (266 ≤ a ∧ a < 276) ∨ (326 ≤ a ∧ a < 336)) : yfld gSh 414 a 5 4 = some (.inl 0) := kM_q h (by decide)
theorem kMr {A : Nat} {x : Int} (hA : A = 256 ∨ A = 316) (hx : 0 ≤ x ∧ x < 10) : (266 ≤ A + 10 + x.toNat ∧ A + 10 + x.toNat < 276) ∨ (326 ≤ A + 10 + x.toNat ∧ A + 10 + x.toNat < 336) := by omega
theorem kSr {A : Nat} {x : Int} (hA : A = 256 ∨ A = 316) (hx : 0 ≤ x ∧ x < 40) : (276 ≤ A + 20 + x.toNat ∧ A + 20 + x.toNat < 316) ∨ (336 ≤ A + 20 + x.toNat ∧ A + 20 + x.toNat < 376) := by omega
theorem kR9_all : ((List.range 48).all (fun a => decide (yarr gSh 414 (10 + a) = some (0, 12)))) = true := by decide +kernel
theorem kR9 {x : Int} (hx : 0 ≤ x ∧ x < 48) : yarr gSh 414 (10 + x.toNat) = some (0, 12) := of_decide_eq_true (List.all_eq_true.mp kR9_all x.toNat (List.mem_range.mpr (by omega)))
theorem kR58_all : ((List.range 12).all (fun a => decide (yarr gSh 414 (59 + a) = some (0, 10)))) = true := by decide +kernel
theorem kR58 {x : Int} (hx : 0 ≤ x ∧ x < 12) : yarr gSh 414 (59 + x.toNat) = some (0, 10) := of_decide_eq_true (List.all_eq_true.mp kR58_all x.toNat (List.mem_range.mpr (by omega)))
theorem kR72_all : ((List.range 96).all (fun a => decide (yarr gSh 414 (73 + a) = some (0, 12)))) = true := by decide +kernel
theorem kR72 {x : Int} (hx : 0 ≤ x ∧ x < 96) : yarr gSh 414 (73 + x.toNat) = some (0, 12) := of_decide_eq_true (List.all_eq_true.mp kR72_all x.toNat (List.mem_range.mpr (by omega)))
theorem kR170_all : ((List.range 48).all (fun a => decide (yarr gSh 414 (171 + a) = some (0, 12)))) = true := by decide +kernel
theorem kR170 {x : Int} (hx : 0 ≤ x ∧ x < 48) : yarr gSh 414 (171 + x.toNat) = some (0, 12) := of_decide_eq_true (List.all_eq_true.mp kR170_all x.toNat (List.mem_range.mpr (by omega)))
theorem kR220_all : ((List.range 30).all (fun a => decide (yarr gSh 414 (221 + a) = some (0, 8)))) = true := by decide +kernel
theorem kR220 {x : Int} (hx : 0 ≤ x ∧ x < 30) : yarr gSh 414 (221 + x.toNat) = some (0, 8) := of_decide_eq_true (List.all_eq_true.mp kR220_all x.toNat (List.mem_range.mpr (by omega)))
theorem kR251_all : ((List.range 4).all (fun a => decide (yarr gSh 414 (252 + a) = some (0, 48)))) = true := by decide +kernel
theorem kR251 {x : Int} (hx : 0 ≤ x ∧ x < 4) : yarr gSh 414 (252 + x.toNat) = some (0, 48) := of_decide_eq_true (List.all_eq_true.mp kR251_all x.toNat (List.mem_range.mpr (by omega)))
theorem t7X {L : Nat} {xs : Nat → Int32} {d nn : Nat} {m : yM} {x y : Int} : YC (gZ L xs) d 7 [yI x, yI y] m nn (qP m nn (fun r => r = x * 32 + (y - 97 + 1))) := by
  refine YC.mkB [some (yI x), some (yI y)] kn7 rfl rfl ?_
  refine y_iload 1 c7_0 rfl rfl ?_
  refine y_iconst 3 c7_1 rfl ?_
  refine y_imul 4 c7_3 rfl ?_
  refine y_iload 5 c7_4 rfl rfl ?_
  refine y_iconst 7 c7_5 rfl ?_
  refine y_isub 8 c7_7 rfl ?_
  refine y_iconst 9 c7_8 rfl ?_
  refine y_iadd 10 c7_9 rfl ?_
  refine y_iadd 11 c7_10 rfl ?_
  exact y_retP c7_11 (y_fit0 _) rfl
set_option maxRecDepth 100000 in
theorem t8_goX {L : Nat} {xs : Nat → Int32} {d nn : Nat} {m : yM}  : YC (gZ L xs) (d + 5) 8 [.retAddr 21] m nn (qP m nn (fun r => r = 239)) := by
  refine YC.mkB [some (.retAddr 21), none, none] kn8 rfl rfl ?_
  refine y_iconst 1 c8_0 rfl ?_
  refine y_istore 2 c8_1 rfl rfl ?_
  refine y_iconst 3 c8_2 rfl ?_
  refine y_istore 4 c8_3 rfl rfl ?_
  refine y_iload 5 c8_4 rfl rfl ?_
  refine y_aload 6 c8_5 rfl rfl rfl ?_
  refine y_inlB 9 [.retAddr 21] [yI 0] [some (.retAddr 21)] c8_6 rfl rfl rfl rfl rfl (ycanT km1 (show 20 % 2 = 0 ∧ 20 / 2 < gLit.length by decide)) kn1 rfl rfl ?_
  refine y_aload 1 c1_0 rfl rfl rfl ?_
  refine y_text 4 (j := 20) c1_1 rfl (show 20 % 2 = 0 ∧ 20 / 2 < gLit.length by decide) ?_
  refine y_blen 5 (j := 21) c1_4 rfl (show 21 % 2 = 1 ∧ 21 / 2 < gLit.length by decide) ?_
  refine y_top 2 (show ((gLit.getD (21 / 2) []).length : Int) = 2 by decide) ?_
  refine y_aload 6 c1_5 rfl rfl rfl ?_
  refine y_inlB 9 [.retAddr 21] [yI 2] [some (.retAddr 21)] c1_6 rfl rfl rfl rfl rfl (ycanT km0 (show 20 % 2 = 0 ∧ 20 / 2 < gLit.length by decide)) kn0 rfl rfl ?_
  refine y_static0 3 c0_0 rfl ?_
  refine y_if 13 6 c0_3 rfl rfl (yz_eq (by omega)) (fun hb3675 => ?_) (fun hb3675 => ?_)
  · exfalso; omega
  · refine y_aload 7 c0_6 rfl rfl rfl ?_
    refine y_coder 10 (j := 20) c0_7 rfl (show 20 % 2 = 0 ∧ 20 / 2 < gLit.length by decide) ?_
    refine y_goto 14 c0_10 rfl ?_
    refine y_ireturnK c0_14 rfl ?_
    refine y_ishr 10 c1_9 rfl ?_
    refine y_top 2 (by decide) ?_
    refine y_ireturnK c1_10 (y_fit0 _) ?_
    refine y_icmp 28 12 c8_9 rfl rfl (yc_ge (by omega) (by omega)) (fun hb3676 => ?_) (fun hb3676 => ?_)
    · exfalso; omega
    · refine y_iload 13 c8_12 rfl rfl ?_
      refine y_aload 14 c8_13 rfl rfl rfl ?_
      refine y_iload 15 c8_14 rfl rfl ?_
      refine y_inlB 18 [.retAddr 21, yI 0] [yI 0] [some (.retAddr 21), some (yI 0)] c8_15 rfl rfl rfl rfl rfl (ycanT km6 (show 20 % 2 = 0 ∧ 20 / 2 < gLit.length by decide)) kn6 rfl rfl ?_
      refine y_aload 1 c6_0 rfl rfl rfl ?_
      refine y_inlB 4 [.retAddr 21] [] [some (.retAddr 21)] c6_1 rfl rfl rfl rfl rfl (ycanT km2 (show 20 % 2 = 0 ∧ 20 / 2 < gLit.length by decide)) kn2 rfl rfl ?_
      refine y_static0 3 c2_0 rfl ?_
      refine y_if 17 6 c2_3 rfl rfl (yz_eq (by omega)) (fun hb3677 => ?_) (fun hb3677 => ?_)
      · exfalso; omega
      · refine y_aload 7 c2_6 rfl rfl rfl ?_
        refine y_coder 10 (j := 20) c2_7 rfl (show 20 % 2 = 0 ∧ 20 / 2 < gLit.length by decide) ?_
        refine y_if 17 13 c2_10 rfl rfl (yz_ne (by omega)) (fun hb3678 => ?_) (fun hb3678 => ?_)
        · exfalso; omega
        · refine y_iconst 14 c2_13 rfl ?_
          refine y_goto 18 c2_14 rfl ?_
          refine y_ireturnK c2_18 (y_fit1 (by omega)) ?_
          refine y_if 16 7 c6_4 rfl rfl (yz_eq (by omega)) (fun hb3679 => ?_) (fun hb3679 => ?_)
          · exfalso; omega
          · refine y_aload 8 c6_7 rfl rfl rfl ?_
            refine y_text 11 (j := 20) c6_8 rfl (show 20 % 2 = 0 ∧ 20 / 2 < gLit.length by decide) ?_
            refine y_iload 12 c6_11 rfl rfl ?_
            refine y_inlB 15 [.retAddr 22, yI 0] [] [some (.retAddr 22), some (yI 0)] c6_12 rfl rfl rfl rfl rfl (ycanS km5) kn5 rfl rfl ?_
            refine y_iload 1 c5_0 rfl rfl ?_
            refine y_aload 2 c5_1 rfl rfl rfl ?_
            refine y_blen 3 (j := 21) c5_2 rfl (show 21 % 2 = 1 ∧ 21 / 2 < gLit.length by decide) ?_
            refine y_top 2 (show ((gLit.getD (21 / 2) []).length : Int) = 2 by decide) ?_
            refine y_inlB 6 [yI 0, yI 2] [] [some (yI 0), some (yI 2)] c5_3 rfl rfl rfl rfl rfl (ycanS km4) kn4 rfl rfl ?_
            refine y_iload 1 c4_0 rfl rfl ?_
            refine y_iload 2 c4_1 rfl rfl ?_
            refine y_static1 5 c4_2 rfl ?_
            refine y_inlB 8 [yI 0, yI 2, .float 0] [] [some (yI 0), some (yI 2), some (.float 0)] c4_5 rfl rfl rfl rfl rfl (ycanS km3) kn3 rfl rfl ?_
            refine y_iload 1 c3_0 rfl rfl ?_
            refine y_if 9 4 c3_1 rfl rfl (yz_lt (by omega)) (fun hb3680 => ?_) (fun hb3680 => ?_)
            · exfalso; omega
            · refine y_iload 5 c3_4 rfl rfl ?_
              refine y_iload 6 c3_5 rfl rfl ?_
              refine y_icmp 16 9 c3_6 rfl rfl (yc_lt (by omega) (by omega)) (fun hb3681 => ?_) (fun hb3681 => ?_)
              · refine y_iload 17 c3_16 rfl rfl ?_
                refine y_ireturnK c3_17 (y_fit0 _) ?_
                refine y_pop 9 c4_8 rfl rfl ?_
                refine y_returnK c4_9 ?_
                refine y_aload 7 c5_6 rfl rfl rfl ?_
                refine y_iload 8 c5_7 rfl rfl ?_
                refine y_byte 9 (j := 21) c5_8 rfl (show 21 % 2 = 1 ∧ 21 / 2 < gLit.length by decide) (show (gLit.getD (21 / 2) []).length ≤ 100000 by decide) (show (0 : Int) ≤ 0 ∧ (0 : Int) < (gLit.getD (21 / 2) []).length by decide) ?_
                refine y_top 103 (show ((gLit.getD (21 / 2) []).getD (Int.toNat 0) 0).toInt = 103 by decide) ?_
                refine y_iconst 12 c5_9 rfl ?_
                refine y_iand 13 c5_12 rfl ?_
                refine y_top 103 (by decide) ?_
                refine y_i2cN 14 c5_13 rfl (by omega) ?_
                refine y_ireturnK c5_14 rfl ?_
                refine y_ireturnK c6_15 rfl ?_
                refine y_callP 21 [yI 0, yI 103] [] c8_18 rfl rfl rfl rfl rfl (ycanS km7) t7X (fun r3682 hr3682 => ?_)
                refine y_istore 22 c8_21 rfl rfl ?_
                refine y_iincN 25 1 c8_22 rfl rfl (by decide) rfl ?_
                refine y_goto 4 c8_25 rfl ?_
                refine y_iload 5 c8_4 rfl rfl ?_
                refine y_aload 6 c8_5 rfl rfl rfl ?_
                refine y_inlB 9 [.retAddr 21] [yI 1] [some (.retAddr 21)] c8_6 rfl rfl rfl rfl rfl (ycanT km1 (show 20 % 2 = 0 ∧ 20 / 2 < gLit.length by decide)) kn1 rfl rfl ?_
                refine y_aload 1 c1_0 rfl rfl rfl ?_
                refine y_text 4 (j := 20) c1_1 rfl (show 20 % 2 = 0 ∧ 20 / 2 < gLit.length by decide) ?_
                refine y_blen 5 (j := 21) c1_4 rfl (show 21 % 2 = 1 ∧ 21 / 2 < gLit.length by decide) ?_
                refine y_top 2 (show ((gLit.getD (21 / 2) []).length : Int) = 2 by decide) ?_
                refine y_aload 6 c1_5 rfl rfl rfl ?_
                refine y_inlB 9 [.retAddr 21] [yI 2] [some (.retAddr 21)] c1_6 rfl rfl rfl rfl rfl (ycanT km0 (show 20 % 2 = 0 ∧ 20 / 2 < gLit.length by decide)) kn0 rfl rfl ?_
                refine y_static0 3 c0_0 rfl ?_
                refine y_if 13 6 c0_3 rfl rfl (yz_eq (by omega)) (fun hb3683 => ?_) (fun hb3683 => ?_)
                · exfalso; omega
                · refine y_aload 7 c0_6 rfl rfl rfl ?_
                  refine y_coder 10 (j := 20) c0_7 rfl (show 20 % 2 = 0 ∧ 20 / 2 < gLit.length by decide) ?_
                  refine y_goto 14 c0_10 rfl ?_
                  refine y_ireturnK c0_14 rfl ?_
                  refine y_ishr 10 c1_9 rfl ?_
                  refine y_top 2 (by decide) ?_
                  refine y_ireturnK c1_10 (y_fit0 _) ?_
                  refine y_icmp 28 12 c8_9 rfl rfl (yc_ge (by omega) (by omega)) (fun hb3684 => ?_) (fun hb3684 => ?_)
                  · exfalso; omega
                  · refine y_iload 13 c8_12 rfl rfl ?_
                    refine y_aload 14 c8_13 rfl rfl rfl ?_
                    refine y_iload 15 c8_14 rfl rfl ?_
                    refine y_inlB 18 [.retAddr 21, yI 1] [yI r3682] [some (.retAddr 21), some (yI 1)] c8_15 rfl rfl rfl rfl rfl (ycanT km6 (show 20 % 2 = 0 ∧ 20 / 2 < gLit.length by decide)) kn6 rfl rfl ?_
                    refine y_aload 1 c6_0 rfl rfl rfl ?_
                    refine y_inlB 4 [.retAddr 21] [] [some (.retAddr 21)] c6_1 rfl rfl rfl rfl rfl (ycanT km2 (show 20 % 2 = 0 ∧ 20 / 2 < gLit.length by decide)) kn2 rfl rfl ?_
                    refine y_static0 3 c2_0 rfl ?_
                    refine y_if 17 6 c2_3 rfl rfl (yz_eq (by omega)) (fun hb3685 => ?_) (fun hb3685 => ?_)
                    · exfalso; omega
                    · refine y_aload 7 c2_6 rfl rfl rfl ?_
                      refine y_coder 10 (j := 20) c2_7 rfl (show 20 % 2 = 0 ∧ 20 / 2 < gLit.length by decide) ?_
                      refine y_if 17 13 c2_10 rfl rfl (yz_ne (by omega)) (fun hb3686 => ?_) (fun hb3686 => ?_)
                      · exfalso; omega
                      · refine y_iconst 14 c2_13 rfl ?_
                        refine y_goto 18 c2_14 rfl ?_
                        refine y_ireturnK c2_18 (y_fit1 (by omega)) ?_
                        refine y_if 16 7 c6_4 rfl rfl (yz_eq (by omega)) (fun hb3687 => ?_) (fun hb3687 => ?_)
                        · exfalso; omega
                        · refine y_aload 8 c6_7 rfl rfl rfl ?_
                          refine y_text 11 (j := 20) c6_8 rfl (show 20 % 2 = 0 ∧ 20 / 2 < gLit.length by decide) ?_
                          refine y_iload 12 c6_11 rfl rfl ?_
                          refine y_inlB 15 [.retAddr 22, yI 1] [] [some (.retAddr 22), some (yI 1)] c6_12 rfl rfl rfl rfl rfl (ycanS km5) kn5 rfl rfl ?_
                          refine y_iload 1 c5_0 rfl rfl ?_
                          refine y_aload 2 c5_1 rfl rfl rfl ?_
                          refine y_blen 3 (j := 21) c5_2 rfl (show 21 % 2 = 1 ∧ 21 / 2 < gLit.length by decide) ?_
                          refine y_top 2 (show ((gLit.getD (21 / 2) []).length : Int) = 2 by decide) ?_
                          refine y_inlB 6 [yI 1, yI 2] [] [some (yI 1), some (yI 2)] c5_3 rfl rfl rfl rfl rfl (ycanS km4) kn4 rfl rfl ?_
                          refine y_iload 1 c4_0 rfl rfl ?_
                          refine y_iload 2 c4_1 rfl rfl ?_
                          refine y_static1 5 c4_2 rfl ?_
                          refine y_inlB 8 [yI 1, yI 2, .float 0] [] [some (yI 1), some (yI 2), some (.float 0)] c4_5 rfl rfl rfl rfl rfl (ycanS km3) kn3 rfl rfl ?_
                          refine y_iload 1 c3_0 rfl rfl ?_
                          refine y_if 9 4 c3_1 rfl rfl (yz_lt (by omega)) (fun hb3688 => ?_) (fun hb3688 => ?_)
                          · exfalso; omega
                          · refine y_iload 5 c3_4 rfl rfl ?_
                            refine y_iload 6 c3_5 rfl rfl ?_
                            refine y_icmp 16 9 c3_6 rfl rfl (yc_lt (by omega) (by omega)) (fun hb3689 => ?_) (fun hb3689 => ?_)
                            · refine y_iload 17 c3_16 rfl rfl ?_
                              refine y_ireturnK c3_17 (y_fit0 _) ?_
                              refine y_pop 9 c4_8 rfl rfl ?_
                              refine y_returnK c4_9 ?_
                              refine y_aload 7 c5_6 rfl rfl rfl ?_
                              refine y_iload 8 c5_7 rfl rfl ?_
                              refine y_byte 9 (j := 21) c5_8 rfl (show 21 % 2 = 1 ∧ 21 / 2 < gLit.length by decide) (show (gLit.getD (21 / 2) []).length ≤ 100000 by decide) (show (0 : Int) ≤ 1 ∧ (1 : Int) < (gLit.getD (21 / 2) []).length by decide) ?_
                              refine y_top 111 (show ((gLit.getD (21 / 2) []).getD (Int.toNat 1) 0).toInt = 111 by decide) ?_
                              refine y_iconst 12 c5_9 rfl ?_
                              refine y_iand 13 c5_12 rfl ?_
                              refine y_top 111 (by decide) ?_
                              refine y_i2cN 14 c5_13 rfl (by omega) ?_
                              refine y_ireturnK c5_14 rfl ?_
                              refine y_ireturnK c6_15 rfl ?_
                              refine y_callP 21 [yI r3682, yI 111] [] c8_18 rfl rfl rfl rfl rfl (ycanS km7) t7X (fun r3690 hr3690 => ?_)
                              refine y_istore 22 c8_21 rfl rfl ?_
                              refine y_iincN 25 2 c8_22 rfl rfl (by decide) rfl ?_
                              refine y_goto 4 c8_25 rfl ?_
                              refine y_iload 5 c8_4 rfl rfl ?_
                              refine y_aload 6 c8_5 rfl rfl rfl ?_
                              refine y_inlB 9 [.retAddr 21] [yI 2] [some (.retAddr 21)] c8_6 rfl rfl rfl rfl rfl (ycanT km1 (show 20 % 2 = 0 ∧ 20 / 2 < gLit.length by decide)) kn1 rfl rfl ?_
                              refine y_aload 1 c1_0 rfl rfl rfl ?_
                              refine y_text 4 (j := 20) c1_1 rfl (show 20 % 2 = 0 ∧ 20 / 2 < gLit.length by decide) ?_
                              refine y_blen 5 (j := 21) c1_4 rfl (show 21 % 2 = 1 ∧ 21 / 2 < gLit.length by decide) ?_
                              refine y_top 2 (show ((gLit.getD (21 / 2) []).length : Int) = 2 by decide) ?_
                              refine y_aload 6 c1_5 rfl rfl rfl ?_
                              refine y_inlB 9 [.retAddr 21] [yI 2] [some (.retAddr 21)] c1_6 rfl rfl rfl rfl rfl (ycanT km0 (show 20 % 2 = 0 ∧ 20 / 2 < gLit.length by decide)) kn0 rfl rfl ?_
                              refine y_static0 3 c0_0 rfl ?_
                              refine y_if 13 6 c0_3 rfl rfl (yz_eq (by omega)) (fun hb3691 => ?_) (fun hb3691 => ?_)
                              · exfalso; omega
                              · refine y_aload 7 c0_6 rfl rfl rfl ?_
                                refine y_coder 10 (j := 20) c0_7 rfl (show 20 % 2 = 0 ∧ 20 / 2 < gLit.length by decide) ?_
                                refine y_goto 14 c0_10 rfl ?_
                                refine y_ireturnK c0_14 rfl ?_
                                refine y_ishr 10 c1_9 rfl ?_
                                refine y_top 2 (by decide) ?_
                                refine y_ireturnK c1_10 (y_fit0 _) ?_
                                refine y_icmp 28 12 c8_9 rfl rfl (yc_ge (by omega) (by omega)) (fun hb3692 => ?_) (fun hb3692 => ?_)
                                · refine y_iload 29 c8_28 rfl rfl ?_
                                  exact y_retP c8_29 (y_fit0 _) (by omega)
                                · exfalso; omega
                            · exfalso; omega
              · exfalso; omega
section XDEEP
variable {stp : xI → Nat → xL → List Value → xH → Option xG} {P : Nat → Nat → Option xI} {mx : Nat → Nat} {hd : Nat → Nat → Nat → Option (Option Nat)}
theorem xrun_deep : ∀ (n e d i pc : Nat) (ls : xL) (st : List Value) (h : xH) (r : xO × xH), xrun stp P mx hd n d i pc ls st h = some r → xrun stp P mx hd n (d + e) i pc ls st h = some r := by
  intro n
  induction n with
  | zero => intro e d i pc ls st h r hr; cases hr
  | succ n ih =>
    intro e d i pc ls st h r hr
    simp only [xrun] at hr ⊢
    split at hr
    · cases hr
    · rename_i o ho
      split at hr
      · cases hr
      · rename_i pc' ls' st' h1 hs
        exact ih e _ _ _ _ _ _ _ hr
      · exact hr
      · rename_i j as pc' st' hs
        split at hr
        · cases hr
        · rename_i d
          rw [show d + 1 + e = (d + e) + 1 by omega]
          simp only
          split at hr
          · rename_i hent
            rw [if_pos hent]
            split at hr
            · cases hr
            · rename_i v h1 hc
              rw [ih e _ _ _ _ _ _ _ hc]
              have := ih e _ _ _ _ _ _ _ hr
              rw [show d + 1 + e = (d + e) + 1 by omega] at this
              exact this
            · rename_i q a h1 hc
              rw [ih e _ _ _ _ _ _ _ hc]
              split at hr
              · rename_i pq hq
                simp only [hq]
                have := ih e _ _ _ _ _ _ _ hr
                rw [show d + 1 + e = (d + e) + 1 by omega] at this
                exact this
              · rename_i hq
                simp only [hq]
                exact hr
              · cases hr
          · cases hr
end XDEEP
theorem xrun_same {stp : xI → Nat → xL → List Value → xH → Option xG} {P : Nat → Nat → Option xI} {mx : Nat → Nat} {hd : Nat → Nat → Nat → Option (Option Nat)} {n1 n2 d1 d2 i pc : Nat} {ls : xL} {st : List Value} {h : xH} {r1 r2 : xO × xH} (h1 : xrun stp P mx hd n1 d1 i pc ls st h = some r1) (h2 : xrun stp P mx hd n2 d2 i pc ls st h = some r2) : r1 = r2 := by
  have e1 := xrun_deep (n1 + n2) d2 d1 i pc ls st h r1 (xrun_more n1 n2 _ _ _ _ _ _ _ h1)
  have e2 := xrun_deep (n2 + n1) d1 d2 i pc ls st h r2 (xrun_more n2 n1 _ _ _ _ _ _ _ h2)
  rw [Nat.add_comm n2 n1, Nat.add_comm d2 d1, e1] at e2
  cases e2
  rfl
theorem YC.pc {Z : yZ} {d j : Nat} {as : List Value} {m : yM} {n : Nat} {Q : xO → yM → Nat → Prop} (h : YC Z d j as m n Q) (k d' : Nat) : PC Z k d' j as m n Q := by
  intro h0 hL j0 hj r h' hr
  obtain ⟨r1, h1, m1, n1, ⟨he, n0, hx⟩, hl, hq⟩ := h h0 hL
  have e := xrun_same hx hr
  cases e
  exact ⟨m1, n1, hl, hq⟩
theorem YW.pw {Z : yZ} {i d pc : Nat} {ls : xL} {st : List Value} {m : yM} {n : Nat} {Q Q' : xO → yM → Nat → Prop} (h : YW Z i d pc ls st m n Q) (hp : ∀ k, PW Z k i d pc ls st m n Q') : YW Z i d pc ls st m n (fun r m' n' => Q r m' n' ∧ ∃ m2 n2, Q' r m2 n2) := by
  intro h0 hL
  obtain ⟨r1, h1, m1, n1, ⟨n0, hx⟩, hl, hq⟩ := h h0 hL
  obtain ⟨m2, n2, l2, q2⟩ := hp n0 h0 hL n0 (Nat.le_refl _) _ _ hx
  exact ⟨r1, h1, m1, n1, ⟨n0, hx⟩, hl, hq, m2, n2, q2⟩
theorem d8go {L : Nat} {xs : Nat → Int32} {k d n : Nat} {m : yM} : PC (gZ L xs) k d 8 [.retAddr 21] m n (qX m 239) := by
  refine PW.mono (YC.pc (t8_goX (d := 0)) k d) (fun r m' n' hq => ?_)
  obtain ⟨x, e, h1, h2, h3⟩ := hq
  subst h1
  exact ⟨e, rgD rfl, h2⟩
def qSe (X : Option (Int × yM)) : xO → yM → Nat → Prop := fun o m' _ => ∃ r, o = .inl (some (yI r)) ∧ rg r ∧ (∃ c, RM c m') ∧ X = some (r, m')
def qEIe (E : Nat → Prop) (X : Option ((Int ⊕ Nat) × yM)) : xO → yM → Nat → Prop := fun o m' _ => (∃ r, o = .inl (some (yI r)) ∧ rg r ∧ (∃ c, RM c m') ∧ X = some (.inl r, m')) ∨ (∃ e x, o = .inr (e, x) ∧ E e ∧ (∃ c, RM c m') ∧ X = some (.inr e, m'))
section PC2
variable {Z : yZ} {k i d pc pc' w : Nat} {ls : xL} {st st0 : List Value} {m : yM} {n : Nat} {Q : xO → yM → Nat → Prop} {j ix kk kd : Nat} {as : List Value} {P : Nat → Prop} {E : Nat → Prop}
theorem p_cSe (pc' : Nat) (as : List Value) (st0 : List Value) {X : Option (Int × yM)} (ho : zP Z i pc = some (.invokeinterface j ix, w, kk, kd)) (hp : pc + w = pc') (ha : (st.take kk).reverse = as) (hr : st.drop kk = st0) (hc : ∀ k', k' < k → ∀ d', PC Z k' d' j as m n (qSe X)) (K : ∀ r m' c, X = some (r, m') → rg r → RM c m' → ∀ n' k', k' < k → PW Z k' i d pc' ls (yI r :: st0) m' n' Q) : PW Z k i d pc ls st m n Q :=
  p_call pc' as st0 ho hp ha hr hc (fun v m' n' hq k' hk' => by
    obtain ⟨r, e, h1, ⟨c, h2⟩, h3⟩ := hq
    cases e
    exact K r m' c h3 h1 h2 n' k' hk') (fun q x m' n' hq => by
    obtain ⟨r, e, h1⟩ := hq
    cases e)
theorem p_cTIe (pc' : Nat) (as : List Value) (st0 : List Value) {X : Option ((Int ⊕ Nat) × yM)} (ho : zP Z i pc = some (.invokeinterface j ix, w, kk, kd)) (hp : pc + w = pc') (ha : (st.take kk).reverse = as) (hr : st.drop kk = st0) (hc : ∀ k', k' < k → ∀ d', PC Z k' d' j as m n (qEIe E X)) (K : ∀ r m' c, X = some (.inl r, m') → rg r → RM c m' → ∀ n' k', k' < k → PW Z k' i d pc' ls (yI r :: st0) m' n' Q) (T : ∀ e x m' n' c, X = some (.inr e, m') → E e → RM c m' → (∀ pq, zHd Z i pc e = some (some pq) → ∀ k', k' < k → PW Z k' i d pq ls [.ref x] m' n' Q) ∧ (zHd Z i pc e = some none → Q (.inr (e, x)) m' n')) : PW Z k i d pc ls st m n Q :=
  p_call pc' as st0 ho hp ha hr hc (fun v m' n' hq k' hk' => by
    rcases hq with ⟨r, e, h1, ⟨c, h2⟩, h3⟩ | ⟨q, x, e, h1⟩
    · cases e
      exact K r m' c h3 h1 h2 n' k' hk'
    · cases e) (fun q x m' n' hq => by
    rcases hq with ⟨r, e, h1, h2, h3⟩ | ⟨q, x, e, h0, ⟨c, h1⟩, h2⟩
    · cases e
    · cases e
      exact T q x m' n' c h2 h0 h1)
end PC2
theorem rg_i2l (x : Int) : rg (i2l x).toInt := by
  unfold i2l
  rw [Int32.toInt_toInt64]
  exact rg_to _
theorem pX_pA {x : Int} (h : s01 x) : pX (pA x) = x := by
  rcases h with rfl | rfl <;> rfl
theorem sv_null {x : Int} (h : ¬ s01 x) : ysv [256, 316] x = .null := by
  unfold ysv
  unfold s01 at h
  split
  · rfl
  · rename_i h0
    have h2 : 2 ≤ x.toNat := by omega
    rw [List.getElem?_eq_none (by simpa using h2)]
theorem h8_of {c : yS3} {m : yM} (hR : RM c m) {x : Int} (e : m 8 4 = x) (h : s01 x) : c.2.1 = pX (pA x) := by
  rw [pX_pA h, ← e]
  exact hR.2.2.2.2.1.symm
theorem d175n {L : Nat} {xs : Nat → Int32} {k d n a1 : Nat} {m : yM} (h : ¬ s01 (m 8 4)) : PC (gZ L xs) k d 175 [.ref 8, .ref a1] m n (fun _ _ _ => False) := by
  refine PC.mk [some (.ref 8), some (.ref a1), none] kn175 rfl ?_
  refine p_iconst 1 c175_0 rfl ?_
  refine p_istore 2 c175_1 rfl rfl ?_
  refine p_iload 3 c175_2 rfl rfl ?_
  refine p_aload 4 c175_3 rfl rfl ?_
  refine p_getV 7 .null c175_4 rfl kf8_4 (sv_null h) ?_
  exact p_getN c175_7
theorem d179n {L : Nat} {xs : Nat → Int32} {k d n : Nat} {x1 x2 : Int} {m : yM} (h : ¬ s01 (m 8 4)) : PC (gZ L xs) k d 179 [.ref 8, yI x1, yI x2] m n (fun _ _ _ => False) := by
  refine PC.mk [some (.ref 8), some (yI x1), some (yI x2), none] kn179 rfl ?_
  refine p_iconst 1 c179_0 rfl ?_
  refine p_istore 2 c179_1 rfl rfl ?_
  refine p_iload 3 c179_2 rfl rfl ?_
  refine p_aload 4 c179_3 rfl rfl ?_
  refine p_getV 7 .null c179_4 rfl kf8_4 (sv_null h) ?_
  exact p_getN c179_7
theorem khm {i pc q : Nat} (h : gH i = []) : gHd i pc q = some none := by
  unfold gHd
  rw [h]
  rfl
end
section
/-! ROWS: printed by wip/fn/dc.py -/
theorem r_c218_108 : gP 218 108 = some (.aload 1, 1, 0, 0) := by decide +kernel
theorem r_c218_109 : gP 218 109 = some (.aload 0, 1, 0, 0) := by decide +kernel
theorem r_c218_110 : gP 218 110 = some (.iload 4, 2, 0, 0) := by decide +kernel
theorem r_c218_112 : gP 218 112 = some (.iconst 1, 1, 0, 0) := by decide +kernel
theorem r_c218_113 : gP 218 113 = some (.iadd, 1, 0, 0) := by decide +kernel
theorem r_c218_114 : gP 218 114 = some (.iaload, 1, 0, 0) := by decide +kernel
theorem r_c218_115 : gP 218 115 = some (.i2l, 1, 0, 0) := by decide +kernel
theorem r_c218_116 : gP 218 116 = some (.iconst 32, 2, 0, 0) := by decide +kernel
theorem r_c218_118 : gP 218 118 = some (.lshl, 1, 0, 0) := by decide +kernel
theorem r_c218_119 : gP 218 119 = some (.aload 0, 1, 0, 0) := by decide +kernel
theorem r_c218_120 : gP 218 120 = some (.iload 4, 2, 0, 0) := by decide +kernel
theorem r_c218_122 : gP 218 122 = some (.iconst 2, 1, 0, 0) := by decide +kernel
theorem r_c218_123 : gP 218 123 = some (.iadd, 1, 0, 0) := by decide +kernel
theorem r_c218_124 : gP 218 124 = some (.iaload, 1, 0, 0) := by decide +kernel
theorem r_c218_125 : gP 218 125 = some (.i2l, 1, 0, 0) := by decide +kernel
theorem r_c218_126 : gP 218 126 = some (.goto_w 4294967295, 3, 67, 0) := by decide +kernel
theorem r_c218_129 : gP 218 129 = some (.land, 1, 0, 0) := by decide +kernel
theorem r_c218_130 : gP 218 130 = some (.lor, 1, 0, 0) := by decide +kernel
theorem r_c218_131 : gP 218 131 = some (.aload 0, 1, 0, 0) := by decide +kernel
theorem r_c218_132 : gP 218 132 = some (.iload 4, 2, 0, 0) := by decide +kernel
theorem r_c218_134 : gP 218 134 = some (.iconst 3, 1, 0, 0) := by decide +kernel
theorem r_c218_135 : gP 218 135 = some (.iadd, 1, 0, 0) := by decide +kernel
theorem r_c218_136 : gP 218 136 = some (.iaload, 1, 0, 0) := by decide +kernel
theorem r_c218_137 : gP 218 137 = some (.aload 3, 1, 0, 0) := by decide +kernel
theorem r_c218_138 : gP 218 138 = some (.invokeinterface 21 69, 3, 4, 0) := by decide +kernel
theorem r_c218_141 : gP 218 141 = some (.istore 5, 2, 0, 0) := by decide +kernel
theorem r_c218_143 : gP 218 143 = some (.aload 2, 1, 0, 0) := by decide +kernel
theorem r_c218_144 : gP 218 144 = some (.aload 0, 1, 0, 0) := by decide +kernel
theorem r_c218_145 : gP 218 145 = some (.iload 4, 2, 0, 0) := by decide +kernel
theorem r_c218_147 : gP 218 147 = some (.iconst 1, 1, 0, 0) := by decide +kernel
theorem r_c218_148 : gP 218 148 = some (.iadd, 1, 0, 0) := by decide +kernel
theorem r_c218_149 : gP 218 149 = some (.iaload, 1, 0, 0) := by decide +kernel
theorem r_c218_150 : gP 218 150 = some (.i2l, 1, 0, 0) := by decide +kernel
theorem r_c218_151 : gP 218 151 = some (.iconst 32, 2, 0, 0) := by decide +kernel
theorem r_c218_153 : gP 218 153 = some (.lshl, 1, 0, 0) := by decide +kernel
theorem r_c218_154 : gP 218 154 = some (.aload 0, 1, 0, 0) := by decide +kernel
theorem r_c218_155 : gP 218 155 = some (.iload 4, 2, 0, 0) := by decide +kernel
theorem r_c218_157 : gP 218 157 = some (.iconst 2, 1, 0, 0) := by decide +kernel
theorem r_c218_158 : gP 218 158 = some (.iadd, 1, 0, 0) := by decide +kernel
theorem r_c218_159 : gP 218 159 = some (.iaload, 1, 0, 0) := by decide +kernel
theorem r_c218_160 : gP 218 160 = some (.i2l, 1, 0, 0) := by decide +kernel
theorem r_c218_161 : gP 218 161 = some (.goto_w 4294967295, 3, 67, 0) := by decide +kernel
theorem r_c218_164 : gP 218 164 = some (.land, 1, 0, 0) := by decide +kernel
theorem r_c218_165 : gP 218 165 = some (.lor, 1, 0, 0) := by decide +kernel
theorem r_c218_166 : gP 218 166 = some (.aload 0, 1, 0, 0) := by decide +kernel
theorem r_c218_167 : gP 218 167 = some (.iload 4, 2, 0, 0) := by decide +kernel
theorem r_c218_169 : gP 218 169 = some (.iconst 3, 1, 0, 0) := by decide +kernel
theorem r_c218_170 : gP 218 170 = some (.iadd, 1, 0, 0) := by decide +kernel
theorem r_c218_171 : gP 218 171 = some (.iaload, 1, 0, 0) := by decide +kernel
theorem r_c218_172 : gP 218 172 = some (.invokeinterface 25 74, 3, 3, 1) := by decide +kernel
theorem r_c218_175 : gP 218 175 = some (.istore 6, 2, 0, 0) := by decide +kernel
theorem r_c218_177 : gP 218 177 = some (.goto 617, 3, 0, 0) := by decide +kernel
theorem r_c218_180 : gP 218 180 = some (.aload 1, 1, 0, 0) := by decide +kernel
theorem r_c218_181 : gP 218 181 = some (.aload 0, 1, 0, 0) := by decide +kernel
theorem r_c218_182 : gP 218 182 = some (.iload 4, 2, 0, 0) := by decide +kernel
theorem r_c218_184 : gP 218 184 = some (.iconst 1, 1, 0, 0) := by decide +kernel
theorem r_c218_185 : gP 218 185 = some (.iadd, 1, 0, 0) := by decide +kernel
theorem r_c218_186 : gP 218 186 = some (.iaload, 1, 0, 0) := by decide +kernel
theorem r_c218_187 : gP 218 187 = some (.aload 3, 1, 0, 0) := by decide +kernel
theorem r_c218_188 : gP 218 188 = some (.invokeinterface 28 75, 3, 3, 0) := by decide +kernel
theorem r_c218_191 : gP 218 191 = some (.istore 5, 2, 0, 0) := by decide +kernel
theorem r_c218_193 : gP 218 193 = some (.aload 2, 1, 0, 0) := by decide +kernel
theorem r_c218_194 : gP 218 194 = some (.aload 0, 1, 0, 0) := by decide +kernel
theorem r_c218_195 : gP 218 195 = some (.iload 4, 2, 0, 0) := by decide +kernel
theorem r_c218_197 : gP 218 197 = some (.iconst 1, 1, 0, 0) := by decide +kernel
theorem r_c218_198 : gP 218 198 = some (.iadd, 1, 0, 0) := by decide +kernel
theorem r_c218_199 : gP 218 199 = some (.iaload, 1, 0, 0) := by decide +kernel
theorem r_c218_200 : gP 218 200 = some (.invokeinterface 29 78, 3, 2, 1) := by decide +kernel
theorem r_c218_203 : gP 218 203 = some (.istore 6, 2, 0, 0) := by decide +kernel
theorem r_c218_205 : gP 218 205 = some (.goto 617, 3, 0, 0) := by decide +kernel
theorem r_c218_208 : gP 218 208 = some (.aload 1, 1, 0, 0) := by decide +kernel
theorem r_c218_209 : gP 218 209 = some (.aload 3, 1, 0, 0) := by decide +kernel
theorem r_c218_210 : gP 218 210 = some (.invokeinterface 95 79, 3, 2, 0) := by decide +kernel
theorem r_c218_213 : gP 218 213 = some (.istore 5, 2, 0, 0) := by decide +kernel
theorem r_c218_215 : gP 218 215 = some (.aload 2, 1, 0, 0) := by decide +kernel
theorem r_c218_216 : gP 218 216 = some (.invokeinterface 152 82, 3, 1, 1) := by decide +kernel
theorem r_c218_219 : gP 218 219 = some (.istore 6, 2, 0, 0) := by decide +kernel
theorem r_c218_221 : gP 218 221 = some (.goto 617, 3, 0, 0) := by decide +kernel
theorem r_c218_224 : gP 218 224 = some (.aload 1, 1, 0, 0) := by decide +kernel
theorem r_c218_225 : gP 218 225 = some (.invokeinterface 153 83, 3, 1, 1) := by decide +kernel
theorem r_c218_228 : gP 218 228 = some (.pop, 1, 0, 0) := by decide +kernel
theorem r_c218_229 : gP 218 229 = some (.aload 2, 1, 0, 0) := by decide +kernel
theorem r_c218_23 : gP 218 23 = some (.iload 4, 2, 0, 0) := by decide +kernel
theorem r_c218_230 : gP 218 230 = some (.invokeinterface 154 86, 3, 1, 1) := by decide +kernel
theorem r_c218_233 : gP 218 233 = some (.pop, 1, 0, 0) := by decide +kernel
theorem r_c218_234 : gP 218 234 = some (.goto 617, 3, 0, 0) := by decide +kernel
theorem r_c218_237 : gP 218 237 = some (.aload 1, 1, 0, 0) := by decide +kernel
theorem r_c218_238 : gP 218 238 = some (.aload 0, 1, 0, 0) := by decide +kernel
theorem r_c218_239 : gP 218 239 = some (.iload 4, 2, 0, 0) := by decide +kernel
theorem r_c218_241 : gP 218 241 = some (.iconst 1, 1, 0, 0) := by decide +kernel
theorem r_c218_242 : gP 218 242 = some (.iadd, 1, 0, 0) := by decide +kernel
theorem r_c218_243 : gP 218 243 = some (.iaload, 1, 0, 0) := by decide +kernel
theorem r_c218_244 : gP 218 244 = some (.aload 0, 1, 0, 0) := by decide +kernel
theorem r_c218_245 : gP 218 245 = some (.iload 4, 2, 0, 0) := by decide +kernel
theorem r_c218_247 : gP 218 247 = some (.iconst 2, 1, 0, 0) := by decide +kernel
theorem r_c218_248 : gP 218 248 = some (.iadd, 1, 0, 0) := by decide +kernel
theorem r_c218_249 : gP 218 249 = some (.iaload, 1, 0, 0) := by decide +kernel
theorem r_c218_25 : gP 218 25 = some (.aload 0, 1, 0, 0) := by decide +kernel
theorem r_c218_250 : gP 218 250 = some (.aload 3, 1, 0, 0) := by decide +kernel
theorem r_c218_251 : gP 218 251 = some (.invokeinterface 159 87, 3, 4, 0) := by decide +kernel
theorem r_c218_254 : gP 218 254 = some (.istore 5, 2, 0, 0) := by decide +kernel
theorem r_c218_256 : gP 218 256 = some (.aload 2, 1, 0, 0) := by decide +kernel
theorem r_c218_257 : gP 218 257 = some (.aload 0, 1, 0, 0) := by decide +kernel
theorem r_c218_258 : gP 218 258 = some (.iload 4, 2, 0, 0) := by decide +kernel
theorem r_c218_26 : gP 218 26 = some (.arraylength, 1, 0, 0) := by decide +kernel
theorem r_c218_260 : gP 218 260 = some (.iconst 1, 1, 0, 0) := by decide +kernel
theorem r_c218_261 : gP 218 261 = some (.iadd, 1, 0, 0) := by decide +kernel
theorem r_c218_262 : gP 218 262 = some (.iaload, 1, 0, 0) := by decide +kernel
theorem r_c218_263 : gP 218 263 = some (.aload 0, 1, 0, 0) := by decide +kernel
theorem r_c218_264 : gP 218 264 = some (.iload 4, 2, 0, 0) := by decide +kernel
theorem r_c218_266 : gP 218 266 = some (.iconst 2, 1, 0, 0) := by decide +kernel
theorem r_c218_267 : gP 218 267 = some (.iadd, 1, 0, 0) := by decide +kernel
theorem r_c218_268 : gP 218 268 = some (.iaload, 1, 0, 0) := by decide +kernel
theorem r_c218_269 : gP 218 269 = some (.invokeinterface 163 90, 3, 3, 1) := by decide +kernel
theorem r_c218_27 : gP 218 27 = some (.iconst 4, 1, 0, 0) := by decide +kernel
theorem r_c218_272 : gP 218 272 = some (.istore 6, 2, 0, 0) := by decide +kernel
theorem r_c218_274 : gP 218 274 = some (.goto 617, 3, 0, 0) := by decide +kernel
theorem r_c218_277 : gP 218 277 = some (.aload 1, 1, 0, 0) := by decide +kernel
theorem r_c218_278 : gP 218 278 = some (.aload 0, 1, 0, 0) := by decide +kernel
theorem r_c218_279 : gP 218 279 = some (.iload 4, 2, 0, 0) := by decide +kernel
theorem r_c218_28 : gP 218 28 = some (.isub, 1, 0, 0) := by decide +kernel
theorem r_c218_281 : gP 218 281 = some (.iconst 1, 1, 0, 0) := by decide +kernel
theorem r_c218_282 : gP 218 282 = some (.iadd, 1, 0, 0) := by decide +kernel
theorem r_c218_283 : gP 218 283 = some (.iaload, 1, 0, 0) := by decide +kernel
theorem r_c218_284 : gP 218 284 = some (.aload 0, 1, 0, 0) := by decide +kernel
theorem r_c218_285 : gP 218 285 = some (.iload 4, 2, 0, 0) := by decide +kernel
theorem r_c218_287 : gP 218 287 = some (.iconst 2, 1, 0, 0) := by decide +kernel
theorem r_c218_288 : gP 218 288 = some (.iadd, 1, 0, 0) := by decide +kernel
theorem r_c218_289 : gP 218 289 = some (.iaload, 1, 0, 0) := by decide +kernel
theorem r_c218_29 : gP 218 29 = some (.if_icmp .gt 623, 3, 0, 0) := by decide +kernel
theorem r_c218_290 : gP 218 290 = some (.aload 0, 1, 0, 0) := by decide +kernel
theorem r_c218_291 : gP 218 291 = some (.iload 4, 2, 0, 0) := by decide +kernel
theorem r_c218_293 : gP 218 293 = some (.iconst 3, 1, 0, 0) := by decide +kernel
theorem r_c218_294 : gP 218 294 = some (.iadd, 1, 0, 0) := by decide +kernel
theorem r_c218_295 : gP 218 295 = some (.iaload, 1, 0, 0) := by decide +kernel
theorem r_c218_296 : gP 218 296 = some (.aload 3, 1, 0, 0) := by decide +kernel
theorem r_c218_297 : gP 218 297 = some (.invokeinterface 165 91, 3, 5, 0) := by decide +kernel
theorem r_c218_300 : gP 218 300 = some (.istore 5, 2, 0, 0) := by decide +kernel
theorem r_c218_302 : gP 218 302 = some (.aload 2, 1, 0, 0) := by decide +kernel
theorem r_c218_303 : gP 218 303 = some (.aload 0, 1, 0, 0) := by decide +kernel
theorem r_c218_304 : gP 218 304 = some (.iload 4, 2, 0, 0) := by decide +kernel
theorem r_c218_306 : gP 218 306 = some (.iconst 1, 1, 0, 0) := by decide +kernel
theorem r_c218_307 : gP 218 307 = some (.iadd, 1, 0, 0) := by decide +kernel
theorem r_c218_308 : gP 218 308 = some (.iaload, 1, 0, 0) := by decide +kernel
theorem r_c218_309 : gP 218 309 = some (.aload 0, 1, 0, 0) := by decide +kernel
theorem r_c218_310 : gP 218 310 = some (.iload 4, 2, 0, 0) := by decide +kernel
theorem r_c218_312 : gP 218 312 = some (.iconst 2, 1, 0, 0) := by decide +kernel
theorem r_c218_313 : gP 218 313 = some (.iadd, 1, 0, 0) := by decide +kernel
theorem r_c218_314 : gP 218 314 = some (.iaload, 1, 0, 0) := by decide +kernel
theorem r_c218_315 : gP 218 315 = some (.aload 0, 1, 0, 0) := by decide +kernel
theorem r_c218_316 : gP 218 316 = some (.iload 4, 2, 0, 0) := by decide +kernel
theorem r_c218_318 : gP 218 318 = some (.iconst 3, 1, 0, 0) := by decide +kernel
theorem r_c218_319 : gP 218 319 = some (.iadd, 1, 0, 0) := by decide +kernel
theorem r_c218_32 : gP 218 32 = some (.aload 0, 1, 0, 0) := by decide +kernel
theorem r_c218_320 : gP 218 320 = some (.iaload, 1, 0, 0) := by decide +kernel
theorem r_c218_321 : gP 218 321 = some (.invokeinterface 166 94, 3, 4, 1) := by decide +kernel
theorem r_c218_324 : gP 218 324 = some (.istore 6, 2, 0, 0) := by decide +kernel
theorem r_c218_326 : gP 218 326 = some (.goto 617, 3, 0, 0) := by decide +kernel
theorem r_c218_329 : gP 218 329 = some (.aload 1, 1, 0, 0) := by decide +kernel
theorem r_c218_33 : gP 218 33 = some (.iload 4, 2, 0, 0) := by decide +kernel
theorem r_c218_330 : gP 218 330 = some (.aload 0, 1, 0, 0) := by decide +kernel
theorem r_c218_331 : gP 218 331 = some (.iload 4, 2, 0, 0) := by decide +kernel
theorem r_c218_333 : gP 218 333 = some (.iconst 1, 1, 0, 0) := by decide +kernel
theorem r_c218_334 : gP 218 334 = some (.iadd, 1, 0, 0) := by decide +kernel
theorem r_c218_335 : gP 218 335 = some (.iaload, 1, 0, 0) := by decide +kernel
theorem r_c218_336 : gP 218 336 = some (.aload 0, 1, 0, 0) := by decide +kernel
theorem r_c218_337 : gP 218 337 = some (.iload 4, 2, 0, 0) := by decide +kernel
theorem r_c218_339 : gP 218 339 = some (.iconst 2, 1, 0, 0) := by decide +kernel
theorem r_c218_340 : gP 218 340 = some (.iadd, 1, 0, 0) := by decide +kernel
theorem r_c218_341 : gP 218 341 = some (.iaload, 1, 0, 0) := by decide +kernel
theorem r_c218_342 : gP 218 342 = some (.aload 3, 1, 0, 0) := by decide +kernel
theorem r_c218_343 : gP 218 343 = some (.invokeinterface 169 95, 3, 4, 0) := by decide +kernel
theorem r_c218_346 : gP 218 346 = some (.istore 5, 2, 0, 0) := by decide +kernel
theorem r_c218_348 : gP 218 348 = some (.aload 2, 1, 0, 0) := by decide +kernel
theorem r_c218_349 : gP 218 349 = some (.aload 0, 1, 0, 0) := by decide +kernel
theorem r_c218_35 : gP 218 35 = some (.iaload, 1, 0, 0) := by decide +kernel
theorem r_c218_350 : gP 218 350 = some (.iload 4, 2, 0, 0) := by decide +kernel
theorem r_c218_352 : gP 218 352 = some (.iconst 1, 1, 0, 0) := by decide +kernel
theorem r_c218_353 : gP 218 353 = some (.iadd, 1, 0, 0) := by decide +kernel
theorem r_c218_354 : gP 218 354 = some (.iaload, 1, 0, 0) := by decide +kernel
theorem r_c218_355 : gP 218 355 = some (.aload 0, 1, 0, 0) := by decide +kernel
theorem r_c218_356 : gP 218 356 = some (.iload 4, 2, 0, 0) := by decide +kernel
theorem r_c218_358 : gP 218 358 = some (.iconst 2, 1, 0, 0) := by decide +kernel
theorem r_c218_359 : gP 218 359 = some (.iadd, 1, 0, 0) := by decide +kernel
theorem r_c218_36 : gP 218 36 = some (.iconst 15, 2, 0, 0) := by decide +kernel
theorem r_c218_360 : gP 218 360 = some (.iaload, 1, 0, 0) := by decide +kernel
theorem r_c218_361 : gP 218 361 = some (.invokeinterface 171 97, 3, 3, 1) := by decide +kernel
theorem r_c218_364 : gP 218 364 = some (.istore 6, 2, 0, 0) := by decide +kernel
theorem r_c218_366 : gP 218 366 = some (.goto 617, 3, 0, 0) := by decide +kernel
theorem r_c218_369 : gP 218 369 = some (.aload 1, 1, 0, 0) := by decide +kernel
theorem r_c218_370 : gP 218 370 = some (.aload 0, 1, 0, 0) := by decide +kernel
theorem r_c218_371 : gP 218 371 = some (.iload 4, 2, 0, 0) := by decide +kernel
theorem r_c218_373 : gP 218 373 = some (.iconst 1, 1, 0, 0) := by decide +kernel
theorem r_c218_374 : gP 218 374 = some (.iadd, 1, 0, 0) := by decide +kernel
theorem r_c218_375 : gP 218 375 = some (.iaload, 1, 0, 0) := by decide +kernel
theorem r_c218_376 : gP 218 376 = some (.aload 3, 1, 0, 0) := by decide +kernel
theorem r_c218_377 : gP 218 377 = some (.invokeinterface 173 98, 3, 3, 0) := by decide +kernel
theorem r_c218_38 : gP 218 38 = some (.iand, 1, 0, 0) := by decide +kernel
theorem r_c218_380 : gP 218 380 = some (.istore 5, 2, 0, 0) := by decide +kernel
theorem r_c218_382 : gP 218 382 = some (.aload 2, 1, 0, 0) := by decide +kernel
theorem r_c218_383 : gP 218 383 = some (.aload 0, 1, 0, 0) := by decide +kernel
theorem r_c218_384 : gP 218 384 = some (.iload 4, 2, 0, 0) := by decide +kernel
theorem r_c218_386 : gP 218 386 = some (.iconst 1, 1, 0, 0) := by decide +kernel
theorem r_c218_387 : gP 218 387 = some (.iadd, 1, 0, 0) := by decide +kernel
theorem r_c218_388 : gP 218 388 = some (.iaload, 1, 0, 0) := by decide +kernel
theorem r_c218_389 : gP 218 389 = some (.invokeinterface 174 100, 3, 2, 1) := by decide +kernel
theorem r_c218_39 : gP 218 39 = some (.tableswitch 578 0 13 #[69, 141, 169, 185, 198, 238, 290, 330, 358, 386, 426, 466, 482, 550], 69, 0, 0) := by decide +kernel
theorem r_c218_392 : gP 218 392 = some (.istore 6, 2, 0, 0) := by decide +kernel
theorem r_c218_394 : gP 218 394 = some (.goto 617, 3, 0, 0) := by decide +kernel
theorem r_c218_397 : gP 218 397 = some (.aload 1, 1, 0, 0) := by decide +kernel
theorem r_c218_398 : gP 218 398 = some (.aload 0, 1, 0, 0) := by decide +kernel
theorem r_c218_399 : gP 218 399 = some (.iload 4, 2, 0, 0) := by decide +kernel
theorem r_c218_401 : gP 218 401 = some (.iconst 1, 1, 0, 0) := by decide +kernel
theorem r_c218_402 : gP 218 402 = some (.iadd, 1, 0, 0) := by decide +kernel
theorem r_c218_403 : gP 218 403 = some (.iaload, 1, 0, 0) := by decide +kernel
theorem r_c218_404 : gP 218 404 = some (.aload 3, 1, 0, 0) := by decide +kernel
theorem r_c218_405 : gP 218 405 = some (.invokeinterface 177 101, 3, 3, 0) := by decide +kernel
theorem r_c218_408 : gP 218 408 = some (.istore 5, 2, 0, 0) := by decide +kernel
theorem r_c218_410 : gP 218 410 = some (.aload 2, 1, 0, 0) := by decide +kernel
theorem r_c218_411 : gP 218 411 = some (.aload 0, 1, 0, 0) := by decide +kernel
theorem r_c218_412 : gP 218 412 = some (.iload 4, 2, 0, 0) := by decide +kernel
theorem r_c218_414 : gP 218 414 = some (.iconst 1, 1, 0, 0) := by decide +kernel
theorem r_c218_415 : gP 218 415 = some (.iadd, 1, 0, 0) := by decide +kernel
theorem r_c218_416 : gP 218 416 = some (.iaload, 1, 0, 0) := by decide +kernel
theorem r_c218_417 : gP 218 417 = some (.invokeinterface 178 103, 3, 2, 1) := by decide +kernel
theorem r_c218_420 : gP 218 420 = some (.istore 6, 2, 0, 0) := by decide +kernel
theorem r_c218_422 : gP 218 422 = some (.goto 617, 3, 0, 0) := by decide +kernel
theorem r_c218_425 : gP 218 425 = some (.aload 1, 1, 0, 0) := by decide +kernel
theorem r_c218_426 : gP 218 426 = some (.aload 0, 1, 0, 0) := by decide +kernel
theorem r_c218_427 : gP 218 427 = some (.iload 4, 2, 0, 0) := by decide +kernel
theorem r_c218_429 : gP 218 429 = some (.iconst 1, 1, 0, 0) := by decide +kernel
theorem r_c218_430 : gP 218 430 = some (.iadd, 1, 0, 0) := by decide +kernel
theorem r_c218_431 : gP 218 431 = some (.iaload, 1, 0, 0) := by decide +kernel
theorem r_c218_432 : gP 218 432 = some (.aload 0, 1, 0, 0) := by decide +kernel
theorem r_c218_433 : gP 218 433 = some (.iload 4, 2, 0, 0) := by decide +kernel
theorem r_c218_435 : gP 218 435 = some (.iconst 2, 1, 0, 0) := by decide +kernel
theorem r_c218_436 : gP 218 436 = some (.iadd, 1, 0, 0) := by decide +kernel
theorem r_c218_437 : gP 218 437 = some (.iaload, 1, 0, 0) := by decide +kernel
theorem r_c218_438 : gP 218 438 = some (.aload 3, 1, 0, 0) := by decide +kernel
theorem r_c218_439 : gP 218 439 = some (.invokeinterface 181 104, 3, 4, 0) := by decide +kernel
theorem r_c218_442 : gP 218 442 = some (.istore 5, 2, 0, 0) := by decide +kernel
theorem r_c218_444 : gP 218 444 = some (.aload 2, 1, 0, 0) := by decide +kernel
theorem r_c218_445 : gP 218 445 = some (.aload 0, 1, 0, 0) := by decide +kernel
theorem r_c218_446 : gP 218 446 = some (.iload 4, 2, 0, 0) := by decide +kernel
theorem r_c218_448 : gP 218 448 = some (.iconst 1, 1, 0, 0) := by decide +kernel
theorem r_c218_449 : gP 218 449 = some (.iadd, 1, 0, 0) := by decide +kernel
theorem r_c218_450 : gP 218 450 = some (.iaload, 1, 0, 0) := by decide +kernel
theorem r_c218_451 : gP 218 451 = some (.aload 0, 1, 0, 0) := by decide +kernel
theorem r_c218_452 : gP 218 452 = some (.iload 4, 2, 0, 0) := by decide +kernel
theorem r_c218_454 : gP 218 454 = some (.iconst 2, 1, 0, 0) := by decide +kernel
theorem r_c218_455 : gP 218 455 = some (.iadd, 1, 0, 0) := by decide +kernel
theorem r_c218_456 : gP 218 456 = some (.iaload, 1, 0, 0) := by decide +kernel
theorem r_c218_457 : gP 218 457 = some (.invokeinterface 182 106, 3, 3, 1) := by decide +kernel
theorem r_c218_460 : gP 218 460 = some (.istore 6, 2, 0, 0) := by decide +kernel
theorem r_c218_462 : gP 218 462 = some (.goto 617, 3, 0, 0) := by decide +kernel
theorem r_c218_465 : gP 218 465 = some (.aload 1, 1, 0, 0) := by decide +kernel
theorem r_c218_466 : gP 218 466 = some (.aload 0, 1, 0, 0) := by decide +kernel
theorem r_c218_467 : gP 218 467 = some (.iload 4, 2, 0, 0) := by decide +kernel
theorem r_c218_469 : gP 218 469 = some (.iconst 1, 1, 0, 0) := by decide +kernel
theorem r_c218_470 : gP 218 470 = some (.iadd, 1, 0, 0) := by decide +kernel
theorem r_c218_471 : gP 218 471 = some (.iaload, 1, 0, 0) := by decide +kernel
theorem r_c218_472 : gP 218 472 = some (.aload 0, 1, 0, 0) := by decide +kernel
theorem r_c218_473 : gP 218 473 = some (.iload 4, 2, 0, 0) := by decide +kernel
theorem r_c218_475 : gP 218 475 = some (.iconst 2, 1, 0, 0) := by decide +kernel
theorem r_c218_476 : gP 218 476 = some (.iadd, 1, 0, 0) := by decide +kernel
theorem r_c218_477 : gP 218 477 = some (.iaload, 1, 0, 0) := by decide +kernel
theorem r_c218_478 : gP 218 478 = some (.aload 3, 1, 0, 0) := by decide +kernel
theorem r_c218_479 : gP 218 479 = some (.invokeinterface 184 107, 3, 4, 0) := by decide +kernel
theorem r_c218_482 : gP 218 482 = some (.istore 5, 2, 0, 0) := by decide +kernel
theorem r_c218_484 : gP 218 484 = some (.aload 2, 1, 0, 0) := by decide +kernel
theorem r_c218_485 : gP 218 485 = some (.aload 0, 1, 0, 0) := by decide +kernel
theorem r_c218_486 : gP 218 486 = some (.iload 4, 2, 0, 0) := by decide +kernel
theorem r_c218_488 : gP 218 488 = some (.iconst 1, 1, 0, 0) := by decide +kernel
theorem r_c218_489 : gP 218 489 = some (.iadd, 1, 0, 0) := by decide +kernel
theorem r_c218_490 : gP 218 490 = some (.iaload, 1, 0, 0) := by decide +kernel
theorem r_c218_491 : gP 218 491 = some (.aload 0, 1, 0, 0) := by decide +kernel
theorem r_c218_492 : gP 218 492 = some (.iload 4, 2, 0, 0) := by decide +kernel
theorem r_c218_494 : gP 218 494 = some (.iconst 2, 1, 0, 0) := by decide +kernel
theorem r_c218_495 : gP 218 495 = some (.iadd, 1, 0, 0) := by decide +kernel
theorem r_c218_496 : gP 218 496 = some (.iaload, 1, 0, 0) := by decide +kernel
theorem r_c218_497 : gP 218 497 = some (.invokeinterface 185 109, 3, 3, 1) := by decide +kernel
theorem r_c218_500 : gP 218 500 = some (.istore 6, 2, 0, 0) := by decide +kernel
theorem r_c218_502 : gP 218 502 = some (.goto 617, 3, 0, 0) := by decide +kernel
theorem r_c218_505 : gP 218 505 = some (.aload 1, 1, 0, 0) := by decide +kernel
theorem r_c218_506 : gP 218 506 = some (.aload 3, 1, 0, 0) := by decide +kernel
theorem r_c218_507 : gP 218 507 = some (.invokeinterface 200 110, 3, 2, 0) := by decide +kernel
theorem r_c218_510 : gP 218 510 = some (.istore 5, 2, 0, 0) := by decide +kernel
theorem r_c218_512 : gP 218 512 = some (.aload 2, 1, 0, 0) := by decide +kernel
theorem r_c218_513 : gP 218 513 = some (.invokeinterface 211 112, 3, 1, 1) := by decide +kernel
theorem r_c218_516 : gP 218 516 = some (.istore 6, 2, 0, 0) := by decide +kernel
theorem r_c218_518 : gP 218 518 = some (.goto 617, 3, 0, 0) := by decide +kernel
theorem r_c218_521 : gP 218 521 = some (.aload 1, 1, 0, 0) := by decide +kernel
theorem r_c218_522 : gP 218 522 = some (.aload 0, 1, 0, 0) := by decide +kernel
theorem r_c218_523 : gP 218 523 = some (.iload 4, 2, 0, 0) := by decide +kernel
theorem r_c218_525 : gP 218 525 = some (.iconst 1, 1, 0, 0) := by decide +kernel
theorem r_c218_526 : gP 218 526 = some (.iadd, 1, 0, 0) := by decide +kernel
theorem r_c218_527 : gP 218 527 = some (.iaload, 1, 0, 0) := by decide +kernel
theorem r_c218_528 : gP 218 528 = some (.aload 0, 1, 0, 0) := by decide +kernel
theorem r_c218_529 : gP 218 529 = some (.iload 4, 2, 0, 0) := by decide +kernel
theorem r_c218_531 : gP 218 531 = some (.iconst 2, 1, 0, 0) := by decide +kernel
theorem r_c218_532 : gP 218 532 = some (.iadd, 1, 0, 0) := by decide +kernel
theorem r_c218_533 : gP 218 533 = some (.iaload, 1, 0, 0) := by decide +kernel
theorem r_c218_534 : gP 218 534 = some (.aload 3, 1, 0, 0) := by decide +kernel
theorem r_c218_535 : gP 218 535 = some (.invokeinterface 213 113, 3, 4, 0) := by decide +kernel
theorem r_c218_538 : gP 218 538 = some (.istore 5, 2, 0, 0) := by decide +kernel
theorem r_c218_540 : gP 218 540 = some (.aload 2, 1, 0, 0) := by decide +kernel
theorem r_c218_541 : gP 218 541 = some (.aload 0, 1, 0, 0) := by decide +kernel
theorem r_c218_542 : gP 218 542 = some (.iload 4, 2, 0, 0) := by decide +kernel
theorem r_c218_544 : gP 218 544 = some (.iconst 1, 1, 0, 0) := by decide +kernel
theorem r_c218_545 : gP 218 545 = some (.iadd, 1, 0, 0) := by decide +kernel
theorem r_c218_546 : gP 218 546 = some (.iaload, 1, 0, 0) := by decide +kernel
theorem r_c218_547 : gP 218 547 = some (.aload 0, 1, 0, 0) := by decide +kernel
theorem r_c218_548 : gP 218 548 = some (.iload 4, 2, 0, 0) := by decide +kernel
theorem r_c218_550 : gP 218 550 = some (.iconst 2, 1, 0, 0) := by decide +kernel
theorem r_c218_551 : gP 218 551 = some (.iadd, 1, 0, 0) := by decide +kernel
theorem r_c218_552 : gP 218 552 = some (.iaload, 1, 0, 0) := by decide +kernel
theorem r_c218_553 : gP 218 553 = some (.invokeinterface 214 115, 3, 3, 1) := by decide +kernel
theorem r_c218_556 : gP 218 556 = some (.istore 6, 2, 0, 0) := by decide +kernel
theorem r_c218_558 : gP 218 558 = some (.aload 2, 1, 0, 0) := by decide +kernel
theorem r_c218_559 : gP 218 559 = some (.invokeinterface 26 116, 3, 1, 1) := by decide +kernel
theorem r_c218_562 : gP 218 562 = some (.iload 5, 2, 0, 0) := by decide +kernel
theorem r_c218_564 : gP 218 564 = some (.if_icmp .eq 569, 3, 0, 0) := by decide +kernel
theorem r_c218_567 : gP 218 567 = some (.iconst 0, 1, 0, 0) := by decide +kernel
theorem r_c218_568 : gP 218 568 = some (.ireturn, 1, 1, 0) := by decide +kernel
theorem r_c218_569 : gP 218 569 = some (.iload 5, 2, 0, 0) := by decide +kernel
theorem r_c218_571 : gP 218 571 = some (.ifCond .ne 586, 3, 0, 0) := by decide +kernel
theorem r_c218_574 : gP 218 574 = some (.aload 3, 1, 0, 0) := by decide +kernel
theorem r_c218_575 : gP 218 575 = some (.iconst 0, 1, 0, 0) := by decide +kernel
theorem r_c218_576 : gP 218 576 = some (.laload, 1, 0, 0) := by decide +kernel
theorem r_c218_577 : gP 218 577 = some (.iload 6, 2, 0, 0) := by decide +kernel
theorem r_c218_579 : gP 218 579 = some (.i2l, 1, 0, 0) := by decide +kernel
theorem r_c218_580 : gP 218 580 = some (.lcmp, 1, 0, 0) := by decide +kernel
theorem r_c218_581 : gP 218 581 = some (.ifCond .eq 586, 3, 0, 0) := by decide +kernel
theorem r_c218_584 : gP 218 584 = some (.iconst 0, 1, 0, 0) := by decide +kernel
theorem r_c218_585 : gP 218 585 = some (.ireturn, 1, 1, 0) := by decide +kernel
theorem r_c218_586 : gP 218 586 = some (.goto 617, 3, 0, 0) := by decide +kernel
theorem r_c218_589 : gP 218 589 = some (.aload 1, 1, 0, 0) := by decide +kernel
theorem r_c218_590 : gP 218 590 = some (.aload 0, 1, 0, 0) := by decide +kernel
theorem r_c218_591 : gP 218 591 = some (.iload 4, 2, 0, 0) := by decide +kernel
theorem r_c218_593 : gP 218 593 = some (.iconst 1, 1, 0, 0) := by decide +kernel
theorem r_c218_594 : gP 218 594 = some (.iadd, 1, 0, 0) := by decide +kernel
theorem r_c218_595 : gP 218 595 = some (.iaload, 1, 0, 0) := by decide +kernel
theorem r_c218_596 : gP 218 596 = some (.aload 3, 1, 0, 0) := by decide +kernel
theorem r_c218_597 : gP 218 597 = some (.invokeinterface 216 119, 3, 3, 0) := by decide +kernel
theorem r_c218_600 : gP 218 600 = some (.istore 5, 2, 0, 0) := by decide +kernel
theorem r_c218_602 : gP 218 602 = some (.aload 2, 1, 0, 0) := by decide +kernel
theorem r_c218_603 : gP 218 603 = some (.aload 0, 1, 0, 0) := by decide +kernel
theorem r_c218_604 : gP 218 604 = some (.iload 4, 2, 0, 0) := by decide +kernel
theorem r_c218_606 : gP 218 606 = some (.iconst 1, 1, 0, 0) := by decide +kernel
theorem r_c218_607 : gP 218 607 = some (.iadd, 1, 0, 0) := by decide +kernel
theorem r_c218_608 : gP 218 608 = some (.iaload, 1, 0, 0) := by decide +kernel
theorem r_c218_609 : gP 218 609 = some (.invokeinterface 217 121, 3, 2, 1) := by decide +kernel
theorem r_c218_612 : gP 218 612 = some (.istore 6, 2, 0, 0) := by decide +kernel
theorem r_c218_614 : gP 218 614 = some (.goto 617, 3, 0, 0) := by decide +kernel
theorem r_c218_617 : gP 218 617 = some (.iinc 4 4, 3, 0, 0) := by decide +kernel
theorem r_c218_620 : gP 218 620 = some (.goto 23, 3, 0, 0) := by decide +kernel
theorem r_c218_623 : gP 218 623 = some (.iconst 1, 1, 0, 0) := by decide +kernel
theorem r_c218_624 : gP 218 624 = some (.ireturn, 1, 1, 0) := by decide +kernel
theorem r_kh159_5_11 : gHd 159 5 11 = some (some 13) := by decide +kernel
theorem r_kh165_7_11 : gHd 165 7 11 = some (some 15) := by decide +kernel
theorem r_kh169_5_11 : gHd 169 5 11 = some (some 13) := by decide +kernel
theorem r_kh173_4_11 : gHd 173 4 11 = some (some 12) := by decide +kernel
theorem r_kh177_4_11 : gHd 177 4 11 = some (some 12) := by decide +kernel
theorem r_kh181_5_11 : gHd 181 5 11 = some (some 13) := by decide +kernel
theorem r_kh184_5_11 : gHd 184 5 11 = some (some 13) := by decide +kernel
theorem r_kh184_5_9 : gHd 184 5 9 = some (some 17) := by decide +kernel
theorem r_kh200_3_10 : gHd 200 3 10 = some (some 20) := by decide +kernel
theorem r_kh200_3_11 : gHd 200 3 11 = some (some 11) := by decide +kernel
theorem r_kh200_3_12 : gHd 200 3 12 = some (some 14) := by decide +kernel
theorem r_kh200_3_13 : gHd 200 3 13 = some (some 17) := by decide +kernel
theorem r_kh213_5_11 : gHd 213 5 11 = some (some 13) := by decide +kernel
theorem r_kh216_4_9 : gHd 216 4 9 = some (some 12) := by decide +kernel
theorem r_kh28_4_9 : gHd 28 4 9 = some (some 12) := by decide +kernel
theorem r_kh95_3_9 : gHd 95 3 9 = some (some 11) := by decide +kernel
end
section
/-! FUNCTIONS OF THE METHODS: printed by wip/fn/dc.py -/
def F18 (x0 : Int64) (x2 : Int) : Int := (iAnd (l2i (lUsh x0 (wr (8 * x2)))) 255)
set_option maxRecDepth 100000 in
theorem d18 {L : Nat} {xs : Nat → Int32} {k d n : Nat} {c : yS3} {x0 : Int64} {x2 : Int} {m : yM} (gx2 : rg x2) (hR : RM c m) : PC (gZ L xs) k d 18 [.long x0, yI x2] m n (qX m (F18 x0 x2)) := by
  have hX : F18 x0 x2 = F18 x0 x2 := rfl
  have Hr : ∀ r, F18 x0 x2 = r → rg r → ∀ n' : Nat, (qX m (F18 x0 x2)) (.inl (some (yI r))) m n' := fun r e h n' => by subst e; exact ⟨rfl, h, rfl⟩
  refine PC.mk [some (.long x0), none, some (yI x2)] kn18 rfl ?_
  refine p_lload 1 c18_0 rfl rfl ?_
  refine p_iconst 3 c18_1 rfl ?_
  refine p_iload 4 c18_3 rfl rfl ?_
  refine p_imul 5 c18_4 rfl ?_
  refine p_lushr 6 c18_5 rfl ?_
  refine p_l2i 7 c18_6 rfl ?_
  refine p_iconst 10 c18_7 rfl ?_
  refine p_iand 11 c18_10 rfl ?_
  exact p_ireturn c18_11 (Hr _ hX (rg_to _) _)
def B19_2 (f : Nat) (x0 : Int64) (x2 : Int) (x3 : Int) (m : yM) : Option (Int ⊕ (Int ⊕ Int)) := (if x3 < x2 then (if F18 x0 x3 < 32 then (some (.inr (.inr 0))) else (if 126 < F18 x0 x3 then (some (.inr (.inr 0))) else (some (.inl (wr (x3 + 1)))))) else (some (.inr (.inl x3))))
set_option maxRecDepth 100000 in
theorem tB19_2 {L : Nat} {xs : Nat → Int32} {Q : xO → yM → Nat → Prop} {k d n : Nat} {c : yS3} {f : Nat} {x0 : Int64} {x2 : Int} {x3 : Int} {m : yM} {j1 j4 : Option Value} (hk : k ≤ f) (gx2 : rg x2) (gx3 : rg x3) (hR : RM c m) (Hn : ∀ (y0 : Int) (z0 z1 : Option Value) (n' : Nat), B19_2 f x0 x2 x3 m = some (.inl y0) → rg y0 → ∀ k', k' < k → PW (gZ L xs) k' 19 d 2 [some (.long x0), z0, some (yI x2), some (yI y0), z1] [] m n' Q) (He : ∀ (y0 : Int) (z0 z1 : Option Value) (n' : Nat), B19_2 f x0 x2 x3 m = some (.inr (.inl y0)) → rg y0 → ∀ k', k' ≤ k → PW (gZ L xs) k' 19 d 36 [some (.long x0), z0, some (yI x2), some (yI y0), z1] [] m n' Q) (Hr : ∀ r, B19_2 f x0 x2 x3 m = some (.inr (.inr r)) → rg r → ∀ n', Q (.inl (some (yI r))) m n') : PW (gZ L xs) k 19 d 2 [some (.long x0), j1, some (yI x2), some (yI x3), j4] [] m n Q := by
  have hX : B19_2 f x0 x2 x3 m = B19_2 f x0 x2 x3 m := rfl
  refine p_iload 3 c19_2 rfl rfl ?_
  refine p_iload 4 c19_3 rfl rfl ?_
  refine p_icmp 36 7 c19_4 rfl rfl ((yc_ge gx3 gx2).trans Int.not_lt.symm) (fun hb28 k29 hk29 => ?_) (fun hb28 k30 hk30 => ?_)
  · have hX31 := hX.trans (if_neg hb28)
    exact He _ _ _ _ hX31 gx3 _ (by omega)
  · have hX32 := hX.trans (if_pos (Classical.not_not.mp hb28))
    refine p_lload 8 c19_7 rfl rfl ?_
    refine p_iload 9 c19_8 rfl rfl ?_
    refine p_cX 12 [.long x0, yI x3] [] c19_9 rfl rfl rfl (fun k' hk' d' => d18 gx3 hR) (fun hg35 n34 k33 hk33 => ?_)
    refine p_istore 14 c19_12 rfl rfl ?_
    refine p_iload 16 c19_14 rfl rfl ?_
    refine p_iconst 18 c19_16 rfl ?_
    refine p_icmp 28 21 c19_18 rfl rfl (yc_lt hg35 (rgD rfl)) (fun hb36 k37 hk37 => ?_) (fun hb36 k38 hk38 => ?_)
    · have hX39 := hX32.trans (if_pos hb36)
      refine p_iconst 29 c19_28 rfl ?_
      exact p_ireturn c19_29 (Hr _ hX39 (rgD rfl) _)
    · have hX40 := hX32.trans (if_neg hb36)
      refine p_iload 23 c19_21 rfl rfl ?_
      refine p_iconst 25 c19_23 rfl ?_
      refine p_icmp 30 28 c19_25 rfl rfl ((yc_le hg35 (rgD rfl)).trans Int.not_lt.symm) (fun hb41 k42 hk42 => ?_) (fun hb41 k43 hk43 => ?_)
      · have hX44 := hX40.trans (if_neg hb41)
        refine p_iinc 33 c19_30 rfl rfl rfl ?_
        refine p_gotoD 2 c19_33 rfl (fun k45 hk45 => ?_)
        exact Hn _ _ _ _ hX44 (rg_wr _) _ (by omega)
      · have hX46 := hX40.trans (if_pos (Classical.not_not.mp hb41))
        refine p_iconst 29 c19_28 rfl ?_
        exact p_ireturn c19_29 (Hr _ hX46 (rgD rfl) _)
def F19 (f : Nat) (x0 : Int64) (x2 : Int) (m : yM) : Option Int := (bQ (ploop (fun (l : Int) => B19_2 f x0 x2 l m) f 0) (fun l47 => (some 1)) (fun r => some r))
set_option maxRecDepth 100000 in
theorem d19 {L : Nat} {xs : Nat → Int32} {k d n : Nat} {c : yS3} {f : Nat} {x0 : Int64} {x2 : Int} {m : yM} (hk : k ≤ f) (gx2 : rg x2) (hR : RM c m) : PC (gZ L xs) k d 19 [.long x0, yI x2] m n (qO m (F19 f x0 x2 m)) := by
  have hX : F19 f x0 x2 m = F19 f x0 x2 m := rfl
  have Hr : ∀ r, F19 f x0 x2 m = some r → rg r → ∀ n' : Nat, (qO m (F19 f x0 x2 m)) (.inl (some (yI r))) m n' := fun r e h n' => ⟨r, rfl, h, rfl, e⟩
  refine PC.mk [some (.long x0), none, some (yI x2), none, none] kn19 rfl ?_
  refine p_iconst 1 c19_0 rfl ?_
  refine p_istore 2 c19_1 rfl rfl ?_
  refine PW.ploop (K := k) (pce := 36) (fun (l : Int) => B19_2 f x0 x2 l m) (fun (l : Int) j => [some (.long x0), j 1, some (yI x2), some (yI l), j 4]) (fun (l : Int) => rg l) (fun r' => rg r' → ∀ n' : Nat, (qO m (F19 f x0 x2 m)) (.inl (some (yI r'))) m n') (fun k' hk' l j n' hl Hn' He' Hr' => tB19_2 (f := f) (by omega) gx2 hl hR (fun y0 y1 y2 n2 e h0 => Hn' y0 (fun q => ([none, y1, none, none, y2] : List (Option Value)).getD q none) n2 e h0) (fun y0 y1 y2 n2 e h0 => He' y0 (fun q => ([none, y1, none, none, y2] : List (Option Value)).getD q none) n2 e h0) Hr') f k (by omega) (Nat.le_refl _) 0 (fun q => ([some (.long x0), none, some (yI x2), some (yI 0), none] : xL).getD q none) _ (rgD rfl) (fun l47 j50 n52 e49 hl48 k51 hk51 => ?_) (fun r' e' => ?_)
  · have hX53 := hX.trans (bQ_l e49)
    refine p_iconst 37 c19_36 rfl ?_
    exact p_ireturn c19_37 (Hr _ hX53 (rgD rfl) _)
  · exact Hr r' (hX.trans (bQ_r e'))
def J20_19 (f : Nat) (m : yM) : Option ((Int ⊕ Nat) × yM) := (some (.inr 9, m))
set_option maxRecDepth 100000 in
theorem tJ20_19 {L : Nat} {xs : Nat → Int32} {Q : xO → yM → Nat → Prop} {k d n : Nat} {c : yS3} {f : Nat} {m : yM} {j0 j1 j2 j3 j4 : Option Value} (hk : k ≤ f) (hR : RM c m) (Hr : ∀ r m', J20_19 f m = some (.inl r, m') → rg r → RM c m' → ∀ n', Q (.inl (some (yI r))) m' n') (Ht : ∀ e m', J20_19 f m = some (.inr e, m') → (fun e => e = 9 ∨ e = 10) e → RM c m' → ∀ x n', Q (.inr (e, x)) m' n') : PW (gZ L xs) k 20 d 19 [j0, j1, j2, j3, j4] [] m n Q := by
  have hX : J20_19 f m = J20_19 f m := rfl
  exact p_throw c20_19 (fun x n' => Ht _ _ hX (Or.inl rfl) hR x n')
def B20_50 (f : Nat) (x1 : Int64) (x3 : Int) (x4 : Int) (m : yM) : Option ((Int × yM) ⊕ ((Int × yM) ⊕ ((Int ⊕ Nat) × yM))) := (if x3 < x4 then (some (.inr (.inl (x4, m)))) else (some (.inl ((wr (x4 + 1)), yup (yup m 1 (m 0 6).toNat (nar 3 (i2c (F18 x1 (wr (x3 - x4)))))) 0 6 (wr ((m 0 6) + 1))))))
set_option maxRecDepth 100000 in
theorem tB20_50 {L : Nat} {xs : Nat → Int32} {Q : xO → yM → Nat → Prop} {k d n : Nat} {c : yS3} {f : Nat} {x1 : Int64} {x3 : Int} {x4 : Int} {m : yM} {j2 : Option Value} (hk : k ≤ f) (gx3 : rg x3) (gx4 : rg x4) (hR : RM c m) (Hn : ∀ (y0 : Int) (z0 : Option Value) (m' : yM) (n' : Nat), B20_50 f x1 x3 x4 m = some (.inl (y0, m')) → rg y0 → RM c m' → ∀ k', k' < k → PW (gZ L xs) k' 20 d 50 [some (.ref 0), some (.long x1), z0, some (yI x3), some (yI y0)] [] m' n' Q) (He : ∀ (y0 : Int) (z0 : Option Value) (m' : yM) (n' : Nat), B20_50 f x1 x3 x4 m = some (.inr (.inl (y0, m'))) → rg y0 → RM c m' → ∀ k', k' ≤ k → PW (gZ L xs) k' 20 d 90 [some (.ref 0), some (.long x1), z0, some (yI x3), some (yI y0)] [] m' n' Q) (Hr : ∀ r m', B20_50 f x1 x3 x4 m = some (.inr (.inr (.inl r, m'))) → rg r → RM c m' → ∀ n', Q (.inl (some (yI r))) m' n') (Ht : ∀ e m', B20_50 f x1 x3 x4 m = some (.inr (.inr (.inr e, m'))) → (fun e => e = 9 ∨ e = 10) e → RM c m' → ∀ x n', Q (.inr (e, x)) m' n') : PW (gZ L xs) k 20 d 50 [some (.ref 0), some (.long x1), j2, some (yI x3), some (yI x4)] [] m n Q := by
  have hX : B20_50 f x1 x3 x4 m = B20_50 f x1 x3 x4 m := rfl
  refine p_iload 52 c20_50 rfl rfl ?_
  refine p_iload 53 c20_52 rfl rfl ?_
  refine p_icmp 90 56 c20_53 rfl rfl (yc_gt gx4 gx3) (fun hb66 k67 hk67 => ?_) (fun hb66 k68 hk68 => ?_)
  · have hX69 := hX.trans (if_pos hb66)
    exact He _ _ _ _ hX69 gx4 hR _ (by omega)
  · have hX70 := hX.trans (if_neg hb66)
    refine p_aload 57 c20_56 rfl rfl ?_
    refine p_getR 60 c20_57 rfl kf0_0 ?_
    refine p_aload 61 c20_60 rfl rfl ?_
    refine p_getX 64 (m 0 6) c20_61 rfl kf0_6 rfl ?_
    refine p_lload 65 c20_64 rfl rfl ?_
    refine p_iload 66 c20_65 rfl rfl ?_
    refine p_iload 68 c20_66 rfl rfl ?_
    refine p_isub 69 c20_68 rfl ?_
    refine p_cX 72 [.long x1, yI (wr (x3 - x4))] [yI (m 0 6), .ref 1] c20_69 rfl rfl rfl (fun k' hk' d' => d18 (rg_wr _) hR) (fun hg73 n72 k71 hk71 => ?_)
    refine p_i2c 73 c20_72 rfl ?_
    refine p_iaS 74 c20_73 rfl ka1 (hR.rg _ _) (nar 3 (i2c (F18 x1 (wr (x3 - x4))))) rfl (fun hx74 => ?_)
    have hR75 := hR.up 1 (m 0 6).toNat (v := nar 3 (i2c (F18 x1 (wr (x3 - x4))))) (nselA (by decide)) (rg_to _)
    refine p_aload 75 c20_74 rfl rfl ?_
    refine p_dup 76 c20_75 rfl rfl ?_
    refine p_getX 79 (m 0 6) c20_76 rfl kf0_6 (yup_na (by decide)) ?_
    refine p_iconst 80 c20_79 rfl ?_
    refine p_iadd 81 c20_80 rfl ?_
    refine p_putI 84 c20_81 rfl kf0_6 ?_
    have hR76 := hR75.up 0 6 (v := wr ((m 0 6) + 1)) (nselD rfl) (rg_wr _)
    refine p_iinc 87 c20_84 rfl rfl rfl ?_
    refine p_gotoD 50 c20_87 rfl (fun k77 hk77 => ?_)
    exact Hn _ _ _ _ hX70 (rg_wr _) hR76 _ (by omega)
def F20 (f : Nat) (x1 : Int64) (x3 : Int) (m : yM) : Option ((Int ⊕ Nat) × yM) := (if x3 < 1 then (J20_19 f m) else (if 8 < x3 then (J20_19 f m) else (bP (F19 f x1 x3 m) (fun r56 => (if r56 = 0 then (J20_19 f m) else (if 320 < wr ((m 0 6) + x3) then (some (.inr 10, m)) else (bL (yloop (fun (l : Int) ml => B20_50 f x1 x3 l ml) f 1 m) (fun l78 m84 => (some (.inl (m84 0 6), m84))) (fun r mr => some (r, mr)))))))))
set_option maxRecDepth 100000 in
theorem d20 {L : Nat} {xs : Nat → Int32} {k d n : Nat} {c : yS3} {f : Nat} {x1 : Int64} {x3 : Int} {m : yM} (hk : k ≤ f) (gx3 : rg x3) (hR : RM c m) : PC (gZ L xs) k d 20 [.ref 0, .long x1, yI x3] m n (qEI (fun e => e = 9 ∨ e = 10) c (F20 f x1 x3 m)) := by
  have hX : F20 f x1 x3 m = F20 f x1 x3 m := rfl
  have Hr : ∀ r m', F20 f x1 x3 m = some (.inl r, m') → rg r → RM c m' → ∀ n' : Nat, (qEI (fun e => e = 9 ∨ e = 10) c (F20 f x1 x3 m)) (.inl (some (yI r))) m' n' := fun r m' e h1 h2 n' => Or.inl ⟨r, rfl, h1, h2, e⟩
  have Ht : ∀ e m', F20 f x1 x3 m = some (.inr e, m') → (fun e => e = 9 ∨ e = 10) e → RM c m' → ∀ x n' : Nat, (qEI (fun e => e = 9 ∨ e = 10) c (F20 f x1 x3 m)) (.inr (e, x)) m' n' := fun e m' e1 h1 h2 x n' => Or.inr ⟨e, x, rfl, h1, h2, e1⟩
  refine PC.mk [some (.ref 0), some (.long x1), none, some (yI x3), none] kn20 rfl ?_
  refine p_iload 1 c20_0 rfl rfl ?_
  refine p_iconst 2 c20_1 rfl ?_
  refine p_icmp 19 5 c20_2 rfl rfl (yc_lt gx3 (rgD rfl)) (fun hb16 k17 hk17 => ?_) (fun hb16 k18 hk18 => ?_)
  · have hX19 := hX.trans (if_pos hb16)
    exact tJ20_19 (f := f) (by omega) hR (fun r' m' e' => Hr r' m' (hX19.trans e')) (fun r' m' e' => Ht r' m' (hX19.trans e'))
  · have hX20 := hX.trans (if_neg hb16)
    refine p_iload 6 c20_5 rfl rfl ?_
    refine p_iconst 8 c20_6 rfl ?_
    refine p_icmp 19 11 c20_8 rfl rfl (yc_gt gx3 (rgD rfl)) (fun hb21 k22 hk22 => ?_) (fun hb21 k23 hk23 => ?_)
    · have hX24 := hX20.trans (if_pos hb21)
      exact tJ20_19 (f := f) (by omega) hR (fun r' m' e' => Hr r' m' (hX24.trans e')) (fun r' m' e' => Ht r' m' (hX24.trans e'))
    · have hX25 := hX20.trans (if_neg hb21)
      refine p_lload 12 c20_11 rfl rfl ?_
      refine p_iload 13 c20_12 rfl rfl ?_
      refine p_cO 16 [.long x1, yI x3] [] c20_13 rfl rfl rfl (fun k' hk' d' => d19 (f := f) (by omega) gx3 hR) (fun r56 hF54 hg55 n27 k26 hk26 => ?_)
      have hX57 := hX25.trans (bP_s hF54)
      refine p_if 27 19 c20_16 rfl rfl (yz_ne hg55) (fun hb58 k59 hk59 => ?_) (fun hb58 k60 hk60 => ?_)
      · have hX61 := hX57.trans (if_neg hb58)
        refine p_aload 28 c20_27 rfl rfl ?_
        refine p_getX 31 (m 0 6) c20_28 rfl kf0_6 rfl ?_
        refine p_iload 32 c20_31 rfl rfl ?_
        refine p_iadd 33 c20_32 rfl ?_
        refine p_iconst 36 c20_33 rfl ?_
        refine p_icmp 47 39 c20_36 rfl rfl ((yc_le (rg_wr _) (rgD rfl)).trans Int.not_lt.symm) (fun hb62 k63 hk63 => ?_) (fun hb62 k64 hk64 => ?_)
        · have hX65 := hX61.trans (if_neg hb62)
          refine p_iconst 48 c20_47 rfl ?_
          refine p_istore 50 c20_48 rfl rfl ?_
          refine PW.loop (K := k63) (pce := 90) (fun (l : Int) ml => B20_50 f x1 x3 l ml) (fun (l : Int) j => [some (.ref 0), some (.long x1), j 2, some (yI x3), some (yI l)]) (fun (l : Int) => rg l) (RM c) (fun (r' : (Int ⊕ Nat)) m' => (∀ v, r' = .inl v → rg v → RM c m' → ∀ n' : Nat, (qEI (fun e => e = 9 ∨ e = 10) c (F20 f x1 x3 m)) (.inl (some (yI v))) m' n') ∧ (∀ e, r' = .inr e → (fun e => e = 9 ∨ e = 10) e → RM c m' → ∀ x n' : Nat, (qEI (fun e => e = 9 ∨ e = 10) c (F20 f x1 x3 m)) (.inr (e, x)) m' n')) (fun k' hk' l j m' n' hl hI Hn' He' Hr' => tB20_50 (f := f) (by omega) gx3 hl hI (fun y0 y1 m2 n2 e h0 hR2 => Hn' y0 (fun q => ([none, none, y1, none, none] : List (Option Value)).getD q none) m2 n2 e h0 hR2) (fun y0 y1 m2 n2 e h0 hR2 => He' y0 (fun q => ([none, none, y1, none, none] : List (Option Value)).getD q none) m2 n2 e h0 hR2) (fun v m2 e => (Hr' (.inl v) m2 e).1 v rfl) (fun v m2 e => (Hr' (.inr v) m2 e).2 v rfl)) f k63 (by omega) (Nat.le_refl _) 1 (fun q => ([some (.ref 0), some (.long x1), none, some (yI x3), some (yI 1)] : xL).getD q none) _ _ (rgD rfl) hR (fun l78 j81 m84 n83 e80 hl79 hR85 k82 hk82 => ?_) (fun r' m' e' => ?_)
          · have hX86 := hX65.trans (bL_l e80)
            refine p_aload 91 c20_90 rfl rfl ?_
            refine p_getX 94 (m84 0 6) c20_91 rfl kf0_6 rfl ?_
            exact p_ireturn c20_94 (Hr _ _ hX86 (hR85.rg _ _) hR85 _)
          · exact ⟨fun v hv => Hr v m' ((hX65.trans (bL_r e')).trans (by rw [hv])), fun v hv => Ht v m' ((hX65.trans (bL_r e')).trans (by rw [hv]))⟩
        · have hX87 := hX61.trans (if_pos (Classical.not_not.mp hb62))
          exact p_throw c20_39 (fun x n' => Ht _ _ hX87 (Or.inr rfl) hR x n')
      · have hX88 := hX57.trans (if_pos (Classical.not_not.mp hb58))
        exact tJ20_19 (f := f) (by omega) hR (fun r' m' e' => Hr r' m' (hX88.trans e')) (fun r' m' e' => Ht r' m' (hX88.trans e'))
def F21 (f : Nat) (x1 : Int64) (x3 : Int) (m : yM) : Option (Int × yM) := (bT (F20 f x1 x3 m) (fun r91 m93 => (some (0, yup m93 413 0 ((i2l r91).toInt)))) (fun e' m93 => (if e' = 9 then (some (1, m93)) else (if e' = 10 then (some (2, m93)) else none))))
set_option maxRecDepth 100000 in
theorem d21 {L : Nat} {xs : Nat → Int32} {k d n : Nat} {c : yS3} {f : Nat} {x1 : Int64} {x3 : Int} {m : yM} (hk : k ≤ f) (gx3 : rg x3) (hR : RM c m) : PC (gZ L xs) k d 21 [.ref 0, .long x1, yI x3, .ref 413] m n (qS c (F21 f x1 x3 m)) := by
  have hX : F21 f x1 x3 m = F21 f x1 x3 m := rfl
  have Hr : ∀ r m', F21 f x1 x3 m = some (r, m') → rg r → RM c m' → ∀ n' : Nat, (qS c (F21 f x1 x3 m)) (.inl (some (yI r))) m' n' := fun r m' e h1 h2 n' => ⟨r, rfl, h1, h2, e⟩
  refine PC.mk [some (.ref 0), some (.long x1), none, some (yI x3), some (.ref 413), none] kn21 rfl ?_
  refine p_aload 2 c21_0 rfl rfl ?_
  refine p_iconst 3 c21_2 rfl ?_
  refine p_aload 4 c21_3 rfl rfl ?_
  refine p_lload 5 c21_4 rfl rfl ?_
  refine p_iload 6 c21_5 rfl rfl ?_
  refine p_cTI 9 [.ref 0, .long x1, yI x3] [yI 0, .ref 413] c21_6 rfl rfl rfl (fun k' hk' d' => d20 (f := f) (by omega) gx3 hR) (fun r91 m93 hF89 hg90 hR94 n15 k14 hk14 => ?_) (fun e' q98 m93 n' hF89 hE96 hR97 => ?_)
  · have hX92 := hX.trans (bT_l hF89)
    refine p_i2l 10 c21_9 rfl ?_
    refine p_laS 11 c21_10 rfl kl413 (rgD rfl) (fun hx99 => ?_)
    have hR100 := hR94.up 413 0 (v := (i2l r91).toInt) (nselD rfl) (rg_i2l _)
    refine p_goto 22 c21_11 rfl ?_
    refine p_iconst 23 c21_22 rfl ?_
    exact p_ireturn c21_23 (Hr _ _ hX92 (rgD rfl) hR100 _)
  · have hXe := hX.trans (bT_r hF89)
    rcases hE96 with rfl | rfl
    · have hX101 := hXe.trans (if_pos rfl)
      refine ⟨fun pq hpq k102 hk102 => ?_, fun hno => absurd (kh21_6_9.symm.trans hno) (by simp)⟩
      have hpp : pq = 14 := by have := kh21_6_9.symm.trans hpq; simpa using this.symm
      subst hpp
      refine p_astore 16 c21_14 rfl rfl ?_
      refine p_iconst 17 c21_16 rfl ?_
      exact p_ireturn c21_17 (Hr _ _ hX101 (rgD rfl) hR97 _)
    · have hX103 := (hXe.trans (if_neg (by decide))).trans (if_pos rfl)
      refine ⟨fun pq hpq k104 hk104 => ?_, fun hno => absurd (kh21_6_10.symm.trans hno) (by simp)⟩
      have hpp : pq = 18 := by have := kh21_6_10.symm.trans hpq; simpa using this.symm
      subst hpp
      refine p_astore 20 c21_18 rfl rfl ?_
      refine p_iconst 21 c21_20 rfl ?_
      exact p_ireturn c21_21 (Hr _ _ hX103 (rgD rfl) hR97 _)
def F22 (x0 : Int) (x1 : Int) (x2 : Int) : Int := (if x0 < x1 then 0 else (if x2 < x0 then 0 else 1))
set_option maxRecDepth 100000 in
theorem d22 {L : Nat} {xs : Nat → Int32} {k d n : Nat} {c : yS3} {x0 : Int} {x1 : Int} {x2 : Int} {m : yM} (gx0 : rg x0) (gx1 : rg x1) (gx2 : rg x2) (hR : RM c m) : PC (gZ L xs) k d 22 [yI x0, yI x1, yI x2] m n (qX m (F22 x0 x1 x2)) := by
  have hX : F22 x0 x1 x2 = F22 x0 x1 x2 := rfl
  have Hr : ∀ r, F22 x0 x1 x2 = r → rg r → ∀ n' : Nat, (qX m (F22 x0 x1 x2)) (.inl (some (yI r))) m n' := fun r e h n' => by subst e; exact ⟨rfl, h, rfl⟩
  refine PC.mk [some (yI x0), some (yI x1), some (yI x2)] kn22 rfl ?_
  refine p_iload 1 c22_0 rfl rfl ?_
  refine p_iload 2 c22_1 rfl rfl ?_
  refine p_icmp 14 5 c22_2 rfl rfl (yc_lt gx0 gx1) (fun hb118 k119 hk119 => ?_) (fun hb118 k120 hk120 => ?_)
  · have hX121 := hX.trans (if_pos hb118)
    refine p_iconst 15 c22_14 rfl ?_
    exact p_ireturn c22_15 (Hr _ hX121 (rgD rfl) _)
  · have hX122 := hX.trans (if_neg hb118)
    refine p_iload 6 c22_5 rfl rfl ?_
    refine p_iload 7 c22_6 rfl rfl ?_
    refine p_icmp 14 10 c22_7 rfl rfl (yc_gt gx0 gx2) (fun hb123 k124 hk124 => ?_) (fun hb123 k125 hk125 => ?_)
    · have hX126 := hX122.trans (if_pos hb123)
      refine p_iconst 15 c22_14 rfl ?_
      exact p_ireturn c22_15 (Hr _ hX126 (rgD rfl) _)
    · have hX127 := hX122.trans (if_neg hb123)
      refine p_iconst 11 c22_10 rfl ?_
      refine p_goto 15 c22_11 rfl ?_
      exact p_ireturn c22_15 (Hr _ hX127 (rgD rfl) _)
def J23_10 (f : Nat) (x1 : Int) (xs1 : Int) (m : yM) : Option (Int × yM) := (some (x1, yup m 376 57 xs1))
set_option maxRecDepth 100000 in
theorem tJ23_10 {L : Nat} {xs : Nat → Int32} {Q : xO → yM → Nat → Prop} {k d n : Nat} {c : yS3} {f : Nat} {x1 : Int} {xs1 : Int} {m : yM} {j0 j2 : Option Value} (hk : k ≤ f) (gx1 : rg x1) (gxs1 : rg xs1) (hR : RM c m) (Hr : ∀ r m', J23_10 f x1 xs1 m = some (r, m') → rg r → RM c m' → ∀ n', Q (.inl (some (yI r))) m' n') : PW (gZ L xs) k 23 d 10 [j0, some (yI x1), j2] [yI xs1, .ref 376] m n Q := by
  have hX : J23_10 f x1 xs1 m = J23_10 f x1 xs1 m := rfl
  refine p_putI 13 c23_10 rfl kf376_57 ?_
  have hR135 := hR.up 376 57 (v := xs1) (nselD rfl) gxs1
  refine p_iload 14 c23_13 rfl rfl ?_
  exact p_ireturn c23_14 (Hr _ _ hX gx1 hR135 _)
def F23 (f : Nat) (x1 : Int) (x2 : Int) (m : yM) : Option (Int × yM) := (if x1 = 0 then (J23_10 f x1 x2 m) else (J23_10 f x1 0 m))
set_option maxRecDepth 100000 in
theorem d23 {L : Nat} {xs : Nat → Int32} {k d n : Nat} {c : yS3} {f : Nat} {x1 : Int} {x2 : Int} {m : yM} (hk : k ≤ f) (gx1 : rg x1) (gx2 : rg x2) (hR : RM c m) : PC (gZ L xs) k d 23 [.ref 376, yI x1, yI x2] m n (qS c (F23 f x1 x2 m)) := by
  have hX : F23 f x1 x2 m = F23 f x1 x2 m := rfl
  have Hr : ∀ r m', F23 f x1 x2 m = some (r, m') → rg r → RM c m' → ∀ n' : Nat, (qS c (F23 f x1 x2 m)) (.inl (some (yI r))) m' n' := fun r m' e h1 h2 n' => ⟨r, rfl, h1, h2, e⟩
  refine PC.mk [some (.ref 376), some (yI x1), some (yI x2)] kn23 rfl ?_
  refine p_aload 1 c23_0 rfl rfl ?_
  refine p_iload 2 c23_1 rfl rfl ?_
  refine p_if 9 5 c23_2 rfl rfl (yz_eq gx1) (fun hb131 k132 hk132 => ?_) (fun hb131 k133 hk133 => ?_)
  · have hX134 := hX.trans (if_pos hb131)
    refine p_iload 10 c23_9 rfl rfl ?_
    exact tJ23_10 (f := f) (by omega) gx1 gx2 hR (fun r' m' e' => Hr r' m' (hX134.trans e'))
  · have hX136 := hX.trans (if_neg hb131)
    refine p_iconst 6 c23_5 rfl ?_
    refine p_goto 10 c23_6 rfl ?_
    exact tJ23_10 (f := f) (by omega) gx1 (rgD rfl) hR (fun r' m' e' => Hr r' m' (hX136.trans e'))
def F24 (f : Nat) (x1 : Int) (m : yM) : Option (Int × yM) := (some (0, yup m 376 57 x1))
set_option maxRecDepth 100000 in
theorem d24 {L : Nat} {xs : Nat → Int32} {k d n : Nat} {c : yS3} {f : Nat} {x1 : Int} {m : yM} (hk : k ≤ f) (gx1 : rg x1) (hR : RM c m) : PC (gZ L xs) k d 24 [.ref 376, yI x1] m n (qS c (F24 f x1 m)) := by
  have hX : F24 f x1 m = F24 f x1 m := rfl
  have Hr : ∀ r m', F24 f x1 m = some (r, m') → rg r → RM c m' → ∀ n' : Nat, (qS c (F24 f x1 m)) (.inl (some (yI r))) m' n' := fun r m' e h1 h2 n' => ⟨r, rfl, h1, h2, e⟩
  refine PC.mk [some (.ref 376), some (yI x1)] kn24 rfl ?_
  refine p_aload 1 c24_0 rfl rfl ?_
  refine p_iload 2 c24_1 rfl rfl ?_
  refine p_putI 5 c24_2 rfl kf376_57 ?_
  have hR163 := hR.up 376 57 (v := x1) (nselD rfl) gx1
  refine p_iconst 6 c24_5 rfl ?_
  exact p_ireturn c24_6 (Hr _ _ hX (rgD rfl) hR163 _)
def B25_20 (f : Nat) (x1 : Int64) (x3 : Int) (x4 : Int) (m : yM) : Option ((Int × yM) ⊕ ((Int × yM) ⊕ (Int × yM))) := (if x4 < x3 then (if F22 (iAnd (l2i (lShr x1 (wr (8 * x4)))) 255) 32 126 = 0 then (bI (F24 f 1 m) (fun r166 m168 => (some (.inr (.inr (r166, m168)))))) else (some (.inl ((wr (x4 + 1)), m)))) else (some (.inr (.inl (x4, m)))))
set_option maxRecDepth 100000 in
theorem tB25_20 {L : Nat} {xs : Nat → Int32} {Q : xO → yM → Nat → Prop} {k d n : Nat} {c : yS3} {f : Nat} {x1 : Int64} {x3 : Int} {x4 : Int} {m : yM} {j2 : Option Value} (hk : k ≤ f) (gx3 : rg x3) (gx4 : rg x4) (hR : RM c m) (Hn : ∀ (y0 : Int) (z0 : Option Value) (m' : yM) (n' : Nat), B25_20 f x1 x3 x4 m = some (.inl (y0, m')) → rg y0 → RM c m' → ∀ k', k' < k → PW (gZ L xs) k' 25 d 20 [some (.ref 376), some (.long x1), z0, some (yI x3), some (yI y0)] [] m' n' Q) (He : ∀ (y0 : Int) (z0 : Option Value) (m' : yM) (n' : Nat), B25_20 f x1 x3 x4 m = some (.inr (.inl (y0, m'))) → rg y0 → RM c m' → ∀ k', k' ≤ k → PW (gZ L xs) k' 25 d 60 [some (.ref 376), some (.long x1), z0, some (yI x3), some (yI y0)] [] m' n' Q) (Hr : ∀ r m', B25_20 f x1 x3 x4 m = some (.inr (.inr (r, m'))) → rg r → RM c m' → ∀ n', Q (.inl (some (yI r))) m' n') : PW (gZ L xs) k 25 d 20 [some (.ref 376), some (.long x1), j2, some (yI x3), some (yI x4)] [] m n Q := by
  have hX : B25_20 f x1 x3 x4 m = B25_20 f x1 x3 x4 m := rfl
  refine p_iload 22 c25_20 rfl rfl ?_
  refine p_iload 23 c25_22 rfl rfl ?_
  refine p_icmp 60 26 c25_23 rfl rfl ((yc_ge gx4 gx3).trans Int.not_lt.symm) (fun hb147 k148 hk148 => ?_) (fun hb147 k149 hk149 => ?_)
  · have hX150 := hX.trans (if_neg hb147)
    exact He _ _ _ _ hX150 gx4 hR _ (by omega)
  · have hX151 := hX.trans (if_pos (Classical.not_not.mp hb147))
    refine p_lload 27 c25_26 rfl rfl ?_
    refine p_iconst 29 c25_27 rfl ?_
    refine p_iload 31 c25_29 rfl rfl ?_
    refine p_imul 32 c25_31 rfl ?_
    refine p_lshr 33 c25_32 rfl ?_
    refine p_l2i 34 c25_33 rfl ?_
    refine p_iconst 37 c25_34 rfl ?_
    refine p_iand 38 c25_37 rfl ?_
    refine p_iconst 40 c25_38 rfl ?_
    refine p_iconst 42 c25_40 rfl ?_
    refine p_cX 45 [yI (iAnd (l2i (lShr x1 (wr (8 * x4)))) 255), yI 32, yI 126] [] c25_42 rfl rfl rfl (fun k' hk' d' => d22 (rg_to _) (rgD rfl) (rgD rfl) hR) (fun hg154 n153 k152 hk152 => ?_)
    refine p_if 54 48 c25_45 rfl rfl (yz_ne hg154) (fun hb155 k156 hk156 => ?_) (fun hb155 k157 hk157 => ?_)
    · have hX158 := hX151.trans (if_neg hb155)
      refine p_iinc 57 c25_54 rfl rfl rfl ?_
      refine p_gotoD 20 c25_57 rfl (fun k159 hk159 => ?_)
      exact Hn _ _ _ _ hX158 (rg_wr _) hR _ (by omega)
    · have hX160 := hX151.trans (if_pos (Classical.not_not.mp hb155))
      refine p_aload 49 c25_48 rfl rfl ?_
      refine p_iconst 50 c25_49 rfl ?_
      refine p_cS 53 [.ref 376, yI 1] [] c25_50 rfl rfl rfl (fun k' hk' d' => d24 (f := f) (by omega) (rgD rfl) hR) (fun r166 m168 hF164 hg165 hR169 n162 k161 hk161 => ?_)
      have hX167 := hX160.trans (bI_s hF164)
      exact p_ireturn c25_53 (Hr _ _ hX167 hg165 hR169 _)
def B25_92 (f : Nat) (x1 : Int64) (x4 : Int) (m : yM) : Option ((Int × yM) ⊕ ((Int × yM) ⊕ (Int × yM))) := (if x4 < 0 then (some (.inr (.inl (x4, m)))) else (some (.inl ((wr (x4 + (-1))), yup (yup m 377 (m 376 1).toNat (iAnd (l2i (lShr x1 (wr (8 * x4)))) 255)) 376 1 (wr ((m 376 1) + 1))))))
set_option maxRecDepth 100000 in
theorem tB25_92 {L : Nat} {xs : Nat → Int32} {Q : xO → yM → Nat → Prop} {k d n : Nat} {c : yS3} {f : Nat} {x1 : Int64} {x4 : Int} {m : yM} {j2 j3 : Option Value} (hk : k ≤ f) (gx4 : rg x4) (hR : RM c m) (Hn : ∀ (y0 : Int) (z0 z1 : Option Value) (m' : yM) (n' : Nat), B25_92 f x1 x4 m = some (.inl (y0, m')) → rg y0 → RM c m' → ∀ k', k' < k → PW (gZ L xs) k' 25 d 92 [some (.ref 376), some (.long x1), z0, z1, some (yI y0)] [] m' n' Q) (He : ∀ (y0 : Int) (z0 z1 : Option Value) (m' : yM) (n' : Nat), B25_92 f x1 x4 m = some (.inr (.inl (y0, m'))) → rg y0 → RM c m' → ∀ k', k' ≤ k → PW (gZ L xs) k' 25 d 134 [some (.ref 376), some (.long x1), z0, z1, some (yI y0)] [] m' n' Q) (Hr : ∀ r m', B25_92 f x1 x4 m = some (.inr (.inr (r, m'))) → rg r → RM c m' → ∀ n', Q (.inl (some (yI r))) m' n') : PW (gZ L xs) k 25 d 92 [some (.ref 376), some (.long x1), j2, j3, some (yI x4)] [] m n Q := by
  have hX : B25_92 f x1 x4 m = B25_92 f x1 x4 m := rfl
  refine p_iload 94 c25_92 rfl rfl ?_
  refine p_if 134 97 c25_94 rfl rfl (yz_lt gx4) (fun hb195 k196 hk196 => ?_) (fun hb195 k197 hk197 => ?_)
  · have hX198 := hX.trans (if_pos hb195)
    exact He _ _ _ _ _ hX198 gx4 hR _ (by omega)
  · have hX199 := hX.trans (if_neg hb195)
    refine p_aload 98 c25_97 rfl rfl ?_
    refine p_getR 101 c25_98 rfl kf376_0 ?_
    refine p_aload 102 c25_101 rfl rfl ?_
    refine p_getX 105 (m 376 1) c25_102 rfl kf376_1 rfl ?_
    refine p_lload 106 c25_105 rfl rfl ?_
    refine p_iconst 108 c25_106 rfl ?_
    refine p_iload 110 c25_108 rfl rfl ?_
    refine p_imul 111 c25_110 rfl ?_
    refine p_lshr 112 c25_111 rfl ?_
    refine p_l2i 113 c25_112 rfl ?_
    refine p_iconst 116 c25_113 rfl ?_
    refine p_iand 117 c25_116 rfl ?_
    refine p_iaS 118 c25_117 rfl ka377 (hR.rg _ _) (iAnd (l2i (lShr x1 (wr (8 * x4)))) 255) (nar0 (rg_to _)) (fun hx200 => ?_)
    have hR201 := hR.up 377 (m 376 1).toNat (v := iAnd (l2i (lShr x1 (wr (8 * x4)))) 255) (nselA (by decide)) (rg_to _)
    refine p_aload 119 c25_118 rfl rfl ?_
    refine p_dup 120 c25_119 rfl rfl ?_
    refine p_getX 123 (m 376 1) c25_120 rfl kf376_1 (yup_na (by decide)) ?_
    refine p_iconst 124 c25_123 rfl ?_
    refine p_iadd 125 c25_124 rfl ?_
    refine p_putI 128 c25_125 rfl kf376_1 ?_
    have hR202 := hR201.up 376 1 (v := wr ((m 376 1) + 1)) (nselD rfl) (rg_wr _)
    refine p_iinc 131 c25_128 rfl rfl rfl ?_
    refine p_gotoD 92 c25_131 rfl (fun k203 hk203 => ?_)
    exact Hn _ _ _ _ _ hX199 (rg_wr _) hR202 _ (by omega)
def J25_78 (f : Nat) (x1 : Int64) (x3 : Int) (xs1 : Int) (m : yM) : Option (Int × yM) := (bI (F23 f xs1 2 m) (fun r187 m189 => (if r187 = 0 then (some (0, m189)) else (bL (yloop (fun (l : Int) ml => B25_92 f x1 l ml) f (wr (x3 - 1)) m189) (fun l204 m210 => (some (m210 376 1, m210))) (fun r mr => some (r, mr))))))
set_option maxRecDepth 100000 in
theorem tJ25_78 {L : Nat} {xs : Nat → Int32} {Q : xO → yM → Nat → Prop} {k d n : Nat} {c : yS3} {f : Nat} {x1 : Int64} {x3 : Int} {xs1 : Int} {m : yM} {j2 j4 : Option Value} (hk : k ≤ f) (gx3 : rg x3) (gxs1 : rg xs1) (hR : RM c m) (Hr : ∀ r m', J25_78 f x1 x3 xs1 m = some (r, m') → rg r → RM c m' → ∀ n', Q (.inl (some (yI r))) m' n') : PW (gZ L xs) k 25 d 78 [some (.ref 376), some (.long x1), j2, some (yI x3), j4] [yI xs1, .ref 376] m n Q := by
  have hX : J25_78 f x1 x3 xs1 m = J25_78 f x1 x3 xs1 m := rfl
  refine p_iconst 79 c25_78 rfl ?_
  refine p_cS 82 [.ref 376, yI xs1, yI 2] [] c25_79 rfl rfl rfl (fun k' hk' d' => d23 (f := f) (by omega) gxs1 (rgD rfl) hR) (fun r187 m189 hF185 hg186 hR190 n184 k183 hk183 => ?_)
  have hX188 := hX.trans (bI_s hF185)
  refine p_if 87 85 c25_82 rfl rfl (yz_ne hg186) (fun hb191 k192 hk192 => ?_) (fun hb191 k193 hk193 => ?_)
  · have hX194 := hX188.trans (if_neg hb191)
    refine p_iload 88 c25_87 rfl rfl ?_
    refine p_iconst 89 c25_88 rfl ?_
    refine p_isub 90 c25_89 rfl ?_
    refine p_istore 92 c25_90 rfl rfl ?_
    refine PW.loop (K := k192) (pce := 134) (fun (l : Int) ml => B25_92 f x1 l ml) (fun (l : Int) j => [some (.ref 376), some (.long x1), j 2, j 3, some (yI l)]) (fun (l : Int) => rg l) (RM c) (fun r' m' => rg r' → RM c m' → ∀ n' : Nat, Q (.inl (some (yI r'))) m' n') (fun k' hk' l j m' n' hl hI Hn' He' Hr' => tB25_92 (f := f) (by omega) hl hI (fun y0 y1 y2 m2 n2 e h0 hR2 => Hn' y0 (fun q => ([none, none, y1, y2, none] : List (Option Value)).getD q none) m2 n2 e h0 hR2) (fun y0 y1 y2 m2 n2 e h0 hR2 => He' y0 (fun q => ([none, none, y1, y2, none] : List (Option Value)).getD q none) m2 n2 e h0 hR2) Hr') f k192 (by omega) (Nat.le_refl _) (wr (x3 - 1)) (fun q => ([some (.ref 376), some (.long x1), j2, some (yI x3), some (yI (wr (x3 - 1)))] : xL).getD q none) _ _ (rg_wr _) hR190 (fun l204 j207 m210 n209 e206 hl205 hR211 k208 hk208 => ?_) (fun r' m' e' => ?_)
    · have hX212 := hX194.trans (bL_l e206)
      refine p_aload 135 c25_134 rfl rfl ?_
      refine p_getX 138 (m210 376 1) c25_135 rfl kf376_1 rfl ?_
      exact p_ireturn c25_138 (Hr _ _ hX212 (hR211.rg _ _) hR211 _)
    · exact Hr r' m' (hX194.trans (bL_r e'))
  · have hX213 := hX188.trans (if_pos (Classical.not_not.mp hb191))
    refine p_iconst 86 c25_85 rfl ?_
    exact p_ireturn c25_86 (Hr _ _ hX213 (rgD rfl) hR190 _)
def F25 (f : Nat) (x1 : Int64) (x3 : Int) (m : yM) : Option (Int × yM) := (bI (F23 f (F22 x3 1 8) 1 m) (fun r139 m141 => (if r139 = 0 then (some (0, m141)) else (bL (yloop (fun (l : Int) ml => B25_20 f x1 x3 l ml) f 0 m141) (fun l170 m176 => (if 320 < wr ((m176 376 1) + x3) then (J25_78 f x1 x3 0 m176) else (J25_78 f x1 x3 1 m176))) (fun r mr => some (r, mr))))))
set_option maxRecDepth 100000 in
theorem d25 {L : Nat} {xs : Nat → Int32} {k d n : Nat} {c : yS3} {f : Nat} {x1 : Int64} {x3 : Int} {m : yM} (hk : k ≤ f) (gx3 : rg x3) (hR : RM c m) : PC (gZ L xs) k d 25 [.ref 376, .long x1, yI x3] m n (qS c (F25 f x1 x3 m)) := by
  have hX : F25 f x1 x3 m = F25 f x1 x3 m := rfl
  have Hr : ∀ r m', F25 f x1 x3 m = some (r, m') → rg r → RM c m' → ∀ n' : Nat, (qS c (F25 f x1 x3 m)) (.inl (some (yI r))) m' n' := fun r m' e h1 h2 n' => ⟨r, rfl, h1, h2, e⟩
  refine PC.mk [some (.ref 376), some (.long x1), none, some (yI x3), none] kn25 rfl ?_
  refine p_aload 1 c25_0 rfl rfl ?_
  refine p_iload 2 c25_1 rfl rfl ?_
  refine p_iconst 3 c25_2 rfl ?_
  refine p_iconst 5 c25_3 rfl ?_
  refine p_cX 8 [yI x3, yI 1, yI 8] [.ref 376] c25_5 rfl rfl rfl (fun k' hk' d' => d22 gx3 (rgD rfl) (rgD rfl) hR) (fun hg128 n117 k116 hk116 => ?_)
  refine p_iconst 9 c25_8 rfl ?_
  refine p_cS 12 [.ref 376, yI (F22 x3 1 8), yI 1] [] c25_9 rfl rfl rfl (fun k' hk' d' => d23 (f := f) (by omega) hg128 (rgD rfl) hR) (fun r139 m141 hF137 hg138 hR142 n130 k129 hk129 => ?_)
  have hX140 := hX.trans (bI_s hF137)
  refine p_if 17 15 c25_12 rfl rfl (yz_ne hg138) (fun hb143 k144 hk144 => ?_) (fun hb143 k145 hk145 => ?_)
  · have hX146 := hX140.trans (if_neg hb143)
    refine p_iconst 18 c25_17 rfl ?_
    refine p_istore 20 c25_18 rfl rfl ?_
    refine PW.loop (K := k144) (pce := 60) (fun (l : Int) ml => B25_20 f x1 x3 l ml) (fun (l : Int) j => [some (.ref 376), some (.long x1), j 2, some (yI x3), some (yI l)]) (fun (l : Int) => rg l) (RM c) (fun r' m' => rg r' → RM c m' → ∀ n' : Nat, (qS c (F25 f x1 x3 m)) (.inl (some (yI r'))) m' n') (fun k' hk' l j m' n' hl hI Hn' He' Hr' => tB25_20 (f := f) (by omega) gx3 hl hI (fun y0 y1 m2 n2 e h0 hR2 => Hn' y0 (fun q => ([none, none, y1, none, none] : List (Option Value)).getD q none) m2 n2 e h0 hR2) (fun y0 y1 m2 n2 e h0 hR2 => He' y0 (fun q => ([none, none, y1, none, none] : List (Option Value)).getD q none) m2 n2 e h0 hR2) Hr') f k144 (by omega) (Nat.le_refl _) 0 (fun q => ([some (.ref 376), some (.long x1), none, some (yI x3), some (yI 0)] : xL).getD q none) _ _ (rgD rfl) hR142 (fun l170 j173 m176 n175 e172 hl171 hR177 k174 hk174 => ?_) (fun r' m' e' => ?_)
    · have hX178 := hX146.trans (bL_l e172)
      refine p_aload 61 c25_60 rfl rfl ?_
      refine p_aload 62 c25_61 rfl rfl ?_
      refine p_getX 65 (m176 376 1) c25_62 rfl kf376_1 rfl ?_
      refine p_iload 66 c25_65 rfl rfl ?_
      refine p_iadd 67 c25_66 rfl ?_
      refine p_iconst 70 c25_67 rfl ?_
      refine p_icmp 77 73 c25_70 rfl rfl (yc_gt (rg_wr _) (rgD rfl)) (fun hb179 k180 hk180 => ?_) (fun hb179 k181 hk181 => ?_)
      · have hX182 := hX178.trans (if_pos hb179)
        refine p_iconst 78 c25_77 rfl ?_
        exact tJ25_78 (f := f) (by omega) gx3 (rgD rfl) hR177 (fun r' m' e' => Hr r' m' (hX182.trans e'))
      · have hX214 := hX178.trans (if_neg hb179)
        refine p_iconst 74 c25_73 rfl ?_
        refine p_goto 78 c25_74 rfl ?_
        exact tJ25_78 (f := f) (by omega) gx3 (rgD rfl) hR177 (fun r' m' e' => Hr r' m' (hX214.trans e'))
    · exact Hr r' m' (hX146.trans (bL_r e'))
  · have hX215 := hX140.trans (if_pos (Classical.not_not.mp hb143))
    refine p_iconst 16 c25_15 rfl ?_
    exact p_ireturn c25_16 (Hr _ _ hX215 (rgD rfl) hR142 _)
def J27_12 (f : Nat) (m : yM) : Option ((Int ⊕ Nat) × yM) := (some (.inr 9, m))
set_option maxRecDepth 100000 in
theorem tJ27_12 {L : Nat} {xs : Nat → Int32} {Q : xO → yM → Nat → Prop} {k d n : Nat} {c : yS3} {f : Nat} {m : yM} {j0 j1 : Option Value} (hk : k ≤ f) (hR : RM c m) (Hr : ∀ r m', J27_12 f m = some (.inl r, m') → rg r → RM c m' → ∀ n', Q (.inl (some (yI r))) m' n') (Ht : ∀ e m', J27_12 f m = some (.inr e, m') → (fun e => e = 9) e → RM c m' → ∀ x n', Q (.inr (e, x)) m' n') : PW (gZ L xs) k 27 d 12 [j0, j1] [] m n Q := by
  have hX : J27_12 f m = J27_12 f m := rfl
  exact p_throw c27_12 (fun x n' => Ht _ _ hX rfl hR x n')
def F27 (f : Nat) (x1 : Int) (m : yM) : Option ((Int ⊕ Nat) × yM) := (if x1 < 0 then (J27_12 f m) else (if m 0 6 < x1 then (J27_12 f m) else (some (.inl (wr ((m 0 6) - x1)), yup m 0 6 (wr ((m 0 6) - x1))))))
set_option maxRecDepth 100000 in
theorem d27 {L : Nat} {xs : Nat → Int32} {k d n : Nat} {c : yS3} {f : Nat} {x1 : Int} {m : yM} (hk : k ≤ f) (gx1 : rg x1) (hR : RM c m) : PC (gZ L xs) k d 27 [.ref 0, yI x1] m n (qEI (fun e => e = 9) c (F27 f x1 m)) := by
  have hX : F27 f x1 m = F27 f x1 m := rfl
  have Hr : ∀ r m', F27 f x1 m = some (.inl r, m') → rg r → RM c m' → ∀ n' : Nat, (qEI (fun e => e = 9) c (F27 f x1 m)) (.inl (some (yI r))) m' n' := fun r m' e h1 h2 n' => Or.inl ⟨r, rfl, h1, h2, e⟩
  have Ht : ∀ e m', F27 f x1 m = some (.inr e, m') → (fun e => e = 9) e → RM c m' → ∀ x n' : Nat, (qEI (fun e => e = 9) c (F27 f x1 m)) (.inr (e, x)) m' n' := fun e m' e1 h1 h2 x n' => Or.inr ⟨e, x, rfl, h1, h2, e1⟩
  refine PC.mk [some (.ref 0), some (yI x1)] kn27 rfl ?_
  refine p_iload 1 c27_0 rfl rfl ?_
  refine p_if 12 4 c27_1 rfl rfl (yz_lt gx1) (fun hb231 k232 hk232 => ?_) (fun hb231 k233 hk233 => ?_)
  · have hX234 := hX.trans (if_pos hb231)
    exact tJ27_12 (f := f) (by omega) hR (fun r' m' e' => Hr r' m' (hX234.trans e')) (fun r' m' e' => Ht r' m' (hX234.trans e'))
  · have hX235 := hX.trans (if_neg hb231)
    refine p_iload 5 c27_4 rfl rfl ?_
    refine p_aload 6 c27_5 rfl rfl ?_
    refine p_getX 9 (m 0 6) c27_6 rfl kf0_6 rfl ?_
    refine p_icmp 20 12 c27_9 rfl rfl ((yc_le gx1 (hR.rg _ _)).trans Int.not_lt.symm) (fun hb236 k237 hk237 => ?_) (fun hb236 k238 hk238 => ?_)
    · have hX239 := hX235.trans (if_neg hb236)
      refine p_aload 21 c27_20 rfl rfl ?_
      refine p_dup 22 c27_21 rfl rfl ?_
      refine p_getX 25 (m 0 6) c27_22 rfl kf0_6 rfl ?_
      refine p_iload 26 c27_25 rfl rfl ?_
      refine p_isub 27 c27_26 rfl ?_
      refine p_putI 30 c27_27 rfl kf0_6 ?_
      have hR240 := hR.up 0 6 (v := wr ((m 0 6) - x1)) (nselD rfl) (rg_wr _)
      refine p_aload 31 c27_30 rfl rfl ?_
      refine p_getX 34 (wr ((m 0 6) - x1)) c27_31 rfl kf0_6 (yup_eq _ _ _ _) ?_
      exact p_ireturn c27_34 (Hr _ _ hX239 (rg_wr _) hR240 _)
    · have hX241 := hX235.trans (if_pos (Classical.not_not.mp hb236))
      exact tJ27_12 (f := f) (by omega) hR (fun r' m' e' => Hr r' m' (hX241.trans e')) (fun r' m' e' => Ht r' m' (hX241.trans e'))
def F28 (f : Nat) (x1 : Int) (m : yM) : Option (Int × yM) := (bT (F27 f x1 m) (fun r244 m246 => (some (0, yup m246 413 0 ((i2l r244).toInt)))) (fun e' m246 => (if e' = 9 then (some (1, m246)) else none)))
set_option maxRecDepth 100000 in
theorem d28 {L : Nat} {xs : Nat → Int32} {k d n : Nat} {c : yS3} {f : Nat} {x1 : Int} {m : yM} (hk : k ≤ f) (gx1 : rg x1) (hR : RM c m) : PC (gZ L xs) k d 28 [.ref 0, yI x1, .ref 413] m n (qS c (F28 f x1 m)) := by
  have hX : F28 f x1 m = F28 f x1 m := rfl
  have Hr : ∀ r m', F28 f x1 m = some (r, m') → rg r → RM c m' → ∀ n' : Nat, (qS c (F28 f x1 m)) (.inl (some (yI r))) m' n' := fun r m' e h1 h2 n' => ⟨r, rfl, h1, h2, e⟩
  refine PC.mk [some (.ref 0), some (yI x1), some (.ref 413), none] kn28 rfl ?_
  refine p_aload 1 c28_0 rfl rfl ?_
  refine p_iconst 2 c28_1 rfl ?_
  refine p_aload 3 c28_2 rfl rfl ?_
  refine p_iload 4 c28_3 rfl rfl ?_
  refine p_cTI 7 [.ref 0, yI x1] [yI 0, .ref 413] c28_4 rfl rfl rfl (fun k' hk' d' => d27 (f := f) (by omega) gx1 hR) (fun r244 m246 hF242 hg243 hR247 n230 k229 hk229 => ?_) (fun e' q251 m246 n' hF242 hE249 hR250 => ?_)
  · have hX245 := hX.trans (bT_l hF242)
    refine p_i2l 8 c28_7 rfl ?_
    refine p_laS 9 c28_8 rfl kl413 (rgD rfl) (fun hx252 => ?_)
    have hR253 := hR247.up 413 0 (v := (i2l r244).toInt) (nselD rfl) (rg_i2l _)
    refine p_goto 15 c28_9 rfl ?_
    refine p_iconst 16 c28_15 rfl ?_
    exact p_ireturn c28_16 (Hr _ _ hX245 (rgD rfl) hR253 _)
  · have hXe := hX.trans (bT_r hF242)
    cases (show e' = 9 from hE249)
    have hX254 := hXe.trans (if_pos rfl)
    refine ⟨fun pq hpq k255 hk255 => ?_, fun hno => absurd (r_kh28_4_9.symm.trans hno) (by simp)⟩
    have hpp : pq = 12 := by have := r_kh28_4_9.symm.trans hpq; simpa using this.symm
    subst hpp
    refine p_astore 13 c28_12 rfl rfl ?_
    refine p_iconst 14 c28_13 rfl ?_
    exact p_ireturn c28_14 (Hr _ _ hX254 (rgD rfl) hR250 _)
def F29 (f : Nat) (x1 : Int) (m : yM) : Option (Int × yM) := (bI (F23 f (F22 x1 0 (m 376 1)) 1 m) (fun r272 m274 => (if r272 = 0 then (some (0, m274)) else (some (wr ((m274 376 1) - x1), yup m274 376 1 (wr ((m274 376 1) - x1)))))))
set_option maxRecDepth 100000 in
theorem d29 {L : Nat} {xs : Nat → Int32} {k d n : Nat} {c : yS3} {f : Nat} {x1 : Int} {m : yM} (hk : k ≤ f) (gx1 : rg x1) (hR : RM c m) : PC (gZ L xs) k d 29 [.ref 376, yI x1] m n (qS c (F29 f x1 m)) := by
  have hX : F29 f x1 m = F29 f x1 m := rfl
  have Hr : ∀ r m', F29 f x1 m = some (r, m') → rg r → RM c m' → ∀ n' : Nat, (qS c (F29 f x1 m)) (.inl (some (yI r))) m' n' := fun r m' e h1 h2 n' => ⟨r, rfl, h1, h2, e⟩
  refine PC.mk [some (.ref 376), some (yI x1)] kn29 rfl ?_
  refine p_aload 1 c29_0 rfl rfl ?_
  refine p_iload 2 c29_1 rfl rfl ?_
  refine p_iconst 3 c29_2 rfl ?_
  refine p_aload 4 c29_3 rfl rfl ?_
  refine p_getX 7 (m 376 1) c29_4 rfl kf376_1 rfl ?_
  refine p_cX 10 [yI x1, yI 0, yI (m 376 1)] [.ref 376] c29_7 rfl rfl rfl (fun k' hk' d' => d22 gx1 (rgD rfl) (hR.rg _ _) hR) (fun hg267 n266 k265 hk265 => ?_)
  refine p_iconst 11 c29_10 rfl ?_
  refine p_cS 14 [.ref 376, yI (F22 x1 0 (m 376 1)), yI 1] [] c29_11 rfl rfl rfl (fun k' hk' d' => d23 (f := f) (by omega) hg267 (rgD rfl) hR) (fun r272 m274 hF270 hg271 hR275 n269 k268 hk268 => ?_)
  have hX273 := hX.trans (bI_s hF270)
  refine p_if 19 17 c29_14 rfl rfl (yz_ne hg271) (fun hb276 k277 hk277 => ?_) (fun hb276 k278 hk278 => ?_)
  · have hX279 := hX273.trans (if_neg hb276)
    refine p_aload 20 c29_19 rfl rfl ?_
    refine p_dup 21 c29_20 rfl rfl ?_
    refine p_getX 24 (m274 376 1) c29_21 rfl kf376_1 rfl ?_
    refine p_iload 25 c29_24 rfl rfl ?_
    refine p_isub 26 c29_25 rfl ?_
    refine p_putI 29 c29_26 rfl kf376_1 ?_
    have hR280 := hR275.up 376 1 (v := wr ((m274 376 1) - x1)) (nselD rfl) (rg_wr _)
    refine p_aload 30 c29_29 rfl rfl ?_
    refine p_getX 33 (wr ((m274 376 1) - x1)) c29_30 rfl kf376_1 (yup_eq _ _ _ _) ?_
    exact p_ireturn c29_33 (Hr _ _ hX279 (rg_wr _) hR280 _)
  · have hX281 := hX273.trans (if_pos (Classical.not_not.mp hb276))
    refine p_iconst 18 c29_17 rfl ?_
    exact p_ireturn c29_18 (Hr _ _ hX281 (rgD rfl) hR275 _)
def F30 (f : Nat) (A : Nat) (m : yM) : Option yM := (some (yup (yup (yup (yup (yup (yup (yup (yup m A 9 0) A 10 0) A 11 0) A 12 0) A 13 0) A 14 1) A 15 0) A 16 0))
set_option maxRecDepth 100000 in
theorem d30 {L : Nat} {xs : Nat → Int32} {k d n : Nat} {c : yS3} {f : Nat} {A : Nat} {m : yM} (hk : k ≤ f) (hA : (A = 256 ∨ A = 316)) (hR : RM c m) : PC (gZ L xs) k d 30 [.ref A] m n (qV c (F30 f A m)) := by
  have hX : F30 f A m = F30 f A m := rfl
  have Hr : ∀ m', F30 f A m = some m' → RM c m' → ∀ n' : Nat, (qV c (F30 f A m)) (.inl none) m' n' := fun m' e h n' => ⟨rfl, h, e⟩
  refine PC.mk [some (.ref A)] kn30 rfl ?_
  refine p_aload 1 c30_0 rfl rfl ?_
  refine p_iconst 2 c30_1 rfl ?_
  refine p_putI 5 c30_2 rfl (kP_9 hA) ?_
  have hR300 := hR.up A 9 (v := 0) (nselA (by omega)) (rgD rfl)
  refine p_aload 6 c30_5 rfl rfl ?_
  refine p_iconst 7 c30_6 rfl ?_
  refine p_putI 10 c30_7 rfl (kP_10 hA) ?_
  have hR301 := hR300.up A 10 (v := 0) (nselA (by omega)) (rgD rfl)
  refine p_aload 11 c30_10 rfl rfl ?_
  refine p_iconst 12 c30_11 rfl ?_
  refine p_putI 15 c30_12 rfl (kP_11 hA) ?_
  have hR302 := hR301.up A 11 (v := 0) (nselA (by omega)) (rgD rfl)
  refine p_aload 16 c30_15 rfl rfl ?_
  refine p_iconst 17 c30_16 rfl ?_
  refine p_putI 20 c30_17 rfl (kP_12 hA) ?_
  have hR303 := hR302.up A 12 (v := 0) (nselA (by omega)) (rgD rfl)
  refine p_aload 21 c30_20 rfl rfl ?_
  refine p_iconst 22 c30_21 rfl ?_
  refine p_putI 25 c30_22 rfl (kP_13 hA) ?_
  have hR304 := hR303.up A 13 (v := 0) (nselA (by omega)) (rgD rfl)
  refine p_aload 26 c30_25 rfl rfl ?_
  refine p_iconst 27 c30_26 rfl ?_
  refine p_putI 30 c30_27 rfl (kP_14 hA) ?_
  have hR305 := hR304.up A 14 (v := 1) (nselA (by omega)) (rgD rfl)
  refine p_aload 31 c30_30 rfl rfl ?_
  refine p_iconst 32 c30_31 rfl ?_
  refine p_putI 35 c30_32 rfl (kP_15 hA) ?_
  have hR306 := hR305.up A 15 (v := 0) (nselA (by omega)) (rgD rfl)
  refine p_aload 36 c30_35 rfl rfl ?_
  refine p_iconst 37 c30_36 rfl ?_
  refine p_putI 40 c30_37 rfl (kP_16 hA) ?_
  have hR307 := hR306.up A 16 (v := 0) (nselA (by omega)) (rgD rfl)
  exact p_return c30_40 (Hr _ hX hR307 _)
def F31 (x0 : Int) : Int := (if x0 < 97 then 0 else (if 122 < x0 then 0 else 1))
set_option maxRecDepth 100000 in
theorem d31 {L : Nat} {xs : Nat → Int32} {k d n : Nat} {c : yS3} {x0 : Int} {m : yM} (gx0 : rg x0) (hR : RM c m) : PC (gZ L xs) k d 31 [yI x0] m n (qX m (F31 x0)) := by
  have hX : F31 x0 = F31 x0 := rfl
  have Hr : ∀ r, F31 x0 = r → rg r → ∀ n' : Nat, (qX m (F31 x0)) (.inl (some (yI r))) m n' := fun r e h n' => by subst e; exact ⟨rfl, h, rfl⟩
  refine PC.mk [some (yI x0)] kn31 rfl ?_
  refine p_iload 1 c31_0 rfl rfl ?_
  refine p_iconst 3 c31_1 rfl ?_
  refine p_icmp 16 6 c31_3 rfl rfl (yc_lt gx0 (rgD rfl)) (fun hb325 k326 hk326 => ?_) (fun hb325 k327 hk327 => ?_)
  · have hX328 := hX.trans (if_pos hb325)
    refine p_iconst 17 c31_16 rfl ?_
    exact p_ireturn c31_17 (Hr _ hX328 (rgD rfl) _)
  · have hX329 := hX.trans (if_neg hb325)
    refine p_iload 7 c31_6 rfl rfl ?_
    refine p_iconst 9 c31_7 rfl ?_
    refine p_icmp 16 12 c31_9 rfl rfl (yc_gt gx0 (rgD rfl)) (fun hb330 k331 hk331 => ?_) (fun hb330 k332 hk332 => ?_)
    · have hX333 := hX329.trans (if_pos hb330)
      refine p_iconst 17 c31_16 rfl ?_
      exact p_ireturn c31_17 (Hr _ hX333 (rgD rfl) _)
    · have hX334 := hX329.trans (if_neg hb330)
      refine p_iconst 13 c31_12 rfl ?_
      refine p_goto 17 c31_13 rfl ?_
      exact p_ireturn c31_17 (Hr _ hX334 (rgD rfl) _)
def F34 (x0 : Int) : Int := (if x0 = 123 then 1 else (if x0 = 125 then 1 else (if x0 = 40 then 1 else (if x0 = 41 then 1 else (if x0 = 61 then 1 else (if x0 = 46 then 1 else (if x0 = 44 then 1 else (if x0 = 59 then 1 else (if x0 = 58 then 1 else 0)))))))))
set_option maxRecDepth 100000 in
theorem d34 {L : Nat} {xs : Nat → Int32} {k d n : Nat} {c : yS3} {x0 : Int} {m : yM} (gx0 : rg x0) (hR : RM c m) : PC (gZ L xs) k d 34 [yI x0] m n (qX m (F34 x0)) := by
  have hX : F34 x0 = F34 x0 := rfl
  have Hr : ∀ r, F34 x0 = r → rg r → ∀ n' : Nat, (qX m (F34 x0)) (.inl (some (yI r))) m n' := fun r e h n' => by subst e; exact ⟨rfl, h, rfl⟩
  refine PC.mk [some (yI x0)] kn34 rfl ?_
  refine p_iload 1 c34_0 rfl rfl ?_
  refine p_iconst 3 c34_1 rfl ?_
  refine p_icmp 54 6 c34_3 rfl rfl (yc_eq gx0 (rgD rfl)) (fun hb353 k354 hk354 => ?_) (fun hb353 k355 hk355 => ?_)
  · have hX356 := hX.trans (if_pos hb353)
    refine p_iconst 55 c34_54 rfl ?_
    refine p_goto 59 c34_55 rfl ?_
    exact p_ireturn c34_59 (Hr _ hX356 (rgD rfl) _)
  · have hX357 := hX.trans (if_neg hb353)
    refine p_iload 7 c34_6 rfl rfl ?_
    refine p_iconst 9 c34_7 rfl ?_
    refine p_icmp 54 12 c34_9 rfl rfl (yc_eq gx0 (rgD rfl)) (fun hb358 k359 hk359 => ?_) (fun hb358 k360 hk360 => ?_)
    · have hX361 := hX357.trans (if_pos hb358)
      refine p_iconst 55 c34_54 rfl ?_
      refine p_goto 59 c34_55 rfl ?_
      exact p_ireturn c34_59 (Hr _ hX361 (rgD rfl) _)
    · have hX362 := hX357.trans (if_neg hb358)
      refine p_iload 13 c34_12 rfl rfl ?_
      refine p_iconst 15 c34_13 rfl ?_
      refine p_icmp 54 18 c34_15 rfl rfl (yc_eq gx0 (rgD rfl)) (fun hb363 k364 hk364 => ?_) (fun hb363 k365 hk365 => ?_)
      · have hX366 := hX362.trans (if_pos hb363)
        refine p_iconst 55 c34_54 rfl ?_
        refine p_goto 59 c34_55 rfl ?_
        exact p_ireturn c34_59 (Hr _ hX366 (rgD rfl) _)
      · have hX367 := hX362.trans (if_neg hb363)
        refine p_iload 19 c34_18 rfl rfl ?_
        refine p_iconst 21 c34_19 rfl ?_
        refine p_icmp 54 24 c34_21 rfl rfl (yc_eq gx0 (rgD rfl)) (fun hb368 k369 hk369 => ?_) (fun hb368 k370 hk370 => ?_)
        · have hX371 := hX367.trans (if_pos hb368)
          refine p_iconst 55 c34_54 rfl ?_
          refine p_goto 59 c34_55 rfl ?_
          exact p_ireturn c34_59 (Hr _ hX371 (rgD rfl) _)
        · have hX372 := hX367.trans (if_neg hb368)
          refine p_iload 25 c34_24 rfl rfl ?_
          refine p_iconst 27 c34_25 rfl ?_
          refine p_icmp 54 30 c34_27 rfl rfl (yc_eq gx0 (rgD rfl)) (fun hb373 k374 hk374 => ?_) (fun hb373 k375 hk375 => ?_)
          · have hX376 := hX372.trans (if_pos hb373)
            refine p_iconst 55 c34_54 rfl ?_
            refine p_goto 59 c34_55 rfl ?_
            exact p_ireturn c34_59 (Hr _ hX376 (rgD rfl) _)
          · have hX377 := hX372.trans (if_neg hb373)
            refine p_iload 31 c34_30 rfl rfl ?_
            refine p_iconst 33 c34_31 rfl ?_
            refine p_icmp 54 36 c34_33 rfl rfl (yc_eq gx0 (rgD rfl)) (fun hb378 k379 hk379 => ?_) (fun hb378 k380 hk380 => ?_)
            · have hX381 := hX377.trans (if_pos hb378)
              refine p_iconst 55 c34_54 rfl ?_
              refine p_goto 59 c34_55 rfl ?_
              exact p_ireturn c34_59 (Hr _ hX381 (rgD rfl) _)
            · have hX382 := hX377.trans (if_neg hb378)
              refine p_iload 37 c34_36 rfl rfl ?_
              refine p_iconst 39 c34_37 rfl ?_
              refine p_icmp 54 42 c34_39 rfl rfl (yc_eq gx0 (rgD rfl)) (fun hb383 k384 hk384 => ?_) (fun hb383 k385 hk385 => ?_)
              · have hX386 := hX382.trans (if_pos hb383)
                refine p_iconst 55 c34_54 rfl ?_
                refine p_goto 59 c34_55 rfl ?_
                exact p_ireturn c34_59 (Hr _ hX386 (rgD rfl) _)
              · have hX387 := hX382.trans (if_neg hb383)
                refine p_iload 43 c34_42 rfl rfl ?_
                refine p_iconst 45 c34_43 rfl ?_
                refine p_icmp 54 48 c34_45 rfl rfl (yc_eq gx0 (rgD rfl)) (fun hb388 k389 hk389 => ?_) (fun hb388 k390 hk390 => ?_)
                · have hX391 := hX387.trans (if_pos hb388)
                  refine p_iconst 55 c34_54 rfl ?_
                  refine p_goto 59 c34_55 rfl ?_
                  exact p_ireturn c34_59 (Hr _ hX391 (rgD rfl) _)
                · have hX392 := hX387.trans (if_neg hb388)
                  refine p_iload 49 c34_48 rfl rfl ?_
                  refine p_iconst 51 c34_49 rfl ?_
                  refine p_icmp 58 54 c34_51 rfl rfl (yc_ne gx0 (rgD rfl)) (fun hb393 k394 hk394 => ?_) (fun hb393 k395 hk395 => ?_)
                  · have hX396 := hX392.trans (if_neg hb393)
                    refine p_iconst 59 c34_58 rfl ?_
                    exact p_ireturn c34_59 (Hr _ hX396 (rgD rfl) _)
                  · have hX397 := hX392.trans (if_pos (Classical.not_not.mp hb393))
                    refine p_iconst 55 c34_54 rfl ?_
                    refine p_goto 59 c34_55 rfl ?_
                    exact p_ireturn c34_59 (Hr _ hX397 (rgD rfl) _)
def F32 (f : Nat) (x1 : Int) (x2 : Int) (m : yM) : Option yM := (some (yup (yup (yup (yup m 5 (m 3 4).toNat x1) 6 (m 3 4).toNat x2) 7 (m 3 4).toNat 0) 3 4 (wr ((m 3 4) + 1))))
set_option maxRecDepth 100000 in
theorem d32 {L : Nat} {xs : Nat → Int32} {k d n : Nat} {c : yS3} {f : Nat} {x1 : Int} {x2 : Int} {m : yM} (hk : k ≤ f) (gx1 : rg x1) (gx2 : rg x2) (hR : RM c m) : PC (gZ L xs) k d 32 [.ref 3, yI x1, yI x2] m n (qV c (F32 f x1 x2 m)) := by
  have hX : F32 f x1 x2 m = F32 f x1 x2 m := rfl
  have Hr : ∀ m', F32 f x1 x2 m = some m' → RM c m' → ∀ n' : Nat, (qV c (F32 f x1 x2 m)) (.inl none) m' n' := fun m' e h n' => ⟨rfl, h, e⟩
  refine PC.mk [some (.ref 3), some (yI x1), some (yI x2)] kn32 rfl ?_
  refine p_aload 1 c32_0 rfl rfl ?_
  refine p_getR 4 c32_1 rfl kf3_1 ?_
  refine p_aload 5 c32_4 rfl rfl ?_
  refine p_getX 8 (m 3 4) c32_5 rfl kf3_4 rfl ?_
  refine p_iload 9 c32_8 rfl rfl ?_
  refine p_iaS 10 c32_9 rfl ka5 (hR.rg _ _) x1 (nar0 gx1) (fun hx405 => ?_)
  have hR406 := hR.up 5 (m 3 4).toNat (v := x1) (nselA (by decide)) gx1
  refine p_aload 11 c32_10 rfl rfl ?_
  refine p_getR 14 c32_11 rfl kf3_2 ?_
  refine p_aload 15 c32_14 rfl rfl ?_
  refine p_getX 18 (m 3 4) c32_15 rfl kf3_4 (yup_na (by decide)) ?_
  refine p_iload 19 c32_18 rfl rfl ?_
  refine p_iaS 20 c32_19 rfl ka6 (hR.rg _ _) x2 (nar0 gx2) (fun hx407 => ?_)
  have hR408 := hR406.up 6 (m 3 4).toNat (v := x2) (nselA (by decide)) gx2
  refine p_aload 21 c32_20 rfl rfl ?_
  refine p_getR 24 c32_21 rfl kf3_3 ?_
  refine p_aload 25 c32_24 rfl rfl ?_
  refine p_getX 28 (m 3 4) c32_25 rfl kf3_4 ((yup_na (by decide)).trans (yup_na (by decide))) ?_
  refine p_iconst 29 c32_28 rfl ?_
  refine p_iaS 30 c32_29 rfl ka7 (hR.rg _ _) 0 (nar0 (rgD rfl)) (fun hx409 => ?_)
  have hR410 := hR408.up 7 (m 3 4).toNat (v := 0) (nselA (by decide)) (rgD rfl)
  refine p_aload 31 c32_30 rfl rfl ?_
  refine p_dup 32 c32_31 rfl rfl ?_
  refine p_getX 35 (m 3 4) c32_32 rfl kf3_4 ((yup_na (by decide)).trans ((yup_na (by decide)).trans (yup_na (by decide)))) ?_
  refine p_iconst 36 c32_35 rfl ?_
  refine p_iadd 37 c32_36 rfl ?_
  refine p_putI 40 c32_37 rfl kf3_4 ?_
  have hR411 := hR410.up 3 4 (v := wr ((m 3 4) + 1)) (nselD rfl) (rg_wr _)
  exact p_return c32_40 (Hr _ hX hR411 _)
def F7 (x0 : Int) (x1 : Int) : Int := (wr ((wr (x0 * 32)) + (wr ((wr (x1 - 97)) + 1))))
set_option maxRecDepth 100000 in
theorem d7 {L : Nat} {xs : Nat → Int32} {k d n : Nat} {c : yS3} {x0 : Int} {x1 : Int} {m : yM} (gx0 : rg x0) (gx1 : rg x1) (hR : RM c m) : PC (gZ L xs) k d 7 [yI x0, yI x1] m n (qX m (F7 x0 x1)) := by
  have hX : F7 x0 x1 = F7 x0 x1 := rfl
  have Hr : ∀ r, F7 x0 x1 = r → rg r → ∀ n' : Nat, (qX m (F7 x0 x1)) (.inl (some (yI r))) m n' := fun r e h n' => by subst e; exact ⟨rfl, h, rfl⟩
  refine PC.mk [some (yI x0), some (yI x1)] kn7 rfl ?_
  refine p_iload 1 c7_0 rfl rfl ?_
  refine p_iconst 3 c7_1 rfl ?_
  refine p_imul 4 c7_3 rfl ?_
  refine p_iload 5 c7_4 rfl rfl ?_
  refine p_iconst 7 c7_5 rfl ?_
  refine p_isub 8 c7_7 rfl ?_
  refine p_iconst 9 c7_8 rfl ?_
  refine p_iadd 10 c7_9 rfl ?_
  refine p_iadd 11 c7_10 rfl ?_
  exact p_ireturn c7_11 (Hr _ hX (rg_wr _) _)
def J33_12 (f : Nat) (x1 : Int) (x3 : Int) (m : yM) : Option yM := (if 6 < x3 then (some (yup (yup m 7 (wr ((m 3 4) - 1)).toNat (F7 (m 7 (wr ((m 3 4) - 1)).toNat) x1)) 5 (wr ((m 3 4) - 1)).toNat 12)) else (some (yup m 7 (wr ((m 3 4) - 1)).toNat (F7 (m 7 (wr ((m 3 4) - 1)).toNat) x1))))
set_option maxRecDepth 100000 in
theorem tJ33_12 {L : Nat} {xs : Nat → Int32} {Q : xO → yM → Nat → Prop} {k d n : Nat} {c : yS3} {f : Nat} {x1 : Int} {x3 : Int} {m : yM} {j2 j4 : Option Value} (hk : k ≤ f) (gx1 : rg x1) (gx3 : rg x3) (hR : RM c m) (Hr : ∀ m', J33_12 f x1 x3 m = some m' → RM c m' → ∀ n', Q (.inl none) m' n') : PW (gZ L xs) k 33 d 12 [some (.ref 3), some (yI x1), j2, some (yI x3), j4] [] m n Q := by
  have hX : J33_12 f x1 x3 m = J33_12 f x1 x3 m := rfl
  refine p_aload 13 c33_12 rfl rfl ?_
  refine p_getX 16 (m 3 4) c33_13 rfl kf3_4 rfl ?_
  refine p_iconst 17 c33_16 rfl ?_
  refine p_isub 18 c33_17 rfl ?_
  refine p_istore 20 c33_18 rfl rfl ?_
  refine p_aload 21 c33_20 rfl rfl ?_
  refine p_getR 24 c33_21 rfl kf3_3 ?_
  refine p_iload 26 c33_24 rfl rfl ?_
  refine p_aload 27 c33_26 rfl rfl ?_
  refine p_getR 30 c33_27 rfl kf3_3 ?_
  refine p_iload 32 c33_30 rfl rfl ?_
  refine p_iaX 33 (m 7 (wr ((m 3 4) - 1)).toNat) c33_32 rfl ka7 (rg_wr _) rfl (fun hx426 => ?_)
  refine p_iload 34 c33_33 rfl rfl ?_
  refine p_cX 37 [yI (m 7 (wr ((m 3 4) - 1)).toNat), yI x1] [yI (wr ((m 3 4) - 1)), .ref 7] c33_34 rfl rfl rfl (fun k' hk' d' => d7 (hR.rg _ _) gx1 hR) (fun hg429 n428 k427 hk427 => ?_)
  refine p_iaS 38 c33_37 rfl ka7 (rg_wr _) (F7 (m 7 (wr ((m 3 4) - 1)).toNat) x1) (nar0 hg429) (fun hx430 => ?_)
  have hR431 := hR.up 7 (wr ((m 3 4) - 1)).toNat (v := F7 (m 7 (wr ((m 3 4) - 1)).toNat) x1) (nselA (by decide)) hg429
  refine p_iload 39 c33_38 rfl rfl ?_
  refine p_iconst 41 c33_39 rfl ?_
  refine p_icmp 53 44 c33_41 rfl rfl ((yc_le gx3 (rgD rfl)).trans Int.not_lt.symm) (fun hb432 k433 hk433 => ?_) (fun hb432 k434 hk434 => ?_)
  · have hX435 := hX.trans (if_neg hb432)
    exact p_return c33_53 (Hr _ hX435 hR431 _)
  · have hX436 := hX.trans (if_pos (Classical.not_not.mp hb432))
    refine p_aload 45 c33_44 rfl rfl ?_
    refine p_getR 48 c33_45 rfl kf3_1 ?_
    refine p_iload 50 c33_48 rfl rfl ?_
    refine p_iconst 52 c33_50 rfl ?_
    refine p_iaS 53 c33_52 rfl ka5 (rg_wr _) 12 (nar0 (rgD rfl)) (fun hx437 => ?_)
    have hR438 := hR431.up 5 (wr ((m 3 4) - 1)).toNat (v := 12) (nselA (by decide)) (rgD rfl)
    exact p_return c33_53 (Hr _ hX436 hR438 _)
def F33 (f : Nat) (x1 : Int) (x2 : Int) (x3 : Int) (m : yM) : Option yM := (if x3 = 1 then (bU (F32 f 11 x2 m) (fun m446 => (J33_12 f x1 x3 m446))) else (J33_12 f x1 x3 m))
set_option maxRecDepth 100000 in
theorem d33 {L : Nat} {xs : Nat → Int32} {k d n : Nat} {c : yS3} {f : Nat} {x1 : Int} {x2 : Int} {x3 : Int} {m : yM} (hk : k ≤ f) (gx1 : rg x1) (gx2 : rg x2) (gx3 : rg x3) (hR : RM c m) : PC (gZ L xs) k d 33 [.ref 3, yI x1, yI x2, yI x3] m n (qV c (F33 f x1 x2 x3 m)) := by
  have hX : F33 f x1 x2 x3 m = F33 f x1 x2 x3 m := rfl
  have Hr : ∀ m', F33 f x1 x2 x3 m = some m' → RM c m' → ∀ n' : Nat, (qV c (F33 f x1 x2 x3 m)) (.inl none) m' n' := fun m' e h n' => ⟨rfl, h, e⟩
  refine PC.mk [some (.ref 3), some (yI x1), some (yI x2), some (yI x3), none] kn33 rfl ?_
  refine p_iload 1 c33_0 rfl rfl ?_
  refine p_iconst 2 c33_1 rfl ?_
  refine p_icmp 12 5 c33_2 rfl rfl (yc_ne gx3 (rgD rfl)) (fun hb422 k423 hk423 => ?_) (fun hb422 k424 hk424 => ?_)
  · have hX425 := hX.trans (if_neg hb422)
    exact tJ33_12 (f := f) (by omega) gx1 gx3 hR (fun m' e' => Hr m' (hX425.trans e'))
  · have hX439 := hX.trans (if_pos (Classical.not_not.mp hb422))
    refine p_aload 6 c33_5 rfl rfl ?_
    refine p_iconst 8 c33_6 rfl ?_
    refine p_iload 9 c33_8 rfl rfl ?_
    refine p_cV 12 [.ref 3, yI 11, yI x2] [] c33_9 rfl rfl rfl (fun k' hk' d' => d32 (f := f) (by omega) (rgD rfl) gx2 hR) (fun m446 hF442 hR447 n441 k440 hk440 => ?_)
    have hX445 := hX439.trans (bU_s hF442)
    exact tJ33_12 (f := f) (by omega) gx1 gx3 hR447 (fun m' e' => Hr m' (hX445.trans e'))
def J35_54 (f : Nat) (x1 : Int) (x2 : Int) (m : yM) : Option ((Int × yM) ⊕ ((Int × yM) ⊕ (Unit × yM))) := (some (.inl ((wr (x2 + 1)), m)))
set_option maxRecDepth 100000 in
theorem tJ35_54 {L : Nat} {xs : Nat → Int32} {Q : xO → yM → Nat → Prop} {k d n : Nat} {c : yS3} {f : Nat} {x1 : Int} {x2 : Int} {m : yM} (hk : k ≤ f) (gx1 : rg x1) (gx2 : rg x2) (hR : RM c m) (Hn : ∀ (y0 : Int) (m' : yM) (n' : Nat), J35_54 f x1 x2 m = some (.inl (y0, m')) → rg y0 → RM c m' → ∀ k', k' < k → PW (gZ L xs) k' 35 d 12 [some (.ref 3), some (yI x1), some (yI y0)] [] m' n' Q) (He : ∀ (y0 : Int) (m' : yM) (n' : Nat), J35_54 f x1 x2 m = some (.inr (.inl (y0, m'))) → rg y0 → RM c m' → ∀ k', k' ≤ k → PW (gZ L xs) k' 35 d 60 [some (.ref 3), some (yI x1), some (yI y0)] [] m' n' Q) (Hr : ∀ m', J35_54 f x1 x2 m = some (.inr (.inr ((), m'))) → RM c m' → ∀ n', Q (.inl none) m' n') : PW (gZ L xs) k 35 d 54 [some (.ref 3), some (yI x1), some (yI x2)] [] m n Q := by
  have hX : J35_54 f x1 x2 m = J35_54 f x1 x2 m := rfl
  refine p_iinc 57 c35_54 rfl rfl rfl ?_
  refine p_gotoD 12 c35_57 rfl (fun k495 hk495 => ?_)
  exact Hn _ _ _ hX (rg_wr _) hR _ (by omega)
def B35_12 (f : Nat) (x1 : Int) (x2 : Int) (m : yM) : Option ((Int × yM) ⊕ ((Int × yM) ⊕ (Unit × yM))) := (if x2 < 11 then (if m 5 x1.toNat = 11 then (if m 4 x2.toNat = m 7 x1.toNat then (J35_54 f x1 x2 (yup m 5 x1.toNat x2)) else (J35_54 f x1 x2 m)) else (some (.inr (.inl (x2, m))))) else (some (.inr (.inl (x2, m)))))
set_option maxRecDepth 100000 in
theorem tB35_12 {L : Nat} {xs : Nat → Int32} {Q : xO → yM → Nat → Prop} {k d n : Nat} {c : yS3} {f : Nat} {x1 : Int} {x2 : Int} {m : yM} (hk : k ≤ f) (gx1 : rg x1) (gx2 : rg x2) (hR : RM c m) (Hn : ∀ (y0 : Int) (m' : yM) (n' : Nat), B35_12 f x1 x2 m = some (.inl (y0, m')) → rg y0 → RM c m' → ∀ k', k' < k → PW (gZ L xs) k' 35 d 12 [some (.ref 3), some (yI x1), some (yI y0)] [] m' n' Q) (He : ∀ (y0 : Int) (m' : yM) (n' : Nat), B35_12 f x1 x2 m = some (.inr (.inl (y0, m'))) → rg y0 → RM c m' → ∀ k', k' ≤ k → PW (gZ L xs) k' 35 d 60 [some (.ref 3), some (yI x1), some (yI y0)] [] m' n' Q) (Hr : ∀ m', B35_12 f x1 x2 m = some (.inr (.inr ((), m'))) → RM c m' → ∀ n', Q (.inl none) m' n') : PW (gZ L xs) k 35 d 12 [some (.ref 3), some (yI x1), some (yI x2)] [] m n Q := by
  have hX : B35_12 f x1 x2 m = B35_12 f x1 x2 m := rfl
  refine p_iload 13 c35_12 rfl rfl ?_
  refine p_aload 14 c35_13 rfl rfl ?_
  refine p_getR 17 c35_14 rfl kf3_0 ?_
  refine p_alen 18 c35_17 rfl ka4 ?_
  refine p_icmp 60 21 c35_18 rfl rfl ((yc_ge gx2 (rgD rfl)).trans Int.not_lt.symm) (fun hb478 k479 hk479 => ?_) (fun hb478 k480 hk480 => ?_)
  · have hX481 := hX.trans (if_neg hb478)
    exact He _ _ _ hX481 gx2 hR _ (by omega)
  · have hX482 := hX.trans (if_pos (Classical.not_not.mp hb478))
    refine p_aload 22 c35_21 rfl rfl ?_
    refine p_getR 25 c35_22 rfl kf3_1 ?_
    refine p_iload 26 c35_25 rfl rfl ?_
    refine p_iaX 27 (m 5 x1.toNat) c35_26 rfl ka5 gx1 rfl (fun hx483 => ?_)
    refine p_iconst 29 c35_27 rfl ?_
    refine p_icmp 60 32 c35_29 rfl rfl (yc_ne (hR.rg _ _) (rgD rfl)) (fun hb484 k485 hk485 => ?_) (fun hb484 k486 hk486 => ?_)
    · have hX487 := hX482.trans (if_neg hb484)
      exact He _ _ _ hX487 gx2 hR _ (by omega)
    · have hX488 := hX482.trans (if_pos (Classical.not_not.mp hb484))
      refine p_aload 33 c35_32 rfl rfl ?_
      refine p_getR 36 c35_33 rfl kf3_0 ?_
      refine p_iload 37 c35_36 rfl rfl ?_
      refine p_iaX 38 (m 4 x2.toNat) c35_37 rfl ka4 gx2 rfl (fun hx489 => ?_)
      refine p_aload 39 c35_38 rfl rfl ?_
      refine p_getR 42 c35_39 rfl kf3_3 ?_
      refine p_iload 43 c35_42 rfl rfl ?_
      refine p_iaX 44 (m 7 x1.toNat) c35_43 rfl ka7 gx1 rfl (fun hx490 => ?_)
      refine p_icmp 54 47 c35_44 rfl rfl (yc_ne (hR.rg _ _) (hR.rg _ _)) (fun hb491 k492 hk492 => ?_) (fun hb491 k493 hk493 => ?_)
      · have hX494 := hX488.trans (if_neg hb491)
        exact tJ35_54 (f := f) (by omega) gx1 gx2 hR (fun y0 m' n' e' h0 hR' k' hk' => Hn y0 m' n' (hX494.trans e') h0 hR' k' (by omega)) (fun y0 m' n' e' h0 hR' k' hk' => He y0 m' n' (hX494.trans e') h0 hR' k' (by omega)) (fun m' e' => Hr m' (hX494.trans e'))
      · have hX496 := hX488.trans (if_pos (Classical.not_not.mp hb491))
        refine p_aload 48 c35_47 rfl rfl ?_
        refine p_getR 51 c35_48 rfl kf3_1 ?_
        refine p_iload 52 c35_51 rfl rfl ?_
        refine p_iload 53 c35_52 rfl rfl ?_
        refine p_iaS 54 c35_53 rfl ka5 gx1 x2 (nar0 gx2) (fun hx497 => ?_)
        have hR498 := hR.up 5 x1.toNat (v := x2) (nselA (by decide)) gx2
        exact tJ35_54 (f := f) (by omega) gx1 gx2 hR498 (fun y0 m' n' e' h0 hR' k' hk' => Hn y0 m' n' (hX496.trans e') h0 hR' k' (by omega)) (fun y0 m' n' e' h0 hR' k' hk' => He y0 m' n' (hX496.trans e') h0 hR' k' (by omega)) (fun m' e' => Hr m' (hX496.trans e'))
def J35_60 (f : Nat) (x1 : Int) (m : yM) : Option ((Int × yM) ⊕ ((Int × yM) ⊕ (Unit × yM))) := (some (.inl ((wr (x1 + 1)), m)))
set_option maxRecDepth 100000 in
theorem tJ35_60 {L : Nat} {xs : Nat → Int32} {Q : xO → yM → Nat → Prop} {k d n : Nat} {c : yS3} {f : Nat} {x1 : Int} {m : yM} {j2 : Option Value} (hk : k ≤ f) (gx1 : rg x1) (hR : RM c m) (Hn : ∀ (y0 : Int) (z0 : Option Value) (m' : yM) (n' : Nat), J35_60 f x1 m = some (.inl (y0, m')) → rg y0 → RM c m' → ∀ k', k' < k → PW (gZ L xs) k' 35 d 2 [some (.ref 3), some (yI y0), z0] [] m' n' Q) (He : ∀ (y0 : Int) (z0 : Option Value) (m' : yM) (n' : Nat), J35_60 f x1 m = some (.inr (.inl (y0, m'))) → rg y0 → RM c m' → ∀ k', k' ≤ k → PW (gZ L xs) k' 35 d 66 [some (.ref 3), some (yI y0), z0] [] m' n' Q) (Hr : ∀ m', J35_60 f x1 m = some (.inr (.inr ((), m'))) → RM c m' → ∀ n', Q (.inl none) m' n') : PW (gZ L xs) k 35 d 60 [some (.ref 3), some (yI x1), j2] [] m n Q := by
  have hX : J35_60 f x1 m = J35_60 f x1 m := rfl
  refine p_iinc 63 c35_60 rfl rfl rfl ?_
  refine p_gotoD 2 c35_63 rfl (fun k508 hk508 => ?_)
  exact Hn _ _ _ _ hX (rg_wr _) hR _ (by omega)
def B35_2 (f : Nat) (x1 : Int) (m : yM) : Option ((Int × yM) ⊕ ((Int × yM) ⊕ (Unit × yM))) := (if x1 < m 3 4 then (bL (yloop (fun (l : Int) ml => B35_12 f x1 l ml) f 1 m) (fun l499 m505 => (J35_60 f x1 m505)) (fun _ mr => some (.inr (.inr ((), mr))))) else (some (.inr (.inl (x1, m)))))
set_option maxRecDepth 100000 in
theorem tB35_2 {L : Nat} {xs : Nat → Int32} {Q : xO → yM → Nat → Prop} {k d n : Nat} {c : yS3} {f : Nat} {x1 : Int} {m : yM} {j2 : Option Value} (hk : k ≤ f) (gx1 : rg x1) (hR : RM c m) (Hn : ∀ (y0 : Int) (z0 : Option Value) (m' : yM) (n' : Nat), B35_2 f x1 m = some (.inl (y0, m')) → rg y0 → RM c m' → ∀ k', k' < k → PW (gZ L xs) k' 35 d 2 [some (.ref 3), some (yI y0), z0] [] m' n' Q) (He : ∀ (y0 : Int) (z0 : Option Value) (m' : yM) (n' : Nat), B35_2 f x1 m = some (.inr (.inl (y0, m'))) → rg y0 → RM c m' → ∀ k', k' ≤ k → PW (gZ L xs) k' 35 d 66 [some (.ref 3), some (yI y0), z0] [] m' n' Q) (Hr : ∀ m', B35_2 f x1 m = some (.inr (.inr ((), m'))) → RM c m' → ∀ n', Q (.inl none) m' n') : PW (gZ L xs) k 35 d 2 [some (.ref 3), some (yI x1), j2] [] m n Q := by
  have hX : B35_2 f x1 m = B35_2 f x1 m := rfl
  refine p_iload 3 c35_2 rfl rfl ?_
  refine p_aload 4 c35_3 rfl rfl ?_
  refine p_getX 7 (m 3 4) c35_4 rfl kf3_4 rfl ?_
  refine p_icmp 66 10 c35_7 rfl rfl ((yc_ge gx1 (hR.rg _ _)).trans Int.not_lt.symm) (fun hb473 k474 hk474 => ?_) (fun hb473 k475 hk475 => ?_)
  · have hX476 := hX.trans (if_neg hb473)
    exact He _ _ _ _ hX476 gx1 hR _ (by omega)
  · have hX477 := hX.trans (if_pos (Classical.not_not.mp hb473))
    refine p_iconst 11 c35_10 rfl ?_
    refine p_istore 12 c35_11 rfl rfl ?_
    refine PW.loop (K := k475) (pce := 60) (fun (l : Int) ml => B35_12 f x1 l ml) (fun (l : Int) j => [some (.ref 3), some (yI x1), some (yI l)]) (fun (l : Int) => rg l) (RM c) (fun (r' : Unit) m' => RM c m' → ∀ n' : Nat, Q (.inl none) m' n') (fun k' hk' l j m' n' hl hI Hn' He' Hr' => tB35_12 (f := f) (by omega) gx1 hl hI (fun y0 m2 n2 e h0 hR2 => Hn' y0 (fun q => ([none, none, none] : List (Option Value)).getD q none) m2 n2 e h0 hR2) (fun y0 m2 n2 e h0 hR2 => He' y0 (fun q => ([none, none, none] : List (Option Value)).getD q none) m2 n2 e h0 hR2) (fun m2 e => Hr' () m2 e)) f k475 (by omega) (Nat.le_refl _) 1 (fun q => ([some (.ref 3), some (yI x1), some (yI 1)] : xL).getD q none) _ _ (rgD rfl) hR (fun l499 j502 m505 n504 e501 hl500 hR506 k503 hk503 => ?_) (fun r' m' e' => ?_)
    · have hX507 := hX477.trans (bL_l e501)
      exact tJ35_60 (f := f) (by omega) gx1 hR506 (fun y0 y1 m' n' e' h0 hR' k' hk' => Hn y0 y1 m' n' (hX507.trans e') h0 hR' k' (by omega)) (fun y0 y1 m' n' e' h0 hR' k' hk' => He y0 y1 m' n' (hX507.trans e') h0 hR' k' (by omega)) (fun m' e' => Hr m' (hX507.trans e'))
    · exact Hr m' (hX477.trans (bL_r e'))
def F35 (f : Nat) (m : yM) : Option yM := (bL (yloop (fun (l : Int) ml => B35_2 f l ml) f 0 m) (fun l509 m515 => (some m515)) (fun _ mr => some mr))
set_option maxRecDepth 100000 in
theorem d35 {L : Nat} {xs : Nat → Int32} {k d n : Nat} {c : yS3} {f : Nat} {m : yM} (hk : k ≤ f) (hR : RM c m) : PC (gZ L xs) k d 35 [.ref 3] m n (qV c (F35 f m)) := by
  have hX : F35 f m = F35 f m := rfl
  have Hr : ∀ m', F35 f m = some m' → RM c m' → ∀ n' : Nat, (qV c (F35 f m)) (.inl none) m' n' := fun m' e h n' => ⟨rfl, h, e⟩
  refine PC.mk [some (.ref 3), none, none] kn35 rfl ?_
  refine p_iconst 1 c35_0 rfl ?_
  refine p_istore 2 c35_1 rfl rfl ?_
  refine PW.loop (K := k) (pce := 66) (fun (l : Int) ml => B35_2 f l ml) (fun (l : Int) j => [some (.ref 3), some (yI l), j 2]) (fun (l : Int) => rg l) (RM c) (fun (r' : Unit) m' => RM c m' → ∀ n' : Nat, (qV c (F35 f m)) (.inl none) m' n') (fun k' hk' l j m' n' hl hI Hn' He' Hr' => tB35_2 (f := f) (by omega) hl hI (fun y0 y1 m2 n2 e h0 hR2 => Hn' y0 (fun q => ([none, none, y1] : List (Option Value)).getD q none) m2 n2 e h0 hR2) (fun y0 y1 m2 n2 e h0 hR2 => He' y0 (fun q => ([none, none, y1] : List (Option Value)).getD q none) m2 n2 e h0 hR2) (fun m2 e => Hr' () m2 e)) f k (by omega) (Nat.le_refl _) 0 (fun q => ([some (.ref 3), some (yI 0), none] : xL).getD q none) _ _ (rgD rfl) hR (fun l509 j512 m515 n514 e511 hl510 hR516 k513 hk513 => ?_) (fun r' m' e' => ?_)
  · have hX517 := hX.trans (bL_l e511)
    exact p_return c35_66 (Hr _ hX517 hR516 _)
  · exact Hr m' (hX.trans (bL_r e'))
def J36_95 (f : Nat) (x2 : Int) (x4 : Int) (x5 : Int) (xs0 : Int) (m : yM) : Option (((Int × Int × Int) × yM) ⊕ (((Int × Int × Int) × yM) ⊕ (Unit × yM))) := (some (.inl ((xs0, x4, wr (x5 + 1)), m)))
set_option maxRecDepth 100000 in
theorem tJ36_95 {L : Nat} {xs : Nat → Int32} {Q : xO → yM → Nat → Prop} {k d n : Nat} {c : yS3} {f : Nat} {x2 : Int} {x4 : Int} {x5 : Int} {xs0 : Int} {m : yM} {j3 j6 : Option Value} (hk : k ≤ f) (gx2 : rg x2) (gx4 : rg x4) (gx5 : rg x5) (gxs0 : rg xs0) (hR : RM c m) (Hn : ∀ (y0 y1 y2 : Int) (z0 : Option Value) (m' : yM) (n' : Nat), J36_95 f x2 x4 x5 xs0 m = some (.inl ((y0, y1, y2), m')) → rg y0 → rg y1 → rg y2 → RM c m' → ∀ k', k' < k → PW (gZ L xs) k' 36 d 13 [some (.ref 3), some (.ref 1), some (yI x2), some (yI y0), some (yI y1), some (yI y2), z0] [] m' n' Q) (He : ∀ (y0 y1 y2 : Int) (z0 : Option Value) (m' : yM) (n' : Nat), J36_95 f x2 x4 x5 xs0 m = some (.inr (.inl ((y0, y1, y2), m'))) → rg y0 → rg y1 → rg y2 → RM c m' → ∀ k', k' ≤ k → PW (gZ L xs) k' 36 d 102 [some (.ref 3), some (.ref 1), some (yI x2), some (yI y0), some (yI y1), some (yI y2), z0] [] m' n' Q) (Hr : ∀ m', J36_95 f x2 x4 x5 xs0 m = some (.inr (.inr ((), m'))) → RM c m' → ∀ n', Q (.inl none) m' n') : PW (gZ L xs) k 36 d 95 [some (.ref 3), some (.ref 1), some (yI x2), j3, some (yI x4), some (yI x5), j6] [yI xs0] m n Q := by
  have hX : J36_95 f x2 x4 x5 xs0 m = J36_95 f x2 x4 x5 xs0 m := rfl
  refine p_istore 96 c36_95 rfl rfl ?_
  refine p_iinc 99 c36_96 rfl rfl rfl ?_
  refine p_gotoD 13 c36_99 rfl (fun k348 hk348 => ?_)
  exact Hn _ _ _ _ _ _ hX gxs0 gx4 (rg_wr _) hR _ (by omega)
def J36_80 (f : Nat) (x2 : Int) (x3 : Int) (x4 : Int) (x5 : Int) (x6 : Int) (m : yM) : Option (((Int × Int × Int) × yM) ⊕ (((Int × Int × Int) × yM) ⊕ (Unit × yM))) := (if x6 = 32 then (J36_95 f x2 x4 x5 x3 m) else (J36_95 f x2 x4 x5 (wr (x5 + 1)) m))
set_option maxRecDepth 100000 in
theorem tJ36_80 {L : Nat} {xs : Nat → Int32} {Q : xO → yM → Nat → Prop} {k d n : Nat} {c : yS3} {f : Nat} {x2 : Int} {x3 : Int} {x4 : Int} {x5 : Int} {x6 : Int} {m : yM} (hk : k ≤ f) (gx2 : rg x2) (gx3 : rg x3) (gx4 : rg x4) (gx5 : rg x5) (gx6 : rg x6) (hR : RM c m) (Hn : ∀ (y0 y1 y2 : Int) (z0 : Option Value) (m' : yM) (n' : Nat), J36_80 f x2 x3 x4 x5 x6 m = some (.inl ((y0, y1, y2), m')) → rg y0 → rg y1 → rg y2 → RM c m' → ∀ k', k' < k → PW (gZ L xs) k' 36 d 13 [some (.ref 3), some (.ref 1), some (yI x2), some (yI y0), some (yI y1), some (yI y2), z0] [] m' n' Q) (He : ∀ (y0 y1 y2 : Int) (z0 : Option Value) (m' : yM) (n' : Nat), J36_80 f x2 x3 x4 x5 x6 m = some (.inr (.inl ((y0, y1, y2), m'))) → rg y0 → rg y1 → rg y2 → RM c m' → ∀ k', k' ≤ k → PW (gZ L xs) k' 36 d 102 [some (.ref 3), some (.ref 1), some (yI x2), some (yI y0), some (yI y1), some (yI y2), z0] [] m' n' Q) (Hr : ∀ m', J36_80 f x2 x3 x4 x5 x6 m = some (.inr (.inr ((), m'))) → RM c m' → ∀ n', Q (.inl none) m' n') : PW (gZ L xs) k 36 d 80 [some (.ref 3), some (.ref 1), some (yI x2), some (yI x3), some (yI x4), some (yI x5), some (yI x6)] [] m n Q := by
  have hX : J36_80 f x2 x3 x4 x5 x6 m = J36_80 f x2 x3 x4 x5 x6 m := rfl
  refine p_iload 82 c36_80 rfl rfl ?_
  refine p_iconst 84 c36_82 rfl ?_
  refine p_icmp 91 87 c36_84 rfl rfl (yc_ne gx6 (rgD rfl)) (fun hb344 k345 hk345 => ?_) (fun hb344 k346 hk346 => ?_)
  · have hX347 := hX.trans (if_neg hb344)
    refine p_iload 93 c36_91 rfl rfl ?_
    refine p_iconst 94 c36_93 rfl ?_
    refine p_iadd 95 c36_94 rfl ?_
    exact tJ36_95 (f := f) (by omega) gx2 gx4 gx5 (rg_wr _) hR (fun y0 y1 y2 y3 m' n' e' h0 h1 h2 hR' k' hk' => Hn y0 y1 y2 y3 m' n' (hX347.trans e') h0 h1 h2 hR' k' (by omega)) (fun y0 y1 y2 y3 m' n' e' h0 h1 h2 hR' k' hk' => He y0 y1 y2 y3 m' n' (hX347.trans e') h0 h1 h2 hR' k' (by omega)) (fun m' e' => Hr m' (hX347.trans e'))
  · have hX349 := hX.trans (if_pos (Classical.not_not.mp hb344))
    refine p_iload 88 c36_87 rfl rfl ?_
    refine p_goto 95 c36_88 rfl ?_
    exact tJ36_95 (f := f) (by omega) gx2 gx4 gx5 gx3 hR (fun y0 y1 y2 y3 m' n' e' h0 h1 h2 hR' k' hk' => Hn y0 y1 y2 y3 m' n' (hX349.trans e') h0 h1 h2 hR' k' (by omega)) (fun y0 y1 y2 y3 m' n' e' h0 h1 h2 hR' k' hk' => He y0 y1 y2 y3 m' n' (hX349.trans e') h0 h1 h2 hR' k' (by omega)) (fun m' e' => Hr m' (hX349.trans e'))
def J36_75 (f : Nat) (x2 : Int) (x3 : Int) (x4 : Int) (x5 : Int) (x6 : Int) (xs1 : Int) (m : yM) : Option (((Int × Int × Int) × yM) ⊕ (((Int × Int × Int) × yM) ⊕ (Unit × yM))) := (bU (F32 f xs1 x5 m) (fun m416 => (J36_80 f x2 x3 x4 x5 x6 m416)))
set_option maxRecDepth 100000 in
theorem tJ36_75 {L : Nat} {xs : Nat → Int32} {Q : xO → yM → Nat → Prop} {k d n : Nat} {c : yS3} {f : Nat} {x2 : Int} {x3 : Int} {x4 : Int} {x5 : Int} {x6 : Int} {xs1 : Int} {m : yM} (hk : k ≤ f) (gx2 : rg x2) (gx3 : rg x3) (gx4 : rg x4) (gx5 : rg x5) (gx6 : rg x6) (gxs1 : rg xs1) (hR : RM c m) (Hn : ∀ (y0 y1 y2 : Int) (z0 : Option Value) (m' : yM) (n' : Nat), J36_75 f x2 x3 x4 x5 x6 xs1 m = some (.inl ((y0, y1, y2), m')) → rg y0 → rg y1 → rg y2 → RM c m' → ∀ k', k' < k → PW (gZ L xs) k' 36 d 13 [some (.ref 3), some (.ref 1), some (yI x2), some (yI y0), some (yI y1), some (yI y2), z0] [] m' n' Q) (He : ∀ (y0 y1 y2 : Int) (z0 : Option Value) (m' : yM) (n' : Nat), J36_75 f x2 x3 x4 x5 x6 xs1 m = some (.inr (.inl ((y0, y1, y2), m'))) → rg y0 → rg y1 → rg y2 → RM c m' → ∀ k', k' ≤ k → PW (gZ L xs) k' 36 d 102 [some (.ref 3), some (.ref 1), some (yI x2), some (yI y0), some (yI y1), some (yI y2), z0] [] m' n' Q) (Hr : ∀ m', J36_75 f x2 x3 x4 x5 x6 xs1 m = some (.inr (.inr ((), m'))) → RM c m' → ∀ n', Q (.inl none) m' n') : PW (gZ L xs) k 36 d 75 [some (.ref 3), some (.ref 1), some (yI x2), some (yI x3), some (yI x4), some (yI x5), some (yI x6)] [yI xs1, .ref 3] m n Q := by
  have hX : J36_75 f x2 x3 x4 x5 x6 xs1 m = J36_75 f x2 x3 x4 x5 x6 xs1 m := rfl
  refine p_iload 77 c36_75 rfl rfl ?_
  refine p_cV 80 [.ref 3, yI xs1, yI x5] [] c36_77 rfl rfl rfl (fun k' hk' d' => d32 (f := f) (by omega) gxs1 gx5 hR) (fun m416 hF412 hR417 n404 k403 hk403 => ?_)
  have hX415 := hX.trans (bU_s hF412)
  exact tJ36_80 (f := f) (by omega) gx2 gx3 gx4 gx5 gx6 hR417 (fun y0 y1 y2 y3 m' n' e' h0 h1 h2 hR' k' hk' => Hn y0 y1 y2 y3 m' n' (hX415.trans e') h0 h1 h2 hR' k' (by omega)) (fun y0 y1 y2 y3 m' n' e' h0 h1 h2 hR' k' hk' => He y0 y1 y2 y3 m' n' (hX415.trans e') h0 h1 h2 hR' k' (by omega)) (fun m' e' => Hr m' (hX415.trans e'))
def B36_13 (f : Nat) (x2 : Int) (x3 : Int) (x4 : Int) (x5 : Int) (m : yM) : Option (((Int × Int × Int) × yM) ⊕ (((Int × Int × Int) × yM) ⊕ (Unit × yM))) := (if x5 < x2 then (if F31 (m 1 x5.toNat) = 0 then (if m 1 x5.toNat = 32 then (J36_80 f x2 x3 0 x5 (m 1 x5.toNat) m) else (if F34 (m 1 x5.toNat) = 0 then (J36_75 f x2 x3 0 x5 (m 1 x5.toNat) 12 m) else (J36_75 f x2 x3 0 x5 (m 1 x5.toNat) (m 1 x5.toNat) m))) else (bU (F33 f (m 1 x5.toNat) x5 (wr (x4 + 1)) m) (fun m452 => (J36_80 f x2 x3 (wr (x4 + 1)) x5 (m 1 x5.toNat) m452)))) else (some (.inr (.inl ((x3, x4, x5), m)))))
set_option maxRecDepth 100000 in
theorem tB36_13 {L : Nat} {xs : Nat → Int32} {Q : xO → yM → Nat → Prop} {k d n : Nat} {c : yS3} {f : Nat} {x2 : Int} {x3 : Int} {x4 : Int} {x5 : Int} {m : yM} {j6 : Option Value} (hk : k ≤ f) (gx2 : rg x2) (gx3 : rg x3) (gx4 : rg x4) (gx5 : rg x5) (hR : RM c m) (Hn : ∀ (y0 y1 y2 : Int) (z0 : Option Value) (m' : yM) (n' : Nat), B36_13 f x2 x3 x4 x5 m = some (.inl ((y0, y1, y2), m')) → rg y0 → rg y1 → rg y2 → RM c m' → ∀ k', k' < k → PW (gZ L xs) k' 36 d 13 [some (.ref 3), some (.ref 1), some (yI x2), some (yI y0), some (yI y1), some (yI y2), z0] [] m' n' Q) (He : ∀ (y0 y1 y2 : Int) (z0 : Option Value) (m' : yM) (n' : Nat), B36_13 f x2 x3 x4 x5 m = some (.inr (.inl ((y0, y1, y2), m'))) → rg y0 → rg y1 → rg y2 → RM c m' → ∀ k', k' ≤ k → PW (gZ L xs) k' 36 d 102 [some (.ref 3), some (.ref 1), some (yI x2), some (yI y0), some (yI y1), some (yI y2), z0] [] m' n' Q) (Hr : ∀ m', B36_13 f x2 x3 x4 x5 m = some (.inr (.inr ((), m'))) → RM c m' → ∀ n', Q (.inl none) m' n') : PW (gZ L xs) k 36 d 13 [some (.ref 3), some (.ref 1), some (yI x2), some (yI x3), some (yI x4), some (yI x5), j6] [] m n Q := by
  have hX : B36_13 f x2 x3 x4 x5 m = B36_13 f x2 x3 x4 x5 m := rfl
  refine p_iload 15 c36_13 rfl rfl ?_
  refine p_iload 16 c36_15 rfl rfl ?_
  refine p_icmp 102 19 c36_16 rfl rfl ((yc_ge gx5 gx2).trans Int.not_lt.symm) (fun hb317 k318 hk318 => ?_) (fun hb317 k319 hk319 => ?_)
  · have hX320 := hX.trans (if_neg hb317)
    exact He _ _ _ _ _ _ hX320 gx3 gx4 gx5 hR _ (by omega)
  · have hX321 := hX.trans (if_pos (Classical.not_not.mp hb317))
    refine p_aload 20 c36_19 rfl rfl ?_
    refine p_iload 22 c36_20 rfl rfl ?_
    refine p_iaX 23 (m 1 x5.toNat) c36_22 rfl ka1 gx5 rfl (fun hx322 => ?_)
    refine p_istore 25 c36_23 rfl rfl ?_
    refine p_iload 27 c36_25 rfl rfl ?_
    refine p_cX 30 [yI (m 1 x5.toNat)] [] c36_27 rfl rfl rfl (fun k' hk' d' => d31 (hR.rg _ _) hR) (fun hg335 n324 k323 hk323 => ?_)
    refine p_if 49 33 c36_30 rfl rfl (yz_eq hg335) (fun hb336 k337 hk337 => ?_) (fun hb336 k338 hk338 => ?_)
    · have hX339 := hX321.trans (if_pos hb336)
      refine p_iconst 50 c36_49 rfl ?_
      refine p_istore 52 c36_50 rfl rfl ?_
      refine p_iload 54 c36_52 rfl rfl ?_
      refine p_iconst 56 c36_54 rfl ?_
      refine p_icmp 80 59 c36_56 rfl rfl (yc_eq (hR.rg _ _) (rgD rfl)) (fun hb340 k341 hk341 => ?_) (fun hb340 k342 hk342 => ?_)
      · have hX343 := hX339.trans (if_pos hb340)
        exact tJ36_80 (f := f) (by omega) gx2 gx3 (rgD rfl) gx5 (hR.rg _ _) hR (fun y0 y1 y2 y3 m' n' e' h0 h1 h2 hR' k' hk' => Hn y0 y1 y2 y3 m' n' (hX343.trans e') h0 h1 h2 hR' k' (by omega)) (fun y0 y1 y2 y3 m' n' e' h0 h1 h2 hR' k' hk' => He y0 y1 y2 y3 m' n' (hX343.trans e') h0 h1 h2 hR' k' (by omega)) (fun m' e' => Hr m' (hX343.trans e'))
      · have hX350 := hX339.trans (if_neg hb340)
        refine p_aload 60 c36_59 rfl rfl ?_
        refine p_iload 62 c36_60 rfl rfl ?_
        refine p_cX 65 [yI (m 1 x5.toNat)] [.ref 3] c36_62 rfl rfl rfl (fun k' hk' d' => d34 (hR.rg _ _) hR) (fun hg398 n352 k351 hk351 => ?_)
        refine p_if 73 68 c36_65 rfl rfl (yz_eq hg398) (fun hb399 k400 hk400 => ?_) (fun hb399 k401 hk401 => ?_)
        · have hX402 := hX350.trans (if_pos hb399)
          refine p_iconst 75 c36_73 rfl ?_
          exact tJ36_75 (f := f) (by omega) gx2 gx3 (rgD rfl) gx5 (hR.rg _ _) (rgD rfl) hR (fun y0 y1 y2 y3 m' n' e' h0 h1 h2 hR' k' hk' => Hn y0 y1 y2 y3 m' n' (hX402.trans e') h0 h1 h2 hR' k' (by omega)) (fun y0 y1 y2 y3 m' n' e' h0 h1 h2 hR' k' hk' => He y0 y1 y2 y3 m' n' (hX402.trans e') h0 h1 h2 hR' k' (by omega)) (fun m' e' => Hr m' (hX402.trans e'))
        · have hX418 := hX350.trans (if_neg hb399)
          refine p_iload 70 c36_68 rfl rfl ?_
          refine p_goto 75 c36_70 rfl ?_
          exact tJ36_75 (f := f) (by omega) gx2 gx3 (rgD rfl) gx5 (hR.rg _ _) (hR.rg _ _) hR (fun y0 y1 y2 y3 m' n' e' h0 h1 h2 hR' k' hk' => Hn y0 y1 y2 y3 m' n' (hX418.trans e') h0 h1 h2 hR' k' (by omega)) (fun y0 y1 y2 y3 m' n' e' h0 h1 h2 hR' k' hk' => He y0 y1 y2 y3 m' n' (hX418.trans e') h0 h1 h2 hR' k' (by omega)) (fun m' e' => Hr m' (hX418.trans e'))
    · have hX419 := hX321.trans (if_neg hb336)
      refine p_iinc 36 c36_33 rfl rfl rfl ?_
      refine p_aload 37 c36_36 rfl rfl ?_
      refine p_iload 39 c36_37 rfl rfl ?_
      refine p_iload 41 c36_39 rfl rfl ?_
      refine p_iload 43 c36_41 rfl rfl ?_
      refine p_cV 46 [.ref 3, yI (m 1 x5.toNat), yI x5, yI (wr (x4 + 1))] [] c36_43 rfl rfl rfl (fun k' hk' d' => d33 (f := f) (by omega) (hR.rg _ _) gx5 (rg_wr _) hR) (fun m452 hF448 hR453 n421 k420 hk420 => ?_)
      have hX451 := hX419.trans (bU_s hF448)
      refine p_goto 80 c36_46 rfl ?_
      exact tJ36_80 (f := f) (by omega) gx2 gx3 (rg_wr _) gx5 (hR.rg _ _) hR453 (fun y0 y1 y2 y3 m' n' e' h0 h1 h2 hR' k' hk' => Hn y0 y1 y2 y3 m' n' (hX451.trans e') h0 h1 h2 hR' k' (by omega)) (fun y0 y1 y2 y3 m' n' e' h0 h1 h2 hR' k' hk' => He y0 y1 y2 y3 m' n' (hX451.trans e') h0 h1 h2 hR' k' (by omega)) (fun m' e' => Hr m' (hX451.trans e'))
def F36 (f : Nat) (x2 : Int) (m : yM) : Option yM := (bL (yloop (fun (l : Int × Int × Int) ml => B36_13 f x2 l.1 l.2.1 l.2.2 ml) f (0, 0, 0) (yup m 3 4 0)) (fun l454 m460 => (bU (F32 f 0 l454.1 m460) (fun m469 => (bU (F35 f m469) (fun m522 => (some m522)))))) (fun _ mr => some mr))
set_option maxRecDepth 100000 in
theorem d36 {L : Nat} {xs : Nat → Int32} {k d n : Nat} {c : yS3} {f : Nat} {x2 : Int} {m : yM} (hk : k ≤ f) (gx2 : rg x2) (hR : RM c m) : PC (gZ L xs) k d 36 [.ref 3, .ref 1, yI x2] m n (qV c (F36 f x2 m)) := by
  have hX : F36 f x2 m = F36 f x2 m := rfl
  have Hr : ∀ m', F36 f x2 m = some m' → RM c m' → ∀ n' : Nat, (qV c (F36 f x2 m)) (.inl none) m' n' := fun m' e h n' => ⟨rfl, h, e⟩
  refine PC.mk [some (.ref 3), some (.ref 1), some (yI x2), none, none, none, none] kn36 rfl ?_
  refine p_aload 1 c36_0 rfl rfl ?_
  refine p_iconst 2 c36_1 rfl ?_
  refine p_putI 5 c36_2 rfl kf3_4 ?_
  have hR316 := hR.up 3 4 (v := 0) (nselD rfl) (rgD rfl)
  refine p_iconst 6 c36_5 rfl ?_
  refine p_istore 7 c36_6 rfl rfl ?_
  refine p_iconst 8 c36_7 rfl ?_
  refine p_istore 10 c36_8 rfl rfl ?_
  refine p_iconst 11 c36_10 rfl ?_
  refine p_istore 13 c36_11 rfl rfl ?_
  refine PW.loop (K := k) (pce := 102) (fun (l : Int × Int × Int) ml => B36_13 f x2 l.1 l.2.1 l.2.2 ml) (fun (l : Int × Int × Int) j => [some (.ref 3), some (.ref 1), some (yI x2), some (yI l.1), some (yI l.2.1), some (yI l.2.2), j 6]) (fun (l : Int × Int × Int) => rg l.1 ∧ rg l.2.1 ∧ rg l.2.2) (RM c) (fun (r' : Unit) m' => RM c m' → ∀ n' : Nat, (qV c (F36 f x2 m)) (.inl none) m' n') (fun k' hk' l j m' n' hl hI Hn' He' Hr' => tB36_13 (f := f) (by omega) gx2 hl.1 hl.2.1 hl.2.2 hI (fun y0 y1 y2 y3 m2 n2 e h0 h1 h2 hR2 => Hn' (y0, y1, y2) (fun q => ([none, none, none, none, none, none, y3] : List (Option Value)).getD q none) m2 n2 e ⟨h0, h1, h2⟩ hR2) (fun y0 y1 y2 y3 m2 n2 e h0 h1 h2 hR2 => He' (y0, y1, y2) (fun q => ([none, none, none, none, none, none, y3] : List (Option Value)).getD q none) m2 n2 e ⟨h0, h1, h2⟩ hR2) (fun m2 e => Hr' () m2 e)) f k (by omega) (Nat.le_refl _) (0, 0, 0) (fun q => ([some (.ref 3), some (.ref 1), some (yI x2), some (yI 0), some (yI 0), some (yI 0), none] : xL).getD q none) _ _ ⟨(rgD rfl), (rgD rfl), (rgD rfl)⟩ hR316 (fun l454 j457 m460 n459 e456 hl455 hR461 k458 hk458 => ?_) (fun r' m' e' => ?_)
  · have hX462 := hX.trans (bL_l e456)
    refine p_aload 103 c36_102 rfl rfl ?_
    refine p_iconst 104 c36_103 rfl ?_
    refine p_iload 105 c36_104 rfl rfl ?_
    refine p_cV 108 [.ref 3, yI 0, yI l454.1] [] c36_105 rfl rfl rfl (fun k' hk' d' => d32 (f := f) (by omega) (rgD rfl) hl455.1 hR461) (fun m469 hF465 hR470 n464 k463 hk463 => ?_)
    have hX468 := hX462.trans (bU_s hF465)
    refine p_aload 109 c36_108 rfl rfl ?_
    refine p_cV 112 [.ref 3] [] c36_109 rfl rfl rfl (fun k' hk' d' => d35 (f := f) (by omega) hR470) (fun m522 hF518 hR523 n472 k471 hk471 => ?_)
    have hX521 := hX468.trans (bU_s hF518)
    exact p_return c36_112 (Hr _ hX521 hR523 _)
  · exact Hr m' (hX.trans (bL_r e'))
def F37 (f : Nat) (x1 : Int) (m : yM) : Option (Int × yM) := (if m 5 (m 2 2).toNat = x1 then (some (1, yup m 2 2 (wr ((m 2 2) + 1)))) else (some (0, yup m 2 4 (m 6 (m 2 2).toNat))))
set_option maxRecDepth 100000 in
theorem d37 {L : Nat} {xs : Nat → Int32} {k d n : Nat} {c : yS3} {f : Nat} {x1 : Int} {m : yM} (hk : k ≤ f) (gx1 : rg x1) (hR : RM c m) : PC (gZ L xs) k d 37 [.ref 2, yI x1] m n (qS c (F37 f x1 m)) := by
  have hX : F37 f x1 m = F37 f x1 m := rfl
  have Hr : ∀ r m', F37 f x1 m = some (r, m') → rg r → RM c m' → ∀ n' : Nat, (qS c (F37 f x1 m)) (.inl (some (yI r))) m' n' := fun r m' e h1 h2 n' => ⟨r, rfl, h1, h2, e⟩
  refine PC.mk [some (.ref 2), some (yI x1)] kn37 rfl ?_
  refine p_aload 1 c37_0 rfl rfl ?_
  refine p_getR 4 c37_1 rfl kf2_0 ?_
  refine p_getR 7 c37_4 rfl kf3_1 ?_
  refine p_aload 8 c37_7 rfl rfl ?_
  refine p_getX 11 (m 2 2) c37_8 rfl kf2_2 rfl ?_
  refine p_iaX 12 (m 5 (m 2 2).toNat) c37_11 rfl ka5 (hR.rg _ _) rfl (fun hx536 => ?_)
  refine p_iload 13 c37_12 rfl rfl ?_
  refine p_icmp 34 16 c37_13 rfl rfl (yc_eq (hR.rg _ _) gx1) (fun hb537 k538 hk538 => ?_) (fun hb537 k539 hk539 => ?_)
  · have hX540 := hX.trans (if_pos hb537)
    refine p_aload 35 c37_34 rfl rfl ?_
    refine p_dup 36 c37_35 rfl rfl ?_
    refine p_getX 39 (m 2 2) c37_36 rfl kf2_2 rfl ?_
    refine p_iconst 40 c37_39 rfl ?_
    refine p_iadd 41 c37_40 rfl ?_
    refine p_putI 44 c37_41 rfl kf2_2 ?_
    have hR541 := hR.up 2 2 (v := wr ((m 2 2) + 1)) (nselD rfl) (rg_wr _)
    refine p_iconst 45 c37_44 rfl ?_
    exact p_ireturn c37_45 (Hr _ _ hX540 (rgD rfl) hR541 _)
  · have hX542 := hX.trans (if_neg hb537)
    refine p_aload 17 c37_16 rfl rfl ?_
    refine p_aload 18 c37_17 rfl rfl ?_
    refine p_getR 21 c37_18 rfl kf2_0 ?_
    refine p_getR 24 c37_21 rfl kf3_2 ?_
    refine p_aload 25 c37_24 rfl rfl ?_
    refine p_getX 28 (m 2 2) c37_25 rfl kf2_2 rfl ?_
    refine p_iaX 29 (m 6 (m 2 2).toNat) c37_28 rfl ka6 (hR.rg _ _) rfl (fun hx543 => ?_)
    refine p_putI 32 c37_29 rfl kf2_4 ?_
    have hR544 := hR.up 2 4 (v := m 6 (m 2 2).toNat) (nselD rfl) (hR.rg _ _)
    refine p_iconst 33 c37_32 rfl ?_
    exact p_ireturn c37_33 (Hr _ _ hX542 (rgD rfl) hR544 _)
def F38 (m : yM) : Int := (m 5 (m 2 2).toNat)
set_option maxRecDepth 100000 in
theorem d38 {L : Nat} {xs : Nat → Int32} {k d n : Nat} {c : yS3} {m : yM} (hR : RM c m) : PC (gZ L xs) k d 38 [.ref 2] m n (qX m (F38 m)) := by
  have hX : F38 m = F38 m := rfl
  have Hr : ∀ r, F38 m = r → rg r → ∀ n' : Nat, (qX m (F38 m)) (.inl (some (yI r))) m n' := fun r e h n' => by subst e; exact ⟨rfl, h, rfl⟩
  refine PC.mk [some (.ref 2)] kn38 rfl ?_
  refine p_aload 1 c38_0 rfl rfl ?_
  refine p_getR 4 c38_1 rfl kf2_0 ?_
  refine p_getR 7 c38_4 rfl kf3_1 ?_
  refine p_aload 8 c38_7 rfl rfl ?_
  refine p_getX 11 (m 2 2) c38_8 rfl kf2_2 rfl ?_
  refine p_iaX 12 (m 5 (m 2 2).toNat) c38_11 rfl ka5 (hR.rg _ _) rfl (fun hx557 => ?_)
  exact p_ireturn c38_12 (Hr _ hX (hR.rg _ _) _)
def F43 (f : Nat) (m : yM) : Option (Int × yM) := (some (0, yup m 2 4 (m 6 (m 2 2).toNat)))
set_option maxRecDepth 100000 in
theorem d43 {L : Nat} {xs : Nat → Int32} {k d n : Nat} {c : yS3} {f : Nat} {m : yM} (hk : k ≤ f) (hR : RM c m) : PC (gZ L xs) k d 43 [.ref 2] m n (qS c (F43 f m)) := by
  have hX : F43 f m = F43 f m := rfl
  have Hr : ∀ r m', F43 f m = some (r, m') → rg r → RM c m' → ∀ n' : Nat, (qS c (F43 f m)) (.inl (some (yI r))) m' n' := fun r m' e h1 h2 n' => ⟨r, rfl, h1, h2, e⟩
  refine PC.mk [some (.ref 2)] kn43 rfl ?_
  refine p_aload 1 c43_0 rfl rfl ?_
  refine p_aload 2 c43_1 rfl rfl ?_
  refine p_getR 5 c43_2 rfl kf2_0 ?_
  refine p_getR 8 c43_5 rfl kf3_2 ?_
  refine p_aload 9 c43_8 rfl rfl ?_
  refine p_getX 12 (m 2 2) c43_9 rfl kf2_2 rfl ?_
  refine p_iaX 13 (m 6 (m 2 2).toNat) c43_12 rfl ka6 (hR.rg _ _) rfl (fun hx565 => ?_)
  refine p_putI 16 c43_13 rfl kf2_4 ?_
  have hR566 := hR.up 2 4 (v := m 6 (m 2 2).toNat) (nselD rfl) (hR.rg _ _)
  refine p_iconst 17 c43_16 rfl ?_
  exact p_ireturn c43_17 (Hr _ _ hX (rgD rfl) hR566 _)
def F39 (m : yM) : Int := (m 7 (m 2 2).toNat)
set_option maxRecDepth 100000 in
theorem d39 {L : Nat} {xs : Nat → Int32} {k d n : Nat} {c : yS3} {m : yM} (hR : RM c m) : PC (gZ L xs) k d 39 [.ref 2] m n (qX m (F39 m)) := by
  have hX : F39 m = F39 m := rfl
  have Hr : ∀ r, F39 m = r → rg r → ∀ n' : Nat, (qX m (F39 m)) (.inl (some (yI r))) m n' := fun r e h n' => by subst e; exact ⟨rfl, h, rfl⟩
  refine PC.mk [some (.ref 2)] kn39 rfl ?_
  refine p_aload 1 c39_0 rfl rfl ?_
  refine p_getR 4 c39_1 rfl kf2_0 ?_
  refine p_getR 7 c39_4 rfl kf3_3 ?_
  refine p_aload 8 c39_7 rfl rfl ?_
  refine p_getX 11 (m 2 2) c39_8 rfl kf2_2 rfl ?_
  refine p_iaX 12 (m 7 (m 2 2).toNat) c39_11 rfl ka7 (hR.rg _ _) rfl (fun hx576 => ?_)
  exact p_ireturn c39_12 (Hr _ hX (hR.rg _ _) _)
def B40_6_2 (f : Nat) (a0 : Nat) (x1 : Int) (x2 : Int) (x3 : Int) (m : yM) : Option (Int ⊕ (Int ⊕ Int)) := (if x3 < x1 then (if m a0 x3.toNat = x2 then (some (.inr (.inr x3))) else (some (.inl (wr (x3 + 1))))) else (some (.inr (.inl x3))))
set_option maxRecDepth 100000 in
theorem tB40_6_2 {L : Nat} {xs : Nat → Int32} {Q : xO → yM → Nat → Prop} {k d n : Nat} {c : yS3} {f : Nat} {a0 : Nat} {x1 : Int} {x2 : Int} {x3 : Int} {m : yM} (hk : k ≤ f) (hr0 : yarr gSh 414 a0 = some (0, 6)) (hq0 : (257 ≤ a0 ∧ a0 < 261) ∨ (317 ≤ a0 ∧ a0 < 321)) (gx1 : rg x1) (gx2 : rg x2) (gx3 : rg x3) (hR : RM c m) (Hn : ∀ (y0 : Int) (n' : Nat), B40_6_2 f a0 x1 x2 x3 m = some (.inl y0) → rg y0 → ∀ k', k' < k → PW (gZ L xs) k' 40 d 2 [some (.ref a0), some (yI x1), some (yI x2), some (yI y0)] [] m n' Q) (He : ∀ (y0 : Int) (n' : Nat), B40_6_2 f a0 x1 x2 x3 m = some (.inr (.inl y0)) → rg y0 → ∀ k', k' ≤ k → PW (gZ L xs) k' 40 d 22 [some (.ref a0), some (yI x1), some (yI x2), some (yI y0)] [] m n' Q) (Hr : ∀ r, B40_6_2 f a0 x1 x2 x3 m = some (.inr (.inr r)) → rg r → ∀ n', Q (.inl (some (yI r))) m n') : PW (gZ L xs) k 40 d 2 [some (.ref a0), some (yI x1), some (yI x2), some (yI x3)] [] m n Q := by
  have hX : B40_6_2 f a0 x1 x2 x3 m = B40_6_2 f a0 x1 x2 x3 m := rfl
  refine p_iload 3 c40_2 rfl rfl ?_
  refine p_iload 4 c40_3 rfl rfl ?_
  refine p_icmp 22 7 c40_4 rfl rfl ((yc_ge gx3 gx1).trans Int.not_lt.symm) (fun hb589 k590 hk590 => ?_) (fun hb589 k591 hk591 => ?_)
  · have hX592 := hX.trans (if_neg hb589)
    exact He _ _ hX592 gx3 _ (by omega)
  · have hX593 := hX.trans (if_pos (Classical.not_not.mp hb589))
    refine p_aload 8 c40_7 rfl rfl ?_
    refine p_iload 9 c40_8 rfl rfl ?_
    refine p_iaX 10 (m a0 x3.toNat) c40_9 rfl hr0 gx3 rfl (fun hx594 => ?_)
    refine p_iload 11 c40_10 rfl rfl ?_
    refine p_icmp 16 14 c40_11 rfl rfl (yc_ne (hR.rg _ _) gx2) (fun hb595 k596 hk596 => ?_) (fun hb595 k597 hk597 => ?_)
    · have hX598 := hX593.trans (if_neg hb595)
      refine p_iinc 19 c40_16 rfl rfl rfl ?_
      refine p_gotoD 2 c40_19 rfl (fun k599 hk599 => ?_)
      exact Hn _ _ hX598 (rg_wr _) _ (by omega)
    · have hX600 := hX593.trans (if_pos (Classical.not_not.mp hb595))
      refine p_iload 15 c40_14 rfl rfl ?_
      exact p_ireturn c40_15 (Hr _ hX600 gx3 _)
def F40_6 (f : Nat) (a0 : Nat) (x1 : Int) (x2 : Int) (m : yM) : Option Int := (bQ (ploop (fun (l : Int) => B40_6_2 f a0 x1 x2 l m) f 0) (fun l601 => (some ((-1)))) (fun r => some r))
set_option maxRecDepth 100000 in
theorem d40_6 {L : Nat} {xs : Nat → Int32} {k d n : Nat} {c : yS3} {f : Nat} {a0 : Nat} {x1 : Int} {x2 : Int} {m : yM} (hk : k ≤ f) (hr0 : yarr gSh 414 a0 = some (0, 6)) (hq0 : (257 ≤ a0 ∧ a0 < 261) ∨ (317 ≤ a0 ∧ a0 < 321)) (gx1 : rg x1) (gx2 : rg x2) (hR : RM c m) : PC (gZ L xs) k d 40 [.ref a0, yI x1, yI x2] m n (qO m (F40_6 f a0 x1 x2 m)) := by
  have hX : F40_6 f a0 x1 x2 m = F40_6 f a0 x1 x2 m := rfl
  have Hr : ∀ r, F40_6 f a0 x1 x2 m = some r → rg r → ∀ n' : Nat, (qO m (F40_6 f a0 x1 x2 m)) (.inl (some (yI r))) m n' := fun r e h n' => ⟨r, rfl, h, rfl, e⟩
  refine PC.mk [some (.ref a0), some (yI x1), some (yI x2), none] kn40 rfl ?_
  refine p_iconst 1 c40_0 rfl ?_
  refine p_istore 2 c40_1 rfl rfl ?_
  refine PW.ploop (K := k) (pce := 22) (fun (l : Int) => B40_6_2 f a0 x1 x2 l m) (fun (l : Int) j => [some (.ref a0), some (yI x1), some (yI x2), some (yI l)]) (fun (l : Int) => rg l) (fun r' => rg r' → ∀ n' : Nat, (qO m (F40_6 f a0 x1 x2 m)) (.inl (some (yI r'))) m n') (fun k' hk' l j n' hl Hn' He' Hr' => tB40_6_2 (f := f) (by omega) hr0 (by omega) gx1 gx2 hl hR (fun y0 n2 e h0 => Hn' y0 (fun q => ([none, none, none, none] : List (Option Value)).getD q none) n2 e h0) (fun y0 n2 e h0 => He' y0 (fun q => ([none, none, none, none] : List (Option Value)).getD q none) n2 e h0) Hr') f k (by omega) (Nat.le_refl _) 0 (fun q => ([some (.ref a0), some (yI x1), some (yI x2), some (yI 0)] : xL).getD q none) _ (rgD rfl) (fun l601 j604 n606 e603 hl602 k605 hk605 => ?_) (fun r' e' => ?_)
  · have hX607 := hX.trans (bQ_l e603)
    refine p_iconst 23 c40_22 rfl ?_
    exact p_ireturn c40_23 (Hr _ hX607 (rgD rfl) _)
  · exact Hr r' (hX.trans (bQ_r e'))
def F41 (f : Nat) (A : Nat) (x1 : Int) (m : yM) : Option Int := (bP (F40_6 f (A + 1) (m A 9) x1 m) (fun r610 => (some r610)))
set_option maxRecDepth 100000 in
theorem d41 {L : Nat} {xs : Nat → Int32} {k d n : Nat} {c : yS3} {f : Nat} {A : Nat} {x1 : Int} {m : yM} (hk : k ≤ f) (hA : (A = 256 ∨ A = 316)) (gx1 : rg x1) (hR : RM c m) : PC (gZ L xs) k d 41 [.ref A, yI x1] m n (qO m (F41 f A x1 m)) := by
  have hX : F41 f A x1 m = F41 f A x1 m := rfl
  have Hr : ∀ r, F41 f A x1 m = some r → rg r → ∀ n' : Nat, (qO m (F41 f A x1 m)) (.inl (some (yI r))) m n' := fun r e h n' => ⟨r, rfl, h, rfl, e⟩
  refine PC.mk [some (.ref A), some (yI x1)] kn41 rfl ?_
  refine p_aload 1 c41_0 rfl rfl ?_
  refine p_getR 4 c41_1 rfl (kP_0 hA) ?_
  refine p_aload 5 c41_4 rfl rfl ?_
  refine p_getX 8 (m A 9) c41_5 rfl (kP_9 hA) rfl ?_
  refine p_iload 9 c41_8 rfl rfl ?_
  refine p_cO 12 [.ref (A + 1), yI (m A 9), yI x1] [] c41_9 rfl rfl rfl (fun k' hk' d' => d40_6 (f := f) (by omega) (kPa_1 hA) (by omega) (hR.rg _ _) gx1 hR) (fun r610 hF608 hg609 n588 k587 hk587 => ?_)
  have hX611 := hX.trans (bP_s hF608)
  exact p_ireturn c41_12 (Hr _ hX611 hg609 _)
end
section
/-! FUNCTIONS OF THE METHODS: printed by wip/fn/dc.py -/
def F42 (f : Nat) (A : Nat) (x1 : Int) (m : yM) : Option (Int × yM) := (if m A 9 = 6 then (some (0, m)) else (bP (F41 f A x1 m) (fun r614 => (if r614 = (-1) then (some (1, yup (yup (yup (yup m (A + 1) (m A 9).toNat x1) (A + 2) (m A 9).toNat ((-1))) (A + 3) (m A 9).toNat 0) A 9 (wr ((m A 9) + 1)))) else (some (0, m))))))
set_option maxRecDepth 100000 in
theorem d42 {L : Nat} {xs : Nat → Int32} {k d n : Nat} {c : yS3} {f : Nat} {A : Nat} {x1 : Int} {m : yM} (hk : k ≤ f) (hA : (A = 256 ∨ A = 316)) (gx1 : rg x1) (hR : RM c m) : PC (gZ L xs) k d 42 [.ref A, yI x1] m n (qS c (F42 f A x1 m)) := by
  have hX : F42 f A x1 m = F42 f A x1 m := rfl
  have Hr : ∀ r m', F42 f A x1 m = some (r, m') → rg r → RM c m' → ∀ n' : Nat, (qS c (F42 f A x1 m)) (.inl (some (yI r))) m' n' := fun r m' e h1 h2 n' => ⟨r, rfl, h1, h2, e⟩
  refine PC.mk [some (.ref A), some (yI x1)] kn42 rfl ?_
  refine p_aload 1 c42_0 rfl rfl ?_
  refine p_getX 4 (m A 9) c42_1 rfl (kP_9 hA) rfl ?_
  refine p_iconst 6 c42_4 rfl ?_
  refine p_icmp 18 9 c42_6 rfl rfl (yc_eq (hR.rg _ _) (rgD rfl)) (fun hb580 k581 hk581 => ?_) (fun hb580 k582 hk582 => ?_)
  · have hX583 := hX.trans (if_pos hb580)
    refine p_iconst 19 c42_18 rfl ?_
    exact p_ireturn c42_19 (Hr _ _ hX583 (rgD rfl) hR _)
  · have hX584 := hX.trans (if_neg hb580)
    refine p_aload 10 c42_9 rfl rfl ?_
    refine p_iload 11 c42_10 rfl rfl ?_
    refine p_cO 14 [.ref A, yI x1] [] c42_11 rfl rfl rfl (fun k' hk' d' => d41 (f := f) (by omega) hA gx1 hR) (fun r614 hF612 hg613 n586 k585 hk585 => ?_)
    have hX615 := hX584.trans (bP_s hF612)
    refine p_iconst 15 c42_14 rfl ?_
    refine p_icmp 20 18 c42_15 rfl rfl (yc_eq hg613 (rgD rfl)) (fun hb616 k617 hk617 => ?_) (fun hb616 k618 hk618 => ?_)
    · have hX619 := hX615.trans (if_pos hb616)
      refine p_aload 21 c42_20 rfl rfl ?_
      refine p_getR 24 c42_21 rfl (kP_0 hA) ?_
      refine p_aload 25 c42_24 rfl rfl ?_
      refine p_getX 28 (m A 9) c42_25 rfl (kP_9 hA) rfl ?_
      refine p_iload 29 c42_28 rfl rfl ?_
      refine p_iaS 30 c42_29 rfl (kPa_1 hA) (hR.rg _ _) x1 (nar0 gx1) (fun hx620 => ?_)
      have hR621 := hR.up (A + 1) (m A 9).toNat (v := x1) (nselA (by omega)) gx1
      refine p_aload 31 c42_30 rfl rfl ?_
      refine p_getR 34 c42_31 rfl (kP_1 hA) ?_
      refine p_aload 35 c42_34 rfl rfl ?_
      refine p_getX 38 (m A 9) c42_35 rfl (kP_9 hA) (yup_na (by omega)) ?_
      refine p_iconst 39 c42_38 rfl ?_
      refine p_iaS 40 c42_39 rfl (kPa_2 hA) (hR.rg _ _) ((-1)) (nar0 (rgD rfl)) (fun hx622 => ?_)
      have hR623 := hR621.up (A + 2) (m A 9).toNat (v := (-1)) (nselA (by omega)) (rgD rfl)
      refine p_aload 41 c42_40 rfl rfl ?_
      refine p_getR 44 c42_41 rfl (kP_2 hA) ?_
      refine p_aload 45 c42_44 rfl rfl ?_
      refine p_getX 48 (m A 9) c42_45 rfl (kP_9 hA) ((yup_na (by omega)).trans (yup_na (by omega))) ?_
      refine p_iconst 49 c42_48 rfl ?_
      refine p_iaS 50 c42_49 rfl (kPa_3 hA) (hR.rg _ _) 0 (nar0 (rgD rfl)) (fun hx624 => ?_)
      have hR625 := hR623.up (A + 3) (m A 9).toNat (v := 0) (nselA (by omega)) (rgD rfl)
      refine p_aload 51 c42_50 rfl rfl ?_
      refine p_dup 52 c42_51 rfl rfl ?_
      refine p_getX 55 (m A 9) c42_52 rfl (kP_9 hA) ((yup_na (by omega)).trans ((yup_na (by omega)).trans (yup_na (by omega)))) ?_
      refine p_iconst 56 c42_55 rfl ?_
      refine p_iadd 57 c42_56 rfl ?_
      refine p_putI 60 c42_57 rfl (kP_9 hA) ?_
      have hR626 := hR625.up A 9 (v := wr ((m A 9) + 1)) (nselA (by omega)) (rg_wr _)
      refine p_iconst 61 c42_60 rfl ?_
      exact p_ireturn c42_61 (Hr _ _ hX619 (rgD rfl) hR626 _)
    · have hX627 := hX615.trans (if_neg hb616)
      refine p_iconst 19 c42_18 rfl ?_
      exact p_ireturn c42_19 (Hr _ _ hX627 (rgD rfl) hR _)
def F44 (f : Nat) (A : Nat) (x1 : Int) (m : yM) : Option (Int × yM) := (bP (F41 f A x1 m) (fun r681 => (if r681 = (-1) then (some (0, m)) else (if r681 = wr ((m A 9) - 1) then (some (0, m)) else (some (1, yup (yup m (A + 2) (wr ((m A 9) - 1)).toNat r681) (A + 3) (wr ((m A 9) - 1)).toNat (m (A + 3) r681.toNat)))))))
set_option maxRecDepth 100000 in
theorem d44 {L : Nat} {xs : Nat → Int32} {k d n : Nat} {c : yS3} {f : Nat} {A : Nat} {x1 : Int} {m : yM} (hk : k ≤ f) (hA : (A = 256 ∨ A = 316)) (gx1 : rg x1) (hR : RM c m) : PC (gZ L xs) k d 44 [.ref A, yI x1] m n (qS c (F44 f A x1 m)) := by
  have hX : F44 f A x1 m = F44 f A x1 m := rfl
  have Hr : ∀ r m', F44 f A x1 m = some (r, m') → rg r → RM c m' → ∀ n' : Nat, (qS c (F44 f A x1 m)) (.inl (some (yI r))) m' n' := fun r m' e h1 h2 n' => ⟨r, rfl, h1, h2, e⟩
  refine PC.mk [some (.ref A), some (yI x1), none, none] kn44 rfl ?_
  refine p_aload 1 c44_0 rfl rfl ?_
  refine p_getX 4 (m A 9) c44_1 rfl (kP_9 hA) rfl ?_
  refine p_iconst 5 c44_4 rfl ?_
  refine p_isub 6 c44_5 rfl ?_
  refine p_istore 7 c44_6 rfl rfl ?_
  refine p_aload 8 c44_7 rfl rfl ?_
  refine p_iload 9 c44_8 rfl rfl ?_
  refine p_cO 12 [.ref A, yI x1] [] c44_9 rfl rfl rfl (fun k' hk' d' => d41 (f := f) (by omega) hA gx1 hR) (fun r681 hF679 hg680 n678 k677 hk677 => ?_)
  have hX682 := hX.trans (bP_s hF679)
  refine p_istore 13 c44_12 rfl rfl ?_
  refine p_iload 14 c44_13 rfl rfl ?_
  refine p_iconst 15 c44_14 rfl ?_
  refine p_icmp 23 18 c44_15 rfl rfl (yc_eq hg680 (rgD rfl)) (fun hb683 k684 hk684 => ?_) (fun hb683 k685 hk685 => ?_)
  · have hX686 := hX682.trans (if_pos hb683)
    refine p_iconst 24 c44_23 rfl ?_
    exact p_ireturn c44_24 (Hr _ _ hX686 (rgD rfl) hR _)
  · have hX687 := hX682.trans (if_neg hb683)
    refine p_iload 19 c44_18 rfl rfl ?_
    refine p_iload 20 c44_19 rfl rfl ?_
    refine p_icmp 25 23 c44_20 rfl rfl (yc_ne hg680 (rg_wr _)) (fun hb688 k689 hk689 => ?_) (fun hb688 k690 hk690 => ?_)
    · have hX691 := hX687.trans (if_neg hb688)
      refine p_aload 26 c44_25 rfl rfl ?_
      refine p_getR 29 c44_26 rfl (kP_1 hA) ?_
      refine p_iload 30 c44_29 rfl rfl ?_
      refine p_iload 31 c44_30 rfl rfl ?_
      refine p_iaS 32 c44_31 rfl (kPa_2 hA) (rg_wr _) r681 (nar0 hg680) (fun hx692 => ?_)
      have hR693 := hR.up (A + 2) (wr ((m A 9) - 1)).toNat (v := r681) (nselA (by omega)) hg680
      refine p_aload 33 c44_32 rfl rfl ?_
      refine p_getR 36 c44_33 rfl (kP_2 hA) ?_
      refine p_iload 37 c44_36 rfl rfl ?_
      refine p_aload 38 c44_37 rfl rfl ?_
      refine p_getR 41 c44_38 rfl (kP_2 hA) ?_
      refine p_iload 42 c44_41 rfl rfl ?_
      refine p_iaX 43 (m (A + 3) r681.toNat) c44_42 rfl (kPa_3 hA) hg680 (yup_na (by omega)) (fun hx694 => ?_)
      refine p_iaS 44 c44_43 rfl (kPa_3 hA) (rg_wr _) (m (A + 3) r681.toNat) (nar0 (hR.rg _ _)) (fun hx695 => ?_)
      have hR696 := hR693.up (A + 3) (wr ((m A 9) - 1)).toNat (v := m (A + 3) r681.toNat) (nselA (by omega)) (hR.rg _ _)
      refine p_iconst 45 c44_44 rfl ?_
      exact p_ireturn c44_45 (Hr _ _ hX691 (rgD rfl) hR696 _)
    · have hX697 := hX687.trans (if_pos (Classical.not_not.mp hb688))
      refine p_iconst 24 c44_23 rfl ?_
      exact p_ireturn c44_24 (Hr _ _ hX697 (rgD rfl) hR _)
def J45_33 (f : Nat) (A : Nat) (m : yM) : Option (Int × yM) := (bI (F43 f m) (fun r569 m571 => (some (r569, m571))))
set_option maxRecDepth 100000 in
theorem tJ45_33 {L : Nat} {xs : Nat → Int32} {Q : xO → yM → Nat → Prop} {k d n : Nat} {c : yS3} {f : Nat} {A : Nat} {m : yM} (hk : k ≤ f) (hc : c.1 = pX A) (hA : (A = 256 ∨ A = 316)) (hR : RM c m) (Hr : ∀ r m', J45_33 f A m = some (r, m') → rg r → RM c m' → ∀ n', Q (.inl (some (yI r))) m' n') : PW (gZ L xs) k 45 d 33 [some (.ref 2)] [] m n Q := by
  have hX : J45_33 f A m = J45_33 f A m := rfl
  refine p_aload 34 c45_33 rfl rfl ?_
  refine p_cS 37 [.ref 2] [] c45_34 rfl rfl rfl (fun k' hk' d' => d43 (f := f) (by omega) hR) (fun r569 m571 hF567 hg568 hR572 n564 k563 hk563 => ?_)
  have hX570 := hX.trans (bI_s hF567)
  exact p_ireturn c45_37 (Hr _ _ hX570 hg568 hR572 _)
def J45_105 (f : Nat) (A : Nat) (m : yM) : Option (Int × yM) := (bI (F37 f 123 m) (fun r650 m652 => (some (r650, m652))))
set_option maxRecDepth 100000 in
theorem tJ45_105 {L : Nat} {xs : Nat → Int32} {Q : xO → yM → Nat → Prop} {k d n : Nat} {c : yS3} {f : Nat} {A : Nat} {m : yM} (hk : k ≤ f) (hc : c.1 = pX A) (hA : (A = 256 ∨ A = 316)) (hR : RM c m) (Hr : ∀ r m', J45_105 f A m = some (r, m') → rg r → RM c m' → ∀ n', Q (.inl (some (yI r))) m' n') : PW (gZ L xs) k 45 d 105 [some (.ref 2)] [] m n Q := by
  have hX : J45_105 f A m = J45_105 f A m := rfl
  refine p_aload 106 c45_105 rfl rfl ?_
  refine p_iconst 108 c45_106 rfl ?_
  refine p_cS 111 [.ref 2, yI 123] [] c45_108 rfl rfl rfl (fun k' hk' d' => d37 (f := f) (by omega) (rgD rfl) hR) (fun r650 m652 hF648 hg649 hR653 n647 k646 hk646 => ?_)
  have hX651 := hX.trans (bI_s hF648)
  exact p_ireturn c45_111 (Hr _ _ hX651 hg649 hR653 _)
def J45_90 (f : Nat) (A : Nat) (m : yM) : Option (Int × yM) := (bI (F43 f m) (fun r667 m669 => (some (r667, m669))))
set_option maxRecDepth 100000 in
theorem tJ45_90 {L : Nat} {xs : Nat → Int32} {Q : xO → yM → Nat → Prop} {k d n : Nat} {c : yS3} {f : Nat} {A : Nat} {m : yM} (hk : k ≤ f) (hc : c.1 = pX A) (hA : (A = 256 ∨ A = 316)) (hR : RM c m) (Hr : ∀ r m', J45_90 f A m = some (r, m') → rg r → RM c m' → ∀ n', Q (.inl (some (yI r))) m' n') : PW (gZ L xs) k 45 d 90 [some (.ref 2)] [] m n Q := by
  have hX : J45_90 f A m = J45_90 f A m := rfl
  refine p_aload 91 c45_90 rfl rfl ?_
  refine p_cS 94 [.ref 2] [] c45_91 rfl rfl rfl (fun k' hk' d' => d43 (f := f) (by omega) hR) (fun r667 m669 hF665 hg666 hR670 n664 k663 hk663 => ?_)
  have hX668 := hX.trans (bI_s hF665)
  exact p_ireturn c45_94 (Hr _ _ hX668 hg666 hR670 _)
def F45 (f : Nat) (A : Nat) (m : yM) : Option (Int × yM) := (bI (F37 f 1 m) (fun r547 m549 => (if r547 = 0 then (some (0, m549)) else (if F38 m549 = 11 then (bI (F42 f A (F39 m549) m549) (fun r630 m632 => (if r630 = 0 then (J45_33 f A m632) else (if F38 (yup m632 2 2 (wr ((m632 2 2) + 1))) = 58 then (if F38 (yup (yup m632 2 2 (wr ((m632 2 2) + 1))) 2 2 (wr ((wr ((m632 2 2) + 1)) + 1))) = 11 then (bI (F44 f A (F39 (yup (yup m632 2 2 (wr ((m632 2 2) + 1))) 2 2 (wr ((wr ((m632 2 2) + 1)) + 1)))) (yup (yup m632 2 2 (wr ((m632 2 2) + 1))) 2 2 (wr ((wr ((m632 2 2) + 1)) + 1)))) (fun r700 m702 => (if r700 = 0 then (J45_90 f A m702) else (J45_105 f A (yup m702 2 2 (wr ((m702 2 2) + 1))))))) else (J45_90 f A (yup (yup m632 2 2 (wr ((m632 2 2) + 1))) 2 2 (wr ((wr ((m632 2 2) + 1)) + 1))))) else (J45_105 f A (yup m632 2 2 (wr ((m632 2 2) + 1)))))))) else (J45_33 f A m549)))))
set_option maxRecDepth 100000 in
theorem d45 {L : Nat} {xs : Nat → Int32} {k d n : Nat} {c : yS3} {f : Nat} {A : Nat} {m : yM} (hk : k ≤ f) (hc : c.1 = pX A) (hA : (A = 256 ∨ A = 316)) (hR : RM c m) : PC (gZ L xs) k d 45 [.ref 2] m n (qS c (F45 f A m)) := by
  have hX : F45 f A m = F45 f A m := rfl
  have Hr : ∀ r m', F45 f A m = some (r, m') → rg r → RM c m' → ∀ n' : Nat, (qS c (F45 f A m)) (.inl (some (yI r))) m' n' := fun r m' e h1 h2 n' => ⟨r, rfl, h1, h2, e⟩
  refine PC.mk [some (.ref 2)] kn45 rfl ?_
  refine p_aload 1 c45_0 rfl rfl ?_
  refine p_iconst 2 c45_1 rfl ?_
  refine p_cS 5 [.ref 2, yI 1] [] c45_2 rfl rfl rfl (fun k' hk' d' => d37 (f := f) (by omega) (rgD rfl) hR) (fun r547 m549 hF545 hg546 hR550 n535 k534 hk534 => ?_)
  have hX548 := hX.trans (bI_s hF545)
  refine p_if 10 8 c45_5 rfl rfl (yz_ne hg546) (fun hb551 k552 hk552 => ?_) (fun hb551 k553 hk553 => ?_)
  · have hX554 := hX548.trans (if_neg hb551)
    refine p_aload 11 c45_10 rfl rfl ?_
    refine p_cX 14 [.ref 2] [] c45_11 rfl rfl rfl (fun k' hk' d' => d38 hR550) (fun hg558 n556 k555 hk555 => ?_)
    refine p_iconst 16 c45_14 rfl ?_
    refine p_icmp 33 19 c45_16 rfl rfl (yc_ne hg558 (rgD rfl)) (fun hb559 k560 hk560 => ?_) (fun hb559 k561 hk561 => ?_)
    · have hX562 := hX554.trans (if_neg hb559)
      exact tJ45_33 (f := f) (by omega) hc hA hR550 (fun r' m' e' => Hr r' m' (hX562.trans e'))
    · have hX573 := hX554.trans (if_pos (Classical.not_not.mp hb559))
      refine p_aload 20 c45_19 rfl rfl ?_
      refine p_getV 23 (.ref A) c45_20 rfl kf2_1 (pX_of hA hR550.2.2.2.1 hc) ?_
      refine p_aload 24 c45_23 rfl rfl ?_
      refine p_cX 27 [.ref 2] [.ref A] c45_24 rfl rfl rfl (fun k' hk' d' => d39 hR550) (fun hg577 n575 k574 hk574 => ?_)
      refine p_cS 30 [.ref A, yI (F39 m549)] [] c45_27 rfl rfl rfl (fun k' hk' d' => d42 (f := f) (by omega) hA hg577 hR550) (fun r630 m632 hF628 hg629 hR633 n579 k578 hk578 => ?_)
      have hX631 := hX573.trans (bI_s hF628)
      refine p_if 38 33 c45_30 rfl rfl (yz_ne hg629) (fun hb634 k635 hk635 => ?_) (fun hb634 k636 hk636 => ?_)
      · have hX637 := hX631.trans (if_neg hb634)
        refine p_aload 39 c45_38 rfl rfl ?_
        refine p_dup 40 c45_39 rfl rfl ?_
        refine p_getX 43 (m632 2 2) c45_40 rfl kf2_2 rfl ?_
        refine p_iconst 44 c45_43 rfl ?_
        refine p_iadd 45 c45_44 rfl ?_
        refine p_putI 48 c45_45 rfl kf2_2 ?_
        have hR638 := hR633.up 2 2 (v := wr ((m632 2 2) + 1)) (nselD rfl) (rg_wr _)
        refine p_aload 49 c45_48 rfl rfl ?_
        refine p_cX 52 [.ref 2] [] c45_49 rfl rfl rfl (fun k' hk' d' => d38 hR638) (fun hg641 n640 k639 hk639 => ?_)
        refine p_iconst 54 c45_52 rfl ?_
        refine p_icmp 105 57 c45_54 rfl rfl (yc_ne hg641 (rgD rfl)) (fun hb642 k643 hk643 => ?_) (fun hb642 k644 hk644 => ?_)
        · have hX645 := hX637.trans (if_neg hb642)
          exact tJ45_105 (f := f) (by omega) hc hA hR638 (fun r' m' e' => Hr r' m' (hX645.trans e'))
        · have hX654 := hX637.trans (if_pos (Classical.not_not.mp hb642))
          refine p_aload 58 c45_57 rfl rfl ?_
          refine p_dup 59 c45_58 rfl rfl ?_
          refine p_getX 62 (wr ((m632 2 2) + 1)) c45_59 rfl kf2_2 (yup_eq _ _ _ _) ?_
          refine p_iconst 63 c45_62 rfl ?_
          refine p_iadd 64 c45_63 rfl ?_
          refine p_putI 67 c45_64 rfl kf2_2 ?_
          have hR655 := hR638.up 2 2 (v := wr ((wr ((m632 2 2) + 1)) + 1)) (nselD rfl) (rg_wr _)
          refine p_aload 68 c45_67 rfl rfl ?_
          refine p_cX 71 [.ref 2] [] c45_68 rfl rfl rfl (fun k' hk' d' => d38 hR655) (fun hg658 n657 k656 hk656 => ?_)
          refine p_iconst 73 c45_71 rfl ?_
          refine p_icmp 90 76 c45_73 rfl rfl (yc_ne hg658 (rgD rfl)) (fun hb659 k660 hk660 => ?_) (fun hb659 k661 hk661 => ?_)
          · have hX662 := hX654.trans (if_neg hb659)
            exact tJ45_90 (f := f) (by omega) hc hA hR655 (fun r' m' e' => Hr r' m' (hX662.trans e'))
          · have hX671 := hX654.trans (if_pos (Classical.not_not.mp hb659))
            refine p_aload 77 c45_76 rfl rfl ?_
            refine p_getV 80 (.ref A) c45_77 rfl kf2_1 (pX_of hA hR655.2.2.2.1 hc) ?_
            refine p_aload 81 c45_80 rfl rfl ?_
            refine p_cX 84 [.ref 2] [.ref A] c45_81 rfl rfl rfl (fun k' hk' d' => d39 hR655) (fun hg674 n673 k672 hk672 => ?_)
            refine p_cS 87 [.ref A, yI (F39 (yup (yup m632 2 2 (wr ((m632 2 2) + 1))) 2 2 (wr ((wr ((m632 2 2) + 1)) + 1))))] [] c45_84 rfl rfl rfl (fun k' hk' d' => d44 (f := f) (by omega) hA hg674 hR655) (fun r700 m702 hF698 hg699 hR703 n676 k675 hk675 => ?_)
            have hX701 := hX671.trans (bI_s hF698)
            refine p_if 95 90 c45_87 rfl rfl (yz_ne hg699) (fun hb704 k705 hk705 => ?_) (fun hb704 k706 hk706 => ?_)
            · have hX707 := hX701.trans (if_neg hb704)
              refine p_aload 96 c45_95 rfl rfl ?_
              refine p_dup 97 c45_96 rfl rfl ?_
              refine p_getX 100 (m702 2 2) c45_97 rfl kf2_2 rfl ?_
              refine p_iconst 101 c45_100 rfl ?_
              refine p_iadd 102 c45_101 rfl ?_
              refine p_putI 105 c45_102 rfl kf2_2 ?_
              have hR708 := hR703.up 2 2 (v := wr ((m702 2 2) + 1)) (nselD rfl) (rg_wr _)
              exact tJ45_105 (f := f) (by omega) hc hA hR708 (fun r' m' e' => Hr r' m' (hX707.trans e'))
            · have hX709 := hX701.trans (if_pos (Classical.not_not.mp hb704))
              exact tJ45_90 (f := f) (by omega) hc hA hR703 (fun r' m' e' => Hr r' m' (hX709.trans e'))
      · have hX710 := hX631.trans (if_pos (Classical.not_not.mp hb634))
        exact tJ45_33 (f := f) (by omega) hc hA hR633 (fun r' m' e' => Hr r' m' (hX710.trans e'))
  · have hX711 := hX548.trans (if_pos (Classical.not_not.mp hb551))
    refine p_iconst 9 c45_8 rfl ?_
    exact p_ireturn c45_9 (Hr _ _ hX711 (rgD rfl) hR550 _)
def B40_8_2 (f : Nat) (a0 : Nat) (x1 : Int) (x2 : Int) (x3 : Int) (m : yM) : Option (Int ⊕ (Int ⊕ Int)) := (if x3 < x1 then (if m a0 x3.toNat = x2 then (some (.inr (.inr x3))) else (some (.inl (wr (x3 + 1))))) else (some (.inr (.inl x3))))
set_option maxRecDepth 100000 in
theorem tB40_8_2 {L : Nat} {xs : Nat → Int32} {Q : xO → yM → Nat → Prop} {k d n : Nat} {c : yS3} {f : Nat} {a0 : Nat} {x1 : Int} {x2 : Int} {x3 : Int} {m : yM} (hk : k ≤ f) (hr0 : yarr gSh 414 a0 = some (0, 8)) (hq0 : (257 ≤ a0 ∧ a0 < 261) ∨ (317 ≤ a0 ∧ a0 < 321)) (gx1 : rg x1) (gx2 : rg x2) (gx3 : rg x3) (hR : RM c m) (Hn : ∀ (y0 : Int) (n' : Nat), B40_8_2 f a0 x1 x2 x3 m = some (.inl y0) → rg y0 → ∀ k', k' < k → PW (gZ L xs) k' 40 d 2 [some (.ref a0), some (yI x1), some (yI x2), some (yI y0)] [] m n' Q) (He : ∀ (y0 : Int) (n' : Nat), B40_8_2 f a0 x1 x2 x3 m = some (.inr (.inl y0)) → rg y0 → ∀ k', k' ≤ k → PW (gZ L xs) k' 40 d 22 [some (.ref a0), some (yI x1), some (yI x2), some (yI y0)] [] m n' Q) (Hr : ∀ r, B40_8_2 f a0 x1 x2 x3 m = some (.inr (.inr r)) → rg r → ∀ n', Q (.inl (some (yI r))) m n') : PW (gZ L xs) k 40 d 2 [some (.ref a0), some (yI x1), some (yI x2), some (yI x3)] [] m n Q := by
  have hX : B40_8_2 f a0 x1 x2 x3 m = B40_8_2 f a0 x1 x2 x3 m := rfl
  refine p_iload 3 c40_2 rfl rfl ?_
  refine p_iload 4 c40_3 rfl rfl ?_
  refine p_icmp 22 7 c40_4 rfl rfl ((yc_ge gx3 gx1).trans Int.not_lt.symm) (fun hb766 k767 hk767 => ?_) (fun hb766 k768 hk768 => ?_)
  · have hX769 := hX.trans (if_neg hb766)
    exact He _ _ hX769 gx3 _ (by omega)
  · have hX770 := hX.trans (if_pos (Classical.not_not.mp hb766))
    refine p_aload 8 c40_7 rfl rfl ?_
    refine p_iload 9 c40_8 rfl rfl ?_
    refine p_iaX 10 (m a0 x3.toNat) c40_9 rfl hr0 gx3 rfl (fun hx771 => ?_)
    refine p_iload 11 c40_10 rfl rfl ?_
    refine p_icmp 16 14 c40_11 rfl rfl (yc_ne (hR.rg _ _) gx2) (fun hb772 k773 hk773 => ?_) (fun hb772 k774 hk774 => ?_)
    · have hX775 := hX770.trans (if_neg hb772)
      refine p_iinc 19 c40_16 rfl rfl rfl ?_
      refine p_gotoD 2 c40_19 rfl (fun k776 hk776 => ?_)
      exact Hn _ _ hX775 (rg_wr _) _ (by omega)
    · have hX777 := hX770.trans (if_pos (Classical.not_not.mp hb772))
      refine p_iload 15 c40_14 rfl rfl ?_
      exact p_ireturn c40_15 (Hr _ hX777 gx3 _)
def F40_8 (f : Nat) (a0 : Nat) (x1 : Int) (x2 : Int) (m : yM) : Option Int := (bQ (ploop (fun (l : Int) => B40_8_2 f a0 x1 x2 l m) f 0) (fun l778 => (some ((-1)))) (fun r => some r))
set_option maxRecDepth 100000 in
theorem d40_8 {L : Nat} {xs : Nat → Int32} {k d n : Nat} {c : yS3} {f : Nat} {a0 : Nat} {x1 : Int} {x2 : Int} {m : yM} (hk : k ≤ f) (hr0 : yarr gSh 414 a0 = some (0, 8)) (hq0 : (257 ≤ a0 ∧ a0 < 261) ∨ (317 ≤ a0 ∧ a0 < 321)) (gx1 : rg x1) (gx2 : rg x2) (hR : RM c m) : PC (gZ L xs) k d 40 [.ref a0, yI x1, yI x2] m n (qO m (F40_8 f a0 x1 x2 m)) := by
  have hX : F40_8 f a0 x1 x2 m = F40_8 f a0 x1 x2 m := rfl
  have Hr : ∀ r, F40_8 f a0 x1 x2 m = some r → rg r → ∀ n' : Nat, (qO m (F40_8 f a0 x1 x2 m)) (.inl (some (yI r))) m n' := fun r e h n' => ⟨r, rfl, h, rfl, e⟩
  refine PC.mk [some (.ref a0), some (yI x1), some (yI x2), none] kn40 rfl ?_
  refine p_iconst 1 c40_0 rfl ?_
  refine p_istore 2 c40_1 rfl rfl ?_
  refine PW.ploop (K := k) (pce := 22) (fun (l : Int) => B40_8_2 f a0 x1 x2 l m) (fun (l : Int) j => [some (.ref a0), some (yI x1), some (yI x2), some (yI l)]) (fun (l : Int) => rg l) (fun r' => rg r' → ∀ n' : Nat, (qO m (F40_8 f a0 x1 x2 m)) (.inl (some (yI r'))) m n') (fun k' hk' l j n' hl Hn' He' Hr' => tB40_8_2 (f := f) (by omega) hr0 (by omega) gx1 gx2 hl hR (fun y0 n2 e h0 => Hn' y0 (fun q => ([none, none, none, none] : List (Option Value)).getD q none) n2 e h0) (fun y0 n2 e h0 => He' y0 (fun q => ([none, none, none, none] : List (Option Value)).getD q none) n2 e h0) Hr') f k (by omega) (Nat.le_refl _) 0 (fun q => ([some (.ref a0), some (yI x1), some (yI x2), some (yI 0)] : xL).getD q none) _ (rgD rfl) (fun l778 j781 n783 e780 hl779 k782 hk782 => ?_) (fun r' e' => ?_)
  · have hX784 := hX.trans (bQ_l e780)
    refine p_iconst 23 c40_22 rfl ?_
    exact p_ireturn c40_23 (Hr _ hX784 (rgD rfl) _)
  · exact Hr r' (hX.trans (bQ_r e'))
def F46 (f : Nat) (A : Nat) (x1 : Int) (m : yM) : Option Int := (bP (F40_8 f (A + 4) (m A 11) x1 m) (fun r787 => (some r787)))
set_option maxRecDepth 100000 in
theorem d46 {L : Nat} {xs : Nat → Int32} {k d n : Nat} {c : yS3} {f : Nat} {A : Nat} {x1 : Int} {m : yM} (hk : k ≤ f) (hA : (A = 256 ∨ A = 316)) (gx1 : rg x1) (hR : RM c m) : PC (gZ L xs) k d 46 [.ref A, yI x1] m n (qO m (F46 f A x1 m)) := by
  have hX : F46 f A x1 m = F46 f A x1 m := rfl
  have Hr : ∀ r, F46 f A x1 m = some r → rg r → ∀ n' : Nat, (qO m (F46 f A x1 m)) (.inl (some (yI r))) m n' := fun r e h n' => ⟨r, rfl, h, rfl, e⟩
  refine PC.mk [some (.ref A), some (yI x1)] kn46 rfl ?_
  refine p_aload 1 c46_0 rfl rfl ?_
  refine p_getR 4 c46_1 rfl (kP_3 hA) ?_
  refine p_aload 5 c46_4 rfl rfl ?_
  refine p_getX 8 (m A 11) c46_5 rfl (kP_11 hA) rfl ?_
  refine p_iload 9 c46_8 rfl rfl ?_
  refine p_cO 12 [.ref (A + 4), yI (m A 11), yI x1] [] c46_9 rfl rfl rfl (fun k' hk' d' => d40_8 (f := f) (by omega) (kPa_4 hA) (by omega) (hR.rg _ _) gx1 hR) (fun r787 hF785 hg786 n765 k764 hk764 => ?_)
  have hX788 := hX.trans (bP_s hF785)
  exact p_ireturn c46_12 (Hr _ hX788 hg786 _)
def F47 (A : Nat) (x1 : Int) (x2 : Int) (m : yM) : Int := (if x2 = (-1) then 0 else (if iAnd (iShr (m (A + 3) x1.toNat) x2) 1 = 1 then 1 else 0))
set_option maxRecDepth 100000 in
theorem d47 {L : Nat} {xs : Nat → Int32} {k d n : Nat} {c : yS3} {A : Nat} {x1 : Int} {x2 : Int} {m : yM} (hA : (A = 256 ∨ A = 316)) (gx1 : rg x1) (gx2 : rg x2) (hR : RM c m) : PC (gZ L xs) k d 47 [.ref A, yI x1, yI x2] m n (qX m (F47 A x1 x2 m)) := by
  have hX : F47 A x1 x2 m = F47 A x1 x2 m := rfl
  have Hr : ∀ r, F47 A x1 x2 m = r → rg r → ∀ n' : Nat, (qX m (F47 A x1 x2 m)) (.inl (some (yI r))) m n' := fun r e h n' => by subst e; exact ⟨rfl, h, rfl⟩
  refine PC.mk [some (.ref A), some (yI x1), some (yI x2)] kn47 rfl ?_
  refine p_iload 1 c47_0 rfl rfl ?_
  refine p_iconst 2 c47_1 rfl ?_
  refine p_icmp 23 5 c47_2 rfl rfl (yc_eq gx2 (rgD rfl)) (fun hb799 k800 hk800 => ?_) (fun hb799 k801 hk801 => ?_)
  · have hX802 := hX.trans (if_pos hb799)
    refine p_iconst 24 c47_23 rfl ?_
    exact p_ireturn c47_24 (Hr _ hX802 (rgD rfl) _)
  · have hX803 := hX.trans (if_neg hb799)
    refine p_aload 6 c47_5 rfl rfl ?_
    refine p_getR 9 c47_6 rfl (kP_2 hA) ?_
    refine p_iload 10 c47_9 rfl rfl ?_
    refine p_iaX 11 (m (A + 3) x1.toNat) c47_10 rfl (kPa_3 hA) gx1 rfl (fun hx804 => ?_)
    refine p_iload 12 c47_11 rfl rfl ?_
    refine p_ishr 13 c47_12 rfl ?_
    refine p_iconst 14 c47_13 rfl ?_
    refine p_iand 15 c47_14 rfl ?_
    refine p_iconst 16 c47_15 rfl ?_
    refine p_icmp 23 19 c47_16 rfl rfl (yc_ne (rg_to _) (rgD rfl)) (fun hb805 k806 hk806 => ?_) (fun hb805 k807 hk807 => ?_)
    · have hX808 := hX803.trans (if_neg hb805)
      refine p_iconst 24 c47_23 rfl ?_
      exact p_ireturn c47_24 (Hr _ hX808 (rgD rfl) _)
    · have hX809 := hX803.trans (if_pos (Classical.not_not.mp hb805))
      refine p_iconst 20 c47_19 rfl ?_
      refine p_goto 24 c47_20 rfl ?_
      exact p_ireturn c47_24 (Hr _ hX809 (rgD rfl) _)
def J48_54 (f : Nat) (A : Nat) (x2 : Int) (x3 : Int) (m : yM) : Option (Int × yM) := (if F47 A x2 x3 m = 0 then (some (1, yup m (A + 3) x2.toNat (iOr (m (A + 3) x2.toNat) (iShl 1 x3)))) else (some (0, m)))
set_option maxRecDepth 100000 in
theorem tJ48_54 {L : Nat} {xs : Nat → Int32} {Q : xO → yM → Nat → Prop} {k d n : Nat} {c : yS3} {f : Nat} {A : Nat} {x2 : Int} {x3 : Int} {m : yM} {j1 : Option Value} (hk : k ≤ f) (hA : (A = 256 ∨ A = 316)) (gx2 : rg x2) (gx3 : rg x3) (hR : RM c m) (Hr : ∀ r m', J48_54 f A x2 x3 m = some (r, m') → rg r → RM c m' → ∀ n', Q (.inl (some (yI r))) m' n') : PW (gZ L xs) k 48 d 54 [some (.ref A), j1, some (yI x2), some (yI x3)] [] m n Q := by
  have hX : J48_54 f A x2 x3 m = J48_54 f A x2 x3 m := rfl
  refine p_aload 55 c48_54 rfl rfl ?_
  refine p_iload 56 c48_55 rfl rfl ?_
  refine p_iload 57 c48_56 rfl rfl ?_
  refine p_cX 60 [.ref A, yI x2, yI x3] [] c48_57 rfl rfl rfl (fun k' hk' d' => d47 hA gx2 gx3 hR) (fun hg810 n798 k797 hk797 => ?_)
  refine p_if 65 63 c48_60 rfl rfl (yz_eq hg810) (fun hb811 k812 hk812 => ?_) (fun hb811 k813 hk813 => ?_)
  · have hX814 := hX.trans (if_pos hb811)
    refine p_aload 66 c48_65 rfl rfl ?_
    refine p_getR 69 c48_66 rfl (kP_2 hA) ?_
    refine p_iload 70 c48_69 rfl rfl ?_
    refine p_dup2 71 c48_70 rfl ⟨rfl, rfl⟩ ?_
    refine p_iaX 72 (m (A + 3) x2.toNat) c48_71 rfl (kPa_3 hA) gx2 rfl (fun hx815 => ?_)
    refine p_iconst 73 c48_72 rfl ?_
    refine p_iload 74 c48_73 rfl rfl ?_
    refine p_ishl 75 c48_74 rfl ?_
    refine p_ior 76 c48_75 rfl ?_
    refine p_iaS 77 c48_76 rfl (kPa_3 hA) gx2 (iOr (m (A + 3) x2.toNat) (iShl 1 x3)) (nar0 (rg_to _)) (fun hx816 => ?_)
    have hR817 := hR.up (A + 3) x2.toNat (v := iOr (m (A + 3) x2.toNat) (iShl 1 x3)) (nselA (by omega)) (rg_to _)
    refine p_iconst 78 c48_77 rfl ?_
    exact p_ireturn c48_78 (Hr _ _ hX814 (rgD rfl) hR817 _)
  · have hX818 := hX.trans (if_neg hb811)
    refine p_iconst 64 c48_63 rfl ?_
    exact p_ireturn c48_64 (Hr _ _ hX818 (rgD rfl) hR _)
def F48 (f : Nat) (A : Nat) (x1 : Int) (m : yM) : Option (Int × yM) := (bP (F46 f A x1 m) (fun r791 => (if r791 = (-1) then (if m A 11 = 8 then (some (0, m)) else (J48_54 f A (wr ((m A 9) - 1)) (m A 11) (yup (yup m (A + 4) (m A 11).toNat x1) A 11 (wr ((m A 11) + 1))))) else (J48_54 f A (wr ((m A 9) - 1)) r791 m))))
set_option maxRecDepth 100000 in
theorem d48 {L : Nat} {xs : Nat → Int32} {k d n : Nat} {c : yS3} {f : Nat} {A : Nat} {x1 : Int} {m : yM} (hk : k ≤ f) (hA : (A = 256 ∨ A = 316)) (gx1 : rg x1) (hR : RM c m) : PC (gZ L xs) k d 48 [.ref A, yI x1] m n (qS c (F48 f A x1 m)) := by
  have hX : F48 f A x1 m = F48 f A x1 m := rfl
  have Hr : ∀ r m', F48 f A x1 m = some (r, m') → rg r → RM c m' → ∀ n' : Nat, (qS c (F48 f A x1 m)) (.inl (some (yI r))) m' n' := fun r m' e h1 h2 n' => ⟨r, rfl, h1, h2, e⟩
  refine PC.mk [some (.ref A), some (yI x1), none, none] kn48 rfl ?_
  refine p_aload 1 c48_0 rfl rfl ?_
  refine p_getX 4 (m A 9) c48_1 rfl (kP_9 hA) rfl ?_
  refine p_iconst 5 c48_4 rfl ?_
  refine p_isub 6 c48_5 rfl ?_
  refine p_istore 7 c48_6 rfl rfl ?_
  refine p_aload 8 c48_7 rfl rfl ?_
  refine p_iload 9 c48_8 rfl rfl ?_
  refine p_cO 12 [.ref A, yI x1] [] c48_9 rfl rfl rfl (fun k' hk' d' => d46 (f := f) (by omega) hA gx1 hR) (fun r791 hF789 hg790 n763 k762 hk762 => ?_)
  have hX792 := hX.trans (bP_s hF789)
  refine p_istore 13 c48_12 rfl rfl ?_
  refine p_iload 14 c48_13 rfl rfl ?_
  refine p_iconst 15 c48_14 rfl ?_
  refine p_icmp 54 18 c48_15 rfl rfl (yc_ne hg790 (rgD rfl)) (fun hb793 k794 hk794 => ?_) (fun hb793 k795 hk795 => ?_)
  · have hX796 := hX792.trans (if_neg hb793)
    exact tJ48_54 (f := f) (by omega) hA (rg_wr _) hg790 hR (fun r' m' e' => Hr r' m' (hX796.trans e'))
  · have hX819 := hX792.trans (if_pos (Classical.not_not.mp hb793))
    refine p_aload 19 c48_18 rfl rfl ?_
    refine p_getX 22 (m A 11) c48_19 rfl (kP_11 hA) rfl ?_
    refine p_iconst 24 c48_22 rfl ?_
    refine p_icmp 29 27 c48_24 rfl rfl (yc_ne (hR.rg _ _) (rgD rfl)) (fun hb820 k821 hk821 => ?_) (fun hb820 k822 hk822 => ?_)
    · have hX823 := hX819.trans (if_neg hb820)
      refine p_aload 30 c48_29 rfl rfl ?_
      refine p_getX 33 (m A 11) c48_30 rfl (kP_11 hA) rfl ?_
      refine p_istore 34 c48_33 rfl rfl ?_
      refine p_aload 35 c48_34 rfl rfl ?_
      refine p_getR 38 c48_35 rfl (kP_3 hA) ?_
      refine p_aload 39 c48_38 rfl rfl ?_
      refine p_getX 42 (m A 11) c48_39 rfl (kP_11 hA) rfl ?_
      refine p_iload 43 c48_42 rfl rfl ?_
      refine p_iaS 44 c48_43 rfl (kPa_4 hA) (hR.rg _ _) x1 (nar0 gx1) (fun hx824 => ?_)
      have hR825 := hR.up (A + 4) (m A 11).toNat (v := x1) (nselA (by omega)) gx1
      refine p_aload 45 c48_44 rfl rfl ?_
      refine p_dup 46 c48_45 rfl rfl ?_
      refine p_getX 49 (m A 11) c48_46 rfl (kP_11 hA) (yup_na (by omega)) ?_
      refine p_iconst 50 c48_49 rfl ?_
      refine p_iadd 51 c48_50 rfl ?_
      refine p_putI 54 c48_51 rfl (kP_11 hA) ?_
      have hR826 := hR825.up A 11 (v := wr ((m A 11) + 1)) (nselA (by omega)) (rg_wr _)
      exact tJ48_54 (f := f) (by omega) hA (rg_wr _) (hR.rg _ _) hR826 (fun r' m' e' => Hr r' m' (hX823.trans e'))
    · have hX827 := hX819.trans (if_pos (Classical.not_not.mp hb820))
      refine p_iconst 28 c48_27 rfl ?_
      exact p_ireturn c48_28 (Hr _ _ hX827 (rgD rfl) hR _)
def J49_33 (f : Nat) (A : Nat) (m : yM) : Option (Int × yM) := (bI (F43 f m) (fun r752 m754 => (some (r752, m754))))
set_option maxRecDepth 100000 in
theorem tJ49_33 {L : Nat} {xs : Nat → Int32} {Q : xO → yM → Nat → Prop} {k d n : Nat} {c : yS3} {f : Nat} {A : Nat} {m : yM} (hk : k ≤ f) (hc : c.1 = pX A) (hA : (A = 256 ∨ A = 316)) (hR : RM c m) (Hr : ∀ r m', J49_33 f A m = some (r, m') → rg r → RM c m' → ∀ n', Q (.inl (some (yI r))) m' n') : PW (gZ L xs) k 49 d 33 [some (.ref 2)] [] m n Q := by
  have hX : J49_33 f A m = J49_33 f A m := rfl
  refine p_aload 34 c49_33 rfl rfl ?_
  refine p_cS 37 [.ref 2] [] c49_34 rfl rfl rfl (fun k' hk' d' => d43 (f := f) (by omega) hR) (fun r752 m754 hF750 hg751 hR755 n749 k748 hk748 => ?_)
  have hX753 := hX.trans (bI_s hF750)
  exact p_ireturn c49_37 (Hr _ _ hX753 hg751 hR755 _)
def F49 (f : Nat) (A : Nat) (m : yM) : Option (Int × yM) := (if F38 (yup m 2 2 (wr ((m 2 2) + 1))) = 11 then (bI (F48 f A (F39 (yup m 2 2 (wr ((m 2 2) + 1)))) (yup m 2 2 (wr ((m 2 2) + 1)))) (fun r830 m832 => (if r830 = 0 then (J49_33 f A m832) else (bI (F37 f 59 (yup m832 2 2 (wr ((m832 2 2) + 1)))) (fun r843 m845 => (some (r843, m845))))))) else (J49_33 f A (yup m 2 2 (wr ((m 2 2) + 1)))))
set_option maxRecDepth 100000 in
theorem d49 {L : Nat} {xs : Nat → Int32} {k d n : Nat} {c : yS3} {f : Nat} {A : Nat} {m : yM} (hk : k ≤ f) (hc : c.1 = pX A) (hA : (A = 256 ∨ A = 316)) (hR : RM c m) : PC (gZ L xs) k d 49 [.ref 2] m n (qS c (F49 f A m)) := by
  have hX : F49 f A m = F49 f A m := rfl
  have Hr : ∀ r m', F49 f A m = some (r, m') → rg r → RM c m' → ∀ n' : Nat, (qS c (F49 f A m)) (.inl (some (yI r))) m' n' := fun r m' e h1 h2 n' => ⟨r, rfl, h1, h2, e⟩
  refine PC.mk [some (.ref 2)] kn49 rfl ?_
  refine p_aload 1 c49_0 rfl rfl ?_
  refine p_dup 2 c49_1 rfl rfl ?_
  refine p_getX 5 (m 2 2) c49_2 rfl kf2_2 rfl ?_
  refine p_iconst 6 c49_5 rfl ?_
  refine p_iadd 7 c49_6 rfl ?_
  refine p_putI 10 c49_7 rfl kf2_2 ?_
  have hR740 := hR.up 2 2 (v := wr ((m 2 2) + 1)) (nselD rfl) (rg_wr _)
  refine p_aload 11 c49_10 rfl rfl ?_
  refine p_cX 14 [.ref 2] [] c49_11 rfl rfl rfl (fun k' hk' d' => d38 hR740) (fun hg743 n742 k741 hk741 => ?_)
  refine p_iconst 16 c49_14 rfl ?_
  refine p_icmp 33 19 c49_16 rfl rfl (yc_ne hg743 (rgD rfl)) (fun hb744 k745 hk745 => ?_) (fun hb744 k746 hk746 => ?_)
  · have hX747 := hX.trans (if_neg hb744)
    exact tJ49_33 (f := f) (by omega) hc hA hR740 (fun r' m' e' => Hr r' m' (hX747.trans e'))
  · have hX756 := hX.trans (if_pos (Classical.not_not.mp hb744))
    refine p_aload 20 c49_19 rfl rfl ?_
    refine p_getV 23 (.ref A) c49_20 rfl kf2_1 (pX_of hA hR740.2.2.2.1 hc) ?_
    refine p_aload 24 c49_23 rfl rfl ?_
    refine p_cX 27 [.ref 2] [.ref A] c49_24 rfl rfl rfl (fun k' hk' d' => d39 hR740) (fun hg759 n758 k757 hk757 => ?_)
    refine p_cS 30 [.ref A, yI (F39 (yup m 2 2 (wr ((m 2 2) + 1))))] [] c49_27 rfl rfl rfl (fun k' hk' d' => d48 (f := f) (by omega) hA hg759 hR740) (fun r830 m832 hF828 hg829 hR833 n761 k760 hk760 => ?_)
    have hX831 := hX756.trans (bI_s hF828)
    refine p_if 38 33 c49_30 rfl rfl (yz_ne hg829) (fun hb834 k835 hk835 => ?_) (fun hb834 k836 hk836 => ?_)
    · have hX837 := hX831.trans (if_neg hb834)
      refine p_aload 39 c49_38 rfl rfl ?_
      refine p_dup 40 c49_39 rfl rfl ?_
      refine p_getX 43 (m832 2 2) c49_40 rfl kf2_2 rfl ?_
      refine p_iconst 44 c49_43 rfl ?_
      refine p_iadd 45 c49_44 rfl ?_
      refine p_putI 48 c49_45 rfl kf2_2 ?_
      have hR838 := hR833.up 2 2 (v := wr ((m832 2 2) + 1)) (nselD rfl) (rg_wr _)
      refine p_aload 49 c49_48 rfl rfl ?_
      refine p_iconst 51 c49_49 rfl ?_
      refine p_cS 54 [.ref 2, yI 59] [] c49_51 rfl rfl rfl (fun k' hk' d' => d37 (f := f) (by omega) (rgD rfl) hR838) (fun r843 m845 hF841 hg842 hR846 n840 k839 hk839 => ?_)
      have hX844 := hX837.trans (bI_s hF841)
      exact p_ireturn c49_54 (Hr _ _ hX844 hg842 hR846 _)
    · have hX847 := hX831.trans (if_pos (Classical.not_not.mp hb834))
      exact tJ49_33 (f := f) (by omega) hc hA hR833 (fun r' m' e' => Hr r' m' (hX847.trans e'))
def J50_38 (f : Nat) (A : Nat) (x1 : Int) (x2 : Int) (x3 : Int) : Option (Int ⊕ (Int ⊕ Int)) := (some (.inl (wr (x3 + 1))))
set_option maxRecDepth 100000 in
theorem tJ50_38 {L : Nat} {xs : Nat → Int32} {Q : xO → yM → Nat → Prop} {k d n : Nat} {c : yS3} {f : Nat} {A : Nat} {x1 : Int} {x2 : Int} {x3 : Int} {m : yM} (hk : k ≤ f) (hA : (A = 256 ∨ A = 316)) (gx1 : rg x1) (gx2 : rg x2) (gx3 : rg x3) (hR : RM c m) (Hn : ∀ (y0 : Int) (n' : Nat), J50_38 f A x1 x2 x3 = some (.inl y0) → rg y0 → ∀ k', k' < k → PW (gZ L xs) k' 50 d 2 [some (.ref A), some (yI x1), some (yI x2), some (yI y0)] [] m n' Q) (He : ∀ (y0 : Int) (n' : Nat), J50_38 f A x1 x2 x3 = some (.inr (.inl y0)) → rg y0 → ∀ k', k' ≤ k → PW (gZ L xs) k' 50 d 44 [some (.ref A), some (yI x1), some (yI x2), some (yI y0)] [] m n' Q) (Hr : ∀ r, J50_38 f A x1 x2 x3 = some (.inr (.inr r)) → rg r → ∀ n', Q (.inl (some (yI r))) m n') : PW (gZ L xs) k 50 d 38 [some (.ref A), some (yI x1), some (yI x2), some (yI x3)] [] m n Q := by
  have hX : J50_38 f A x1 x2 x3 = J50_38 f A x1 x2 x3 := rfl
  refine p_iinc 41 c50_38 rfl rfl rfl ?_
  refine p_gotoD 2 c50_41 rfl (fun k904 hk904 => ?_)
  exact Hn _ _ hX (rg_wr _) _ (by omega)
def B50_2 (f : Nat) (A : Nat) (x1 : Int) (x2 : Int) (x3 : Int) (m : yM) : Option (Int ⊕ (Int ⊕ Int)) := (if x3 < m A 10 then (if m (A + 10 + (x3).toNat) 1 = x1 then (if m (A + 10 + (x3).toNat) 0 = x2 then (some (.inr (.inr x3))) else (J50_38 f A x1 x2 x3)) else (J50_38 f A x1 x2 x3)) else (some (.inr (.inl x3))))
set_option maxRecDepth 100000 in
theorem tB50_2 {L : Nat} {xs : Nat → Int32} {Q : xO → yM → Nat → Prop} {k d n : Nat} {c : yS3} {f : Nat} {A : Nat} {x1 : Int} {x2 : Int} {x3 : Int} {m : yM} (hk : k ≤ f) (hA : (A = 256 ∨ A = 316)) (gx1 : rg x1) (gx2 : rg x2) (gx3 : rg x3) (hR : RM c m) (Hn : ∀ (y0 : Int) (n' : Nat), B50_2 f A x1 x2 x3 m = some (.inl y0) → rg y0 → ∀ k', k' < k → PW (gZ L xs) k' 50 d 2 [some (.ref A), some (yI x1), some (yI x2), some (yI y0)] [] m n' Q) (He : ∀ (y0 : Int) (n' : Nat), B50_2 f A x1 x2 x3 m = some (.inr (.inl y0)) → rg y0 → ∀ k', k' ≤ k → PW (gZ L xs) k' 50 d 44 [some (.ref A), some (yI x1), some (yI x2), some (yI y0)] [] m n' Q) (Hr : ∀ r, B50_2 f A x1 x2 x3 m = some (.inr (.inr r)) → rg r → ∀ n', Q (.inl (some (yI r))) m n') : PW (gZ L xs) k 50 d 2 [some (.ref A), some (yI x1), some (yI x2), some (yI x3)] [] m n Q := by
  have hX : B50_2 f A x1 x2 x3 m = B50_2 f A x1 x2 x3 m := rfl
  refine p_iload 3 c50_2 rfl rfl ?_
  refine p_aload 4 c50_3 rfl rfl ?_
  refine p_getX 7 (m A 10) c50_4 rfl (kP_10 hA) rfl ?_
  refine p_icmp 44 10 c50_7 rfl rfl ((yc_ge gx3 (hR.rg _ _)).trans Int.not_lt.symm) (fun hb894 k895 hk895 => ?_) (fun hb894 k896 hk896 => ?_)
  · have hX897 := hX.trans (if_neg hb894)
    exact He _ _ hX897 gx3 _ (by omega)
  · have hX898 := hX.trans (if_pos (Classical.not_not.mp hb894))
    refine p_aload 11 c50_10 rfl rfl ?_
    refine p_getR 14 c50_11 rfl (kP_5 hA) ?_
    refine p_iload 15 c50_14 rfl rfl ?_
    refine p_aaX 16 c50_15 rfl (kPr_6 hA) gx3 (fun hx899 => ?_)
    refine p_getX 19 (m (A + 10 + (x3).toNat) 1) c50_16 rfl (kM_1 (kMr hA hx899)) rfl ?_
    refine p_iload 20 c50_19 rfl rfl ?_
    refine p_icmp 38 23 c50_20 rfl rfl (yc_ne (hR.rg _ _) gx1) (fun hb900 k901 hk901 => ?_) (fun hb900 k902 hk902 => ?_)
    · have hX903 := hX898.trans (if_neg hb900)
      exact tJ50_38 (f := f) (by omega) hA gx1 gx2 gx3 hR (fun y0 n' e' h0 k' hk' => Hn y0 n' (hX903.trans e') h0 k' (by omega)) (fun y0 n' e' h0 k' hk' => He y0 n' (hX903.trans e') h0 k' (by omega)) (fun r' e' => Hr r' (hX903.trans e'))
    · have hX905 := hX898.trans (if_pos (Classical.not_not.mp hb900))
      refine p_aload 24 c50_23 rfl rfl ?_
      refine p_getR 27 c50_24 rfl (kP_5 hA) ?_
      refine p_iload 28 c50_27 rfl rfl ?_
      refine p_aaX 29 c50_28 rfl (kPr_6 hA) gx3 (fun hx906 => ?_)
      refine p_getX 32 (m (A + 10 + (x3).toNat) 0) c50_29 rfl (kM_0 (kMr hA hx906)) rfl ?_
      refine p_iload 33 c50_32 rfl rfl ?_
      refine p_icmp 38 36 c50_33 rfl rfl (yc_ne (hR.rg _ _) gx2) (fun hb907 k908 hk908 => ?_) (fun hb907 k909 hk909 => ?_)
      · have hX910 := hX905.trans (if_neg hb907)
        exact tJ50_38 (f := f) (by omega) hA gx1 gx2 gx3 hR (fun y0 n' e' h0 k' hk' => Hn y0 n' (hX910.trans e') h0 k' (by omega)) (fun y0 n' e' h0 k' hk' => He y0 n' (hX910.trans e') h0 k' (by omega)) (fun r' e' => Hr r' (hX910.trans e'))
      · have hX911 := hX905.trans (if_pos (Classical.not_not.mp hb907))
        refine p_iload 37 c50_36 rfl rfl ?_
        exact p_ireturn c50_37 (Hr _ hX911 gx3 _)
def F50 (f : Nat) (A : Nat) (x1 : Int) (x2 : Int) (m : yM) : Option Int := (bQ (ploop (fun (l : Int) => B50_2 f A x1 x2 l m) f 0) (fun l912 => (some ((-1)))) (fun r => some r))
set_option maxRecDepth 100000 in
theorem d50 {L : Nat} {xs : Nat → Int32} {k d n : Nat} {c : yS3} {f : Nat} {A : Nat} {x1 : Int} {x2 : Int} {m : yM} (hk : k ≤ f) (hA : (A = 256 ∨ A = 316)) (gx1 : rg x1) (gx2 : rg x2) (hR : RM c m) : PC (gZ L xs) k d 50 [.ref A, yI x1, yI x2] m n (qO m (F50 f A x1 x2 m)) := by
  have hX : F50 f A x1 x2 m = F50 f A x1 x2 m := rfl
  have Hr : ∀ r, F50 f A x1 x2 m = some r → rg r → ∀ n' : Nat, (qO m (F50 f A x1 x2 m)) (.inl (some (yI r))) m n' := fun r e h n' => ⟨r, rfl, h, rfl, e⟩
  refine PC.mk [some (.ref A), some (yI x1), some (yI x2), none] kn50 rfl ?_
  refine p_iconst 1 c50_0 rfl ?_
  refine p_istore 2 c50_1 rfl rfl ?_
  refine PW.ploop (K := k) (pce := 44) (fun (l : Int) => B50_2 f A x1 x2 l m) (fun (l : Int) j => [some (.ref A), some (yI x1), some (yI x2), some (yI l)]) (fun (l : Int) => rg l) (fun r' => rg r' → ∀ n' : Nat, (qO m (F50 f A x1 x2 m)) (.inl (some (yI r'))) m n') (fun k' hk' l j n' hl Hn' He' Hr' => tB50_2 (f := f) (by omega) hA gx1 gx2 hl hR (fun y0 n2 e h0 => Hn' y0 (fun q => ([none, none, none, none] : List (Option Value)).getD q none) n2 e h0) (fun y0 n2 e h0 => He' y0 (fun q => ([none, none, none, none] : List (Option Value)).getD q none) n2 e h0) Hr') f k (by omega) (Nat.le_refl _) 0 (fun q => ([some (.ref A), some (yI x1), some (yI x2), some (yI 0)] : xL).getD q none) _ (rgD rfl) (fun l912 j915 n917 e914 hl913 k916 hk916 => ?_) (fun r' e' => ?_)
  · have hX918 := hX.trans (bQ_l e914)
    refine p_iconst 45 c50_44 rfl ?_
    exact p_ireturn c50_45 (Hr _ hX918 (rgD rfl) _)
  · exact Hr r' (hX.trans (bQ_r e'))
def F51 (f : Nat) (A : Nat) (x1 : Int) (m : yM) : Option (Int × yM) := (if m A 10 = 10 then (some (0, m)) else (if 48 < wr ((m A 15) + 2) then (some (0, m)) else (bP (F50 f A (wr ((m A 9) - 1)) x1 m) (fun r921 => (if r921 = (-1) then (some (1, yup (yup (yup (yup (yup (yup (yup (yup m (A + 10 + (m A 10).toNat) 0 x1) (A + 10 + (m A 10).toNat) 1 (wr ((m A 9) - 1))) (A + 10 + (m A 10).toNat) 2 (m A 15)) (A + 10 + (m A 10).toNat) 3 0) A 10 (wr ((m A 10) + 1))) (A + 5) (m A 15).toNat 0) (A + 5) (wr ((m A 15) + 1)).toNat 0) A 15 (wr ((m A 15) + 2)))) else (some (0, m)))))))
set_option maxRecDepth 100000 in
theorem d51 {L : Nat} {xs : Nat → Int32} {k d n : Nat} {c : yS3} {f : Nat} {A : Nat} {x1 : Int} {m : yM} (hk : k ≤ f) (hA : (A = 256 ∨ A = 316)) (gx1 : rg x1) (hR : RM c m) : PC (gZ L xs) k d 51 [.ref A, yI x1] m n (qS c (F51 f A x1 m)) := by
  have hX : F51 f A x1 m = F51 f A x1 m := rfl
  have Hr : ∀ r m', F51 f A x1 m = some (r, m') → rg r → RM c m' → ∀ n' : Nat, (qS c (F51 f A x1 m)) (.inl (some (yI r))) m' n' := fun r m' e h1 h2 n' => ⟨r, rfl, h1, h2, e⟩
  refine PC.mk [some (.ref A), some (yI x1), none, none] kn51 rfl ?_
  refine p_aload 1 c51_0 rfl rfl ?_
  refine p_getX 4 (m A 9) c51_1 rfl (kP_9 hA) rfl ?_
  refine p_iconst 5 c51_4 rfl ?_
  refine p_isub 6 c51_5 rfl ?_
  refine p_istore 7 c51_6 rfl rfl ?_
  refine p_aload 8 c51_7 rfl rfl ?_
  refine p_getX 11 (m A 10) c51_8 rfl (kP_10 hA) rfl ?_
  refine p_iconst 13 c51_11 rfl ?_
  refine p_icmp 37 16 c51_13 rfl rfl (yc_eq (hR.rg _ _) (rgD rfl)) (fun hb882 k883 hk883 => ?_) (fun hb882 k884 hk884 => ?_)
  · have hX885 := hX.trans (if_pos hb882)
    refine p_iconst 38 c51_37 rfl ?_
    exact p_ireturn c51_38 (Hr _ _ hX885 (rgD rfl) hR _)
  · have hX886 := hX.trans (if_neg hb882)
    refine p_aload 17 c51_16 rfl rfl ?_
    refine p_getX 20 (m A 15) c51_17 rfl (kP_15 hA) rfl ?_
    refine p_iconst 21 c51_20 rfl ?_
    refine p_iadd 22 c51_21 rfl ?_
    refine p_iconst 24 c51_22 rfl ?_
    refine p_icmp 37 27 c51_24 rfl rfl (yc_gt (rg_wr _) (rgD rfl)) (fun hb887 k888 hk888 => ?_) (fun hb887 k889 hk889 => ?_)
    · have hX890 := hX886.trans (if_pos hb887)
      refine p_iconst 38 c51_37 rfl ?_
      exact p_ireturn c51_38 (Hr _ _ hX890 (rgD rfl) hR _)
    · have hX891 := hX886.trans (if_neg hb887)
      refine p_aload 28 c51_27 rfl rfl ?_
      refine p_iload 29 c51_28 rfl rfl ?_
      refine p_iload 30 c51_29 rfl rfl ?_
      refine p_cO 33 [.ref A, yI (wr ((m A 9) - 1)), yI x1] [] c51_30 rfl rfl rfl (fun k' hk' d' => d50 (f := f) (by omega) hA (rg_wr _) gx1 hR) (fun r921 hF919 hg920 n893 k892 hk892 => ?_)
      have hX922 := hX891.trans (bP_s hF919)
      refine p_iconst 34 c51_33 rfl ?_
      refine p_icmp 39 37 c51_34 rfl rfl (yc_eq hg920 (rgD rfl)) (fun hb923 k924 hk924 => ?_) (fun hb923 k925 hk925 => ?_)
      · have hX926 := hX922.trans (if_pos hb923)
        refine p_aload 40 c51_39 rfl rfl ?_
        refine p_getR 43 c51_40 rfl (kP_5 hA) ?_
        refine p_aload 44 c51_43 rfl rfl ?_
        refine p_getX 47 (m A 10) c51_44 rfl (kP_10 hA) rfl ?_
        refine p_aaX 48 c51_47 rfl (kPr_6 hA) (hR.rg _ _) (fun hx927 => ?_)
        refine p_astore 49 c51_48 rfl rfl ?_
        refine p_aload 50 c51_49 rfl rfl ?_
        refine p_iload 51 c51_50 rfl rfl ?_
        refine p_putI 54 c51_51 rfl (kM_0 (kMr hA hx927)) ?_
        have hR928 := hR.up (A + 10 + (m A 10).toNat) 0 (v := x1) (nselA (by omega)) gx1
        refine p_aload 55 c51_54 rfl rfl ?_
        refine p_iload 56 c51_55 rfl rfl ?_
        refine p_putI 59 c51_56 rfl (kM_1 (kMr hA hx927)) ?_
        have hR929 := hR928.up (A + 10 + (m A 10).toNat) 1 (v := wr ((m A 9) - 1)) (nselA (by omega)) (rg_wr _)
        refine p_aload 60 c51_59 rfl rfl ?_
        refine p_aload 61 c51_60 rfl rfl ?_
        refine p_getX 64 (m A 15) c51_61 rfl (kP_15 hA) ((yup_na (by omega)).trans (yup_na (by omega))) ?_
        refine p_putI 67 c51_64 rfl (kM_2 (kMr hA hx927)) ?_
        have hR930 := hR929.up (A + 10 + (m A 10).toNat) 2 (v := m A 15) (nselA (by omega)) (hR.rg _ _)
        refine p_aload 68 c51_67 rfl rfl ?_
        refine p_iconst 69 c51_68 rfl ?_
        refine p_putI 72 c51_69 rfl (kM_3 (kMr hA hx927)) ?_
        have hR931 := hR930.up (A + 10 + (m A 10).toNat) 3 (v := 0) (nselA (by omega)) (rgD rfl)
        refine p_aload 73 c51_72 rfl rfl ?_
        refine p_dup 74 c51_73 rfl rfl ?_
        refine p_getX 77 (m A 10) c51_74 rfl (kP_10 hA) ((yup_na (by omega)).trans ((yup_na (by omega)).trans ((yup_na (by omega)).trans (yup_na (by omega))))) ?_
        refine p_iconst 78 c51_77 rfl ?_
        refine p_iadd 79 c51_78 rfl ?_
        refine p_putI 82 c51_79 rfl (kP_10 hA) ?_
        have hR932 := hR931.up A 10 (v := wr ((m A 10) + 1)) (nselA (by omega)) (rg_wr _)
        refine p_aload 83 c51_82 rfl rfl ?_
        refine p_getR 86 c51_83 rfl (kP_4 hA) ?_
        refine p_aload 87 c51_86 rfl rfl ?_
        refine p_getX 90 (m A 15) c51_87 rfl (kP_15 hA) ((yup_nk (by decide)).trans ((yup_na (by omega)).trans ((yup_na (by omega)).trans ((yup_na (by omega)).trans (yup_na (by omega)))))) ?_
        refine p_iconst 91 c51_90 rfl ?_
        refine p_iaS 92 c51_91 rfl (kPa_5 hA) (hR.rg _ _) 0 (nar0 (rgD rfl)) (fun hx933 => ?_)
        have hR934 := hR932.up (A + 5) (m A 15).toNat (v := 0) (nselA (by omega)) (rgD rfl)
        refine p_aload 93 c51_92 rfl rfl ?_
        refine p_getR 96 c51_93 rfl (kP_4 hA) ?_
        refine p_aload 97 c51_96 rfl rfl ?_
        refine p_getX 100 (m A 15) c51_97 rfl (kP_15 hA) ((yup_na (by omega)).trans ((yup_nk (by decide)).trans ((yup_na (by omega)).trans ((yup_na (by omega)).trans ((yup_na (by omega)).trans (yup_na (by omega))))))) ?_
        refine p_iconst 101 c51_100 rfl ?_
        refine p_iadd 102 c51_101 rfl ?_
        refine p_iconst 103 c51_102 rfl ?_
        refine p_iaS 104 c51_103 rfl (kPa_5 hA) (rg_wr _) 0 (nar0 (rgD rfl)) (fun hx935 => ?_)
        have hR936 := hR934.up (A + 5) (wr ((m A 15) + 1)).toNat (v := 0) (nselA (by omega)) (rgD rfl)
        refine p_aload 105 c51_104 rfl rfl ?_
        refine p_dup 106 c51_105 rfl rfl ?_
        refine p_getX 109 (m A 15) c51_106 rfl (kP_15 hA) ((yup_na (by omega)).trans ((yup_na (by omega)).trans ((yup_nk (by decide)).trans ((yup_na (by omega)).trans ((yup_na (by omega)).trans ((yup_na (by omega)).trans (yup_na (by omega)))))))) ?_
        refine p_iconst 110 c51_109 rfl ?_
        refine p_iadd 111 c51_110 rfl ?_
        refine p_putI 114 c51_111 rfl (kP_15 hA) ?_
        have hR937 := hR936.up A 15 (v := wr ((m A 15) + 2)) (nselA (by omega)) (rg_wr _)
        refine p_iconst 115 c51_114 rfl ?_
        exact p_ireturn c51_115 (Hr _ _ hX926 (rgD rfl) hR937 _)
      · have hX938 := hX922.trans (if_neg hb923)
        refine p_iconst 38 c51_37 rfl ?_
        exact p_ireturn c51_38 (Hr _ _ hX938 (rgD rfl) hR _)
def B52_15 (f : Nat) (A : Nat) (x1 : Int) (x2 : Int) (m : yM) : Option ((Int × yM) ⊕ ((Int × yM) ⊕ (Int × yM))) := (if x2 < m A 15 then (if m (A + 5) x2.toNat = x1 then (some (.inr (.inr (x2, m)))) else (some (.inl ((wr (x2 + 1)), m)))) else (some (.inr (.inl (x2, m)))))
set_option maxRecDepth 100000 in
theorem tB52_15 {L : Nat} {xs : Nat → Int32} {Q : xO → yM → Nat → Prop} {k d n : Nat} {c : yS3} {f : Nat} {A : Nat} {x1 : Int} {x2 : Int} {m : yM} (hk : k ≤ f) (hA : (A = 256 ∨ A = 316)) (gx1 : rg x1) (gx2 : rg x2) (hR : RM c m) (Hn : ∀ (y0 : Int) (m' : yM) (n' : Nat), B52_15 f A x1 x2 m = some (.inl (y0, m')) → rg y0 → RM c m' → ∀ k', k' < k → PW (gZ L xs) k' 52 d 15 [some (.ref A), some (yI x1), some (yI y0)] [] m' n' Q) (He : ∀ (y0 : Int) (m' : yM) (n' : Nat), B52_15 f A x1 x2 m = some (.inr (.inl (y0, m'))) → rg y0 → RM c m' → ∀ k', k' ≤ k → PW (gZ L xs) k' 52 d 41 [some (.ref A), some (yI x1), some (yI y0)] [] m' n' Q) (Hr : ∀ r m', B52_15 f A x1 x2 m = some (.inr (.inr (r, m'))) → rg r → RM c m' → ∀ n', Q (.inl (some (yI r))) m' n') : PW (gZ L xs) k 52 d 15 [some (.ref A), some (yI x1), some (yI x2)] [] m n Q := by
  have hX : B52_15 f A x1 x2 m = B52_15 f A x1 x2 m := rfl
  refine p_iload 16 c52_15 rfl rfl ?_
  refine p_aload 17 c52_16 rfl rfl ?_
  refine p_getX 20 (m A 15) c52_17 rfl (kP_15 hA) rfl ?_
  refine p_icmp 41 23 c52_20 rfl rfl ((yc_ge gx2 (hR.rg _ _)).trans Int.not_lt.symm) (fun hb1001 k1002 hk1002 => ?_) (fun hb1001 k1003 hk1003 => ?_)
  · have hX1004 := hX.trans (if_neg hb1001)
    exact He _ _ _ hX1004 gx2 hR _ (by omega)
  · have hX1005 := hX.trans (if_pos (Classical.not_not.mp hb1001))
    refine p_aload 24 c52_23 rfl rfl ?_
    refine p_getR 27 c52_24 rfl (kP_4 hA) ?_
    refine p_iload 28 c52_27 rfl rfl ?_
    refine p_iaX 29 (m (A + 5) x2.toNat) c52_28 rfl (kPa_5 hA) gx2 rfl (fun hx1006 => ?_)
    refine p_iload 30 c52_29 rfl rfl ?_
    refine p_icmp 35 33 c52_30 rfl rfl (yc_ne (hR.rg _ _) gx1) (fun hb1007 k1008 hk1008 => ?_) (fun hb1007 k1009 hk1009 => ?_)
    · have hX1010 := hX1005.trans (if_neg hb1007)
      refine p_iinc 38 c52_35 rfl rfl rfl ?_
      refine p_gotoD 15 c52_38 rfl (fun k1011 hk1011 => ?_)
      exact Hn _ _ _ hX1010 (rg_wr _) hR _ (by omega)
    · have hX1012 := hX1005.trans (if_pos (Classical.not_not.mp hb1007))
      refine p_iload 34 c52_33 rfl rfl ?_
      exact p_ireturn c52_34 (Hr _ _ hX1012 gx2 hR _)
def F52 (f : Nat) (A : Nat) (x1 : Int) (m : yM) : Option (Int × yM) := (bL (yloop (fun (l : Int) ml => B52_15 f A x1 l ml) f (m (A + 10 + (wr ((m A 10) - 1)).toNat) 2) m) (fun l1013 m1019 => (if m1019 A 15 = 48 then (some ((-1), m1019)) else (some (wr ((wr ((m1019 A 15) + 1)) - 1), yup (yup m1019 (A + 5) (m1019 A 15).toNat x1) A 15 (wr ((m1019 A 15) + 1)))))) (fun r mr => some (r, mr)))
set_option maxRecDepth 100000 in
theorem d52 {L : Nat} {xs : Nat → Int32} {k d n : Nat} {c : yS3} {f : Nat} {A : Nat} {x1 : Int} {m : yM} (hk : k ≤ f) (hA : (A = 256 ∨ A = 316)) (gx1 : rg x1) (hR : RM c m) : PC (gZ L xs) k d 52 [.ref A, yI x1] m n (qS c (F52 f A x1 m)) := by
  have hX : F52 f A x1 m = F52 f A x1 m := rfl
  have Hr : ∀ r m', F52 f A x1 m = some (r, m') → rg r → RM c m' → ∀ n' : Nat, (qS c (F52 f A x1 m)) (.inl (some (yI r))) m' n' := fun r m' e h1 h2 n' => ⟨r, rfl, h1, h2, e⟩
  refine PC.mk [some (.ref A), some (yI x1), none] kn52 rfl ?_
  refine p_aload 1 c52_0 rfl rfl ?_
  refine p_getR 4 c52_1 rfl (kP_5 hA) ?_
  refine p_aload 5 c52_4 rfl rfl ?_
  refine p_getX 8 (m A 10) c52_5 rfl (kP_10 hA) rfl ?_
  refine p_iconst 9 c52_8 rfl ?_
  refine p_isub 10 c52_9 rfl ?_
  refine p_aaX 11 c52_10 rfl (kPr_6 hA) (rg_wr _) (fun hx1000 => ?_)
  refine p_getX 14 (m (A + 10 + (wr ((m A 10) - 1)).toNat) 2) c52_11 rfl (kM_2 (kMr hA hx1000)) rfl ?_
  refine p_istore 15 c52_14 rfl rfl ?_
  refine PW.loop (K := k) (pce := 41) (fun (l : Int) ml => B52_15 f A x1 l ml) (fun (l : Int) j => [some (.ref A), some (yI x1), some (yI l)]) (fun (l : Int) => rg l) (RM c) (fun r' m' => rg r' → RM c m' → ∀ n' : Nat, (qS c (F52 f A x1 m)) (.inl (some (yI r'))) m' n') (fun k' hk' l j m' n' hl hI Hn' He' Hr' => tB52_15 (f := f) (by omega) hA gx1 hl hI (fun y0 m2 n2 e h0 hR2 => Hn' y0 (fun q => ([none, none, none] : List (Option Value)).getD q none) m2 n2 e h0 hR2) (fun y0 m2 n2 e h0 hR2 => He' y0 (fun q => ([none, none, none] : List (Option Value)).getD q none) m2 n2 e h0 hR2) Hr') f k (by omega) (Nat.le_refl _) (m (A + 10 + (wr ((m A 10) - 1)).toNat) 2) (fun q => ([some (.ref A), some (yI x1), some (yI (m (A + 10 + (wr ((m A 10) - 1)).toNat) 2))] : xL).getD q none) _ _ (hR.rg _ _) hR (fun l1013 j1016 m1019 n1018 e1015 hl1014 hR1020 k1017 hk1017 => ?_) (fun r' m' e' => ?_)
  · have hX1021 := hX.trans (bL_l e1015)
    refine p_aload 42 c52_41 rfl rfl ?_
    refine p_getX 45 (m1019 A 15) c52_42 rfl (kP_15 hA) rfl ?_
    refine p_iconst 47 c52_45 rfl ?_
    refine p_icmp 52 50 c52_47 rfl rfl (yc_ne (hR1020.rg _ _) (rgD rfl)) (fun hb1022 k1023 hk1023 => ?_) (fun hb1022 k1024 hk1024 => ?_)
    · have hX1025 := hX1021.trans (if_neg hb1022)
      refine p_aload 53 c52_52 rfl rfl ?_
      refine p_getR 56 c52_53 rfl (kP_4 hA) ?_
      refine p_aload 57 c52_56 rfl rfl ?_
      refine p_getX 60 (m1019 A 15) c52_57 rfl (kP_15 hA) rfl ?_
      refine p_iload 61 c52_60 rfl rfl ?_
      refine p_iaS 62 c52_61 rfl (kPa_5 hA) (hR1020.rg _ _) x1 (nar0 gx1) (fun hx1026 => ?_)
      have hR1027 := hR1020.up (A + 5) (m1019 A 15).toNat (v := x1) (nselA (by omega)) gx1
      refine p_aload 63 c52_62 rfl rfl ?_
      refine p_dup 64 c52_63 rfl rfl ?_
      refine p_getX 67 (m1019 A 15) c52_64 rfl (kP_15 hA) (yup_na (by omega)) ?_
      refine p_iconst 68 c52_67 rfl ?_
      refine p_iadd 69 c52_68 rfl ?_
      refine p_putI 72 c52_69 rfl (kP_15 hA) ?_
      have hR1028 := hR1027.up A 15 (v := wr ((m1019 A 15) + 1)) (nselA (by omega)) (rg_wr _)
      refine p_aload 73 c52_72 rfl rfl ?_
      refine p_getX 76 (wr ((m1019 A 15) + 1)) c52_73 rfl (kP_15 hA) (yup_eq _ _ _ _) ?_
      refine p_iconst 77 c52_76 rfl ?_
      refine p_isub 78 c52_77 rfl ?_
      exact p_ireturn c52_78 (Hr _ _ hX1025 (rg_wr _) hR1028 _)
    · have hX1029 := hX1021.trans (if_pos (Classical.not_not.mp hb1022))
      refine p_iconst 51 c52_50 rfl ?_
      exact p_ireturn c52_51 (Hr _ _ hX1029 (rgD rfl) hR1020 _)
  · exact Hr r' m' (hX.trans (bL_r e'))
def F53 (f : Nat) (A : Nat) (x1 : Int) (m : yM) : Option (Int × yM) := (bI (F52 f A x1 m) (fun r1032 m1034 => (if m1034 A 15 = m A 15 then (some (0, m1034)) else (some (1, yup m1034 (A + 10 + (wr ((m1034 A 10) - 1)).toNat) 3 (wr ((m1034 (A + 10 + (wr ((m1034 A 10) - 1)).toNat) 3) + 1)))))))
set_option maxRecDepth 100000 in
theorem d53 {L : Nat} {xs : Nat → Int32} {k d n : Nat} {c : yS3} {f : Nat} {A : Nat} {x1 : Int} {m : yM} (hk : k ≤ f) (hA : (A = 256 ∨ A = 316)) (gx1 : rg x1) (hR : RM c m) : PC (gZ L xs) k d 53 [.ref A, yI x1] m n (qS c (F53 f A x1 m)) := by
  have hX : F53 f A x1 m = F53 f A x1 m := rfl
  have Hr : ∀ r m', F53 f A x1 m = some (r, m') → rg r → RM c m' → ∀ n' : Nat, (qS c (F53 f A x1 m)) (.inl (some (yI r))) m' n' := fun r m' e h1 h2 n' => ⟨r, rfl, h1, h2, e⟩
  refine PC.mk [some (.ref A), some (yI x1), none] kn53 rfl ?_
  refine p_aload 1 c53_0 rfl rfl ?_
  refine p_getX 4 (m A 15) c53_1 rfl (kP_15 hA) rfl ?_
  refine p_istore 5 c53_4 rfl rfl ?_
  refine p_aload 6 c53_5 rfl rfl ?_
  refine p_iload 7 c53_6 rfl rfl ?_
  refine p_cS 10 [.ref A, yI x1] [] c53_7 rfl rfl rfl (fun k' hk' d' => d52 (f := f) (by omega) hA gx1 hR) (fun r1032 m1034 hF1030 hg1031 hR1035 n999 k998 hk998 => ?_)
  have hX1033 := hX.trans (bI_s hF1030)
  refine p_pop 11 c53_10 rfl rfl ?_
  refine p_aload 12 c53_11 rfl rfl ?_
  refine p_getX 15 (m1034 A 15) c53_12 rfl (kP_15 hA) rfl ?_
  refine p_iload 16 c53_15 rfl rfl ?_
  refine p_icmp 21 19 c53_16 rfl rfl (yc_ne (hR1035.rg _ _) (hR.rg _ _)) (fun hb1036 k1037 hk1037 => ?_) (fun hb1036 k1038 hk1038 => ?_)
  · have hX1039 := hX1033.trans (if_neg hb1036)
    refine p_aload 22 c53_21 rfl rfl ?_
    refine p_getR 25 c53_22 rfl (kP_5 hA) ?_
    refine p_aload 26 c53_25 rfl rfl ?_
    refine p_getX 29 (m1034 A 10) c53_26 rfl (kP_10 hA) rfl ?_
    refine p_iconst 30 c53_29 rfl ?_
    refine p_isub 31 c53_30 rfl ?_
    refine p_aaX 32 c53_31 rfl (kPr_6 hA) (rg_wr _) (fun hx1040 => ?_)
    refine p_dup 33 c53_32 rfl rfl ?_
    refine p_getX 36 (m1034 (A + 10 + (wr ((m1034 A 10) - 1)).toNat) 3) c53_33 rfl (kM_3 (kMr hA hx1040)) rfl ?_
    refine p_iconst 37 c53_36 rfl ?_
    refine p_iadd 38 c53_37 rfl ?_
    refine p_putI 41 c53_38 rfl (kM_3 (kMr hA hx1040)) ?_
    have hR1041 := hR1035.up (A + 10 + (wr ((m1034 A 10) - 1)).toNat) 3 (v := wr ((m1034 (A + 10 + (wr ((m1034 A 10) - 1)).toNat) 3) + 1)) (nselA (by omega)) (rg_wr _)
    refine p_iconst 42 c53_41 rfl ?_
    exact p_ireturn c53_42 (Hr _ _ hX1039 (rgD rfl) hR1041 _)
  · have hX1042 := hX1033.trans (if_pos (Classical.not_not.mp hb1036))
    refine p_iconst 20 c53_19 rfl ?_
    exact p_ireturn c53_20 (Hr _ _ hX1042 (rgD rfl) hR1035 _)
def J54_23 (f : Nat) (A : Nat) (m : yM) : Option (Int × yM) := (bI (F43 f m) (fun r988 m990 => (some (r988, m990))))
set_option maxRecDepth 100000 in
theorem tJ54_23 {L : Nat} {xs : Nat → Int32} {Q : xO → yM → Nat → Prop} {k d n : Nat} {c : yS3} {f : Nat} {A : Nat} {m : yM} (hk : k ≤ f) (hc : c.1 = pX A) (hA : (A = 256 ∨ A = 316)) (hR : RM c m) (Hr : ∀ r m', J54_23 f A m = some (r, m') → rg r → RM c m' → ∀ n', Q (.inl (some (yI r))) m' n') : PW (gZ L xs) k 54 d 23 [some (.ref 2)] [] m n Q := by
  have hX : J54_23 f A m = J54_23 f A m := rfl
  refine p_aload 24 c54_23 rfl rfl ?_
  refine p_cS 27 [.ref 2] [] c54_24 rfl rfl rfl (fun k' hk' d' => d43 (f := f) (by omega) hR) (fun r988 m990 hF986 hg987 hR991 n985 k984 hk984 => ?_)
  have hX989 := hX.trans (bI_s hF986)
  exact p_ireturn c54_27 (Hr _ _ hX989 hg987 hR991 _)
def F54 (f : Nat) (A : Nat) (m : yM) : Option (Int × yM) := (if F38 m = 11 then (bI (F53 f A (F39 m) m) (fun r1045 m1047 => (if r1045 = 0 then (J54_23 f A m1047) else (some (1, yup m1047 2 2 (wr ((m1047 2 2) + 1))))))) else (J54_23 f A m))
set_option maxRecDepth 100000 in
theorem d54 {L : Nat} {xs : Nat → Int32} {k d n : Nat} {c : yS3} {f : Nat} {A : Nat} {m : yM} (hk : k ≤ f) (hc : c.1 = pX A) (hA : (A = 256 ∨ A = 316)) (hR : RM c m) : PC (gZ L xs) k d 54 [.ref 2] m n (qS c (F54 f A m)) := by
  have hX : F54 f A m = F54 f A m := rfl
  have Hr : ∀ r m', F54 f A m = some (r, m') → rg r → RM c m' → ∀ n' : Nat, (qS c (F54 f A m)) (.inl (some (yI r))) m' n' := fun r m' e h1 h2 n' => ⟨r, rfl, h1, h2, e⟩
  refine PC.mk [some (.ref 2)] kn54 rfl ?_
  refine p_aload 1 c54_0 rfl rfl ?_
  refine p_cX 4 [.ref 2] [] c54_1 rfl rfl rfl (fun k' hk' d' => d38 hR) (fun hg979 n978 k977 hk977 => ?_)
  refine p_iconst 6 c54_4 rfl ?_
  refine p_icmp 23 9 c54_6 rfl rfl (yc_ne hg979 (rgD rfl)) (fun hb980 k981 hk981 => ?_) (fun hb980 k982 hk982 => ?_)
  · have hX983 := hX.trans (if_neg hb980)
    exact tJ54_23 (f := f) (by omega) hc hA hR (fun r' m' e' => Hr r' m' (hX983.trans e'))
  · have hX992 := hX.trans (if_pos (Classical.not_not.mp hb980))
    refine p_aload 10 c54_9 rfl rfl ?_
    refine p_getV 13 (.ref A) c54_10 rfl kf2_1 (pX_of hA hR.2.2.2.1 hc) ?_
    refine p_aload 14 c54_13 rfl rfl ?_
    refine p_cX 17 [.ref 2] [.ref A] c54_14 rfl rfl rfl (fun k' hk' d' => d39 hR) (fun hg995 n994 k993 hk993 => ?_)
    refine p_cS 20 [.ref A, yI (F39 m)] [] c54_17 rfl rfl rfl (fun k' hk' d' => d53 (f := f) (by omega) hA hg995 hR) (fun r1045 m1047 hF1043 hg1044 hR1048 n997 k996 hk996 => ?_)
    have hX1046 := hX992.trans (bI_s hF1043)
    refine p_if 28 23 c54_20 rfl rfl (yz_ne hg1044) (fun hb1049 k1050 hk1050 => ?_) (fun hb1049 k1051 hk1051 => ?_)
    · have hX1052 := hX1046.trans (if_neg hb1049)
      refine p_aload 29 c54_28 rfl rfl ?_
      refine p_dup 30 c54_29 rfl rfl ?_
      refine p_getX 33 (m1047 2 2) c54_30 rfl kf2_2 rfl ?_
      refine p_iconst 34 c54_33 rfl ?_
      refine p_iadd 35 c54_34 rfl ?_
      refine p_putI 38 c54_35 rfl kf2_2 ?_
      have hR1053 := hR1048.up 2 2 (v := wr ((m1047 2 2) + 1)) (nselD rfl) (rg_wr _)
      refine p_iconst 39 c54_38 rfl ?_
      exact p_ireturn c54_39 (Hr _ _ hX1052 (rgD rfl) hR1053 _)
    · have hX1054 := hX1046.trans (if_pos (Classical.not_not.mp hb1049))
      exact tJ54_23 (f := f) (by omega) hc hA hR1048 (fun r' m' e' => Hr r' m' (hX1054.trans e'))
def F55 (f : Nat) (A : Nat) (m : yM) : Option (Int × yM) := (if F38 m = 41 then (some (1, m)) else (bI (F54 f A m) (fun r1057 m1059 => (if r1057 = 0 then (some (0, m1059)) else (if F38 m1059 = 44 then (bI (F54 f A (yup m1059 2 2 (wr ((m1059 2 2) + 1)))) (fun r1077 m1079 => (some (r1077, m1079)))) else (some (1, m1059)))))))
set_option maxRecDepth 100000 in
theorem d55 {L : Nat} {xs : Nat → Int32} {k d n : Nat} {c : yS3} {f : Nat} {A : Nat} {m : yM} (hk : k ≤ f) (hc : c.1 = pX A) (hA : (A = 256 ∨ A = 316)) (hR : RM c m) : PC (gZ L xs) k d 55 [.ref 2] m n (qS c (F55 f A m)) := by
  have hX : F55 f A m = F55 f A m := rfl
  have Hr : ∀ r m', F55 f A m = some (r, m') → rg r → RM c m' → ∀ n' : Nat, (qS c (F55 f A m)) (.inl (some (yI r))) m' n' := fun r m' e h1 h2 n' => ⟨r, rfl, h1, h2, e⟩
  refine PC.mk [some (.ref 2)] kn55 rfl ?_
  refine p_aload 1 c55_0 rfl rfl ?_
  refine p_cX 4 [.ref 2] [] c55_1 rfl rfl rfl (fun k' hk' d' => d38 hR) (fun hg970 n969 k968 hk968 => ?_)
  refine p_iconst 6 c55_4 rfl ?_
  refine p_icmp 11 9 c55_6 rfl rfl (yc_ne hg970 (rgD rfl)) (fun hb971 k972 hk972 => ?_) (fun hb971 k973 hk973 => ?_)
  · have hX974 := hX.trans (if_neg hb971)
    refine p_aload 12 c55_11 rfl rfl ?_
    refine p_cS 15 [.ref 2] [] c55_12 rfl rfl rfl (fun k' hk' d' => d54 (f := f) (by omega) hc hA hR) (fun r1057 m1059 hF1055 hg1056 hR1060 n976 k975 hk975 => ?_)
    have hX1058 := hX974.trans (bI_s hF1055)
    refine p_if 20 18 c55_15 rfl rfl (yz_ne hg1056) (fun hb1061 k1062 hk1062 => ?_) (fun hb1061 k1063 hk1063 => ?_)
    · have hX1064 := hX1058.trans (if_neg hb1061)
      refine p_aload 21 c55_20 rfl rfl ?_
      refine p_cX 24 [.ref 2] [] c55_21 rfl rfl rfl (fun k' hk' d' => d38 hR1060) (fun hg1067 n1066 k1065 hk1065 => ?_)
      refine p_iconst 26 c55_24 rfl ?_
      refine p_icmp 31 29 c55_26 rfl rfl (yc_eq hg1067 (rgD rfl)) (fun hb1068 k1069 hk1069 => ?_) (fun hb1068 k1070 hk1070 => ?_)
      · have hX1071 := hX1064.trans (if_pos hb1068)
        refine p_aload 32 c55_31 rfl rfl ?_
        refine p_dup 33 c55_32 rfl rfl ?_
        refine p_getX 36 (m1059 2 2) c55_33 rfl kf2_2 rfl ?_
        refine p_iconst 37 c55_36 rfl ?_
        refine p_iadd 38 c55_37 rfl ?_
        refine p_putI 41 c55_38 rfl kf2_2 ?_
        have hR1072 := hR1060.up 2 2 (v := wr ((m1059 2 2) + 1)) (nselD rfl) (rg_wr _)
        refine p_aload 42 c55_41 rfl rfl ?_
        refine p_cS 45 [.ref 2] [] c55_42 rfl rfl rfl (fun k' hk' d' => d54 (f := f) (by omega) hc hA hR1072) (fun r1077 m1079 hF1075 hg1076 hR1080 n1074 k1073 hk1073 => ?_)
        have hX1078 := hX1071.trans (bI_s hF1075)
        exact p_ireturn c55_45 (Hr _ _ hX1078 hg1076 hR1080 _)
      · have hX1081 := hX1064.trans (if_neg hb1068)
        refine p_iconst 30 c55_29 rfl ?_
        exact p_ireturn c55_30 (Hr _ _ hX1081 (rgD rfl) hR1060 _)
    · have hX1082 := hX1058.trans (if_pos (Classical.not_not.mp hb1061))
      refine p_iconst 19 c55_18 rfl ?_
      exact p_ireturn c55_19 (Hr _ _ hX1082 (rgD rfl) hR1060 _)
  · have hX1083 := hX.trans (if_pos (Classical.not_not.mp hb971))
    refine p_iconst 10 c55_9 rfl ?_
    exact p_ireturn c55_10 (Hr _ _ hX1083 (rgD rfl) hR _)
def F56 (f : Nat) (A : Nat) (m : yM) : Option (Nat × yM) := (some (A + 20 + (m A 16).toNat, yup (yup (yup (yup m (A + 20 + (m A 16).toNat) 1 (wr ((m A 10) - 1))) (A + 20 + (m A 16).toNat) 2 ((-1))) (A + 20 + (m A 16).toNat) 8 0) A 16 (wr ((m A 16) + 1))))
set_option maxRecDepth 100000 in
theorem d56 {L : Nat} {xs : Nat → Int32} {k d n : Nat} {c : yS3} {f : Nat} {A : Nat} {m : yM} (hk : k ≤ f) (hA : (A = 256 ∨ A = 316)) (hR : RM c m) : PC (gZ L xs) k d 56 [.ref A] m n (qR c (fun a => (276 ≤ a ∧ a < 316) ∨ (336 ≤ a ∧ a < 376)) (F56 f A m)) := by
  have hX : F56 f A m = F56 f A m := rfl
  have Hr : ∀ r m', F56 f A m = some (r, m') → (fun a => (276 ≤ a ∧ a < 316) ∨ (336 ≤ a ∧ a < 376)) r → RM c m' → ∀ n' : Nat, (qR c (fun a => (276 ≤ a ∧ a < 316) ∨ (336 ≤ a ∧ a < 376)) (F56 f A m)) (.inl (some (.ref r))) m' n' := fun r m' e h1 h2 n' => ⟨r, rfl, h1, h2, e⟩
  refine PC.mk [some (.ref A), none] kn56 rfl ?_
  refine p_aload 1 c56_0 rfl rfl ?_
  refine p_getR 4 c56_1 rfl (kP_6 hA) ?_
  refine p_aload 5 c56_4 rfl rfl ?_
  refine p_getX 8 (m A 16) c56_5 rfl (kP_16 hA) rfl ?_
  refine p_aaX 9 c56_8 rfl (kPr_7 hA) (hR.rg _ _) (fun hx1146 => ?_)
  refine p_astore 10 c56_9 rfl rfl ?_
  refine p_aload 11 c56_10 rfl rfl ?_
  refine p_aload 12 c56_11 rfl rfl ?_
  refine p_getX 15 (m A 10) c56_12 rfl (kP_10 hA) rfl ?_
  refine p_iconst 16 c56_15 rfl ?_
  refine p_isub 17 c56_16 rfl ?_
  refine p_putI 20 c56_17 rfl (kS_1 (kSr hA hx1146)) ?_
  have hR1147 := hR.up (A + 20 + (m A 16).toNat) 1 (v := wr ((m A 10) - 1)) (nselA (by omega)) (rg_wr _)
  refine p_aload 21 c56_20 rfl rfl ?_
  refine p_iconst 22 c56_21 rfl ?_
  refine p_putI 25 c56_22 rfl (kS_2 (kSr hA hx1146)) ?_
  have hR1148 := hR1147.up (A + 20 + (m A 16).toNat) 2 (v := (-1)) (nselA (by omega)) (rgD rfl)
  refine p_aload 26 c56_25 rfl rfl ?_
  refine p_iconst 27 c56_26 rfl ?_
  refine p_putI 30 c56_27 rfl (kS_8 (kSr hA hx1146)) ?_
  have hR1149 := hR1148.up (A + 20 + (m A 16).toNat) 8 (v := 0) (nselA (by omega)) (rgD rfl)
  refine p_aload 31 c56_30 rfl rfl ?_
  refine p_dup 32 c56_31 rfl rfl ?_
  refine p_getX 35 (m A 16) c56_32 rfl (kP_16 hA) ((yup_na (by omega)).trans ((yup_na (by omega)).trans (yup_na (by omega)))) ?_
  refine p_iconst 36 c56_35 rfl ?_
  refine p_iadd 37 c56_36 rfl ?_
  refine p_putI 40 c56_37 rfl (kP_16 hA) ?_
  have hR1150 := hR1149.up A 16 (v := wr ((m A 16) + 1)) (nselA (by omega)) (rg_wr _)
  refine p_aload 41 c56_40 rfl rfl ?_
  exact p_areturn c56_41 (Hr _ _ hX ((kSr hA hx1146)) hR1150 _)
def F57 (a0 : Nat) (m : yM) : Int := (wr ((m a0 2) + 1))
set_option maxRecDepth 100000 in
theorem d57 {L : Nat} {xs : Nat → Int32} {k d n : Nat} {c : yS3} {a0 : Nat} {m : yM} (hm0 : (266 ≤ a0 ∧ a0 < 276) ∨ (326 ≤ a0 ∧ a0 < 336)) (hR : RM c m) : PC (gZ L xs) k d 57 [.ref a0] m n (qX m (F57 a0 m)) := by
  have hX : F57 a0 m = F57 a0 m := rfl
  have Hr : ∀ r, F57 a0 m = r → rg r → ∀ n' : Nat, (qX m (F57 a0 m)) (.inl (some (yI r))) m n' := fun r e h n' => by subst e; exact ⟨rfl, h, rfl⟩
  refine PC.mk [some (.ref a0)] kn57 rfl ?_
  refine p_aload 1 c57_0 rfl rfl ?_
  refine p_getX 4 (m a0 2) c57_1 rfl (kM_2 hm0) rfl ?_
  refine p_iconst 5 c57_4 rfl ?_
  refine p_iadd 6 c57_5 rfl ?_
  exact p_ireturn c57_6 (Hr _ hX (rg_wr _) _)
def J58_56 (f : Nat) (A : Nat) (x1 : Int) (m : yM) : Option (Int × yM) := (if x1 = (-1) then (bI (F43 f m) (fun r1199 m1201 => (some (x1, m1201)))) else (some (x1, yup m 2 2 (wr ((m 2 2) + 1)))))
set_option maxRecDepth 100000 in
theorem tJ58_56 {L : Nat} {xs : Nat → Int32} {Q : xO → yM → Nat → Prop} {k d n : Nat} {c : yS3} {f : Nat} {A : Nat} {x1 : Int} {m : yM} (hk : k ≤ f) (hc : c.1 = pX A) (hA : (A = 256 ∨ A = 316)) (gx1 : rg x1) (hR : RM c m) (Hr : ∀ r m', J58_56 f A x1 m = some (r, m') → rg r → RM c m' → ∀ n', Q (.inl (some (yI r))) m' n') : PW (gZ L xs) k 58 d 56 [some (.ref 2), some (yI x1)] [] m n Q := by
  have hX : J58_56 f A x1 m = J58_56 f A x1 m := rfl
  refine p_iload 57 c58_56 rfl rfl ?_
  refine p_iconst 58 c58_57 rfl ?_
  refine p_icmp 69 61 c58_58 rfl rfl (yc_ne gx1 (rgD rfl)) (fun hb1189 k1190 hk1190 => ?_) (fun hb1189 k1191 hk1191 => ?_)
  · have hX1192 := hX.trans (if_neg hb1189)
    refine p_aload 70 c58_69 rfl rfl ?_
    refine p_dup 71 c58_70 rfl rfl ?_
    refine p_getX 74 (m 2 2) c58_71 rfl kf2_2 rfl ?_
    refine p_iconst 75 c58_74 rfl ?_
    refine p_iadd 76 c58_75 rfl ?_
    refine p_putI 79 c58_76 rfl kf2_2 ?_
    have hR1193 := hR.up 2 2 (v := wr ((m 2 2) + 1)) (nselD rfl) (rg_wr _)
    refine p_iload 80 c58_79 rfl rfl ?_
    exact p_ireturn c58_80 (Hr _ _ hX1192 gx1 hR1193 _)
  · have hX1194 := hX.trans (if_pos (Classical.not_not.mp hb1189))
    refine p_aload 62 c58_61 rfl rfl ?_
    refine p_cS 65 [.ref 2] [] c58_62 rfl rfl rfl (fun k' hk' d' => d43 (f := f) (by omega) hR) (fun r1199 m1201 hF1197 hg1198 hR1202 n1196 k1195 hk1195 => ?_)
    have hX1200 := hX1194.trans (bI_s hF1197)
    refine p_pop 66 c58_65 rfl rfl ?_
    refine p_goto 79 c58_66 rfl ?_
    refine p_iload 80 c58_79 rfl rfl ?_
    exact p_ireturn c58_80 (Hr _ _ hX1200 gx1 hR1202 _)
def F58 (f : Nat) (A : Nat) (m : yM) : Option (Int × yM) := (if F38 m = 10 then (J58_56 f A (F57 (A + 10 + (wr ((m A 10) - 1)).toNat) m) m) else (if F38 m = 11 then (bI (F52 f A (F39 m) m) (fun r1211 m1213 => (J58_56 f A r1211 m1213))) else (J58_56 f A ((-1)) m)))
set_option maxRecDepth 100000 in
theorem d58 {L : Nat} {xs : Nat → Int32} {k d n : Nat} {c : yS3} {f : Nat} {A : Nat} {m : yM} (hk : k ≤ f) (hc : c.1 = pX A) (hA : (A = 256 ∨ A = 316)) (hR : RM c m) : PC (gZ L xs) k d 58 [.ref 2] m n (qS c (F58 f A m)) := by
  have hX : F58 f A m = F58 f A m := rfl
  have Hr : ∀ r m', F58 f A m = some (r, m') → rg r → RM c m' → ∀ n' : Nat, (qS c (F58 f A m)) (.inl (some (yI r))) m' n' := fun r m' e h1 h2 n' => ⟨r, rfl, h1, h2, e⟩
  refine PC.mk [some (.ref 2), none] kn58 rfl ?_
  refine p_iconst 1 c58_0 rfl ?_
  refine p_istore 2 c58_1 rfl rfl ?_
  refine p_aload 3 c58_2 rfl rfl ?_
  refine p_cX 6 [.ref 2] [] c58_3 rfl rfl rfl (fun k' hk' d' => d38 hR) (fun hg1177 n1176 k1175 hk1175 => ?_)
  refine p_iconst 8 c58_6 rfl ?_
  refine p_icmp 35 11 c58_8 rfl rfl (yc_ne hg1177 (rgD rfl)) (fun hb1178 k1179 hk1179 => ?_) (fun hb1178 k1180 hk1180 => ?_)
  · have hX1181 := hX.trans (if_neg hb1178)
    refine p_aload 36 c58_35 rfl rfl ?_
    refine p_cX 39 [.ref 2] [] c58_36 rfl rfl rfl (fun k' hk' d' => d38 hR) (fun hg1184 n1183 k1182 hk1182 => ?_)
    refine p_iconst 41 c58_39 rfl ?_
    refine p_icmp 56 44 c58_41 rfl rfl (yc_ne hg1184 (rgD rfl)) (fun hb1185 k1186 hk1186 => ?_) (fun hb1185 k1187 hk1187 => ?_)
    · have hX1188 := hX1181.trans (if_neg hb1185)
      exact tJ58_56 (f := f) (by omega) hc hA (rgD rfl) hR (fun r' m' e' => Hr r' m' (hX1188.trans e'))
    · have hX1203 := hX1181.trans (if_pos (Classical.not_not.mp hb1185))
      refine p_aload 45 c58_44 rfl rfl ?_
      refine p_getV 48 (.ref A) c58_45 rfl kf2_1 (pX_of hA hR.2.2.2.1 hc) ?_
      refine p_aload 49 c58_48 rfl rfl ?_
      refine p_cX 52 [.ref 2] [.ref A] c58_49 rfl rfl rfl (fun k' hk' d' => d39 hR) (fun hg1206 n1205 k1204 hk1204 => ?_)
      refine p_cS 55 [.ref A, yI (F39 m)] [] c58_52 rfl rfl rfl (fun k' hk' d' => d52 (f := f) (by omega) hA hg1206 hR) (fun r1211 m1213 hF1209 hg1210 hR1214 n1208 k1207 hk1207 => ?_)
      have hX1212 := hX1203.trans (bI_s hF1209)
      refine p_istore 56 c58_55 rfl rfl ?_
      exact tJ58_56 (f := f) (by omega) hc hA hg1210 hR1214 (fun r' m' e' => Hr r' m' (hX1212.trans e'))
  · have hX1215 := hX.trans (if_pos (Classical.not_not.mp hb1178))
    refine p_aload 12 c58_11 rfl rfl ?_
    refine p_getV 15 (.ref A) c58_12 rfl kf2_1 (pX_of hA hR.2.2.2.1 hc) ?_
    refine p_getR 18 c58_15 rfl (kP_5 hA) ?_
    refine p_aload 19 c58_18 rfl rfl ?_
    refine p_getV 22 (.ref A) c58_19 rfl kf2_1 (pX_of hA hR.2.2.2.1 hc) ?_
    refine p_getX 25 (m A 10) c58_22 rfl (kP_10 hA) rfl ?_
    refine p_iconst 26 c58_25 rfl ?_
    refine p_isub 27 c58_26 rfl ?_
    refine p_aaX 28 c58_27 rfl (kPr_6 hA) (rg_wr _) (fun hx1216 => ?_)
    refine p_cX 31 [.ref (A + 10 + (wr ((m A 10) - 1)).toNat)] [] c58_28 rfl rfl rfl (fun k' hk' d' => d57 (kMr hA hx1216) hR) (fun hg1219 n1218 k1217 hk1217 => ?_)
    refine p_istore 32 c58_31 rfl rfl ?_
    refine p_goto 56 c58_32 rfl ?_
    exact tJ58_56 (f := f) (by omega) hc hA hg1219 hR (fun r' m' e' => Hr r' m' (hX1215.trans e'))
def J59_15 (f : Nat) (rc : Int → yM → Option (Int × yM)) (A : Nat) (a1 : Nat) (x2 : Int) (as0 : Nat) (xs1 : Int) (m : yM) : Option (Int × yM) := (bI (F58 f A (yup (yup m as0 0 xs1) 2 2 (wr ((m 2 2) + 1)))) (fun r1222 m1224 => (if r1222 = (-1) then (some (0, yup m1224 a1 3 r1222)) else (bI (rc (wr (x2 + 1)) (yup m1224 a1 3 r1222)) (fun r1236 m1238 => (if r1236 = 0 then (some (0, m1238)) else (if m1238 a1 0 = 1 then (some (1, yup m1238 a1 11 (m1238 A 16))) else (if F38 (yup m1238 a1 11 (m1238 A 16)) = 7 then (bI (rc (wr (x2 + 1)) (yup (yup m1238 a1 11 (m1238 A 16)) 2 2 (wr ((m1238 2 2) + 1)))) (fun r1262 m1264 => (some (r1262, m1264)))) else (some (1, yup m1238 a1 11 (m1238 A 16)))))))))))
set_option maxRecDepth 100000 in
theorem tJ59_15 {L : Nat} {xs : Nat → Int32} {Q : xO → yM → Nat → Prop} {k d n : Nat} {c : yS3} {f : Nat} {rc : Int → yM → Option (Int × yM)} {A : Nat} {a1 : Nat} {x2 : Int} {as0 : Nat} {xs1 : Int} {m : yM} (hk : k ≤ f) (hrc : ∀ k', k' < k → ∀ {d' : Nat} {x1 : Int} {m' : yM} {n' : Nat}, rg x1 → RM c m' → PC (gZ L xs) k' d' 69 [.ref 2, yI x1] m' n' (qS c (rc x1 m'))) (hc : c.1 = pX A) (hA : (A = 256 ∨ A = 316)) (hs1 : (276 ≤ a1 ∧ a1 < 316) ∨ (336 ≤ a1 ∧ a1 < 376)) (gx2 : rg x2) (hss0 : (276 ≤ as0 ∧ as0 < 316) ∨ (336 ≤ as0 ∧ as0 < 376)) (gxs1 : rg xs1) (hR : RM c m) (Hr : ∀ r m', J59_15 f rc A a1 x2 as0 xs1 m = some (r, m') → rg r → RM c m' → ∀ n', Q (.inl (some (yI r))) m' n') : PW (gZ L xs) k 59 d 15 [some (.ref 2), some (.ref a1), some (yI x2)] [yI xs1, .ref as0] m n Q := by
  have hX : J59_15 f rc A a1 x2 as0 xs1 m = J59_15 f rc A a1 x2 as0 xs1 m := rfl
  refine p_putI 18 c59_15 rfl (kS_0 hss0) ?_
  have hR1171 := hR.up as0 0 (v := xs1) (nselA (by omega)) gxs1
  refine p_aload 19 c59_18 rfl rfl ?_
  refine p_dup 20 c59_19 rfl rfl ?_
  refine p_getX 23 (m 2 2) c59_20 rfl kf2_2 (yup_na (by omega)) ?_
  refine p_iconst 24 c59_23 rfl ?_
  refine p_iadd 25 c59_24 rfl ?_
  refine p_putI 28 c59_25 rfl kf2_2 ?_
  have hR1172 := hR1171.up 2 2 (v := wr ((m 2 2) + 1)) (nselD rfl) (rg_wr _)
  refine p_aload 29 c59_28 rfl rfl ?_
  refine p_aload 30 c59_29 rfl rfl ?_
  refine p_cS 33 [.ref 2] [.ref a1] c59_30 rfl rfl rfl (fun k' hk' d' => d58 (f := f) (by omega) hc hA hR1172) (fun r1222 m1224 hF1220 hg1221 hR1225 n1174 k1173 hk1173 => ?_)
  have hX1223 := hX.trans (bI_s hF1220)
  refine p_putI 36 c59_33 rfl (kS_3 hs1) ?_
  have hR1226 := hR1225.up a1 3 (v := r1222) (nselA (by omega)) hg1221
  refine p_aload 37 c59_36 rfl rfl ?_
  refine p_getX 40 r1222 c59_37 rfl (kS_3 hs1) (yup_eq _ _ _ _) ?_
  refine p_iconst 41 c59_40 rfl ?_
  refine p_icmp 54 44 c59_41 rfl rfl (yc_eq hg1221 (rgD rfl)) (fun hb1227 k1228 hk1228 => ?_) (fun hb1227 k1229 hk1229 => ?_)
  · have hX1230 := hX1223.trans (if_pos hb1227)
    refine p_iconst 55 c59_54 rfl ?_
    exact p_ireturn c59_55 (Hr _ _ hX1230 (rgD rfl) hR1226 _)
  · have hX1231 := hX1223.trans (if_neg hb1227)
    refine p_aload 45 c59_44 rfl rfl ?_
    refine p_iload 46 c59_45 rfl rfl ?_
    refine p_iconst 47 c59_46 rfl ?_
    refine p_iadd 48 c59_47 rfl ?_
    refine p_cS 51 [.ref 2, yI (wr (x2 + 1))] [] c59_48 rfl rfl rfl (fun k' hk' d' => hrc k' (by omega) (rg_wr _) hR1226) (fun r1236 m1238 hF1234 hg1235 hR1239 n1233 k1232 hk1232 => ?_)
    have hX1237 := hX1231.trans (bI_s hF1234)
    refine p_if 56 54 c59_51 rfl rfl (yz_ne hg1235) (fun hb1240 k1241 hk1241 => ?_) (fun hb1240 k1242 hk1242 => ?_)
    · have hX1243 := hX1237.trans (if_neg hb1240)
      refine p_aload 57 c59_56 rfl rfl ?_
      refine p_aload 58 c59_57 rfl rfl ?_
      refine p_getV 61 (.ref A) c59_58 rfl kf2_1 (pX_of hA hR1239.2.2.2.1 hc) ?_
      refine p_getX 64 (m1238 A 16) c59_61 rfl (kP_16 hA) rfl ?_
      refine p_putI 67 c59_64 rfl (kS_11 hs1) ?_
      have hR1244 := hR1239.up a1 11 (v := m1238 A 16) (nselA (by omega)) (hR1239.rg _ _)
      refine p_aload 68 c59_67 rfl rfl ?_
      refine p_getX 71 (m1238 a1 0) c59_68 rfl (kS_0 hs1) (yup_nk (by decide)) ?_
      refine p_iconst 72 c59_71 rfl ?_
      refine p_icmp 84 75 c59_72 rfl rfl (yc_eq (hR1239.rg _ _) (rgD rfl)) (fun hb1245 k1246 hk1246 => ?_) (fun hb1245 k1247 hk1247 => ?_)
      · have hX1248 := hX1243.trans (if_pos hb1245)
        refine p_iconst 85 c59_84 rfl ?_
        exact p_ireturn c59_85 (Hr _ _ hX1248 (rgD rfl) hR1244 _)
      · have hX1249 := hX1243.trans (if_neg hb1245)
        refine p_aload 76 c59_75 rfl rfl ?_
        refine p_cX 79 [.ref 2] [] c59_76 rfl rfl rfl (fun k' hk' d' => d38 hR1244) (fun hg1252 n1251 k1250 hk1250 => ?_)
        refine p_iconst 81 c59_79 rfl ?_
        refine p_icmp 86 84 c59_81 rfl rfl (yc_eq hg1252 (rgD rfl)) (fun hb1253 k1254 hk1254 => ?_) (fun hb1253 k1255 hk1255 => ?_)
        · have hX1256 := hX1249.trans (if_pos hb1253)
          refine p_aload 87 c59_86 rfl rfl ?_
          refine p_dup 88 c59_87 rfl rfl ?_
          refine p_getX 91 (m1238 2 2) c59_88 rfl kf2_2 (yup_na (by omega)) ?_
          refine p_iconst 92 c59_91 rfl ?_
          refine p_iadd 93 c59_92 rfl ?_
          refine p_putI 96 c59_93 rfl kf2_2 ?_
          have hR1257 := hR1244.up 2 2 (v := wr ((m1238 2 2) + 1)) (nselD rfl) (rg_wr _)
          refine p_aload 97 c59_96 rfl rfl ?_
          refine p_iload 98 c59_97 rfl rfl ?_
          refine p_iconst 99 c59_98 rfl ?_
          refine p_iadd 100 c59_99 rfl ?_
          refine p_cS 103 [.ref 2, yI (wr (x2 + 1))] [] c59_100 rfl rfl rfl (fun k' hk' d' => hrc k' (by omega) (rg_wr _) hR1257) (fun r1262 m1264 hF1260 hg1261 hR1265 n1259 k1258 hk1258 => ?_)
          have hX1263 := hX1256.trans (bI_s hF1260)
          exact p_ireturn c59_103 (Hr _ _ hX1263 hg1261 hR1265 _)
        · have hX1266 := hX1249.trans (if_neg hb1253)
          refine p_iconst 85 c59_84 rfl ?_
          exact p_ireturn c59_85 (Hr _ _ hX1266 (rgD rfl) hR1244 _)
    · have hX1267 := hX1237.trans (if_pos (Classical.not_not.mp hb1240))
      refine p_iconst 55 c59_54 rfl ?_
      exact p_ireturn c59_55 (Hr _ _ hX1267 (rgD rfl) hR1239 _)
def F59 (f : Nat) (rc : Int → yM → Option (Int × yM)) (A : Nat) (a1 : Nat) (x2 : Int) (m : yM) : Option (Int × yM) := (if F38 m = 6 then (J59_15 f rc A a1 x2 a1 0 m) else (J59_15 f rc A a1 x2 a1 1 m))
set_option maxRecDepth 100000 in
theorem d59 {L : Nat} {xs : Nat → Int32} {k d n : Nat} {c : yS3} {f : Nat} {rc : Int → yM → Option (Int × yM)} {A : Nat} {a1 : Nat} {x2 : Int} {m : yM} (hk : k ≤ f) (hrc : ∀ k', k' < k → ∀ {d' : Nat} {x1 : Int} {m' : yM} {n' : Nat}, rg x1 → RM c m' → PC (gZ L xs) k' d' 69 [.ref 2, yI x1] m' n' (qS c (rc x1 m'))) (hc : c.1 = pX A) (hA : (A = 256 ∨ A = 316)) (hs1 : (276 ≤ a1 ∧ a1 < 316) ∨ (336 ≤ a1 ∧ a1 < 376)) (gx2 : rg x2) (hR : RM c m) : PC (gZ L xs) k d 59 [.ref 2, .ref a1, yI x2] m n (qS c (F59 f rc A a1 x2 m)) := by
  have hX : F59 f rc A a1 x2 m = F59 f rc A a1 x2 m := rfl
  have Hr : ∀ r m', F59 f rc A a1 x2 m = some (r, m') → rg r → RM c m' → ∀ n' : Nat, (qS c (F59 f rc A a1 x2 m)) (.inl (some (yI r))) m' n' := fun r m' e h1 h2 n' => ⟨r, rfl, h1, h2, e⟩
  refine PC.mk [some (.ref 2), some (.ref a1), some (yI x2)] kn59 rfl ?_
  refine p_aload 1 c59_0 rfl rfl ?_
  refine p_aload 2 c59_1 rfl rfl ?_
  refine p_cX 5 [.ref 2] [.ref a1] c59_2 rfl rfl rfl (fun k' hk' d' => d38 hR) (fun hg1166 n1165 k1164 hk1164 => ?_)
  refine p_iconst 7 c59_5 rfl ?_
  refine p_icmp 14 10 c59_7 rfl rfl (yc_ne hg1166 (rgD rfl)) (fun hb1167 k1168 hk1168 => ?_) (fun hb1167 k1169 hk1169 => ?_)
  · have hX1170 := hX.trans (if_neg hb1167)
    refine p_iconst 15 c59_14 rfl ?_
    exact tJ59_15 (f := f) (by omega) (fun k' h' => hrc k' (by omega)) hc hA hs1 gx2 hs1 (rgD rfl) hR (fun r' m' e' => Hr r' m' (hX1170.trans e'))
  · have hX1268 := hX.trans (if_pos (Classical.not_not.mp hb1167))
    refine p_iconst 11 c59_10 rfl ?_
    refine p_goto 15 c59_11 rfl ?_
    exact tJ59_15 (f := f) (by omega) (fun k' h' => hrc k' (by omega)) hc hA hs1 gx2 hs1 (rgD rfl) hR (fun r' m' e' => Hr r' m' (hX1268.trans e'))
def F62 (f : Nat) (x1 : Int) (a2 : Nat) (m : yM) : Option (Int × yM) := (bI (F37 f x1 m) (fun r1317 m1319 => (if r1317 = 0 then (some (0, m1319)) else (bI (F37 f 11 (yup (yup m1319 a2 4 (m1319 7 (m1319 2 2).toNat)) a2 5 (m1319 6 (m1319 2 2).toNat))) (fun r1333 m1335 => (some (r1333, m1335)))))))
set_option maxRecDepth 100000 in
theorem d62 {L : Nat} {xs : Nat → Int32} {k d n : Nat} {c : yS3} {f : Nat} {x1 : Int} {a2 : Nat} {m : yM} (hk : k ≤ f) (gx1 : rg x1) (hs2 : (276 ≤ a2 ∧ a2 < 316) ∨ (336 ≤ a2 ∧ a2 < 376)) (hR : RM c m) : PC (gZ L xs) k d 62 [.ref 2, yI x1, .ref a2] m n (qS c (F62 f x1 a2 m)) := by
  have hX : F62 f x1 a2 m = F62 f x1 a2 m := rfl
  have Hr : ∀ r m', F62 f x1 a2 m = some (r, m') → rg r → RM c m' → ∀ n' : Nat, (qS c (F62 f x1 a2 m)) (.inl (some (yI r))) m' n' := fun r m' e h1 h2 n' => ⟨r, rfl, h1, h2, e⟩
  refine PC.mk [some (.ref 2), some (yI x1), some (.ref a2)] kn62 rfl ?_
  refine p_aload 1 c62_0 rfl rfl ?_
  refine p_iload 2 c62_1 rfl rfl ?_
  refine p_cS 5 [.ref 2, yI x1] [] c62_2 rfl rfl rfl (fun k' hk' d' => d37 (f := f) (by omega) gx1 hR) (fun r1317 m1319 hF1315 hg1316 hR1320 n1314 k1313 hk1313 => ?_)
  have hX1318 := hX.trans (bI_s hF1315)
  refine p_if 10 8 c62_5 rfl rfl (yz_ne hg1316) (fun hb1321 k1322 hk1322 => ?_) (fun hb1321 k1323 hk1323 => ?_)
  · have hX1324 := hX1318.trans (if_neg hb1321)
    refine p_aload 11 c62_10 rfl rfl ?_
    refine p_aload 12 c62_11 rfl rfl ?_
    refine p_getR 15 c62_12 rfl kf2_0 ?_
    refine p_getR 18 c62_15 rfl kf3_3 ?_
    refine p_aload 19 c62_18 rfl rfl ?_
    refine p_getX 22 (m1319 2 2) c62_19 rfl kf2_2 rfl ?_
    refine p_iaX 23 (m1319 7 (m1319 2 2).toNat) c62_22 rfl ka7 (hR1320.rg _ _) rfl (fun hx1325 => ?_)
    refine p_putI 26 c62_23 rfl (kS_4 hs2) ?_
    have hR1326 := hR1320.up a2 4 (v := m1319 7 (m1319 2 2).toNat) (nselA (by omega)) (hR1320.rg _ _)
    refine p_aload 27 c62_26 rfl rfl ?_
    refine p_aload 28 c62_27 rfl rfl ?_
    refine p_getR 31 c62_28 rfl kf2_0 ?_
    refine p_getR 34 c62_31 rfl kf3_2 ?_
    refine p_aload 35 c62_34 rfl rfl ?_
    refine p_getX 38 (m1319 2 2) c62_35 rfl kf2_2 (yup_na (by omega)) ?_
    refine p_iaX 39 (m1319 6 (m1319 2 2).toNat) c62_38 rfl ka6 (hR1320.rg _ _) (yup_na (by omega)) (fun hx1327 => ?_)
    refine p_putI 42 c62_39 rfl (kS_5 hs2) ?_
    have hR1328 := hR1326.up a2 5 (v := m1319 6 (m1319 2 2).toNat) (nselA (by omega)) (hR1320.rg _ _)
    refine p_aload 43 c62_42 rfl rfl ?_
    refine p_iconst 45 c62_43 rfl ?_
    refine p_cS 48 [.ref 2, yI 11] [] c62_45 rfl rfl rfl (fun k' hk' d' => d37 (f := f) (by omega) (rgD rfl) hR1328) (fun r1333 m1335 hF1331 hg1332 hR1336 n1330 k1329 hk1329 => ?_)
    have hX1334 := hX1324.trans (bI_s hF1331)
    exact p_ireturn c62_48 (Hr _ _ hX1334 hg1332 hR1336 _)
  · have hX1337 := hX1318.trans (if_pos (Classical.not_not.mp hb1321))
    refine p_iconst 9 c62_8 rfl ?_
    exact p_ireturn c62_9 (Hr _ _ hX1337 (rgD rfl) hR1320 _)
def F67 (f : Nat) (A : Nat) (a1 : Nat) (m : yM) : Option (Int × yM) := (bI (F37 f 61 (yup (yup m a1 0 3) a1 2 (m a1 3))) (fun r1365 m1367 => (if r1365 = 0 then (some (0, m1367)) else (bI (F58 f A m1367) (fun r1377 m1379 => (if r1377 = (-1) then (some (0, yup m1379 a1 3 r1377)) else (some (1, yup m1379 a1 3 r1377))))))))
set_option maxRecDepth 100000 in
theorem d67 {L : Nat} {xs : Nat → Int32} {k d n : Nat} {c : yS3} {f : Nat} {A : Nat} {a1 : Nat} {m : yM} (hk : k ≤ f) (hc : c.1 = pX A) (hA : (A = 256 ∨ A = 316)) (hs1 : (276 ≤ a1 ∧ a1 < 316) ∨ (336 ≤ a1 ∧ a1 < 376)) (hR : RM c m) : PC (gZ L xs) k d 67 [.ref 2, .ref a1] m n (qS c (F67 f A a1 m)) := by
  have hX : F67 f A a1 m = F67 f A a1 m := rfl
  have Hr : ∀ r m', F67 f A a1 m = some (r, m') → rg r → RM c m' → ∀ n' : Nat, (qS c (F67 f A a1 m)) (.inl (some (yI r))) m' n' := fun r m' e h1 h2 n' => ⟨r, rfl, h1, h2, e⟩
  refine PC.mk [some (.ref 2), some (.ref a1)] kn67 rfl ?_
  refine p_aload 1 c67_0 rfl rfl ?_
  refine p_iconst 2 c67_1 rfl ?_
  refine p_putI 5 c67_2 rfl (kS_0 hs1) ?_
  have hR1359 := hR.up a1 0 (v := 3) (nselA (by omega)) (rgD rfl)
  refine p_aload 6 c67_5 rfl rfl ?_
  refine p_aload 7 c67_6 rfl rfl ?_
  refine p_getX 10 (m a1 3) c67_7 rfl (kS_3 hs1) (yup_nk (by decide)) ?_
  refine p_putI 13 c67_10 rfl (kS_2 hs1) ?_
  have hR1360 := hR1359.up a1 2 (v := m a1 3) (nselA (by omega)) (hR.rg _ _)
  refine p_aload 14 c67_13 rfl rfl ?_
  refine p_iconst 16 c67_14 rfl ?_
  refine p_cS 19 [.ref 2, yI 61] [] c67_16 rfl rfl rfl (fun k' hk' d' => d37 (f := f) (by omega) (rgD rfl) hR1360) (fun r1365 m1367 hF1363 hg1364 hR1368 n1362 k1361 hk1361 => ?_)
  have hX1366 := hX.trans (bI_s hF1363)
  refine p_if 24 22 c67_19 rfl rfl (yz_ne hg1364) (fun hb1369 k1370 hk1370 => ?_) (fun hb1369 k1371 hk1371 => ?_)
  · have hX1372 := hX1366.trans (if_neg hb1369)
    refine p_aload 25 c67_24 rfl rfl ?_
    refine p_aload 26 c67_25 rfl rfl ?_
    refine p_cS 29 [.ref 2] [.ref a1] c67_26 rfl rfl rfl (fun k' hk' d' => d58 (f := f) (by omega) hc hA hR1368) (fun r1377 m1379 hF1375 hg1376 hR1380 n1374 k1373 hk1373 => ?_)
    have hX1378 := hX1372.trans (bI_s hF1375)
    refine p_putI 32 c67_29 rfl (kS_3 hs1) ?_
    have hR1381 := hR1380.up a1 3 (v := r1377) (nselA (by omega)) hg1376
    refine p_aload 33 c67_32 rfl rfl ?_
    refine p_getX 36 r1377 c67_33 rfl (kS_3 hs1) (yup_eq _ _ _ _) ?_
    refine p_iconst 37 c67_36 rfl ?_
    refine p_icmp 44 40 c67_37 rfl rfl (yc_eq hg1376 (rgD rfl)) (fun hb1382 k1383 hk1383 => ?_) (fun hb1382 k1384 hk1384 => ?_)
    · have hX1385 := hX1378.trans (if_pos hb1382)
      refine p_iconst 45 c67_44 rfl ?_
      exact p_ireturn c67_45 (Hr _ _ hX1385 (rgD rfl) hR1381 _)
    · have hX1386 := hX1378.trans (if_neg hb1382)
      refine p_iconst 41 c67_40 rfl ?_
      refine p_goto 45 c67_41 rfl ?_
      exact p_ireturn c67_45 (Hr _ _ hX1386 (rgD rfl) hR1381 _)
  · have hX1387 := hX1366.trans (if_pos (Classical.not_not.mp hb1369))
    refine p_iconst 23 c67_22 rfl ?_
    exact p_ireturn c67_23 (Hr _ _ hX1387 (rgD rfl) hR1368 _)
def F65 (f : Nat) (A : Nat) (a1 : Nat) (m : yM) : Option (Int × yM) := (if m A 12 = 12 then (some (0, m)) else (some (1, yup (yup (yup m a1 0 4) a1 6 (m A 12)) A 12 (wr ((m A 12) + 1)))))
set_option maxRecDepth 100000 in
theorem d65 {L : Nat} {xs : Nat → Int32} {k d n : Nat} {c : yS3} {f : Nat} {A : Nat} {a1 : Nat} {m : yM} (hk : k ≤ f) (hA : (A = 256 ∨ A = 316)) (hs1 : (276 ≤ a1 ∧ a1 < 316) ∨ (336 ≤ a1 ∧ a1 < 376)) (hR : RM c m) : PC (gZ L xs) k d 65 [.ref A, .ref a1] m n (qS c (F65 f A a1 m)) := by
  have hX : F65 f A a1 m = F65 f A a1 m := rfl
  have Hr : ∀ r m', F65 f A a1 m = some (r, m') → rg r → RM c m' → ∀ n' : Nat, (qS c (F65 f A a1 m)) (.inl (some (yI r))) m' n' := fun r m' e h1 h2 n' => ⟨r, rfl, h1, h2, e⟩
  refine PC.mk [some (.ref A), some (.ref a1)] kn65 rfl ?_
  refine p_aload 1 c65_0 rfl rfl ?_
  refine p_getX 4 (m A 12) c65_1 rfl (kP_12 hA) rfl ?_
  refine p_iconst 6 c65_4 rfl ?_
  refine p_icmp 11 9 c65_6 rfl rfl (yc_ne (hR.rg _ _) (rgD rfl)) (fun hb1412 k1413 hk1413 => ?_) (fun hb1412 k1414 hk1414 => ?_)
  · have hX1415 := hX.trans (if_neg hb1412)
    refine p_aload 12 c65_11 rfl rfl ?_
    refine p_iconst 13 c65_12 rfl ?_
    refine p_putI 16 c65_13 rfl (kS_0 hs1) ?_
    have hR1416 := hR.up a1 0 (v := 4) (nselA (by omega)) (rgD rfl)
    refine p_aload 17 c65_16 rfl rfl ?_
    refine p_aload 18 c65_17 rfl rfl ?_
    refine p_getX 21 (m A 12) c65_18 rfl (kP_12 hA) (yup_na (by omega)) ?_
    refine p_putI 24 c65_21 rfl (kS_6 hs1) ?_
    have hR1417 := hR1416.up a1 6 (v := m A 12) (nselA (by omega)) (hR.rg _ _)
    refine p_aload 25 c65_24 rfl rfl ?_
    refine p_dup 26 c65_25 rfl rfl ?_
    refine p_getX 29 (m A 12) c65_26 rfl (kP_12 hA) ((yup_na (by omega)).trans (yup_na (by omega))) ?_
    refine p_iconst 30 c65_29 rfl ?_
    refine p_iadd 31 c65_30 rfl ?_
    refine p_putI 34 c65_31 rfl (kP_12 hA) ?_
    have hR1418 := hR1417.up A 12 (v := wr ((m A 12) + 1)) (nselA (by omega)) (rg_wr _)
    refine p_iconst 35 c65_34 rfl ?_
    exact p_ireturn c65_35 (Hr _ _ hX1415 (rgD rfl) hR1418 _)
  · have hX1419 := hX.trans (if_pos (Classical.not_not.mp hb1412))
    refine p_iconst 10 c65_9 rfl ?_
    exact p_ireturn c65_10 (Hr _ _ hX1419 (rgD rfl) hR _)
def J66_113 (f : Nat) (A : Nat) (m : yM) : Option (Int × yM) := (bI (F37 f 41 m) (fun r1446 m1448 => (some (r1446, m1448))))
set_option maxRecDepth 100000 in
theorem tJ66_113 {L : Nat} {xs : Nat → Int32} {Q : xO → yM → Nat → Prop} {k d n : Nat} {c : yS3} {f : Nat} {A : Nat} {m : yM} {j1 : Option Value} (hk : k ≤ f) (hc : c.1 = pX A) (hA : (A = 256 ∨ A = 316)) (hR : RM c m) (Hr : ∀ r m', J66_113 f A m = some (r, m') → rg r → RM c m' → ∀ n', Q (.inl (some (yI r))) m' n') : PW (gZ L xs) k 66 d 113 [some (.ref 2), j1] [] m n Q := by
  have hX : J66_113 f A m = J66_113 f A m := rfl
  refine p_aload 114 c66_113 rfl rfl ?_
  refine p_iconst 116 c66_114 rfl ?_
  refine p_cS 119 [.ref 2, yI 41] [] c66_116 rfl rfl rfl (fun k' hk' d' => d37 (f := f) (by omega) (rgD rfl) hR) (fun r1446 m1448 hF1444 hg1445 hR1449 n1443 k1442 hk1442 => ?_)
  have hX1447 := hX.trans (bI_s hF1444)
  exact p_ireturn c66_119 (Hr _ _ hX1447 hg1445 hR1449 _)
def J66_63 (f : Nat) (A : Nat) (a1 : Nat) (m : yM) : Option (Int × yM) := (if m a1 8 = 1 then (if F38 m = 44 then (bI (F58 f A (yup m 2 2 (wr ((m 2 2) + 1)))) (fun r1464 m1466 => (if r1464 = (-1) then (some (0, yup (yup m1466 a1 10 r1464) a1 8 2)) else (J66_113 f A (yup (yup m1466 a1 10 r1464) a1 8 2))))) else (J66_113 f A m)) else (J66_113 f A m))
set_option maxRecDepth 100000 in
theorem tJ66_63 {L : Nat} {xs : Nat → Int32} {Q : xO → yM → Nat → Prop} {k d n : Nat} {c : yS3} {f : Nat} {A : Nat} {a1 : Nat} {m : yM} (hk : k ≤ f) (hc : c.1 = pX A) (hA : (A = 256 ∨ A = 316)) (hs1 : (276 ≤ a1 ∧ a1 < 316) ∨ (336 ≤ a1 ∧ a1 < 376)) (hR : RM c m) (Hr : ∀ r m', J66_63 f A a1 m = some (r, m') → rg r → RM c m' → ∀ n', Q (.inl (some (yI r))) m' n') : PW (gZ L xs) k 66 d 63 [some (.ref 2), some (.ref a1)] [] m n Q := by
  have hX : J66_63 f A a1 m = J66_63 f A a1 m := rfl
  refine p_aload 64 c66_63 rfl rfl ?_
  refine p_getX 67 (m a1 8) c66_64 rfl (kS_8 hs1) rfl ?_
  refine p_iconst 68 c66_67 rfl ?_
  refine p_icmp 113 71 c66_68 rfl rfl (yc_ne (hR.rg _ _) (rgD rfl)) (fun hb1438 k1439 hk1439 => ?_) (fun hb1438 k1440 hk1440 => ?_)
  · have hX1441 := hX.trans (if_neg hb1438)
    exact tJ66_113 (f := f) (by omega) hc hA hR (fun r' m' e' => Hr r' m' (hX1441.trans e'))
  · have hX1450 := hX.trans (if_pos (Classical.not_not.mp hb1438))
    refine p_aload 72 c66_71 rfl rfl ?_
    refine p_cX 75 [.ref 2] [] c66_72 rfl rfl rfl (fun k' hk' d' => d38 hR) (fun hg1453 n1452 k1451 hk1451 => ?_)
    refine p_iconst 77 c66_75 rfl ?_
    refine p_icmp 113 80 c66_77 rfl rfl (yc_ne hg1453 (rgD rfl)) (fun hb1454 k1455 hk1455 => ?_) (fun hb1454 k1456 hk1456 => ?_)
    · have hX1457 := hX1450.trans (if_neg hb1454)
      exact tJ66_113 (f := f) (by omega) hc hA hR (fun r' m' e' => Hr r' m' (hX1457.trans e'))
    · have hX1458 := hX1450.trans (if_pos (Classical.not_not.mp hb1454))
      refine p_aload 81 c66_80 rfl rfl ?_
      refine p_dup 82 c66_81 rfl rfl ?_
      refine p_getX 85 (m 2 2) c66_82 rfl kf2_2 rfl ?_
      refine p_iconst 86 c66_85 rfl ?_
      refine p_iadd 87 c66_86 rfl ?_
      refine p_putI 90 c66_87 rfl kf2_2 ?_
      have hR1459 := hR.up 2 2 (v := wr ((m 2 2) + 1)) (nselD rfl) (rg_wr _)
      refine p_aload 91 c66_90 rfl rfl ?_
      refine p_aload 92 c66_91 rfl rfl ?_
      refine p_cS 95 [.ref 2] [.ref a1] c66_92 rfl rfl rfl (fun k' hk' d' => d58 (f := f) (by omega) hc hA hR1459) (fun r1464 m1466 hF1462 hg1463 hR1467 n1461 k1460 hk1460 => ?_)
      have hX1465 := hX1458.trans (bI_s hF1462)
      refine p_putI 98 c66_95 rfl (kS_10 hs1) ?_
      have hR1468 := hR1467.up a1 10 (v := r1464) (nselA (by omega)) hg1463
      refine p_aload 99 c66_98 rfl rfl ?_
      refine p_iconst 100 c66_99 rfl ?_
      refine p_putI 103 c66_100 rfl (kS_8 hs1) ?_
      have hR1469 := hR1468.up a1 8 (v := 2) (nselA (by omega)) (rgD rfl)
      refine p_aload 104 c66_103 rfl rfl ?_
      refine p_getX 107 r1464 c66_104 rfl (kS_10 hs1) ((yup_nk (by decide)).trans (yup_eq _ _ _ _)) ?_
      refine p_iconst 108 c66_107 rfl ?_
      refine p_icmp 113 111 c66_108 rfl rfl (yc_ne hg1463 (rgD rfl)) (fun hb1470 k1471 hk1471 => ?_) (fun hb1470 k1472 hk1472 => ?_)
      · have hX1473 := hX1465.trans (if_neg hb1470)
        exact tJ66_113 (f := f) (by omega) hc hA hR1469 (fun r' m' e' => Hr r' m' (hX1473.trans e'))
      · have hX1474 := hX1465.trans (if_pos (Classical.not_not.mp hb1470))
        refine p_iconst 112 c66_111 rfl ?_
        exact p_ireturn c66_112 (Hr _ _ hX1474 (rgD rfl) hR1469 _)
def F66 (f : Nat) (A : Nat) (a1 : Nat) (m : yM) : Option (Int × yM) := (bI (F65 f A a1 m) (fun r1422 m1424 => (if r1422 = 0 then (some (0, yup m1424 2 4 (m1424 a1 5))) else (if F38 (yup m1424 2 2 (wr ((m1424 2 2) + 1))) = 41 then (J66_63 f A a1 (yup m1424 2 2 (wr ((m1424 2 2) + 1)))) else (bI (F58 f A (yup m1424 2 2 (wr ((m1424 2 2) + 1)))) (fun r1480 m1482 => (if r1480 = (-1) then (some (0, yup (yup m1482 a1 9 r1480) a1 8 1)) else (J66_63 f A a1 (yup (yup m1482 a1 9 r1480) a1 8 1)))))))))
set_option maxRecDepth 100000 in
theorem d66 {L : Nat} {xs : Nat → Int32} {k d n : Nat} {c : yS3} {f : Nat} {A : Nat} {a1 : Nat} {m : yM} (hk : k ≤ f) (hc : c.1 = pX A) (hA : (A = 256 ∨ A = 316)) (hs1 : (276 ≤ a1 ∧ a1 < 316) ∨ (336 ≤ a1 ∧ a1 < 376)) (hR : RM c m) : PC (gZ L xs) k d 66 [.ref 2, .ref a1] m n (qS c (F66 f A a1 m)) := by
  have hX : F66 f A a1 m = F66 f A a1 m := rfl
  have Hr : ∀ r m', F66 f A a1 m = some (r, m') → rg r → RM c m' → ∀ n' : Nat, (qS c (F66 f A a1 m)) (.inl (some (yI r))) m' n' := fun r m' e h1 h2 n' => ⟨r, rfl, h1, h2, e⟩
  refine PC.mk [some (.ref 2), some (.ref a1)] kn66 rfl ?_
  refine p_aload 1 c66_0 rfl rfl ?_
  refine p_getV 4 (.ref A) c66_1 rfl kf2_1 (pX_of hA hR.2.2.2.1 hc) ?_
  refine p_aload 5 c66_4 rfl rfl ?_
  refine p_cS 8 [.ref A, .ref a1] [] c66_5 rfl rfl rfl (fun k' hk' d' => d65 (f := f) (by omega) hA hs1 hR) (fun r1422 m1424 hF1420 hg1421 hR1425 n1411 k1410 hk1410 => ?_)
  have hX1423 := hX.trans (bI_s hF1420)
  refine p_if 21 11 c66_8 rfl rfl (yz_ne hg1421) (fun hb1426 k1427 hk1427 => ?_) (fun hb1426 k1428 hk1428 => ?_)
  · have hX1429 := hX1423.trans (if_neg hb1426)
    refine p_aload 22 c66_21 rfl rfl ?_
    refine p_dup 23 c66_22 rfl rfl ?_
    refine p_getX 26 (m1424 2 2) c66_23 rfl kf2_2 rfl ?_
    refine p_iconst 27 c66_26 rfl ?_
    refine p_iadd 28 c66_27 rfl ?_
    refine p_putI 31 c66_28 rfl kf2_2 ?_
    have hR1430 := hR1425.up 2 2 (v := wr ((m1424 2 2) + 1)) (nselD rfl) (rg_wr _)
    refine p_aload 32 c66_31 rfl rfl ?_
    refine p_cX 35 [.ref 2] [] c66_32 rfl rfl rfl (fun k' hk' d' => d38 hR1430) (fun hg1433 n1432 k1431 hk1431 => ?_)
    refine p_iconst 37 c66_35 rfl ?_
    refine p_icmp 63 40 c66_37 rfl rfl (yc_eq hg1433 (rgD rfl)) (fun hb1434 k1435 hk1435 => ?_) (fun hb1434 k1436 hk1436 => ?_)
    · have hX1437 := hX1429.trans (if_pos hb1434)
      exact tJ66_63 (f := f) (by omega) hc hA hs1 hR1430 (fun r' m' e' => Hr r' m' (hX1437.trans e'))
    · have hX1475 := hX1429.trans (if_neg hb1434)
      refine p_aload 41 c66_40 rfl rfl ?_
      refine p_aload 42 c66_41 rfl rfl ?_
      refine p_cS 45 [.ref 2] [.ref a1] c66_42 rfl rfl rfl (fun k' hk' d' => d58 (f := f) (by omega) hc hA hR1430) (fun r1480 m1482 hF1478 hg1479 hR1483 n1477 k1476 hk1476 => ?_)
      have hX1481 := hX1475.trans (bI_s hF1478)
      refine p_putI 48 c66_45 rfl (kS_9 hs1) ?_
      have hR1484 := hR1483.up a1 9 (v := r1480) (nselA (by omega)) hg1479
      refine p_aload 49 c66_48 rfl rfl ?_
      refine p_iconst 50 c66_49 rfl ?_
      refine p_putI 53 c66_50 rfl (kS_8 hs1) ?_
      have hR1485 := hR1484.up a1 8 (v := 1) (nselA (by omega)) (rgD rfl)
      refine p_aload 54 c66_53 rfl rfl ?_
      refine p_getX 57 r1480 c66_54 rfl (kS_9 hs1) ((yup_nk (by decide)).trans (yup_eq _ _ _ _)) ?_
      refine p_iconst 58 c66_57 rfl ?_
      refine p_icmp 63 61 c66_58 rfl rfl (yc_ne hg1479 (rgD rfl)) (fun hb1486 k1487 hk1487 => ?_) (fun hb1486 k1488 hk1488 => ?_)
      · have hX1489 := hX1481.trans (if_neg hb1486)
        exact tJ66_63 (f := f) (by omega) hc hA hs1 hR1485 (fun r' m' e' => Hr r' m' (hX1489.trans e'))
      · have hX1490 := hX1481.trans (if_pos (Classical.not_not.mp hb1486))
        refine p_iconst 62 c66_61 rfl ?_
        exact p_ireturn c66_62 (Hr _ _ hX1490 (rgD rfl) hR1485 _)
  · have hX1491 := hX1423.trans (if_pos (Classical.not_not.mp hb1426))
    refine p_aload 12 c66_11 rfl rfl ?_
    refine p_aload 13 c66_12 rfl rfl ?_
    refine p_getX 16 (m1424 a1 5) c66_13 rfl (kS_5 hs1) rfl ?_
    refine p_putI 19 c66_16 rfl kf2_4 ?_
    have hR1492 := hR1425.up 2 4 (v := m1424 a1 5) (nselD rfl) (hR1425.rg _ _)
    refine p_iconst 20 c66_19 rfl ?_
    exact p_ireturn c66_20 (Hr _ _ hX1491 (rgD rfl) hR1492 _)
end
section
/-! FUNCTIONS OF THE METHODS: printed by wip/fn/dc.py -/
def F61 (f : Nat) (A : Nat) (a1 : Nat) (m : yM) : Option (Int × yM) := (if m A 14 = 12 then (some (0, m)) else (some (1, yup (yup (yup m a1 0 5) a1 6 (m A 14)) A 14 (wr ((m A 14) + 1)))))
set_option maxRecDepth 100000 in
theorem d61 {L : Nat} {xs : Nat → Int32} {k d n : Nat} {c : yS3} {f : Nat} {A : Nat} {a1 : Nat} {m : yM} (hk : k ≤ f) (hA : (A = 256 ∨ A = 316)) (hs1 : (276 ≤ a1 ∧ a1 < 316) ∨ (336 ≤ a1 ∧ a1 < 376)) (hR : RM c m) : PC (gZ L xs) k d 61 [.ref A, .ref a1] m n (qS c (F61 f A a1 m)) := by
  have hX : F61 f A a1 m = F61 f A a1 m := rfl
  have Hr : ∀ r m', F61 f A a1 m = some (r, m') → rg r → RM c m' → ∀ n' : Nat, (qS c (F61 f A a1 m)) (.inl (some (yI r))) m' n' := fun r m' e h1 h2 n' => ⟨r, rfl, h1, h2, e⟩
  refine PC.mk [some (.ref A), some (.ref a1)] kn61 rfl ?_
  refine p_aload 1 c61_0 rfl rfl ?_
  refine p_getX 4 (m A 14) c61_1 rfl (kP_14 hA) rfl ?_
  refine p_iconst 6 c61_4 rfl ?_
  refine p_icmp 11 9 c61_6 rfl rfl (yc_ne (hR.rg _ _) (rgD rfl)) (fun hb1512 k1513 hk1513 => ?_) (fun hb1512 k1514 hk1514 => ?_)
  · have hX1515 := hX.trans (if_neg hb1512)
    refine p_aload 12 c61_11 rfl rfl ?_
    refine p_iconst 13 c61_12 rfl ?_
    refine p_putI 16 c61_13 rfl (kS_0 hs1) ?_
    have hR1516 := hR.up a1 0 (v := 5) (nselA (by omega)) (rgD rfl)
    refine p_aload 17 c61_16 rfl rfl ?_
    refine p_aload 18 c61_17 rfl rfl ?_
    refine p_getX 21 (m A 14) c61_18 rfl (kP_14 hA) (yup_na (by omega)) ?_
    refine p_putI 24 c61_21 rfl (kS_6 hs1) ?_
    have hR1517 := hR1516.up a1 6 (v := m A 14) (nselA (by omega)) (hR.rg _ _)
    refine p_aload 25 c61_24 rfl rfl ?_
    refine p_dup 26 c61_25 rfl rfl ?_
    refine p_getX 29 (m A 14) c61_26 rfl (kP_14 hA) ((yup_na (by omega)).trans (yup_na (by omega))) ?_
    refine p_iconst 30 c61_29 rfl ?_
    refine p_iadd 31 c61_30 rfl ?_
    refine p_putI 34 c61_31 rfl (kP_14 hA) ?_
    have hR1518 := hR1517.up A 14 (v := wr ((m A 14) + 1)) (nselA (by omega)) (rg_wr _)
    refine p_iconst 35 c61_34 rfl ?_
    exact p_ireturn c61_35 (Hr _ _ hX1515 (rgD rfl) hR1518 _)
  · have hX1519 := hX.trans (if_pos (Classical.not_not.mp hb1512))
    refine p_iconst 10 c61_9 rfl ?_
    exact p_ireturn c61_10 (Hr _ _ hX1519 (rgD rfl) hR _)
def F63 (f : Nat) (A : Nat) (a1 : Nat) (m : yM) : Option (Int × yM) := (if m A 13 = 8 then (some (0, m)) else (some (1, yup (yup (yup m a1 0 7) (A + 9) (m A 13).toNat (wr ((m A 16) - 1))) A 13 (wr ((m A 13) + 1)))))
set_option maxRecDepth 100000 in
theorem d63 {L : Nat} {xs : Nat → Int32} {k d n : Nat} {c : yS3} {f : Nat} {A : Nat} {a1 : Nat} {m : yM} (hk : k ≤ f) (hA : (A = 256 ∨ A = 316)) (hs1 : (276 ≤ a1 ∧ a1 < 316) ∨ (336 ≤ a1 ∧ a1 < 376)) (hR : RM c m) : PC (gZ L xs) k d 63 [.ref A, .ref a1] m n (qS c (F63 f A a1 m)) := by
  have hX : F63 f A a1 m = F63 f A a1 m := rfl
  have Hr : ∀ r m', F63 f A a1 m = some (r, m') → rg r → RM c m' → ∀ n' : Nat, (qS c (F63 f A a1 m)) (.inl (some (yI r))) m' n' := fun r m' e h1 h2 n' => ⟨r, rfl, h1, h2, e⟩
  refine PC.mk [some (.ref A), some (.ref a1)] kn63 rfl ?_
  refine p_aload 1 c63_0 rfl rfl ?_
  refine p_getX 4 (m A 13) c63_1 rfl (kP_13 hA) rfl ?_
  refine p_iconst 6 c63_4 rfl ?_
  refine p_icmp 11 9 c63_6 rfl rfl (yc_ne (hR.rg _ _) (rgD rfl)) (fun hb1564 k1565 hk1565 => ?_) (fun hb1564 k1566 hk1566 => ?_)
  · have hX1567 := hX.trans (if_neg hb1564)
    refine p_aload 12 c63_11 rfl rfl ?_
    refine p_iconst 14 c63_12 rfl ?_
    refine p_putI 17 c63_14 rfl (kS_0 hs1) ?_
    have hR1568 := hR.up a1 0 (v := 7) (nselA (by omega)) (rgD rfl)
    refine p_aload 18 c63_17 rfl rfl ?_
    refine p_getR 21 c63_18 rfl (kP_8 hA) ?_
    refine p_aload 22 c63_21 rfl rfl ?_
    refine p_getX 25 (m A 13) c63_22 rfl (kP_13 hA) (yup_na (by omega)) ?_
    refine p_aload 26 c63_25 rfl rfl ?_
    refine p_getX 29 (m A 16) c63_26 rfl (kP_16 hA) (yup_na (by omega)) ?_
    refine p_iconst 30 c63_29 rfl ?_
    refine p_isub 31 c63_30 rfl ?_
    refine p_iaS 32 c63_31 rfl (kPa_9 hA) (hR.rg _ _) (wr ((m A 16) - 1)) (nar0 (rg_wr _)) (fun hx1569 => ?_)
    have hR1570 := hR1568.up (A + 9) (m A 13).toNat (v := wr ((m A 16) - 1)) (nselA (by omega)) (rg_wr _)
    refine p_aload 33 c63_32 rfl rfl ?_
    refine p_dup 34 c63_33 rfl rfl ?_
    refine p_getX 37 (m A 13) c63_34 rfl (kP_13 hA) ((yup_na (by omega)).trans (yup_na (by omega))) ?_
    refine p_iconst 38 c63_37 rfl ?_
    refine p_iadd 39 c63_38 rfl ?_
    refine p_putI 42 c63_39 rfl (kP_13 hA) ?_
    have hR1571 := hR1570.up A 13 (v := wr ((m A 13) + 1)) (nselA (by omega)) (rg_wr _)
    refine p_iconst 43 c63_42 rfl ?_
    exact p_ireturn c63_43 (Hr _ _ hX1567 (rgD rfl) hR1571 _)
  · have hX1572 := hX.trans (if_pos (Classical.not_not.mp hb1564))
    refine p_iconst 10 c63_9 rfl ?_
    exact p_ireturn c63_10 (Hr _ _ hX1572 (rgD rfl) hR _)
def J64_161 (f : Nat) (A : Nat) (a1 : Nat) (as0 : Nat) (xs1 : Int) (m : yM) : Option (Int × yM) := (if (yup m as0 0 xs1) a1 3 = (-1) then (some (0, yup m as0 0 xs1)) else (if (yup m as0 0 xs1) a1 0 = 8 then (some (1, yup m as0 0 xs1)) else (bI (F62 f 46 a1 (yup m as0 0 xs1)) (fun r1664 m1666 => (if r1664 = 0 then (some (0, m1666)) else (some (1, m1666)))))))
set_option maxRecDepth 100000 in
theorem tJ64_161 {L : Nat} {xs : Nat → Int32} {Q : xO → yM → Nat → Prop} {k d n : Nat} {c : yS3} {f : Nat} {A : Nat} {a1 : Nat} {as0 : Nat} {xs1 : Int} {m : yM} (hk : k ≤ f) (hc : c.1 = pX A) (hA : (A = 256 ∨ A = 316)) (hs1 : (276 ≤ a1 ∧ a1 < 316) ∨ (336 ≤ a1 ∧ a1 < 376)) (hss0 : (276 ≤ as0 ∧ as0 < 316) ∨ (336 ≤ as0 ∧ as0 < 376)) (gxs1 : rg xs1) (hR : RM c m) (Hr : ∀ r m', J64_161 f A a1 as0 xs1 m = some (r, m') → rg r → RM c m' → ∀ n', Q (.inl (some (yI r))) m' n') : PW (gZ L xs) k 64 d 161 [some (.ref 2), some (.ref a1)] [yI xs1, .ref as0] m n Q := by
  have hX : J64_161 f A a1 as0 xs1 m = J64_161 f A a1 as0 xs1 m := rfl
  refine p_putI 164 c64_161 rfl (kS_0 hss0) ?_
  have hR1649 := hR.up as0 0 (v := xs1) (nselA (by omega)) gxs1
  refine p_aload 165 c64_164 rfl rfl ?_
  refine p_getX 168 ((yup m as0 0 xs1) a1 3) c64_165 rfl (kS_3 hs1) rfl ?_
  refine p_iconst 169 c64_168 rfl ?_
  refine p_icmp 195 172 c64_169 rfl rfl (yc_eq (hR1649.rg _ _) (rgD rfl)) (fun hb1650 k1651 hk1651 => ?_) (fun hb1650 k1652 hk1652 => ?_)
  · have hX1653 := hX.trans (if_pos hb1650)
    refine p_iconst 196 c64_195 rfl ?_
    exact p_ireturn c64_196 (Hr _ _ hX1653 (rgD rfl) hR1649 _)
  · have hX1654 := hX.trans (if_neg hb1650)
    refine p_aload 173 c64_172 rfl rfl ?_
    refine p_getX 176 ((yup m as0 0 xs1) a1 0) c64_173 rfl (kS_0 hs1) rfl ?_
    refine p_iconst 178 c64_176 rfl ?_
    refine p_icmp 191 181 c64_178 rfl rfl (yc_eq (hR1649.rg _ _) (rgD rfl)) (fun hb1655 k1656 hk1656 => ?_) (fun hb1655 k1657 hk1657 => ?_)
    · have hX1658 := hX1654.trans (if_pos hb1655)
      refine p_iconst 192 c64_191 rfl ?_
      refine p_goto 196 c64_192 rfl ?_
      exact p_ireturn c64_196 (Hr _ _ hX1658 (rgD rfl) hR1649 _)
    · have hX1659 := hX1654.trans (if_neg hb1655)
      refine p_aload 182 c64_181 rfl rfl ?_
      refine p_iconst 184 c64_182 rfl ?_
      refine p_aload 185 c64_184 rfl rfl ?_
      refine p_cS 188 [.ref 2, yI 46, .ref a1] [] c64_185 rfl rfl rfl (fun k' hk' d' => d62 (f := f) (by omega) (rgD rfl) hs1 hR1649) (fun r1664 m1666 hF1662 hg1663 hR1667 n1661 k1660 hk1660 => ?_)
      have hX1665 := hX1659.trans (bI_s hF1662)
      refine p_if 195 191 c64_188 rfl rfl (yz_eq hg1663) (fun hb1668 k1669 hk1669 => ?_) (fun hb1668 k1670 hk1670 => ?_)
      · have hX1671 := hX1665.trans (if_pos hb1668)
        refine p_iconst 196 c64_195 rfl ?_
        exact p_ireturn c64_196 (Hr _ _ hX1671 (rgD rfl) hR1667 _)
      · have hX1672 := hX1665.trans (if_neg hb1668)
        refine p_iconst 192 c64_191 rfl ?_
        refine p_goto 196 c64_192 rfl ?_
        exact p_ireturn c64_196 (Hr _ _ hX1672 (rgD rfl) hR1667 _)
def F64 (f : Nat) (A : Nat) (a1 : Nat) (m : yM) : Option (Int × yM) := (if F38 m = 4 then (bI (F61 f A a1 m) (fun r1522 m1524 => (if r1522 = 0 then (bI (F43 f m1524) (fun r1534 m1536 => (some (r1534, m1536)))) else (bI (F62 f 4 a1 m1524) (fun r1543 m1545 => (some (r1543, m1545))))))) else (if F38 m = 5 then (bI (F37 f 5 (yup m a1 0 6)) (fun r1555 m1557 => (some (r1555, m1557)))) else (if F38 m = 40 then (bI (F63 f A a1 m) (fun r1575 m1577 => (if r1575 = 0 then (bI (F43 f m1577) (fun r1628 m1630 => (some (r1628, m1630)))) else (bI (F62 f 40 a1 m1577) (fun r1587 m1589 => (if r1587 = 0 then (some (0, m1589)) else (bI (F37 f 41 m1589) (fun r1600 m1602 => (if r1600 = 0 then (some (0, m1602)) else (bI (F58 f A m1602) (fun r1612 m1614 => (if r1612 = (-1) then (some (0, yup m1614 a1 3 r1612)) else (some (1, yup m1614 a1 3 r1612)))))))))))))) else (bI (F58 f A m) (fun r1637 m1639 => (if F38 (yup m1639 a1 3 r1637) = 46 then (J64_161 f A a1 a1 9 (yup m1639 a1 3 r1637)) else (J64_161 f A a1 a1 8 (yup m1639 a1 3 r1637))))))))
set_option maxRecDepth 100000 in
theorem d64 {L : Nat} {xs : Nat → Int32} {k d n : Nat} {c : yS3} {f : Nat} {A : Nat} {a1 : Nat} {m : yM} (hk : k ≤ f) (hc : c.1 = pX A) (hA : (A = 256 ∨ A = 316)) (hs1 : (276 ≤ a1 ∧ a1 < 316) ∨ (336 ≤ a1 ∧ a1 < 376)) (hR : RM c m) : PC (gZ L xs) k d 64 [.ref 2, .ref a1] m n (qS c (F64 f A a1 m)) := by
  have hX : F64 f A a1 m = F64 f A a1 m := rfl
  have Hr : ∀ r m', F64 f A a1 m = some (r, m') → rg r → RM c m' → ∀ n' : Nat, (qS c (F64 f A a1 m)) (.inl (some (yI r))) m' n' := fun r m' e h1 h2 n' => ⟨r, rfl, h1, h2, e⟩
  refine PC.mk [some (.ref 2), some (.ref a1)] kn64 rfl ?_
  refine p_aload 1 c64_0 rfl rfl ?_
  refine p_cX 4 [.ref 2] [] c64_1 rfl rfl rfl (fun k' hk' d' => d38 hR) (fun hg1507 n1506 k1505 hk1505 => ?_)
  by_cases hk1508 : F38 m = 4
  · have hX1509 := hX.trans (if_pos hk1508)
    refine p_top 4 hk1508 ?_
    refine p_lsw 40 c64_4 (rgD rfl) (o := 36) (by decide) rfl ?_
    refine p_aload 41 c64_40 rfl rfl ?_
    refine p_getV 44 (.ref A) c64_41 rfl kf2_1 (pX_of hA hR.2.2.2.1 hc) ?_
    refine p_aload 45 c64_44 rfl rfl ?_
    refine p_cS 48 [.ref A, .ref a1] [] c64_45 rfl rfl rfl (fun k' hk' d' => d61 (f := f) (by omega) hA hs1 hR) (fun r1522 m1524 hF1520 hg1521 hR1525 n1511 k1510 hk1510 => ?_)
    have hX1523 := hX1509.trans (bI_s hF1520)
    refine p_if 60 51 c64_48 rfl rfl (yz_eq hg1521) (fun hb1526 k1527 hk1527 => ?_) (fun hb1526 k1528 hk1528 => ?_)
    · have hX1529 := hX1523.trans (if_pos hb1526)
      refine p_aload 61 c64_60 rfl rfl ?_
      refine p_cS 64 [.ref 2] [] c64_61 rfl rfl rfl (fun k' hk' d' => d43 (f := f) (by omega) hR1525) (fun r1534 m1536 hF1532 hg1533 hR1537 n1531 k1530 hk1530 => ?_)
      have hX1535 := hX1529.trans (bI_s hF1532)
      exact p_ireturn c64_64 (Hr _ _ hX1535 hg1533 hR1537 _)
    · have hX1538 := hX1523.trans (if_neg hb1526)
      refine p_aload 52 c64_51 rfl rfl ?_
      refine p_iconst 53 c64_52 rfl ?_
      refine p_aload 54 c64_53 rfl rfl ?_
      refine p_cS 57 [.ref 2, yI 4, .ref a1] [] c64_54 rfl rfl rfl (fun k' hk' d' => d62 (f := f) (by omega) (rgD rfl) hs1 hR1525) (fun r1543 m1545 hF1541 hg1542 hR1546 n1540 k1539 hk1539 => ?_)
      have hX1544 := hX1538.trans (bI_s hF1541)
      refine p_goto 64 c64_57 rfl ?_
      exact p_ireturn c64_64 (Hr _ _ hX1544 hg1542 hR1546 _)
  have hX1547 := hX.trans (if_neg hk1508)
  by_cases hk1548 : F38 m = 5
  · have hX1549 := hX1547.trans (if_pos hk1548)
    refine p_top 5 hk1548 ?_
    refine p_lsw 65 c64_4 (rgD rfl) (o := 61) (by decide) rfl ?_
    refine p_aload 66 c64_65 rfl rfl ?_
    refine p_iconst 68 c64_66 rfl ?_
    refine p_putI 71 c64_68 rfl (kS_0 hs1) ?_
    have hR1550 := hR.up a1 0 (v := 6) (nselA (by omega)) (rgD rfl)
    refine p_aload 72 c64_71 rfl rfl ?_
    refine p_iconst 73 c64_72 rfl ?_
    refine p_cS 76 [.ref 2, yI 5] [] c64_73 rfl rfl rfl (fun k' hk' d' => d37 (f := f) (by omega) (rgD rfl) hR1550) (fun r1555 m1557 hF1553 hg1554 hR1558 n1552 k1551 hk1551 => ?_)
    have hX1556 := hX1549.trans (bI_s hF1553)
    exact p_ireturn c64_76 (Hr _ _ hX1556 hg1554 hR1558 _)
  have hX1559 := hX1547.trans (if_neg hk1548)
  by_cases hk1560 : F38 m = 40
  · have hX1561 := hX1559.trans (if_pos hk1560)
    refine p_top 40 hk1560 ?_
    refine p_lsw 77 c64_4 (rgD rfl) (o := 73) (by decide) rfl ?_
    refine p_aload 78 c64_77 rfl rfl ?_
    refine p_getV 81 (.ref A) c64_78 rfl kf2_1 (pX_of hA hR.2.2.2.1 hc) ?_
    refine p_aload 82 c64_81 rfl rfl ?_
    refine p_cS 85 [.ref A, .ref a1] [] c64_82 rfl rfl rfl (fun k' hk' d' => d63 (f := f) (by omega) hA hs1 hR) (fun r1575 m1577 hF1573 hg1574 hR1578 n1563 k1562 hk1562 => ?_)
    have hX1576 := hX1561.trans (bI_s hF1573)
    refine p_if 93 88 c64_85 rfl rfl (yz_ne hg1574) (fun hb1579 k1580 hk1580 => ?_) (fun hb1579 k1581 hk1581 => ?_)
    · have hX1582 := hX1576.trans (if_neg hb1579)
      refine p_aload 94 c64_93 rfl rfl ?_
      refine p_iconst 96 c64_94 rfl ?_
      refine p_aload 97 c64_96 rfl rfl ?_
      refine p_cS 100 [.ref 2, yI 40, .ref a1] [] c64_97 rfl rfl rfl (fun k' hk' d' => d62 (f := f) (by omega) (rgD rfl) hs1 hR1578) (fun r1587 m1589 hF1585 hg1586 hR1590 n1584 k1583 hk1583 => ?_)
      have hX1588 := hX1582.trans (bI_s hF1585)
      refine p_if 112 103 c64_100 rfl rfl (yz_eq hg1586) (fun hb1591 k1592 hk1592 => ?_) (fun hb1591 k1593 hk1593 => ?_)
      · have hX1594 := hX1588.trans (if_pos hb1591)
        refine p_iconst 113 c64_112 rfl ?_
        exact p_ireturn c64_113 (Hr _ _ hX1594 (rgD rfl) hR1590 _)
      · have hX1595 := hX1588.trans (if_neg hb1591)
        refine p_aload 104 c64_103 rfl rfl ?_
        refine p_iconst 106 c64_104 rfl ?_
        refine p_cS 109 [.ref 2, yI 41] [] c64_106 rfl rfl rfl (fun k' hk' d' => d37 (f := f) (by omega) (rgD rfl) hR1590) (fun r1600 m1602 hF1598 hg1599 hR1603 n1597 k1596 hk1596 => ?_)
        have hX1601 := hX1595.trans (bI_s hF1598)
        refine p_if 114 112 c64_109 rfl rfl (yz_ne hg1599) (fun hb1604 k1605 hk1605 => ?_) (fun hb1604 k1606 hk1606 => ?_)
        · have hX1607 := hX1601.trans (if_neg hb1604)
          refine p_aload 115 c64_114 rfl rfl ?_
          refine p_aload 116 c64_115 rfl rfl ?_
          refine p_cS 119 [.ref 2] [.ref a1] c64_116 rfl rfl rfl (fun k' hk' d' => d58 (f := f) (by omega) hc hA hR1603) (fun r1612 m1614 hF1610 hg1611 hR1615 n1609 k1608 hk1608 => ?_)
          have hX1613 := hX1607.trans (bI_s hF1610)
          refine p_putI 122 c64_119 rfl (kS_3 hs1) ?_
          have hR1616 := hR1615.up a1 3 (v := r1612) (nselA (by omega)) hg1611
          refine p_aload 123 c64_122 rfl rfl ?_
          refine p_getX 126 r1612 c64_123 rfl (kS_3 hs1) (yup_eq _ _ _ _) ?_
          refine p_iconst 127 c64_126 rfl ?_
          refine p_icmp 134 130 c64_127 rfl rfl (yc_eq hg1611 (rgD rfl)) (fun hb1617 k1618 hk1618 => ?_) (fun hb1617 k1619 hk1619 => ?_)
          · have hX1620 := hX1613.trans (if_pos hb1617)
            refine p_iconst 135 c64_134 rfl ?_
            exact p_ireturn c64_135 (Hr _ _ hX1620 (rgD rfl) hR1616 _)
          · have hX1621 := hX1613.trans (if_neg hb1617)
            refine p_iconst 131 c64_130 rfl ?_
            refine p_goto 135 c64_131 rfl ?_
            exact p_ireturn c64_135 (Hr _ _ hX1621 (rgD rfl) hR1616 _)
        · have hX1622 := hX1601.trans (if_pos (Classical.not_not.mp hb1604))
          refine p_iconst 113 c64_112 rfl ?_
          exact p_ireturn c64_113 (Hr _ _ hX1622 (rgD rfl) hR1603 _)
    · have hX1623 := hX1576.trans (if_pos (Classical.not_not.mp hb1579))
      refine p_aload 89 c64_88 rfl rfl ?_
      refine p_cS 92 [.ref 2] [] c64_89 rfl rfl rfl (fun k' hk' d' => d43 (f := f) (by omega) hR1578) (fun r1628 m1630 hF1626 hg1627 hR1631 n1625 k1624 hk1624 => ?_)
      have hX1629 := hX1623.trans (bI_s hF1626)
      exact p_ireturn c64_92 (Hr _ _ hX1629 hg1627 hR1631 _)
  have hX1632 := hX1559.trans (if_neg hk1560)
  refine p_lsw 136 c64_4 hg1507 (o := 132) (by simp [Op.lookupswitch.offset, List.find?]; rw [if_neg (fun e => hk1508 e.symm), if_neg (fun e => hk1548 e.symm), if_neg (fun e => hk1560 e.symm)]) rfl ?_
  refine p_aload 137 c64_136 rfl rfl ?_
  refine p_aload 138 c64_137 rfl rfl ?_
  refine p_cS 141 [.ref 2] [.ref a1] c64_138 rfl rfl rfl (fun k' hk' d' => d58 (f := f) (by omega) hc hA hR) (fun r1637 m1639 hF1635 hg1636 hR1640 n1634 k1633 hk1633 => ?_)
  have hX1638 := hX1632.trans (bI_s hF1635)
  refine p_putI 144 c64_141 rfl (kS_3 hs1) ?_
  have hR1641 := hR1640.up a1 3 (v := r1637) (nselA (by omega)) hg1636
  refine p_aload 145 c64_144 rfl rfl ?_
  refine p_aload 146 c64_145 rfl rfl ?_
  refine p_cX 149 [.ref 2] [.ref a1] c64_146 rfl rfl rfl (fun k' hk' d' => d38 hR1641) (fun hg1644 n1643 k1642 hk1642 => ?_)
  refine p_iconst 151 c64_149 rfl ?_
  refine p_icmp 159 154 c64_151 rfl rfl (yc_ne hg1644 (rgD rfl)) (fun hb1645 k1646 hk1646 => ?_) (fun hb1645 k1647 hk1647 => ?_)
  · have hX1648 := hX1638.trans (if_neg hb1645)
    refine p_iconst 161 c64_159 rfl ?_
    exact tJ64_161 (f := f) (by omega) hc hA hs1 hs1 (rgD rfl) hR1641 (fun r' m' e' => Hr r' m' (hX1648.trans e'))
  · have hX1673 := hX1638.trans (if_pos (Classical.not_not.mp hb1645))
    refine p_iconst 156 c64_154 rfl ?_
    refine p_goto 161 c64_156 rfl ?_
    exact tJ64_161 (f := f) (by omega) hc hA hs1 hs1 (rgD rfl) hR1641 (fun r' m' e' => Hr r' m' (hX1673.trans e'))
def J68_124 (f : Nat) (A : Nat) (a1 : Nat) (x4 : Int) (m : yM) : Option (Int × yM) := (if x4 = 0 then (bI (F67 f A a1 m) (fun r1390 m1392 => (if r1390 = 0 then (some (0, m1392)) else (some (1, m1392))))) else (some (1, m)))
set_option maxRecDepth 100000 in
theorem tJ68_124 {L : Nat} {xs : Nat → Int32} {Q : xO → yM → Nat → Prop} {k d n : Nat} {c : yS3} {f : Nat} {A : Nat} {a1 : Nat} {x4 : Int} {m : yM} {j2 j3 : Option Value} (hk : k ≤ f) (hc : c.1 = pX A) (hA : (A = 256 ∨ A = 316)) (hs1 : (276 ≤ a1 ∧ a1 < 316) ∨ (336 ≤ a1 ∧ a1 < 376)) (gx4 : rg x4) (hR : RM c m) (Hr : ∀ r m', J68_124 f A a1 x4 m = some (r, m') → rg r → RM c m' → ∀ n', Q (.inl (some (yI r))) m' n') : PW (gZ L xs) k 68 d 124 [some (.ref 2), some (.ref a1), j2, j3, some (yI x4)] [] m n Q := by
  have hX : J68_124 f A a1 x4 m = J68_124 f A a1 x4 m := rfl
  refine p_iload 126 c68_124 rfl rfl ?_
  refine p_if 137 129 c68_126 rfl rfl (yz_ne gx4) (fun hb1352 k1353 hk1353 => ?_) (fun hb1352 k1354 hk1354 => ?_)
  · have hX1355 := hX.trans (if_neg hb1352)
    refine p_iconst 138 c68_137 rfl ?_
    refine p_goto 142 c68_138 rfl ?_
    exact p_ireturn c68_142 (Hr _ _ hX1355 (rgD rfl) hR _)
  · have hX1356 := hX.trans (if_pos (Classical.not_not.mp hb1352))
    refine p_aload 130 c68_129 rfl rfl ?_
    refine p_aload 131 c68_130 rfl rfl ?_
    refine p_cS 134 [.ref 2, .ref a1] [] c68_131 rfl rfl rfl (fun k' hk' d' => d67 (f := f) (by omega) hc hA hs1 hR) (fun r1390 m1392 hF1388 hg1389 hR1393 n1358 k1357 hk1357 => ?_)
    have hX1391 := hX1356.trans (bI_s hF1388)
    refine p_if 141 137 c68_134 rfl rfl (yz_eq hg1389) (fun hb1394 k1395 hk1395 => ?_) (fun hb1394 k1396 hk1396 => ?_)
    · have hX1397 := hX1391.trans (if_pos hb1394)
      refine p_iconst 142 c68_141 rfl ?_
      exact p_ireturn c68_142 (Hr _ _ hX1397 (rgD rfl) hR1393 _)
    · have hX1398 := hX1391.trans (if_neg hb1394)
      refine p_iconst 138 c68_137 rfl ?_
      refine p_goto 142 c68_138 rfl ?_
      exact p_ireturn c68_142 (Hr _ _ hX1398 (rgD rfl) hR1393 _)
def J68_100 (f : Nat) (A : Nat) (a1 : Nat) (x4 : Int) (m : yM) : Option (Int × yM) := (if m a1 0 = 9 then (if F38 m = 40 then (bI (F66 f A a1 m) (fun r1495 m1497 => (some (r1495, m1497)))) else (J68_124 f A a1 x4 m)) else (J68_124 f A a1 x4 m))
set_option maxRecDepth 100000 in
theorem tJ68_100 {L : Nat} {xs : Nat → Int32} {Q : xO → yM → Nat → Prop} {k d n : Nat} {c : yS3} {f : Nat} {A : Nat} {a1 : Nat} {x4 : Int} {m : yM} {j2 j3 : Option Value} (hk : k ≤ f) (hc : c.1 = pX A) (hA : (A = 256 ∨ A = 316)) (hs1 : (276 ≤ a1 ∧ a1 < 316) ∨ (336 ≤ a1 ∧ a1 < 376)) (gx4 : rg x4) (hR : RM c m) (Hr : ∀ r m', J68_100 f A a1 x4 m = some (r, m') → rg r → RM c m' → ∀ n', Q (.inl (some (yI r))) m' n') : PW (gZ L xs) k 68 d 100 [some (.ref 2), some (.ref a1), j2, j3, some (yI x4)] [] m n Q := by
  have hX : J68_100 f A a1 x4 m = J68_100 f A a1 x4 m := rfl
  refine p_aload 101 c68_100 rfl rfl ?_
  refine p_getX 104 (m a1 0) c68_101 rfl (kS_0 hs1) rfl ?_
  refine p_iconst 106 c68_104 rfl ?_
  refine p_icmp 124 109 c68_106 rfl rfl (yc_ne (hR.rg _ _) (rgD rfl)) (fun hb1348 k1349 hk1349 => ?_) (fun hb1348 k1350 hk1350 => ?_)
  · have hX1351 := hX.trans (if_neg hb1348)
    exact tJ68_124 (f := f) (by omega) hc hA hs1 gx4 hR (fun r' m' e' => Hr r' m' (hX1351.trans e'))
  · have hX1399 := hX.trans (if_pos (Classical.not_not.mp hb1348))
    refine p_aload 110 c68_109 rfl rfl ?_
    refine p_cX 113 [.ref 2] [] c68_110 rfl rfl rfl (fun k' hk' d' => d38 hR) (fun hg1402 n1401 k1400 hk1400 => ?_)
    refine p_iconst 115 c68_113 rfl ?_
    refine p_icmp 124 118 c68_115 rfl rfl (yc_ne hg1402 (rgD rfl)) (fun hb1403 k1404 hk1404 => ?_) (fun hb1403 k1405 hk1405 => ?_)
    · have hX1406 := hX1399.trans (if_neg hb1403)
      exact tJ68_124 (f := f) (by omega) hc hA hs1 gx4 hR (fun r' m' e' => Hr r' m' (hX1406.trans e'))
    · have hX1407 := hX1399.trans (if_pos (Classical.not_not.mp hb1403))
      refine p_aload 119 c68_118 rfl rfl ?_
      refine p_aload 120 c68_119 rfl rfl ?_
      refine p_cS 123 [.ref 2, .ref a1] [] c68_120 rfl rfl rfl (fun k' hk' d' => d66 (f := f) (by omega) hc hA hs1 hR) (fun r1495 m1497 hF1493 hg1494 hR1498 n1409 k1408 hk1408 => ?_)
      have hX1496 := hX1407.trans (bI_s hF1493)
      exact p_ireturn c68_123 (Hr _ _ hX1496 hg1494 hR1498 _)
def J68_45 (f : Nat) (A : Nat) (a1 : Nat) (x3 : Int) (xs0 : Int) (m : yM) : Option (Int × yM) := (if xs0 = 0 then (bI (F62 f 46 a1 (yup (yup m a1 3 x3) a1 0 9)) (fun r1340 m1342 => (if r1340 = 0 then (some (0, m1342)) else (J68_100 f A a1 xs0 m1342)))) else (bI (F64 f A a1 (yup (yup m a1 2 x3) 2 2 (wr ((m 2 2) + 1)))) (fun r1676 m1678 => (if r1676 = 0 then (some (0, m1678)) else (J68_100 f A a1 xs0 m1678)))))
set_option maxRecDepth 100000 in
theorem tJ68_45 {L : Nat} {xs : Nat → Int32} {Q : xO → yM → Nat → Prop} {k d n : Nat} {c : yS3} {f : Nat} {A : Nat} {a1 : Nat} {x3 : Int} {xs0 : Int} {m : yM} {j2 j4 : Option Value} (hk : k ≤ f) (hc : c.1 = pX A) (hA : (A = 256 ∨ A = 316)) (hs1 : (276 ≤ a1 ∧ a1 < 316) ∨ (336 ≤ a1 ∧ a1 < 376)) (gx3 : rg x3) (gxs0 : rg xs0) (hR : RM c m) (Hr : ∀ r m', J68_45 f A a1 x3 xs0 m = some (r, m') → rg r → RM c m' → ∀ n', Q (.inl (some (yI r))) m' n') : PW (gZ L xs) k 68 d 45 [some (.ref 2), some (.ref a1), j2, some (yI x3), j4] [yI xs0] m n Q := by
  have hX : J68_45 f A a1 x3 xs0 m = J68_45 f A a1 x3 xs0 m := rfl
  refine p_istore 47 c68_45 rfl rfl ?_
  refine p_iload 49 c68_47 rfl rfl ?_
  refine p_if 77 52 c68_49 rfl rfl (yz_eq gxs0) (fun hb1305 k1306 hk1306 => ?_) (fun hb1305 k1307 hk1307 => ?_)
  · have hX1308 := hX.trans (if_pos hb1305)
    refine p_aload 78 c68_77 rfl rfl ?_
    refine p_iload 79 c68_78 rfl rfl ?_
    refine p_putI 82 c68_79 rfl (kS_3 hs1) ?_
    have hR1309 := hR.up a1 3 (v := x3) (nselA (by omega)) gx3
    refine p_aload 83 c68_82 rfl rfl ?_
    refine p_iconst 85 c68_83 rfl ?_
    refine p_putI 88 c68_85 rfl (kS_0 hs1) ?_
    have hR1310 := hR1309.up a1 0 (v := 9) (nselA (by omega)) (rgD rfl)
    refine p_aload 89 c68_88 rfl rfl ?_
    refine p_iconst 91 c68_89 rfl ?_
    refine p_aload 92 c68_91 rfl rfl ?_
    refine p_cS 95 [.ref 2, yI 46, .ref a1] [] c68_92 rfl rfl rfl (fun k' hk' d' => d62 (f := f) (by omega) (rgD rfl) hs1 hR1310) (fun r1340 m1342 hF1338 hg1339 hR1343 n1312 k1311 hk1311 => ?_)
    have hX1341 := hX1308.trans (bI_s hF1338)
    refine p_if 100 98 c68_95 rfl rfl (yz_ne hg1339) (fun hb1344 k1345 hk1345 => ?_) (fun hb1344 k1346 hk1346 => ?_)
    · have hX1347 := hX1341.trans (if_neg hb1344)
      exact tJ68_100 (f := f) (by omega) hc hA hs1 gxs0 hR1343 (fun r' m' e' => Hr r' m' (hX1347.trans e'))
    · have hX1499 := hX1341.trans (if_pos (Classical.not_not.mp hb1344))
      refine p_iconst 99 c68_98 rfl ?_
      exact p_ireturn c68_99 (Hr _ _ hX1499 (rgD rfl) hR1343 _)
  · have hX1500 := hX.trans (if_neg hb1305)
    refine p_aload 53 c68_52 rfl rfl ?_
    refine p_iload 54 c68_53 rfl rfl ?_
    refine p_putI 57 c68_54 rfl (kS_2 hs1) ?_
    have hR1501 := hR.up a1 2 (v := x3) (nselA (by omega)) gx3
    refine p_aload 58 c68_57 rfl rfl ?_
    refine p_dup 59 c68_58 rfl rfl ?_
    refine p_getX 62 (m 2 2) c68_59 rfl kf2_2 (yup_na (by omega)) ?_
    refine p_iconst 63 c68_62 rfl ?_
    refine p_iadd 64 c68_63 rfl ?_
    refine p_putI 67 c68_64 rfl kf2_2 ?_
    have hR1502 := hR1501.up 2 2 (v := wr ((m 2 2) + 1)) (nselD rfl) (rg_wr _)
    refine p_aload 68 c68_67 rfl rfl ?_
    refine p_aload 69 c68_68 rfl rfl ?_
    refine p_cS 72 [.ref 2, .ref a1] [] c68_69 rfl rfl rfl (fun k' hk' d' => d64 (f := f) (by omega) hc hA hs1 hR1502) (fun r1676 m1678 hF1674 hg1675 hR1679 n1504 k1503 hk1503 => ?_)
    have hX1677 := hX1500.trans (bI_s hF1674)
    refine p_if 100 75 c68_72 rfl rfl (yz_ne hg1675) (fun hb1680 k1681 hk1681 => ?_) (fun hb1680 k1682 hk1682 => ?_)
    · have hX1683 := hX1677.trans (if_neg hb1680)
      exact tJ68_100 (f := f) (by omega) hc hA hs1 gxs0 hR1679 (fun r' m' e' => Hr r' m' (hX1683.trans e'))
    · have hX1684 := hX1677.trans (if_pos (Classical.not_not.mp hb1680))
      refine p_iconst 76 c68_75 rfl ?_
      exact p_ireturn c68_76 (Hr _ _ hX1684 (rgD rfl) hR1679 _)
def J68_44 (f : Nat) (A : Nat) (a1 : Nat) (x3 : Int) (m : yM) : Option (Int × yM) := (J68_45 f A a1 x3 0 m)
set_option maxRecDepth 100000 in
theorem tJ68_44 {L : Nat} {xs : Nat → Int32} {Q : xO → yM → Nat → Prop} {k d n : Nat} {c : yS3} {f : Nat} {A : Nat} {a1 : Nat} {x3 : Int} {m : yM} {j2 j4 : Option Value} (hk : k ≤ f) (hc : c.1 = pX A) (hA : (A = 256 ∨ A = 316)) (hs1 : (276 ≤ a1 ∧ a1 < 316) ∨ (336 ≤ a1 ∧ a1 < 376)) (gx3 : rg x3) (hR : RM c m) (Hr : ∀ r m', J68_44 f A a1 x3 m = some (r, m') → rg r → RM c m' → ∀ n', Q (.inl (some (yI r))) m' n') : PW (gZ L xs) k 68 d 44 [some (.ref 2), some (.ref a1), j2, some (yI x3), j4] [] m n Q := by
  have hX : J68_44 f A a1 x3 m = J68_44 f A a1 x3 m := rfl
  refine p_iconst 45 c68_44 rfl ?_
  exact tJ68_45 (f := f) (by omega) hc hA hs1 gx3 (rgD rfl) hR (fun r' m' e' => Hr r' m' (hX.trans e'))
def J68_14 (f : Nat) (A : Nat) (a1 : Nat) (xs0 : Int) (m : yM) : Option (Int × yM) := (bI (F58 f A m) (fun r1293 m1295 => (if r1293 = (-1) then (some (0, m1295)) else (if xs0 = 0 then (J68_44 f A a1 r1293 m1295) else (if F38 m1295 = 61 then (J68_45 f A a1 r1293 1 m1295) else (J68_44 f A a1 r1293 m1295))))))
set_option maxRecDepth 100000 in
theorem tJ68_14 {L : Nat} {xs : Nat → Int32} {Q : xO → yM → Nat → Prop} {k d n : Nat} {c : yS3} {f : Nat} {A : Nat} {a1 : Nat} {xs0 : Int} {m : yM} {j2 j3 j4 : Option Value} (hk : k ≤ f) (hc : c.1 = pX A) (hA : (A = 256 ∨ A = 316)) (hs1 : (276 ≤ a1 ∧ a1 < 316) ∨ (336 ≤ a1 ∧ a1 < 376)) (gxs0 : rg xs0) (hR : RM c m) (Hr : ∀ r m', J68_14 f A a1 xs0 m = some (r, m') → rg r → RM c m' → ∀ n', Q (.inl (some (yI r))) m' n') : PW (gZ L xs) k 68 d 14 [some (.ref 2), some (.ref a1), j2, j3, j4] [yI xs0] m n Q := by
  have hX : J68_14 f A a1 xs0 m = J68_14 f A a1 xs0 m := rfl
  refine p_istore 15 c68_14 rfl rfl ?_
  refine p_aload 16 c68_15 rfl rfl ?_
  refine p_cS 19 [.ref 2] [] c68_16 rfl rfl rfl (fun k' hk' d' => d58 (f := f) (by omega) hc hA hR) (fun r1293 m1295 hF1291 hg1292 hR1296 n1290 k1289 hk1289 => ?_)
  have hX1294 := hX.trans (bI_s hF1291)
  refine p_istore 20 c68_19 rfl rfl ?_
  refine p_iload 21 c68_20 rfl rfl ?_
  refine p_iconst 22 c68_21 rfl ?_
  refine p_icmp 27 25 c68_22 rfl rfl (yc_ne hg1292 (rgD rfl)) (fun hb1297 k1298 hk1298 => ?_) (fun hb1297 k1299 hk1299 => ?_)
  · have hX1300 := hX1294.trans (if_neg hb1297)
    refine p_iload 28 c68_27 rfl rfl ?_
    refine p_if 44 31 c68_28 rfl rfl (yz_eq gxs0) (fun hb1301 k1302 hk1302 => ?_) (fun hb1301 k1303 hk1303 => ?_)
    · have hX1304 := hX1300.trans (if_pos hb1301)
      exact tJ68_44 (f := f) (by omega) hc hA hs1 hg1292 hR1296 (fun r' m' e' => Hr r' m' (hX1304.trans e'))
    · have hX1685 := hX1300.trans (if_neg hb1301)
      refine p_aload 32 c68_31 rfl rfl ?_
      refine p_cX 35 [.ref 2] [] c68_32 rfl rfl rfl (fun k' hk' d' => d38 hR1296) (fun hg1688 n1687 k1686 hk1686 => ?_)
      refine p_iconst 37 c68_35 rfl ?_
      refine p_icmp 44 40 c68_37 rfl rfl (yc_ne hg1688 (rgD rfl)) (fun hb1689 k1690 hk1690 => ?_) (fun hb1689 k1691 hk1691 => ?_)
      · have hX1692 := hX1685.trans (if_neg hb1689)
        exact tJ68_44 (f := f) (by omega) hc hA hs1 hg1292 hR1296 (fun r' m' e' => Hr r' m' (hX1692.trans e'))
      · have hX1693 := hX1685.trans (if_pos (Classical.not_not.mp hb1689))
        refine p_iconst 41 c68_40 rfl ?_
        refine p_goto 45 c68_41 rfl ?_
        exact tJ68_45 (f := f) (by omega) hc hA hs1 hg1292 (rgD rfl) hR1296 (fun r' m' e' => Hr r' m' (hX1693.trans e'))
  · have hX1694 := hX1294.trans (if_pos (Classical.not_not.mp hb1297))
    refine p_iconst 26 c68_25 rfl ?_
    exact p_ireturn c68_26 (Hr _ _ hX1694 (rgD rfl) hR1296 _)
def F68 (f : Nat) (A : Nat) (a1 : Nat) (m : yM) : Option (Int × yM) := (if F38 m = 11 then (J68_14 f A a1 1 m) else (J68_14 f A a1 0 m))
set_option maxRecDepth 100000 in
theorem d68 {L : Nat} {xs : Nat → Int32} {k d n : Nat} {c : yS3} {f : Nat} {A : Nat} {a1 : Nat} {m : yM} (hk : k ≤ f) (hc : c.1 = pX A) (hA : (A = 256 ∨ A = 316)) (hs1 : (276 ≤ a1 ∧ a1 < 316) ∨ (336 ≤ a1 ∧ a1 < 376)) (hR : RM c m) : PC (gZ L xs) k d 68 [.ref 2, .ref a1] m n (qS c (F68 f A a1 m)) := by
  have hX : F68 f A a1 m = F68 f A a1 m := rfl
  have Hr : ∀ r m', F68 f A a1 m = some (r, m') → rg r → RM c m' → ∀ n' : Nat, (qS c (F68 f A a1 m)) (.inl (some (yI r))) m' n' := fun r m' e h1 h2 n' => ⟨r, rfl, h1, h2, e⟩
  refine PC.mk [some (.ref 2), some (.ref a1), none, none, none] kn68 rfl ?_
  refine p_aload 1 c68_0 rfl rfl ?_
  refine p_cX 4 [.ref 2] [] c68_1 rfl rfl rfl (fun k' hk' d' => d38 hR) (fun hg1284 n1283 k1282 hk1282 => ?_)
  refine p_iconst 6 c68_4 rfl ?_
  refine p_icmp 13 9 c68_6 rfl rfl (yc_ne hg1284 (rgD rfl)) (fun hb1285 k1286 hk1286 => ?_) (fun hb1285 k1287 hk1287 => ?_)
  · have hX1288 := hX.trans (if_neg hb1285)
    refine p_iconst 14 c68_13 rfl ?_
    exact tJ68_14 (f := f) (by omega) hc hA hs1 (rgD rfl) hR (fun r' m' e' => Hr r' m' (hX1288.trans e'))
  · have hX1695 := hX.trans (if_pos (Classical.not_not.mp hb1285))
    refine p_iconst 10 c68_9 rfl ?_
    refine p_goto 14 c68_10 rfl ?_
    exact tJ68_14 (f := f) (by omega) hc hA hs1 (rgD rfl) hR (fun r' m' e' => Hr r' m' (hX1695.trans e'))
def F60 (f : Nat) (A : Nat) (a1 : Nat) (m : yM) : Option (Int × yM) := (bI (F58 f A (yup (yup (yup m a1 0 2) a1 2 (m (A + 10 + (m a1 1).toNat) 2)) 2 2 (wr ((m 2 2) + 1)))) (fun r1744 m1746 => (if r1744 = (-1) then (some (0, yup m1746 a1 3 r1744)) else (some (1, yup m1746 a1 3 r1744)))))
set_option maxRecDepth 100000 in
theorem d60 {L : Nat} {xs : Nat → Int32} {k d n : Nat} {c : yS3} {f : Nat} {A : Nat} {a1 : Nat} {m : yM} (hk : k ≤ f) (hc : c.1 = pX A) (hA : (A = 256 ∨ A = 316)) (hs1 : (276 ≤ a1 ∧ a1 < 316) ∨ (336 ≤ a1 ∧ a1 < 376)) (hR : RM c m) : PC (gZ L xs) k d 60 [.ref 2, .ref a1] m n (qS c (F60 f A a1 m)) := by
  have hX : F60 f A a1 m = F60 f A a1 m := rfl
  have Hr : ∀ r m', F60 f A a1 m = some (r, m') → rg r → RM c m' → ∀ n' : Nat, (qS c (F60 f A a1 m)) (.inl (some (yI r))) m' n' := fun r m' e h1 h2 n' => ⟨r, rfl, h1, h2, e⟩
  refine PC.mk [some (.ref 2), some (.ref a1)] kn60 rfl ?_
  refine p_aload 1 c60_0 rfl rfl ?_
  refine p_iconst 2 c60_1 rfl ?_
  refine p_putI 5 c60_2 rfl (kS_0 hs1) ?_
  have hR1736 := hR.up a1 0 (v := 2) (nselA (by omega)) (rgD rfl)
  refine p_aload 6 c60_5 rfl rfl ?_
  refine p_aload 7 c60_6 rfl rfl ?_
  refine p_getV 10 (.ref A) c60_7 rfl kf2_1 (pX_of hA hR1736.2.2.2.1 hc) ?_
  refine p_getR 13 c60_10 rfl (kP_5 hA) ?_
  refine p_aload 14 c60_13 rfl rfl ?_
  refine p_getX 17 (m a1 1) c60_14 rfl (kS_1 hs1) (yup_nk (by decide)) ?_
  refine p_aaX 18 c60_17 rfl (kPr_6 hA) (hR.rg _ _) (fun hx1737 => ?_)
  refine p_getX 21 (m (A + 10 + (m a1 1).toNat) 2) c60_18 rfl (kM_2 (kMr hA hx1737)) (yup_na (by omega)) ?_
  refine p_putI 24 c60_21 rfl (kS_2 hs1) ?_
  have hR1738 := hR1736.up a1 2 (v := m (A + 10 + (m a1 1).toNat) 2) (nselA (by omega)) (hR.rg _ _)
  refine p_aload 25 c60_24 rfl rfl ?_
  refine p_dup 26 c60_25 rfl rfl ?_
  refine p_getX 29 (m 2 2) c60_26 rfl kf2_2 ((yup_na (by omega)).trans (yup_na (by omega))) ?_
  refine p_iconst 30 c60_29 rfl ?_
  refine p_iadd 31 c60_30 rfl ?_
  refine p_putI 34 c60_31 rfl kf2_2 ?_
  have hR1739 := hR1738.up 2 2 (v := wr ((m 2 2) + 1)) (nselD rfl) (rg_wr _)
  refine p_aload 35 c60_34 rfl rfl ?_
  refine p_aload 36 c60_35 rfl rfl ?_
  refine p_cS 39 [.ref 2] [.ref a1] c60_36 rfl rfl rfl (fun k' hk' d' => d58 (f := f) (by omega) hc hA hR1739) (fun r1744 m1746 hF1742 hg1743 hR1747 n1741 k1740 hk1740 => ?_)
  have hX1745 := hX.trans (bI_s hF1742)
  refine p_putI 42 c60_39 rfl (kS_3 hs1) ?_
  have hR1748 := hR1747.up a1 3 (v := r1744) (nselA (by omega)) hg1743
  refine p_aload 43 c60_42 rfl rfl ?_
  refine p_getX 46 r1744 c60_43 rfl (kS_3 hs1) (yup_eq _ _ _ _) ?_
  refine p_iconst 47 c60_46 rfl ?_
  refine p_icmp 54 50 c60_47 rfl rfl (yc_eq hg1743 (rgD rfl)) (fun hb1749 k1750 hk1750 => ?_) (fun hb1749 k1751 hk1751 => ?_)
  · have hX1752 := hX1745.trans (if_pos hb1749)
    refine p_iconst 55 c60_54 rfl ?_
    exact p_ireturn c60_55 (Hr _ _ hX1752 (rgD rfl) hR1748 _)
  · have hX1753 := hX1745.trans (if_neg hb1749)
    refine p_iconst 51 c60_50 rfl ?_
    refine p_goto 55 c60_51 rfl ?_
    exact p_ireturn c60_55 (Hr _ _ hX1753 (rgD rfl) hR1748 _)
def J69_162 (f : Nat) (rc : Int → yM → Option (Int × yM)) (A : Nat) (x1 : Int) (x2 : Int) (x3 : Int) (a4 : Nat) (m : yM) : Option (((Int × Int) × yM) ⊕ (((Int × Int) × yM) ⊕ (Int × yM))) := (some (.inl ((x2, wr (x3 + 1)), yup m a4 12 (m A 16))))
set_option maxRecDepth 100000 in
theorem tJ69_162 {L : Nat} {xs : Nat → Int32} {Q : xO → yM → Nat → Prop} {k d n : Nat} {c : yS3} {f : Nat} {rc : Int → yM → Option (Int × yM)} {A : Nat} {x1 : Int} {x2 : Int} {x3 : Int} {a4 : Nat} {m : yM} (hk : k ≤ f) (hrc : ∀ k', k' < k → ∀ {d' : Nat} {x1 : Int} {m' : yM} {n' : Nat}, rg x1 → RM c m' → PC (gZ L xs) k' d' 69 [.ref 2, yI x1] m' n' (qS c (rc x1 m'))) (hc : c.1 = pX A) (hA : (A = 256 ∨ A = 316)) (gx1 : rg x1) (gx2 : rg x2) (gx3 : rg x3) (hs4 : (276 ≤ a4 ∧ a4 < 316) ∨ (336 ≤ a4 ∧ a4 < 376)) (hR : RM c m) (Hn : ∀ (y0 y1 : Int) (z0 : Option Value) (m' : yM) (n' : Nat), J69_162 f rc A x1 x2 x3 a4 m = some (.inl ((y0, y1), m')) → rg y0 → rg y1 → RM c m' → ∀ k', k' < k → PW (gZ L xs) k' 69 d 19 [some (.ref 2), some (yI x1), some (yI y0), some (yI y1), z0] [] m' n' Q) (He : ∀ (y0 y1 : Int) (z0 : Option Value) (m' : yM) (n' : Nat), J69_162 f rc A x1 x2 x3 a4 m = some (.inr (.inl ((y0, y1), m'))) → rg y0 → rg y1 → RM c m' → ∀ k', k' ≤ k → PW (gZ L xs) k' 69 d 180 [some (.ref 2), some (yI x1), some (yI y0), some (yI y1), z0] [] m' n' Q) (Hr : ∀ r m', J69_162 f rc A x1 x2 x3 a4 m = some (.inr (.inr (r, m'))) → rg r → RM c m' → ∀ n', Q (.inl (some (yI r))) m' n') : PW (gZ L xs) k 69 d 162 [some (.ref 2), some (yI x1), some (yI x2), some (yI x3), some (.ref a4)] [] m n Q := by
  have hX : J69_162 f rc A x1 x2 x3 a4 m = J69_162 f rc A x1 x2 x3 a4 m := rfl
  refine p_aload 164 c69_162 rfl rfl ?_
  refine p_aload 165 c69_164 rfl rfl ?_
  refine p_getV 168 (.ref A) c69_165 rfl kf2_1 (pX_of hA hR.2.2.2.1 hc) ?_
  refine p_getX 171 (m A 16) c69_168 rfl (kP_16 hA) rfl ?_
  refine p_putI 174 c69_171 rfl (kS_12 hs4) ?_
  have hR1275 := hR.up a4 12 (v := m A 16) (nselA (by omega)) (hR.rg _ _)
  refine p_iinc 177 c69_174 rfl rfl rfl ?_
  refine p_gotoD 19 c69_177 rfl (fun k1276 hk1276 => ?_)
  exact Hn _ _ _ _ _ hX gx2 (rg_wr _) hR1275 _ (by omega)
def J69_161 (f : Nat) (rc : Int → yM → Option (Int × yM)) (A : Nat) (x1 : Int) (x3 : Int) (a4 : Nat) (xs0 : Int) (m : yM) : Option (((Int × Int) × yM) ⊕ (((Int × Int) × yM) ⊕ (Int × yM))) := (J69_162 f rc A x1 xs0 x3 a4 m)
set_option maxRecDepth 100000 in
theorem tJ69_161 {L : Nat} {xs : Nat → Int32} {Q : xO → yM → Nat → Prop} {k d n : Nat} {c : yS3} {f : Nat} {rc : Int → yM → Option (Int × yM)} {A : Nat} {x1 : Int} {x3 : Int} {a4 : Nat} {xs0 : Int} {m : yM} {j2 : Option Value} (hk : k ≤ f) (hrc : ∀ k', k' < k → ∀ {d' : Nat} {x1 : Int} {m' : yM} {n' : Nat}, rg x1 → RM c m' → PC (gZ L xs) k' d' 69 [.ref 2, yI x1] m' n' (qS c (rc x1 m'))) (hc : c.1 = pX A) (hA : (A = 256 ∨ A = 316)) (gx1 : rg x1) (gx3 : rg x3) (hs4 : (276 ≤ a4 ∧ a4 < 316) ∨ (336 ≤ a4 ∧ a4 < 376)) (gxs0 : rg xs0) (hR : RM c m) (Hn : ∀ (y0 y1 : Int) (z0 : Option Value) (m' : yM) (n' : Nat), J69_161 f rc A x1 x3 a4 xs0 m = some (.inl ((y0, y1), m')) → rg y0 → rg y1 → RM c m' → ∀ k', k' < k → PW (gZ L xs) k' 69 d 19 [some (.ref 2), some (yI x1), some (yI y0), some (yI y1), z0] [] m' n' Q) (He : ∀ (y0 y1 : Int) (z0 : Option Value) (m' : yM) (n' : Nat), J69_161 f rc A x1 x3 a4 xs0 m = some (.inr (.inl ((y0, y1), m'))) → rg y0 → rg y1 → RM c m' → ∀ k', k' ≤ k → PW (gZ L xs) k' 69 d 180 [some (.ref 2), some (yI x1), some (yI y0), some (yI y1), z0] [] m' n' Q) (Hr : ∀ r m', J69_161 f rc A x1 x3 a4 xs0 m = some (.inr (.inr (r, m'))) → rg r → RM c m' → ∀ n', Q (.inl (some (yI r))) m' n') : PW (gZ L xs) k 69 d 161 [some (.ref 2), some (yI x1), j2, some (yI x3), some (.ref a4)] [yI xs0] m n Q := by
  have hX : J69_161 f rc A x1 x3 a4 xs0 m = J69_161 f rc A x1 x3 a4 xs0 m := rfl
  refine p_istore 162 c69_161 rfl rfl ?_
  exact tJ69_162 (f := f) (by omega) (fun k' h' => hrc k' (by omega)) hc hA gx1 gxs0 gx3 hs4 hR (fun y0 y1 y2 m' n' e' h0 h1 hR' k' hk' => Hn y0 y1 y2 m' n' (hX.trans e') h0 h1 hR' k' (by omega)) (fun y0 y1 y2 m' n' e' h0 h1 hR' k' hk' => He y0 y1 y2 m' n' (hX.trans e') h0 h1 hR' k' (by omega)) (fun r' m' e' => Hr r' m' (hX.trans e'))
def J69_160 (f : Nat) (rc : Int → yM → Option (Int × yM)) (A : Nat) (x1 : Int) (x3 : Int) (a4 : Nat) (m : yM) : Option (((Int × Int) × yM) ⊕ (((Int × Int) × yM) ⊕ (Int × yM))) := (J69_161 f rc A x1 x3 a4 0 m)
set_option maxRecDepth 100000 in
theorem tJ69_160 {L : Nat} {xs : Nat → Int32} {Q : xO → yM → Nat → Prop} {k d n : Nat} {c : yS3} {f : Nat} {rc : Int → yM → Option (Int × yM)} {A : Nat} {x1 : Int} {x3 : Int} {a4 : Nat} {m : yM} {j2 : Option Value} (hk : k ≤ f) (hrc : ∀ k', k' < k → ∀ {d' : Nat} {x1 : Int} {m' : yM} {n' : Nat}, rg x1 → RM c m' → PC (gZ L xs) k' d' 69 [.ref 2, yI x1] m' n' (qS c (rc x1 m'))) (hc : c.1 = pX A) (hA : (A = 256 ∨ A = 316)) (gx1 : rg x1) (gx3 : rg x3) (hs4 : (276 ≤ a4 ∧ a4 < 316) ∨ (336 ≤ a4 ∧ a4 < 376)) (hR : RM c m) (Hn : ∀ (y0 y1 : Int) (z0 : Option Value) (m' : yM) (n' : Nat), J69_160 f rc A x1 x3 a4 m = some (.inl ((y0, y1), m')) → rg y0 → rg y1 → RM c m' → ∀ k', k' < k → PW (gZ L xs) k' 69 d 19 [some (.ref 2), some (yI x1), some (yI y0), some (yI y1), z0] [] m' n' Q) (He : ∀ (y0 y1 : Int) (z0 : Option Value) (m' : yM) (n' : Nat), J69_160 f rc A x1 x3 a4 m = some (.inr (.inl ((y0, y1), m'))) → rg y0 → rg y1 → RM c m' → ∀ k', k' ≤ k → PW (gZ L xs) k' 69 d 180 [some (.ref 2), some (yI x1), some (yI y0), some (yI y1), z0] [] m' n' Q) (Hr : ∀ r m', J69_160 f rc A x1 x3 a4 m = some (.inr (.inr (r, m'))) → rg r → RM c m' → ∀ n', Q (.inl (some (yI r))) m' n') : PW (gZ L xs) k 69 d 160 [some (.ref 2), some (yI x1), j2, some (yI x3), some (.ref a4)] [] m n Q := by
  have hX : J69_160 f rc A x1 x3 a4 m = J69_160 f rc A x1 x3 a4 m := rfl
  refine p_iconst 161 c69_160 rfl ?_
  exact tJ69_161 (f := f) (by omega) (fun k' h' => hrc k' (by omega)) hc hA gx1 gx3 hs4 (rgD rfl) hR (fun y0 y1 y2 m' n' e' h0 h1 hR' k' hk' => Hn y0 y1 y2 m' n' (hX.trans e') h0 h1 hR' k' (by omega)) (fun y0 y1 y2 m' n' e' h0 h1 hR' k' hk' => He y0 y1 y2 m' n' (hX.trans e') h0 h1 hR' k' (by omega)) (fun r' m' e' => Hr r' m' (hX.trans e'))
def J69_134 (f : Nat) (rc : Int → yM → Option (Int × yM)) (A : Nat) (x1 : Int) (x3 : Int) (a4 : Nat) (xs0 : Int) (m : yM) : Option (((Int × Int) × yM) ⊕ (((Int × Int) × yM) ⊕ (Int × yM))) := (J69_162 f rc A x1 xs0 x3 a4 m)
set_option maxRecDepth 100000 in
theorem tJ69_134 {L : Nat} {xs : Nat → Int32} {Q : xO → yM → Nat → Prop} {k d n : Nat} {c : yS3} {f : Nat} {rc : Int → yM → Option (Int × yM)} {A : Nat} {x1 : Int} {x3 : Int} {a4 : Nat} {xs0 : Int} {m : yM} {j2 : Option Value} (hk : k ≤ f) (hrc : ∀ k', k' < k → ∀ {d' : Nat} {x1 : Int} {m' : yM} {n' : Nat}, rg x1 → RM c m' → PC (gZ L xs) k' d' 69 [.ref 2, yI x1] m' n' (qS c (rc x1 m'))) (hc : c.1 = pX A) (hA : (A = 256 ∨ A = 316)) (gx1 : rg x1) (gx3 : rg x3) (hs4 : (276 ≤ a4 ∧ a4 < 316) ∨ (336 ≤ a4 ∧ a4 < 376)) (gxs0 : rg xs0) (hR : RM c m) (Hn : ∀ (y0 y1 : Int) (z0 : Option Value) (m' : yM) (n' : Nat), J69_134 f rc A x1 x3 a4 xs0 m = some (.inl ((y0, y1), m')) → rg y0 → rg y1 → RM c m' → ∀ k', k' < k → PW (gZ L xs) k' 69 d 19 [some (.ref 2), some (yI x1), some (yI y0), some (yI y1), z0] [] m' n' Q) (He : ∀ (y0 y1 : Int) (z0 : Option Value) (m' : yM) (n' : Nat), J69_134 f rc A x1 x3 a4 xs0 m = some (.inr (.inl ((y0, y1), m'))) → rg y0 → rg y1 → RM c m' → ∀ k', k' ≤ k → PW (gZ L xs) k' 69 d 180 [some (.ref 2), some (yI x1), some (yI y0), some (yI y1), z0] [] m' n' Q) (Hr : ∀ r m', J69_134 f rc A x1 x3 a4 xs0 m = some (.inr (.inr (r, m'))) → rg r → RM c m' → ∀ n', Q (.inl (some (yI r))) m' n') : PW (gZ L xs) k 69 d 134 [some (.ref 2), some (yI x1), j2, some (yI x3), some (.ref a4)] [yI xs0] m n Q := by
  have hX : J69_134 f rc A x1 x3 a4 xs0 m = J69_134 f rc A x1 x3 a4 xs0 m := rfl
  refine p_istore 135 c69_134 rfl rfl ?_
  refine p_goto 162 c69_135 rfl ?_
  exact tJ69_162 (f := f) (by omega) (fun k' h' => hrc k' (by omega)) hc hA gx1 gxs0 gx3 hs4 hR (fun y0 y1 y2 m' n' e' h0 h1 hR' k' hk' => Hn y0 y1 y2 m' n' (hX.trans e') h0 h1 hR' k' (by omega)) (fun y0 y1 y2 m' n' e' h0 h1 hR' k' hk' => He y0 y1 y2 m' n' (hX.trans e') h0 h1 hR' k' (by omega)) (fun r' m' e' => Hr r' m' (hX.trans e'))
def J69_133 (f : Nat) (rc : Int → yM → Option (Int × yM)) (A : Nat) (x1 : Int) (x3 : Int) (a4 : Nat) (m : yM) : Option (((Int × Int) × yM) ⊕ (((Int × Int) × yM) ⊕ (Int × yM))) := (J69_134 f rc A x1 x3 a4 0 m)
set_option maxRecDepth 100000 in
theorem tJ69_133 {L : Nat} {xs : Nat → Int32} {Q : xO → yM → Nat → Prop} {k d n : Nat} {c : yS3} {f : Nat} {rc : Int → yM → Option (Int × yM)} {A : Nat} {x1 : Int} {x3 : Int} {a4 : Nat} {m : yM} {j2 : Option Value} (hk : k ≤ f) (hrc : ∀ k', k' < k → ∀ {d' : Nat} {x1 : Int} {m' : yM} {n' : Nat}, rg x1 → RM c m' → PC (gZ L xs) k' d' 69 [.ref 2, yI x1] m' n' (qS c (rc x1 m'))) (hc : c.1 = pX A) (hA : (A = 256 ∨ A = 316)) (gx1 : rg x1) (gx3 : rg x3) (hs4 : (276 ≤ a4 ∧ a4 < 316) ∨ (336 ≤ a4 ∧ a4 < 376)) (hR : RM c m) (Hn : ∀ (y0 y1 : Int) (z0 : Option Value) (m' : yM) (n' : Nat), J69_133 f rc A x1 x3 a4 m = some (.inl ((y0, y1), m')) → rg y0 → rg y1 → RM c m' → ∀ k', k' < k → PW (gZ L xs) k' 69 d 19 [some (.ref 2), some (yI x1), some (yI y0), some (yI y1), z0] [] m' n' Q) (He : ∀ (y0 y1 : Int) (z0 : Option Value) (m' : yM) (n' : Nat), J69_133 f rc A x1 x3 a4 m = some (.inr (.inl ((y0, y1), m'))) → rg y0 → rg y1 → RM c m' → ∀ k', k' ≤ k → PW (gZ L xs) k' 69 d 180 [some (.ref 2), some (yI x1), some (yI y0), some (yI y1), z0] [] m' n' Q) (Hr : ∀ r m', J69_133 f rc A x1 x3 a4 m = some (.inr (.inr (r, m'))) → rg r → RM c m' → ∀ n', Q (.inl (some (yI r))) m' n') : PW (gZ L xs) k 69 d 133 [some (.ref 2), some (yI x1), j2, some (yI x3), some (.ref a4)] [] m n Q := by
  have hX : J69_133 f rc A x1 x3 a4 m = J69_133 f rc A x1 x3 a4 m := rfl
  refine p_iconst 134 c69_133 rfl ?_
  exact tJ69_134 (f := f) (by omega) (fun k' h' => hrc k' (by omega)) hc hA gx1 gx3 hs4 (rgD rfl) hR (fun y0 y1 y2 m' n' e' h0 h1 hR' k' hk' => Hn y0 y1 y2 m' n' (hX.trans e') h0 h1 hR' k' (by omega)) (fun y0 y1 y2 m' n' e' h0 h1 hR' k' hk' => He y0 y1 y2 m' n' (hX.trans e') h0 h1 hR' k' (by omega)) (fun r' m' e' => Hr r' m' (hX.trans e'))
def B69_19 (f : Nat) (rc : Int → yM → Option (Int × yM)) (A : Nat) (x1 : Int) (x2 : Int) (x3 : Int) (m : yM) : Option (((Int × Int) × yM) ⊕ (((Int × Int) × yM) ⊕ (Int × yM))) := (if 40 < x3 then (some (.inr (.inl ((x2, x3), m)))) else (if x2 = 0 then (some (.inr (.inl ((x2, x3), m)))) else (if F38 m = 125 then (some (.inr (.inl ((x2, x3), m)))) else (if m A 16 = 40 then (bI (F43 f m) (fun r1810 m1812 => (some (.inr (.inr (r1810, m1812)))))) else (bI (F56 f A m) (fun r1153 m1155 => (if F38 m1155 = 6 then (bI (F59 f rc A r1153 x1 m1155) (fun r1271 m1273 => (J69_162 f rc A x1 r1271 x3 r1153 m1273))) else (if F38 m1155 = 7 then (bI (F68 f A r1153 m1155) (fun r1698 m1700 => (if r1698 = 0 then (J69_160 f rc A x1 x3 r1153 m1700) else (bI (F37 f 59 m1700) (fun r1711 m1713 => (if r1711 = 0 then (J69_160 f rc A x1 x3 r1153 m1713) else (J69_161 f rc A x1 x3 r1153 1 m1713))))))) else (if F38 m1155 = 8 then (bI (F59 f rc A r1153 x1 m1155) (fun r1727 m1729 => (J69_162 f rc A x1 r1727 x3 r1153 m1729))) else (if F38 m1155 = 9 then (bI (F60 f A r1153 m1155) (fun r1756 m1758 => (if r1756 = 0 then (J69_133 f rc A x1 x3 r1153 m1758) else (bI (F37 f 59 m1758) (fun r1769 m1771 => (if r1769 = 0 then (J69_133 f rc A x1 x3 r1153 m1771) else (J69_134 f rc A x1 x3 r1153 1 m1771))))))) else (bI (F68 f A r1153 m1155) (fun r1783 m1785 => (if r1783 = 0 then (J69_160 f rc A x1 x3 r1153 m1785) else (bI (F37 f 59 m1785) (fun r1796 m1798 => (if r1796 = 0 then (J69_160 f rc A x1 x3 r1153 m1798) else (J69_161 f rc A x1 x3 r1153 1 m1798)))))))))))))))))
set_option maxRecDepth 100000 in
theorem tB69_19 {L : Nat} {xs : Nat → Int32} {Q : xO → yM → Nat → Prop} {k d n : Nat} {c : yS3} {f : Nat} {rc : Int → yM → Option (Int × yM)} {A : Nat} {x1 : Int} {x2 : Int} {x3 : Int} {m : yM} {j4 : Option Value} (hk : k ≤ f) (hrc : ∀ k', k' < k → ∀ {d' : Nat} {x1 : Int} {m' : yM} {n' : Nat}, rg x1 → RM c m' → PC (gZ L xs) k' d' 69 [.ref 2, yI x1] m' n' (qS c (rc x1 m'))) (hc : c.1 = pX A) (hA : (A = 256 ∨ A = 316)) (gx1 : rg x1) (gx2 : rg x2) (gx3 : rg x3) (hR : RM c m) (Hn : ∀ (y0 y1 : Int) (z0 : Option Value) (m' : yM) (n' : Nat), B69_19 f rc A x1 x2 x3 m = some (.inl ((y0, y1), m')) → rg y0 → rg y1 → RM c m' → ∀ k', k' < k → PW (gZ L xs) k' 69 d 19 [some (.ref 2), some (yI x1), some (yI y0), some (yI y1), z0] [] m' n' Q) (He : ∀ (y0 y1 : Int) (z0 : Option Value) (m' : yM) (n' : Nat), B69_19 f rc A x1 x2 x3 m = some (.inr (.inl ((y0, y1), m'))) → rg y0 → rg y1 → RM c m' → ∀ k', k' ≤ k → PW (gZ L xs) k' 69 d 180 [some (.ref 2), some (yI x1), some (yI y0), some (yI y1), z0] [] m' n' Q) (Hr : ∀ r m', B69_19 f rc A x1 x2 x3 m = some (.inr (.inr (r, m'))) → rg r → RM c m' → ∀ n', Q (.inl (some (yI r))) m' n') : PW (gZ L xs) k 69 d 19 [some (.ref 2), some (yI x1), some (yI x2), some (yI x3), j4] [] m n Q := by
  have hX : B69_19 f rc A x1 x2 x3 m = B69_19 f rc A x1 x2 x3 m := rfl
  refine p_iload 20 c69_19 rfl rfl ?_
  refine p_iconst 22 c69_20 rfl ?_
  refine p_icmp 180 25 c69_22 rfl rfl (yc_gt gx3 (rgD rfl)) (fun hb1122 k1123 hk1123 => ?_) (fun hb1122 k1124 hk1124 => ?_)
  · have hX1125 := hX.trans (if_pos hb1122)
    exact He _ _ _ _ _ hX1125 gx2 gx3 hR _ (by omega)
  · have hX1126 := hX.trans (if_neg hb1122)
    refine p_iload 26 c69_25 rfl rfl ?_
    refine p_if 180 29 c69_26 rfl rfl (yz_eq gx2) (fun hb1127 k1128 hk1128 => ?_) (fun hb1127 k1129 hk1129 => ?_)
    · have hX1130 := hX1126.trans (if_pos hb1127)
      exact He _ _ _ _ _ hX1130 gx2 gx3 hR _ (by omega)
    · have hX1131 := hX1126.trans (if_neg hb1127)
      refine p_aload 30 c69_29 rfl rfl ?_
      refine p_cX 33 [.ref 2] [] c69_30 rfl rfl rfl (fun k' hk' d' => d38 hR) (fun hg1134 n1133 k1132 hk1132 => ?_)
      refine p_iconst 35 c69_33 rfl ?_
      refine p_icmp 180 38 c69_35 rfl rfl (yc_eq hg1134 (rgD rfl)) (fun hb1135 k1136 hk1136 => ?_) (fun hb1135 k1137 hk1137 => ?_)
      · have hX1138 := hX1131.trans (if_pos hb1135)
        exact He _ _ _ _ _ hX1138 gx2 gx3 hR _ (by omega)
      · have hX1139 := hX1131.trans (if_neg hb1135)
        refine p_aload 39 c69_38 rfl rfl ?_
        refine p_getV 42 (.ref A) c69_39 rfl kf2_1 (pX_of hA hR.2.2.2.1 hc) ?_
        refine p_getX 45 (m A 16) c69_42 rfl (kP_16 hA) rfl ?_
        refine p_iconst 47 c69_45 rfl ?_
        refine p_icmp 55 50 c69_47 rfl rfl (yc_ne (hR.rg _ _) (rgD rfl)) (fun hb1140 k1141 hk1141 => ?_) (fun hb1140 k1142 hk1142 => ?_)
        · have hX1143 := hX1139.trans (if_neg hb1140)
          refine p_aload 56 c69_55 rfl rfl ?_
          refine p_getV 59 (.ref A) c69_56 rfl kf2_1 (pX_of hA hR.2.2.2.1 hc) ?_
          refine p_cR 62 [.ref A] [] c69_59 rfl rfl rfl (fun k' hk' d' => d56 (f := f) (by omega) hA hR) (fun r1153 m1155 hF1151 hg1152 hR1156 n1145 k1144 hk1144 => ?_)
          have hX1154 := hX1143.trans (bI_s hF1151)
          refine p_astore 64 c69_62 rfl rfl ?_
          refine p_aload 65 c69_64 rfl rfl ?_
          refine p_cX 68 [.ref 2] [] c69_65 rfl rfl rfl (fun k' hk' d' => d38 hR1156) (fun hg1159 n1158 k1157 hk1157 => ?_)
          by_cases hk1160 : F38 m1155 = 6
          · have hX1161 := hX1154.trans (if_pos hk1160)
            refine p_top 6 hk1160 ?_
            refine p_tsw 100 c69_68 (rgD rfl) (by decide) rfl rfl ?_
            refine p_aload 101 c69_100 rfl rfl ?_
            refine p_aload 103 c69_101 rfl rfl ?_
            refine p_iload 104 c69_103 rfl rfl ?_
            refine p_cS 107 [.ref 2, .ref r1153, yI x1] [] c69_104 rfl rfl rfl (fun k' hk' d' => d59 (f := f) (by omega) (fun k' h' => hrc k' (by omega)) hc hA hg1152 gx1 hR1156) (fun r1271 m1273 hF1269 hg1270 hR1274 n1163 k1162 hk1162 => ?_)
            have hX1272 := hX1161.trans (bI_s hF1269)
            refine p_istore 108 c69_107 rfl rfl ?_
            refine p_goto 162 c69_108 rfl ?_
            exact tJ69_162 (f := f) (by omega) (fun k' h' => hrc k' (by omega)) hc hA gx1 hg1270 gx3 hg1152 hR1274 (fun y0 y1 y2 m' n' e' h0 h1 hR' k' hk' => Hn y0 y1 y2 m' n' (hX1272.trans e') h0 h1 hR' k' (by omega)) (fun y0 y1 y2 m' n' e' h0 h1 hR' k' hk' => He y0 y1 y2 m' n' (hX1272.trans e') h0 h1 hR' k' (by omega)) (fun r' m' e' => Hr r' m' (hX1272.trans e'))
          have hX1277 := hX1154.trans (if_neg hk1160)
          by_cases hk1278 : F38 m1155 = 7
          · have hX1279 := hX1277.trans (if_pos hk1278)
            refine p_top 7 hk1278 ?_
            refine p_tsw 138 c69_68 (rgD rfl) (by decide) rfl rfl ?_
            refine p_aload 139 c69_138 rfl rfl ?_
            refine p_aload 141 c69_139 rfl rfl ?_
            refine p_cS 144 [.ref 2, .ref r1153] [] c69_141 rfl rfl rfl (fun k' hk' d' => d68 (f := f) (by omega) hc hA hg1152 hR1156) (fun r1698 m1700 hF1696 hg1697 hR1701 n1281 k1280 hk1280 => ?_)
            have hX1699 := hX1279.trans (bI_s hF1696)
            refine p_if 160 147 c69_144 rfl rfl (yz_eq hg1697) (fun hb1702 k1703 hk1703 => ?_) (fun hb1702 k1704 hk1704 => ?_)
            · have hX1705 := hX1699.trans (if_pos hb1702)
              exact tJ69_160 (f := f) (by omega) (fun k' h' => hrc k' (by omega)) hc hA gx1 gx3 hg1152 hR1701 (fun y0 y1 y2 m' n' e' h0 h1 hR' k' hk' => Hn y0 y1 y2 m' n' (hX1705.trans e') h0 h1 hR' k' (by omega)) (fun y0 y1 y2 m' n' e' h0 h1 hR' k' hk' => He y0 y1 y2 m' n' (hX1705.trans e') h0 h1 hR' k' (by omega)) (fun r' m' e' => Hr r' m' (hX1705.trans e'))
            · have hX1706 := hX1699.trans (if_neg hb1702)
              refine p_aload 148 c69_147 rfl rfl ?_
              refine p_iconst 150 c69_148 rfl ?_
              refine p_cS 153 [.ref 2, yI 59] [] c69_150 rfl rfl rfl (fun k' hk' d' => d37 (f := f) (by omega) (rgD rfl) hR1701) (fun r1711 m1713 hF1709 hg1710 hR1714 n1708 k1707 hk1707 => ?_)
              have hX1712 := hX1706.trans (bI_s hF1709)
              refine p_if 160 156 c69_153 rfl rfl (yz_eq hg1710) (fun hb1715 k1716 hk1716 => ?_) (fun hb1715 k1717 hk1717 => ?_)
              · have hX1718 := hX1712.trans (if_pos hb1715)
                exact tJ69_160 (f := f) (by omega) (fun k' h' => hrc k' (by omega)) hc hA gx1 gx3 hg1152 hR1714 (fun y0 y1 y2 m' n' e' h0 h1 hR' k' hk' => Hn y0 y1 y2 m' n' (hX1718.trans e') h0 h1 hR' k' (by omega)) (fun y0 y1 y2 m' n' e' h0 h1 hR' k' hk' => He y0 y1 y2 m' n' (hX1718.trans e') h0 h1 hR' k' (by omega)) (fun r' m' e' => Hr r' m' (hX1718.trans e'))
              · have hX1719 := hX1712.trans (if_neg hb1715)
                refine p_iconst 157 c69_156 rfl ?_
                refine p_goto 161 c69_157 rfl ?_
                exact tJ69_161 (f := f) (by omega) (fun k' h' => hrc k' (by omega)) hc hA gx1 gx3 hg1152 (rgD rfl) hR1714 (fun y0 y1 y2 m' n' e' h0 h1 hR' k' hk' => Hn y0 y1 y2 m' n' (hX1719.trans e') h0 h1 hR' k' (by omega)) (fun y0 y1 y2 m' n' e' h0 h1 hR' k' hk' => He y0 y1 y2 m' n' (hX1719.trans e') h0 h1 hR' k' (by omega)) (fun r' m' e' => Hr r' m' (hX1719.trans e'))
          have hX1720 := hX1277.trans (if_neg hk1278)
          by_cases hk1721 : F38 m1155 = 8
          · have hX1722 := hX1720.trans (if_pos hk1721)
            refine p_top 8 hk1721 ?_
            refine p_tsw 100 c69_68 (rgD rfl) (by decide) rfl rfl ?_
            refine p_aload 101 c69_100 rfl rfl ?_
            refine p_aload 103 c69_101 rfl rfl ?_
            refine p_iload 104 c69_103 rfl rfl ?_
            refine p_cS 107 [.ref 2, .ref r1153, yI x1] [] c69_104 rfl rfl rfl (fun k' hk' d' => d59 (f := f) (by omega) (fun k' h' => hrc k' (by omega)) hc hA hg1152 gx1 hR1156) (fun r1727 m1729 hF1725 hg1726 hR1730 n1724 k1723 hk1723 => ?_)
            have hX1728 := hX1722.trans (bI_s hF1725)
            refine p_istore 108 c69_107 rfl rfl ?_
            refine p_goto 162 c69_108 rfl ?_
            exact tJ69_162 (f := f) (by omega) (fun k' h' => hrc k' (by omega)) hc hA gx1 hg1726 gx3 hg1152 hR1730 (fun y0 y1 y2 m' n' e' h0 h1 hR' k' hk' => Hn y0 y1 y2 m' n' (hX1728.trans e') h0 h1 hR' k' (by omega)) (fun y0 y1 y2 m' n' e' h0 h1 hR' k' hk' => He y0 y1 y2 m' n' (hX1728.trans e') h0 h1 hR' k' (by omega)) (fun r' m' e' => Hr r' m' (hX1728.trans e'))
          have hX1731 := hX1720.trans (if_neg hk1721)
          by_cases hk1732 : F38 m1155 = 9
          · have hX1733 := hX1731.trans (if_pos hk1732)
            refine p_top 9 hk1732 ?_
            refine p_tsw 111 c69_68 (rgD rfl) (by decide) rfl rfl ?_
            refine p_aload 112 c69_111 rfl rfl ?_
            refine p_aload 114 c69_112 rfl rfl ?_
            refine p_cS 117 [.ref 2, .ref r1153] [] c69_114 rfl rfl rfl (fun k' hk' d' => d60 (f := f) (by omega) hc hA hg1152 hR1156) (fun r1756 m1758 hF1754 hg1755 hR1759 n1735 k1734 hk1734 => ?_)
            have hX1757 := hX1733.trans (bI_s hF1754)
            refine p_if 133 120 c69_117 rfl rfl (yz_eq hg1755) (fun hb1760 k1761 hk1761 => ?_) (fun hb1760 k1762 hk1762 => ?_)
            · have hX1763 := hX1757.trans (if_pos hb1760)
              exact tJ69_133 (f := f) (by omega) (fun k' h' => hrc k' (by omega)) hc hA gx1 gx3 hg1152 hR1759 (fun y0 y1 y2 m' n' e' h0 h1 hR' k' hk' => Hn y0 y1 y2 m' n' (hX1763.trans e') h0 h1 hR' k' (by omega)) (fun y0 y1 y2 m' n' e' h0 h1 hR' k' hk' => He y0 y1 y2 m' n' (hX1763.trans e') h0 h1 hR' k' (by omega)) (fun r' m' e' => Hr r' m' (hX1763.trans e'))
            · have hX1764 := hX1757.trans (if_neg hb1760)
              refine p_aload 121 c69_120 rfl rfl ?_
              refine p_iconst 123 c69_121 rfl ?_
              refine p_cS 126 [.ref 2, yI 59] [] c69_123 rfl rfl rfl (fun k' hk' d' => d37 (f := f) (by omega) (rgD rfl) hR1759) (fun r1769 m1771 hF1767 hg1768 hR1772 n1766 k1765 hk1765 => ?_)
              have hX1770 := hX1764.trans (bI_s hF1767)
              refine p_if 133 129 c69_126 rfl rfl (yz_eq hg1768) (fun hb1773 k1774 hk1774 => ?_) (fun hb1773 k1775 hk1775 => ?_)
              · have hX1776 := hX1770.trans (if_pos hb1773)
                exact tJ69_133 (f := f) (by omega) (fun k' h' => hrc k' (by omega)) hc hA gx1 gx3 hg1152 hR1772 (fun y0 y1 y2 m' n' e' h0 h1 hR' k' hk' => Hn y0 y1 y2 m' n' (hX1776.trans e') h0 h1 hR' k' (by omega)) (fun y0 y1 y2 m' n' e' h0 h1 hR' k' hk' => He y0 y1 y2 m' n' (hX1776.trans e') h0 h1 hR' k' (by omega)) (fun r' m' e' => Hr r' m' (hX1776.trans e'))
              · have hX1777 := hX1770.trans (if_neg hb1773)
                refine p_iconst 130 c69_129 rfl ?_
                refine p_goto 134 c69_130 rfl ?_
                exact tJ69_134 (f := f) (by omega) (fun k' h' => hrc k' (by omega)) hc hA gx1 gx3 hg1152 (rgD rfl) hR1772 (fun y0 y1 y2 m' n' e' h0 h1 hR' k' hk' => Hn y0 y1 y2 m' n' (hX1777.trans e') h0 h1 hR' k' (by omega)) (fun y0 y1 y2 m' n' e' h0 h1 hR' k' hk' => He y0 y1 y2 m' n' (hX1777.trans e') h0 h1 hR' k' (by omega)) (fun r' m' e' => Hr r' m' (hX1777.trans e'))
          have hX1778 := hX1731.trans (if_neg hk1732)
          refine p_tswd 138 c69_68 hg1159 (by omega) rfl ?_
          refine p_aload 139 c69_138 rfl rfl ?_
          refine p_aload 141 c69_139 rfl rfl ?_
          refine p_cS 144 [.ref 2, .ref r1153] [] c69_141 rfl rfl rfl (fun k' hk' d' => d68 (f := f) (by omega) hc hA hg1152 hR1156) (fun r1783 m1785 hF1781 hg1782 hR1786 n1780 k1779 hk1779 => ?_)
          have hX1784 := hX1778.trans (bI_s hF1781)
          refine p_if 160 147 c69_144 rfl rfl (yz_eq hg1782) (fun hb1787 k1788 hk1788 => ?_) (fun hb1787 k1789 hk1789 => ?_)
          · have hX1790 := hX1784.trans (if_pos hb1787)
            exact tJ69_160 (f := f) (by omega) (fun k' h' => hrc k' (by omega)) hc hA gx1 gx3 hg1152 hR1786 (fun y0 y1 y2 m' n' e' h0 h1 hR' k' hk' => Hn y0 y1 y2 m' n' (hX1790.trans e') h0 h1 hR' k' (by omega)) (fun y0 y1 y2 m' n' e' h0 h1 hR' k' hk' => He y0 y1 y2 m' n' (hX1790.trans e') h0 h1 hR' k' (by omega)) (fun r' m' e' => Hr r' m' (hX1790.trans e'))
          · have hX1791 := hX1784.trans (if_neg hb1787)
            refine p_aload 148 c69_147 rfl rfl ?_
            refine p_iconst 150 c69_148 rfl ?_
            refine p_cS 153 [.ref 2, yI 59] [] c69_150 rfl rfl rfl (fun k' hk' d' => d37 (f := f) (by omega) (rgD rfl) hR1786) (fun r1796 m1798 hF1794 hg1795 hR1799 n1793 k1792 hk1792 => ?_)
            have hX1797 := hX1791.trans (bI_s hF1794)
            refine p_if 160 156 c69_153 rfl rfl (yz_eq hg1795) (fun hb1800 k1801 hk1801 => ?_) (fun hb1800 k1802 hk1802 => ?_)
            · have hX1803 := hX1797.trans (if_pos hb1800)
              exact tJ69_160 (f := f) (by omega) (fun k' h' => hrc k' (by omega)) hc hA gx1 gx3 hg1152 hR1799 (fun y0 y1 y2 m' n' e' h0 h1 hR' k' hk' => Hn y0 y1 y2 m' n' (hX1803.trans e') h0 h1 hR' k' (by omega)) (fun y0 y1 y2 m' n' e' h0 h1 hR' k' hk' => He y0 y1 y2 m' n' (hX1803.trans e') h0 h1 hR' k' (by omega)) (fun r' m' e' => Hr r' m' (hX1803.trans e'))
            · have hX1804 := hX1797.trans (if_neg hb1800)
              refine p_iconst 157 c69_156 rfl ?_
              refine p_goto 161 c69_157 rfl ?_
              exact tJ69_161 (f := f) (by omega) (fun k' h' => hrc k' (by omega)) hc hA gx1 gx3 hg1152 (rgD rfl) hR1799 (fun y0 y1 y2 m' n' e' h0 h1 hR' k' hk' => Hn y0 y1 y2 m' n' (hX1804.trans e') h0 h1 hR' k' (by omega)) (fun y0 y1 y2 m' n' e' h0 h1 hR' k' hk' => He y0 y1 y2 m' n' (hX1804.trans e') h0 h1 hR' k' (by omega)) (fun r' m' e' => Hr r' m' (hX1804.trans e'))
        · have hX1805 := hX1139.trans (if_pos (Classical.not_not.mp hb1140))
          refine p_aload 51 c69_50 rfl rfl ?_
          refine p_cS 54 [.ref 2] [] c69_51 rfl rfl rfl (fun k' hk' d' => d43 (f := f) (by omega) hR) (fun r1810 m1812 hF1808 hg1809 hR1813 n1807 k1806 hk1806 => ?_)
          have hX1811 := hX1805.trans (bI_s hF1808)
          exact p_ireturn c69_54 (Hr _ _ hX1811 hg1809 hR1813 _)
def J69_180 (f : Nat) (rc : Int → yM → Option (Int × yM)) (A : Nat) (x2 : Int) (m : yM) : Option (Int × yM) := (if x2 = 0 then (some (0, m)) else (bI (F37 f 125 m) (fun r1832 m1834 => (if r1832 = 0 then (some (0, m1834)) else (some (1, m1834))))))
set_option maxRecDepth 100000 in
theorem tJ69_180 {L : Nat} {xs : Nat → Int32} {Q : xO → yM → Nat → Prop} {k d n : Nat} {c : yS3} {f : Nat} {rc : Int → yM → Option (Int × yM)} {A : Nat} {x2 : Int} {m : yM} {j1 j3 j4 : Option Value} (hk : k ≤ f) (hrc : ∀ k', k' < k → ∀ {d' : Nat} {x1 : Int} {m' : yM} {n' : Nat}, rg x1 → RM c m' → PC (gZ L xs) k' d' 69 [.ref 2, yI x1] m' n' (qS c (rc x1 m'))) (hc : c.1 = pX A) (hA : (A = 256 ∨ A = 316)) (gx2 : rg x2) (hR : RM c m) (Hr : ∀ r m', J69_180 f rc A x2 m = some (r, m') → rg r → RM c m' → ∀ n', Q (.inl (some (yI r))) m' n') : PW (gZ L xs) k 69 d 180 [some (.ref 2), j1, some (yI x2), j3, j4] [] m n Q := by
  have hX : J69_180 f rc A x2 m = J69_180 f rc A x2 m := rfl
  refine p_iload 181 c69_180 rfl rfl ?_
  refine p_if 197 184 c69_181 rfl rfl (yz_eq gx2) (fun hb1823 k1824 hk1824 => ?_) (fun hb1823 k1825 hk1825 => ?_)
  · have hX1826 := hX.trans (if_pos hb1823)
    refine p_iconst 198 c69_197 rfl ?_
    exact p_ireturn c69_198 (Hr _ _ hX1826 (rgD rfl) hR _)
  · have hX1827 := hX.trans (if_neg hb1823)
    refine p_aload 185 c69_184 rfl rfl ?_
    refine p_iconst 187 c69_185 rfl ?_
    refine p_cS 190 [.ref 2, yI 125] [] c69_187 rfl rfl rfl (fun k' hk' d' => d37 (f := f) (by omega) (rgD rfl) hR) (fun r1832 m1834 hF1830 hg1831 hR1835 n1829 k1828 hk1828 => ?_)
    have hX1833 := hX1827.trans (bI_s hF1830)
    refine p_if 197 193 c69_190 rfl rfl (yz_eq hg1831) (fun hb1836 k1837 hk1837 => ?_) (fun hb1836 k1838 hk1838 => ?_)
    · have hX1839 := hX1833.trans (if_pos hb1836)
      refine p_iconst 198 c69_197 rfl ?_
      exact p_ireturn c69_198 (Hr _ _ hX1839 (rgD rfl) hR1835 _)
    · have hX1840 := hX1833.trans (if_neg hb1836)
      refine p_iconst 194 c69_193 rfl ?_
      refine p_goto 198 c69_194 rfl ?_
      exact p_ireturn c69_198 (Hr _ _ hX1840 (rgD rfl) hR1835 _)
def G69 (f : Nat) (rc : Int → yM → Option (Int × yM)) (A : Nat) (x1 : Int) (m : yM) : Option (Int × yM) := (if 3 < x1 then (bI (F43 f m) (fun r1846 m1848 => (some (r1846, m1848)))) else (bI (F37 f 123 m) (fun r1118 m1120 => (bL (yloop (fun (l : Int × Int) ml => B69_19 f rc A x1 l.1 l.2 ml) f (r1118, 0) m1120) (fun l1814 m1820 => (J69_180 f rc A l1814.1 m1820)) (fun r mr => some (r, mr))))))
set_option maxRecDepth 100000 in
theorem g69 {L : Nat} {xs : Nat → Int32} {k d n : Nat} {c : yS3} {f : Nat} {rc : Int → yM → Option (Int × yM)} {A : Nat} {x1 : Int} {m : yM} (hk : k ≤ f) (hrc : ∀ k', k' < k → ∀ {d' : Nat} {x1 : Int} {m' : yM} {n' : Nat}, rg x1 → RM c m' → PC (gZ L xs) k' d' 69 [.ref 2, yI x1] m' n' (qS c (rc x1 m'))) (hc : c.1 = pX A) (hA : (A = 256 ∨ A = 316)) (gx1 : rg x1) (hR : RM c m) : PC (gZ L xs) k d 69 [.ref 2, yI x1] m n (qS c (G69 f rc A x1 m)) := by
  have hX : G69 f rc A x1 m = G69 f rc A x1 m := rfl
  have Hr : ∀ r m', G69 f rc A x1 m = some (r, m') → rg r → RM c m' → ∀ n' : Nat, (qS c (G69 f rc A x1 m)) (.inl (some (yI r))) m' n' := fun r m' e h1 h2 n' => ⟨r, rfl, h1, h2, e⟩
  refine PC.mk [some (.ref 2), some (yI x1), none, none, none] kn69 rfl ?_
  refine p_iload 1 c69_0 rfl rfl ?_
  refine p_iconst 2 c69_1 rfl ?_
  refine p_icmp 10 5 c69_2 rfl rfl ((yc_le gx1 (rgD rfl)).trans Int.not_lt.symm) (fun hb1110 k1111 hk1111 => ?_) (fun hb1110 k1112 hk1112 => ?_)
  · have hX1113 := hX.trans (if_neg hb1110)
    refine p_aload 11 c69_10 rfl rfl ?_
    refine p_iconst 13 c69_11 rfl ?_
    refine p_cS 16 [.ref 2, yI 123] [] c69_13 rfl rfl rfl (fun k' hk' d' => d37 (f := f) (by omega) (rgD rfl) hR) (fun r1118 m1120 hF1116 hg1117 hR1121 n1115 k1114 hk1114 => ?_)
    have hX1119 := hX1113.trans (bI_s hF1116)
    refine p_istore 17 c69_16 rfl rfl ?_
    refine p_iconst 18 c69_17 rfl ?_
    refine p_istore 19 c69_18 rfl rfl ?_
    refine PW.loop (K := k1114) (pce := 180) (fun (l : Int × Int) ml => B69_19 f rc A x1 l.1 l.2 ml) (fun (l : Int × Int) j => [some (.ref 2), some (yI x1), some (yI l.1), some (yI l.2), j 4]) (fun (l : Int × Int) => rg l.1 ∧ rg l.2) (RM c) (fun r' m' => rg r' → RM c m' → ∀ n' : Nat, (qS c (G69 f rc A x1 m)) (.inl (some (yI r'))) m' n') (fun k' hk' l j m' n' hl hI Hn' He' Hr' => tB69_19 (f := f) (by omega) (fun k' h' => hrc k' (by omega)) hc hA gx1 hl.1 hl.2 hI (fun y0 y1 y2 m2 n2 e h0 h1 hR2 => Hn' (y0, y1) (fun q => ([none, none, none, none, y2] : List (Option Value)).getD q none) m2 n2 e ⟨h0, h1⟩ hR2) (fun y0 y1 y2 m2 n2 e h0 h1 hR2 => He' (y0, y1) (fun q => ([none, none, none, none, y2] : List (Option Value)).getD q none) m2 n2 e ⟨h0, h1⟩ hR2) Hr') f k1114 (by omega) (Nat.le_refl _) (r1118, 0) (fun q => ([some (.ref 2), some (yI x1), some (yI r1118), some (yI 0), none] : xL).getD q none) _ _ ⟨hg1117, (rgD rfl)⟩ hR1121 (fun l1814 j1817 m1820 n1819 e1816 hl1815 hR1821 k1818 hk1818 => ?_) (fun r' m' e' => ?_)
    · have hX1822 := hX1119.trans (bL_l e1816)
      exact tJ69_180 (f := f) (by omega) (fun k' h' => hrc k' (by omega)) hc hA hl1815.1 hR1821 (fun r' m' e' => Hr r' m' (hX1822.trans e'))
    · exact Hr r' m' (hX1119.trans (bL_r e'))
  · have hX1841 := hX.trans (if_pos (Classical.not_not.mp hb1110))
    refine p_aload 6 c69_5 rfl rfl ?_
    refine p_cS 9 [.ref 2] [] c69_6 rfl rfl rfl (fun k' hk' d' => d43 (f := f) (by omega) hR) (fun r1846 m1848 hF1844 hg1845 hR1849 n1843 k1842 hk1842 => ?_)
    have hX1847 := hX1841.trans (bI_s hF1844)
    exact p_ireturn c69_9 (Hr _ _ hX1847 hg1845 hR1849 _)
def F69 (f : Nat) (A : Nat) : Nat → Int → yM → Option (Int × yM)
  | 0 => fun _ _ => none
  | g + 1 => G69 f (F69 f A g) A
theorem d69 {L : Nat} {xs : Nat → Int32} {f A : Nat} {c : yS3} (hc : c.1 = pX A) (hA : (A = 256 ∨ A = 316)) : ∀ (g k : Nat), k ≤ f → k ≤ g → ∀ (d n : Nat) (x1 : Int) (m : yM), rg x1 → RM c m → PC (gZ L xs) k d 69 [.ref 2, yI x1] m n (qS c (F69 f A g x1 m))
  | 0, k, _, h => by
    intro d n x1 m _ _
    have e : k = 0 := by omega
    subst e
    exact PW.zero
  | g + 1, k, hk, hg => by
    intro d n x1 m gx1 hR
    exact g69 (f := f) hk (fun k' hk' {d'} {x0'} {m'} {n'} h0' hR' => d69 hc hA g k' (by omega) (by omega) d' n' x0' m' h0' hR') hc hA gx1 hR
def J70_33 (f : Nat) (A : Nat) (m : yM) : Option (Int × yM) := (bI (F43 f m) (fun r872 m874 => (some (r872, m874))))
set_option maxRecDepth 100000 in
theorem tJ70_33 {L : Nat} {xs : Nat → Int32} {Q : xO → yM → Nat → Prop} {k d n : Nat} {c : yS3} {f : Nat} {A : Nat} {m : yM} {j1 j2 : Option Value} (hk : k ≤ f) (hc : c.1 = pX A) (hA : (A = 256 ∨ A = 316)) (hR : RM c m) (Hr : ∀ r m', J70_33 f A m = some (r, m') → rg r → RM c m' → ∀ n', Q (.inl (some (yI r))) m' n') : PW (gZ L xs) k 70 d 33 [some (.ref 2), j1, j2] [] m n Q := by
  have hX : J70_33 f A m = J70_33 f A m := rfl
  refine p_aload 34 c70_33 rfl rfl ?_
  refine p_cS 37 [.ref 2] [] c70_34 rfl rfl rfl (fun k' hk' d' => d43 (f := f) (by omega) hR) (fun r872 m874 hF870 hg871 hR875 n869 k868 hk868 => ?_)
  have hX873 := hX.trans (bI_s hF870)
  exact p_ireturn c70_37 (Hr _ _ hX873 hg871 hR875 _)
def J70_115 (f : Nat) (A : Nat) (a1 : Nat) (xs0 : Int) (m : yM) : Option (Int × yM) := (some (xs0, yup m a1 5 (m A 16)))
set_option maxRecDepth 100000 in
theorem tJ70_115 {L : Nat} {xs : Nat → Int32} {Q : xO → yM → Nat → Prop} {k d n : Nat} {c : yS3} {f : Nat} {A : Nat} {a1 : Nat} {xs0 : Int} {m : yM} {j2 : Option Value} (hk : k ≤ f) (hc : c.1 = pX A) (hA : (A = 256 ∨ A = 316)) (hm1 : (266 ≤ a1 ∧ a1 < 276) ∨ (326 ≤ a1 ∧ a1 < 336)) (gxs0 : rg xs0) (hR : RM c m) (Hr : ∀ r m', J70_115 f A a1 xs0 m = some (r, m') → rg r → RM c m' → ∀ n', Q (.inl (some (yI r))) m' n') : PW (gZ L xs) k 70 d 115 [some (.ref 2), some (.ref a1), j2] [yI xs0] m n Q := by
  have hX : J70_115 f A a1 xs0 m = J70_115 f A a1 xs0 m := rfl
  refine p_istore 116 c70_115 rfl rfl ?_
  refine p_aload 117 c70_116 rfl rfl ?_
  refine p_aload 118 c70_117 rfl rfl ?_
  refine p_getV 121 (.ref A) c70_118 rfl kf2_1 (pX_of hA hR.2.2.2.1 hc) ?_
  refine p_getX 124 (m A 16) c70_121 rfl (kP_16 hA) rfl ?_
  refine p_putI 127 c70_124 rfl (kM_5 hm1) ?_
  have hR964 := hR.up a1 5 (v := m A 16) (nselA (by omega)) (hR.rg _ _)
  refine p_iload 128 c70_127 rfl rfl ?_
  exact p_ireturn c70_128 (Hr _ _ hX gxs0 hR964 _)
def J70_114 (f : Nat) (A : Nat) (a1 : Nat) (m : yM) : Option (Int × yM) := (J70_115 f A a1 0 m)
set_option maxRecDepth 100000 in
theorem tJ70_114 {L : Nat} {xs : Nat → Int32} {Q : xO → yM → Nat → Prop} {k d n : Nat} {c : yS3} {f : Nat} {A : Nat} {a1 : Nat} {m : yM} {j2 : Option Value} (hk : k ≤ f) (hc : c.1 = pX A) (hA : (A = 256 ∨ A = 316)) (hm1 : (266 ≤ a1 ∧ a1 < 276) ∨ (326 ≤ a1 ∧ a1 < 336)) (hR : RM c m) (Hr : ∀ r m', J70_114 f A a1 m = some (r, m') → rg r → RM c m' → ∀ n', Q (.inl (some (yI r))) m' n') : PW (gZ L xs) k 70 d 114 [some (.ref 2), some (.ref a1), j2] [] m n Q := by
  have hX : J70_114 f A a1 m = J70_114 f A a1 m := rfl
  refine p_iconst 115 c70_114 rfl ?_
  exact tJ70_115 (f := f) (by omega) hc hA hm1 (rgD rfl) hR (fun r' m' e' => Hr r' m' (hX.trans e'))
def F70 (f : Nat) (A : Nat) (m : yM) : Option (Int × yM) := (if F38 (yup m 2 2 (wr ((m 2 2) + 1))) = 11 then (bI (F51 f A (F39 (yup m 2 2 (wr ((m 2 2) + 1)))) (yup m 2 2 (wr ((m 2 2) + 1)))) (fun r941 m943 => (if r941 = 0 then (J70_33 f A m943) else (bI (F37 f 40 (yup (yup m943 2 2 (wr ((m943 2 2) + 1))) (A + 10 + (wr ((m943 A 10) - 1)).toNat) 4 (m943 A 16))) (fun r956 m958 => (if r956 = 0 then (J70_114 f A (A + 10 + (wr ((m943 A 10) - 1)).toNat) m958) else (bI (F55 f A m958) (fun r1086 m1088 => (if r1086 = 0 then (J70_114 f A (A + 10 + (wr ((m943 A 10) - 1)).toNat) m1088) else (bI (F37 f 41 m1088) (fun r1099 m1101 => (if r1099 = 0 then (J70_114 f A (A + 10 + (wr ((m943 A 10) - 1)).toNat) m1101) else (bI (F69 f A f 0 m1101) (fun r1852 m1854 => (if r1852 = 0 then (J70_114 f A (A + 10 + (wr ((m943 A 10) - 1)).toNat) m1854) else (J70_115 f A (A + 10 + (wr ((m943 A 10) - 1)).toNat) 1 m1854)))))))))))))))) else (J70_33 f A (yup m 2 2 (wr ((m 2 2) + 1)))))
set_option maxRecDepth 100000 in
theorem d70 {L : Nat} {xs : Nat → Int32} {k d n : Nat} {c : yS3} {f : Nat} {A : Nat} {m : yM} (hk : k ≤ f) (hc : c.1 = pX A) (hA : (A = 256 ∨ A = 316)) (hR : RM c m) : PC (gZ L xs) k d 70 [.ref 2] m n (qS c (F70 f A m)) := by
  have hX : F70 f A m = F70 f A m := rfl
  have Hr : ∀ r m', F70 f A m = some (r, m') → rg r → RM c m' → ∀ n' : Nat, (qS c (F70 f A m)) (.inl (some (yI r))) m' n' := fun r m' e h1 h2 n' => ⟨r, rfl, h1, h2, e⟩
  refine PC.mk [some (.ref 2), none, none] kn70 rfl ?_
  refine p_aload 1 c70_0 rfl rfl ?_
  refine p_dup 2 c70_1 rfl rfl ?_
  refine p_getX 5 (m 2 2) c70_2 rfl kf2_2 rfl ?_
  refine p_iconst 6 c70_5 rfl ?_
  refine p_iadd 7 c70_6 rfl ?_
  refine p_putI 10 c70_7 rfl kf2_2 ?_
  have hR860 := hR.up 2 2 (v := wr ((m 2 2) + 1)) (nselD rfl) (rg_wr _)
  refine p_aload 11 c70_10 rfl rfl ?_
  refine p_cX 14 [.ref 2] [] c70_11 rfl rfl rfl (fun k' hk' d' => d38 hR860) (fun hg863 n862 k861 hk861 => ?_)
  refine p_iconst 16 c70_14 rfl ?_
  refine p_icmp 33 19 c70_16 rfl rfl (yc_ne hg863 (rgD rfl)) (fun hb864 k865 hk865 => ?_) (fun hb864 k866 hk866 => ?_)
  · have hX867 := hX.trans (if_neg hb864)
    exact tJ70_33 (f := f) (by omega) hc hA hR860 (fun r' m' e' => Hr r' m' (hX867.trans e'))
  · have hX876 := hX.trans (if_pos (Classical.not_not.mp hb864))
    refine p_aload 20 c70_19 rfl rfl ?_
    refine p_getV 23 (.ref A) c70_20 rfl kf2_1 (pX_of hA hR860.2.2.2.1 hc) ?_
    refine p_aload 24 c70_23 rfl rfl ?_
    refine p_cX 27 [.ref 2] [.ref A] c70_24 rfl rfl rfl (fun k' hk' d' => d39 hR860) (fun hg879 n878 k877 hk877 => ?_)
    refine p_cS 30 [.ref A, yI (F39 (yup m 2 2 (wr ((m 2 2) + 1))))] [] c70_27 rfl rfl rfl (fun k' hk' d' => d51 (f := f) (by omega) hA hg879 hR860) (fun r941 m943 hF939 hg940 hR944 n881 k880 hk880 => ?_)
    have hX942 := hX876.trans (bI_s hF939)
    refine p_if 38 33 c70_30 rfl rfl (yz_ne hg940) (fun hb945 k946 hk946 => ?_) (fun hb945 k947 hk947 => ?_)
    · have hX948 := hX942.trans (if_neg hb945)
      refine p_aload 39 c70_38 rfl rfl ?_
      refine p_dup 40 c70_39 rfl rfl ?_
      refine p_getX 43 (m943 2 2) c70_40 rfl kf2_2 rfl ?_
      refine p_iconst 44 c70_43 rfl ?_
      refine p_iadd 45 c70_44 rfl ?_
      refine p_putI 48 c70_45 rfl kf2_2 ?_
      have hR949 := hR944.up 2 2 (v := wr ((m943 2 2) + 1)) (nselD rfl) (rg_wr _)
      refine p_aload 49 c70_48 rfl rfl ?_
      refine p_getV 52 (.ref A) c70_49 rfl kf2_1 (pX_of hA hR949.2.2.2.1 hc) ?_
      refine p_getR 55 c70_52 rfl (kP_5 hA) ?_
      refine p_aload 56 c70_55 rfl rfl ?_
      refine p_getV 59 (.ref A) c70_56 rfl kf2_1 (pX_of hA hR949.2.2.2.1 hc) ?_
      refine p_getX 62 (m943 A 10) c70_59 rfl (kP_10 hA) (yup_na (by omega)) ?_
      refine p_iconst 63 c70_62 rfl ?_
      refine p_isub 64 c70_63 rfl ?_
      refine p_aaX 65 c70_64 rfl (kPr_6 hA) (rg_wr _) (fun hx950 => ?_)
      refine p_astore 66 c70_65 rfl rfl ?_
      refine p_aload 67 c70_66 rfl rfl ?_
      refine p_aload 68 c70_67 rfl rfl ?_
      refine p_getV 71 (.ref A) c70_68 rfl kf2_1 (pX_of hA hR949.2.2.2.1 hc) ?_
      refine p_getX 74 (m943 A 16) c70_71 rfl (kP_16 hA) (yup_na (by omega)) ?_
      refine p_putI 77 c70_74 rfl (kM_4 (kMr hA hx950)) ?_
      have hR951 := hR949.up (A + 10 + (wr ((m943 A 10) - 1)).toNat) 4 (v := m943 A 16) (nselA (by omega)) (hR944.rg _ _)
      refine p_aload 78 c70_77 rfl rfl ?_
      refine p_iconst 80 c70_78 rfl ?_
      refine p_cS 83 [.ref 2, yI 40] [] c70_80 rfl rfl rfl (fun k' hk' d' => d37 (f := f) (by omega) (rgD rfl) hR951) (fun r956 m958 hF954 hg955 hR959 n953 k952 hk952 => ?_)
      have hX957 := hX948.trans (bI_s hF954)
      refine p_if 114 86 c70_83 rfl rfl (yz_eq hg955) (fun hb960 k961 hk961 => ?_) (fun hb960 k962 hk962 => ?_)
      · have hX963 := hX957.trans (if_pos hb960)
        exact tJ70_114 (f := f) (by omega) hc hA (kMr hA hx950) hR959 (fun r' m' e' => Hr r' m' (hX963.trans e'))
      · have hX965 := hX957.trans (if_neg hb960)
        refine p_aload 87 c70_86 rfl rfl ?_
        refine p_cS 90 [.ref 2] [] c70_87 rfl rfl rfl (fun k' hk' d' => d55 (f := f) (by omega) hc hA hR959) (fun r1086 m1088 hF1084 hg1085 hR1089 n967 k966 hk966 => ?_)
        have hX1087 := hX965.trans (bI_s hF1084)
        refine p_if 114 93 c70_90 rfl rfl (yz_eq hg1085) (fun hb1090 k1091 hk1091 => ?_) (fun hb1090 k1092 hk1092 => ?_)
        · have hX1093 := hX1087.trans (if_pos hb1090)
          exact tJ70_114 (f := f) (by omega) hc hA (kMr hA hx950) hR1089 (fun r' m' e' => Hr r' m' (hX1093.trans e'))
        · have hX1094 := hX1087.trans (if_neg hb1090)
          refine p_aload 94 c70_93 rfl rfl ?_
          refine p_iconst 96 c70_94 rfl ?_
          refine p_cS 99 [.ref 2, yI 41] [] c70_96 rfl rfl rfl (fun k' hk' d' => d37 (f := f) (by omega) (rgD rfl) hR1089) (fun r1099 m1101 hF1097 hg1098 hR1102 n1096 k1095 hk1095 => ?_)
          have hX1100 := hX1094.trans (bI_s hF1097)
          refine p_if 114 102 c70_99 rfl rfl (yz_eq hg1098) (fun hb1103 k1104 hk1104 => ?_) (fun hb1103 k1105 hk1105 => ?_)
          · have hX1106 := hX1100.trans (if_pos hb1103)
            exact tJ70_114 (f := f) (by omega) hc hA (kMr hA hx950) hR1102 (fun r' m' e' => Hr r' m' (hX1106.trans e'))
          · have hX1107 := hX1100.trans (if_neg hb1103)
            refine p_aload 103 c70_102 rfl rfl ?_
            refine p_iconst 104 c70_103 rfl ?_
            refine p_cS 107 [.ref 2, yI 0] [] c70_104 rfl rfl rfl (fun k' hk' d' => d69 (f := f) hc hA f k' (by omega) (by omega) _ _ _ _ (rgD rfl) hR1102) (fun r1852 m1854 hF1850 hg1851 hR1855 n1109 k1108 hk1108 => ?_)
            have hX1853 := hX1107.trans (bI_s hF1850)
            refine p_if 114 110 c70_107 rfl rfl (yz_eq hg1851) (fun hb1856 k1857 hk1857 => ?_) (fun hb1856 k1858 hk1858 => ?_)
            · have hX1859 := hX1853.trans (if_pos hb1856)
              exact tJ70_114 (f := f) (by omega) hc hA (kMr hA hx950) hR1855 (fun r' m' e' => Hr r' m' (hX1859.trans e'))
            · have hX1860 := hX1853.trans (if_neg hb1856)
              refine p_iconst 111 c70_110 rfl ?_
              refine p_goto 115 c70_111 rfl ?_
              exact tJ70_115 (f := f) (by omega) hc hA (kMr hA hx950) (rgD rfl) hR1855 (fun r' m' e' => Hr r' m' (hX1860.trans e'))
    · have hX1861 := hX942.trans (if_pos (Classical.not_not.mp hb945))
      exact tJ70_33 (f := f) (by omega) hc hA hR944 (fun r' m' e' => Hr r' m' (hX1861.trans e'))
def J71_23 (f : Nat) (A : Nat) (xs1 : Int) (m : yM) : Option (Int × yM) := (if xs1 = 0 then (bI (F45 f A (yup m 2 3 xs1)) (fun r1891 m1893 => (if r1891 = 0 then (some (0, m1893)) else (some (1, m1893))))) else (some (1, yup m 2 3 xs1)))
set_option maxRecDepth 100000 in
theorem tJ71_23 {L : Nat} {xs : Nat → Int32} {Q : xO → yM → Nat → Prop} {k d n : Nat} {c : yS3} {f : Nat} {A : Nat} {xs1 : Int} {m : yM} (hk : k ≤ f) (hc : c.1 = pX A) (hA : (A = 256 ∨ A = 316)) (gxs1 : rg xs1) (hR : RM c m) (Hr : ∀ r m', J71_23 f A xs1 m = some (r, m') → rg r → RM c m' → ∀ n', Q (.inl (some (yI r))) m' n') : PW (gZ L xs) k 71 d 23 [some (.ref 2)] [yI xs1, .ref 2] m n Q := by
  have hX : J71_23 f A xs1 m = J71_23 f A xs1 m := rfl
  refine p_putI 26 c71_23 rfl kf2_3 ?_
  have hR1881 := hR.up 2 3 (v := xs1) (nselD rfl) gxs1
  refine p_aload 27 c71_26 rfl rfl ?_
  refine p_getX 30 xs1 c71_27 rfl kf2_3 (yup_eq _ _ _ _) ?_
  refine p_if 40 33 c71_30 rfl rfl (yz_ne gxs1) (fun hb1882 k1883 hk1883 => ?_) (fun hb1882 k1884 hk1884 => ?_)
  · have hX1885 := hX.trans (if_neg hb1882)
    refine p_iconst 41 c71_40 rfl ?_
    refine p_goto 45 c71_41 rfl ?_
    exact p_ireturn c71_45 (Hr _ _ hX1885 (rgD rfl) hR1881 _)
  · have hX1886 := hX.trans (if_pos (Classical.not_not.mp hb1882))
    refine p_aload 34 c71_33 rfl rfl ?_
    refine p_cS 37 [.ref 2] [] c71_34 rfl rfl rfl (fun k' hk' d' => d45 (f := f) (by omega) hc hA hR1881) (fun r1891 m1893 hF1889 hg1890 hR1894 n1888 k1887 hk1887 => ?_)
    have hX1892 := hX1886.trans (bI_s hF1889)
    refine p_if 44 40 c71_37 rfl rfl (yz_eq hg1890) (fun hb1895 k1896 hk1896 => ?_) (fun hb1895 k1897 hk1897 => ?_)
    · have hX1898 := hX1892.trans (if_pos hb1895)
      refine p_iconst 45 c71_44 rfl ?_
      exact p_ireturn c71_45 (Hr _ _ hX1898 (rgD rfl) hR1894 _)
    · have hX1899 := hX1892.trans (if_neg hb1895)
      refine p_iconst 41 c71_40 rfl ?_
      refine p_goto 45 c71_41 rfl ?_
      exact p_ireturn c71_45 (Hr _ _ hX1899 (rgD rfl) hR1894 _)
def F71 (f : Nat) (A : Nat) (m : yM) : Option (Int × yM) := (if F38 (yup m 2 2 (wr ((m 2 2) + 1))) = 0 then (J71_23 f A 1 (yup m 2 2 (wr ((m 2 2) + 1)))) else (J71_23 f A 0 (yup m 2 2 (wr ((m 2 2) + 1)))))
set_option maxRecDepth 100000 in
theorem d71 {L : Nat} {xs : Nat → Int32} {k d n : Nat} {c : yS3} {f : Nat} {A : Nat} {m : yM} (hk : k ≤ f) (hc : c.1 = pX A) (hA : (A = 256 ∨ A = 316)) (hR : RM c m) : PC (gZ L xs) k d 71 [.ref 2] m n (qS c (F71 f A m)) := by
  have hX : F71 f A m = F71 f A m := rfl
  have Hr : ∀ r m', F71 f A m = some (r, m') → rg r → RM c m' → ∀ n' : Nat, (qS c (F71 f A m)) (.inl (some (yI r))) m' n' := fun r m' e h1 h2 n' => ⟨r, rfl, h1, h2, e⟩
  refine PC.mk [some (.ref 2)] kn71 rfl ?_
  refine p_aload 1 c71_0 rfl rfl ?_
  refine p_dup 2 c71_1 rfl rfl ?_
  refine p_getX 5 (m 2 2) c71_2 rfl kf2_2 rfl ?_
  refine p_iconst 6 c71_5 rfl ?_
  refine p_iadd 7 c71_6 rfl ?_
  refine p_putI 10 c71_7 rfl kf2_2 ?_
  have hR1873 := hR.up 2 2 (v := wr ((m 2 2) + 1)) (nselD rfl) (rg_wr _)
  refine p_aload 11 c71_10 rfl rfl ?_
  refine p_aload 12 c71_11 rfl rfl ?_
  refine p_cX 15 [.ref 2] [.ref 2] c71_12 rfl rfl rfl (fun k' hk' d' => d38 hR1873) (fun hg1876 n1875 k1874 hk1874 => ?_)
  refine p_if 22 18 c71_15 rfl rfl (yz_ne hg1876) (fun hb1877 k1878 hk1878 => ?_) (fun hb1877 k1879 hk1879 => ?_)
  · have hX1880 := hX.trans (if_neg hb1877)
    refine p_iconst 23 c71_22 rfl ?_
    exact tJ71_23 (f := f) (by omega) hc hA (rgD rfl) hR1873 (fun r' m' e' => Hr r' m' (hX1880.trans e'))
  · have hX1900 := hX.trans (if_pos (Classical.not_not.mp hb1877))
    refine p_iconst 19 c71_18 rfl ?_
    refine p_goto 23 c71_19 rfl ?_
    exact tJ71_23 (f := f) (by omega) hc hA (rgD rfl) hR1873 (fun r' m' e' => Hr r' m' (hX1900.trans e'))
def B72_6 (f : Nat) (A : Nat) (x2 : Int) (x3 : Int) (x4 : Int) (x5 : Int) (m : yM) : Option ((Int × Int) ⊕ ((Int × Int) ⊕ Int)) := (if x5 < 6 then (if x4 = (-1) then (some (.inr (.inl (x4, x5)))) else (bP (F50 f A x4 x2 m) (fun r2012 => (if r2012 = (-1) then (some (.inl (m (A + 2) x4.toNat, wr (x5 + 1)))) else (if m (A + 10 + (r2012).toNat) 3 = x3 then (some (.inr (.inr r2012))) else (some (.inr (.inr ((-1)))))))))) else (some (.inr (.inl (x4, x5)))))
set_option maxRecDepth 100000 in
theorem tB72_6 {L : Nat} {xs : Nat → Int32} {Q : xO → yM → Nat → Prop} {k d n : Nat} {c : yS3} {f : Nat} {A : Nat} {x2 : Int} {x3 : Int} {x4 : Int} {x5 : Int} {m : yM} {j1 j6 : Option Value} (hk : k ≤ f) (hA : (A = 256 ∨ A = 316)) (gx2 : rg x2) (gx3 : rg x3) (gx4 : rg x4) (gx5 : rg x5) (hR : RM c m) (Hn : ∀ (y0 y1 : Int) (z0 z1 : Option Value) (n' : Nat), B72_6 f A x2 x3 x4 x5 m = some (.inl (y0, y1)) → rg y0 → rg y1 → ∀ k', k' < k → PW (gZ L xs) k' 72 d 6 [some (.ref A), z0, some (yI x2), some (yI x3), some (yI y0), some (yI y1), z1] [] m n' Q) (He : ∀ (y0 y1 : Int) (z0 z1 : Option Value) (n' : Nat), B72_6 f A x2 x3 x4 x5 m = some (.inr (.inl (y0, y1))) → rg y0 → rg y1 → ∀ k', k' ≤ k → PW (gZ L xs) k' 72 d 70 [some (.ref A), z0, some (yI x2), some (yI x3), some (yI y0), some (yI y1), z1] [] m n' Q) (Hr : ∀ r, B72_6 f A x2 x3 x4 x5 m = some (.inr (.inr r)) → rg r → ∀ n', Q (.inl (some (yI r))) m n') : PW (gZ L xs) k 72 d 6 [some (.ref A), j1, some (yI x2), some (yI x3), some (yI x4), some (yI x5), j6] [] m n Q := by
  have hX : B72_6 f A x2 x3 x4 x5 m = B72_6 f A x2 x3 x4 x5 m := rfl
  refine p_iload 8 c72_6 rfl rfl ?_
  refine p_iconst 10 c72_8 rfl ?_
  refine p_icmp 70 13 c72_10 rfl rfl ((yc_ge gx5 (rgD rfl)).trans Int.not_lt.symm) (fun hb1998 k1999 hk1999 => ?_) (fun hb1998 k2000 hk2000 => ?_)
  · have hX2001 := hX.trans (if_neg hb1998)
    exact He _ _ _ _ _ hX2001 gx4 gx5 _ (by omega)
  · have hX2002 := hX.trans (if_pos (Classical.not_not.mp hb1998))
    refine p_iload 15 c72_13 rfl rfl ?_
    refine p_iconst 16 c72_15 rfl ?_
    refine p_icmp 70 19 c72_16 rfl rfl (yc_eq gx4 (rgD rfl)) (fun hb2003 k2004 hk2004 => ?_) (fun hb2003 k2005 hk2005 => ?_)
    · have hX2006 := hX2002.trans (if_pos hb2003)
      exact He _ _ _ _ _ hX2006 gx4 gx5 _ (by omega)
    · have hX2007 := hX2002.trans (if_neg hb2003)
      refine p_aload 20 c72_19 rfl rfl ?_
      refine p_iload 22 c72_20 rfl rfl ?_
      refine p_iload 23 c72_22 rfl rfl ?_
      refine p_cO 26 [.ref A, yI x4, yI x2] [] c72_23 rfl rfl rfl (fun k' hk' d' => d50 (f := f) (by omega) hA gx4 gx2 hR) (fun r2012 hF2010 hg2011 n2009 k2008 hk2008 => ?_)
      have hX2013 := hX2007.trans (bP_s hF2010)
      refine p_istore 28 c72_26 rfl rfl ?_
      refine p_iload 30 c72_28 rfl rfl ?_
      refine p_iconst 31 c72_30 rfl ?_
      refine p_icmp 55 34 c72_31 rfl rfl (yc_eq hg2011 (rgD rfl)) (fun hb2014 k2015 hk2015 => ?_) (fun hb2014 k2016 hk2016 => ?_)
      · have hX2017 := hX2013.trans (if_pos hb2014)
        refine p_aload 56 c72_55 rfl rfl ?_
        refine p_getR 59 c72_56 rfl (kP_1 hA) ?_
        refine p_iload 61 c72_59 rfl rfl ?_
        refine p_iaX 62 (m (A + 2) x4.toNat) c72_61 rfl (kPa_2 hA) gx4 rfl (fun hx2018 => ?_)
        refine p_istore 64 c72_62 rfl rfl ?_
        refine p_iinc 67 c72_64 rfl rfl rfl ?_
        refine p_gotoD 6 c72_67 rfl (fun k2019 hk2019 => ?_)
        exact Hn _ _ _ _ _ hX2017 (hR.rg _ _) (rg_wr _) _ (by omega)
      · have hX2020 := hX2013.trans (if_neg hb2014)
        refine p_aload 35 c72_34 rfl rfl ?_
        refine p_getR 38 c72_35 rfl (kP_5 hA) ?_
        refine p_iload 40 c72_38 rfl rfl ?_
        refine p_aaX 41 c72_40 rfl (kPr_6 hA) hg2011 (fun hx2021 => ?_)
        refine p_getX 44 (m (A + 10 + (r2012).toNat) 3) c72_41 rfl (kM_3 (kMr hA hx2021)) rfl ?_
        refine p_iload 45 c72_44 rfl rfl ?_
        refine p_icmp 53 48 c72_45 rfl rfl (yc_ne (hR.rg _ _) gx3) (fun hb2022 k2023 hk2023 => ?_) (fun hb2022 k2024 hk2024 => ?_)
        · have hX2025 := hX2020.trans (if_neg hb2022)
          refine p_iconst 54 c72_53 rfl ?_
          exact p_ireturn c72_54 (Hr _ hX2025 (rgD rfl) _)
        · have hX2026 := hX2020.trans (if_pos (Classical.not_not.mp hb2022))
          refine p_iload 50 c72_48 rfl rfl ?_
          refine p_goto 54 c72_50 rfl ?_
          exact p_ireturn c72_54 (Hr _ hX2026 hg2011 _)
def F72 (f : Nat) (A : Nat) (x1 : Int) (x2 : Int) (x3 : Int) (m : yM) : Option Int := (bQ (ploop (fun (l : Int × Int) => B72_6 f A x2 x3 l.1 l.2 m) f (x1, 0)) (fun l2027 => (some ((-1)))) (fun r => some r))
set_option maxRecDepth 100000 in
theorem d72 {L : Nat} {xs : Nat → Int32} {k d n : Nat} {c : yS3} {f : Nat} {A : Nat} {x1 : Int} {x2 : Int} {x3 : Int} {m : yM} (hk : k ≤ f) (hA : (A = 256 ∨ A = 316)) (gx1 : rg x1) (gx2 : rg x2) (gx3 : rg x3) (hR : RM c m) : PC (gZ L xs) k d 72 [.ref A, yI x1, yI x2, yI x3] m n (qO m (F72 f A x1 x2 x3 m)) := by
  have hX : F72 f A x1 x2 x3 m = F72 f A x1 x2 x3 m := rfl
  have Hr : ∀ r, F72 f A x1 x2 x3 m = some r → rg r → ∀ n' : Nat, (qO m (F72 f A x1 x2 x3 m)) (.inl (some (yI r))) m n' := fun r e h n' => ⟨r, rfl, h, rfl, e⟩
  refine PC.mk [some (.ref A), some (yI x1), some (yI x2), some (yI x3), none, none, none] kn72 rfl ?_
  refine p_iload 1 c72_0 rfl rfl ?_
  refine p_istore 3 c72_1 rfl rfl ?_
  refine p_iconst 4 c72_3 rfl ?_
  refine p_istore 6 c72_4 rfl rfl ?_
  refine PW.ploop (K := k) (pce := 70) (fun (l : Int × Int) => B72_6 f A x2 x3 l.1 l.2 m) (fun (l : Int × Int) j => [some (.ref A), j 1, some (yI x2), some (yI x3), some (yI l.1), some (yI l.2), j 6]) (fun (l : Int × Int) => rg l.1 ∧ rg l.2) (fun r' => rg r' → ∀ n' : Nat, (qO m (F72 f A x1 x2 x3 m)) (.inl (some (yI r'))) m n') (fun k' hk' l j n' hl Hn' He' Hr' => tB72_6 (f := f) (by omega) hA gx2 gx3 hl.1 hl.2 hR (fun y0 y1 y2 y3 n2 e h0 h1 => Hn' (y0, y1) (fun q => ([none, y2, none, none, none, none, y3] : List (Option Value)).getD q none) n2 e ⟨h0, h1⟩) (fun y0 y1 y2 y3 n2 e h0 h1 => He' (y0, y1) (fun q => ([none, y2, none, none, none, none, y3] : List (Option Value)).getD q none) n2 e ⟨h0, h1⟩) Hr') f k (by omega) (Nat.le_refl _) (x1, 0) (fun q => ([some (.ref A), some (yI x1), some (yI x2), some (yI x3), some (yI x1), some (yI 0), none] : xL).getD q none) _ ⟨gx1, (rgD rfl)⟩ (fun l2027 j2030 n2032 e2029 hl2028 k2031 hk2031 => ?_) (fun r' e' => ?_)
  · have hX2033 := hX.trans (bQ_l e2029)
    refine p_iconst 71 c72_70 rfl ?_
    exact p_ireturn c72_71 (Hr _ hX2033 (rgD rfl) _)
  · exact Hr r' (hX.trans (bQ_r e'))
def J73_112 (f : Nat) (A : Nat) (x1 : Int) (m : yM) : Option ((Int × yM) ⊕ ((Int × yM) ⊕ (Int × yM))) := (some (.inl ((wr (x1 + 1)), m)))
set_option maxRecDepth 100000 in
theorem tJ73_112 {L : Nat} {xs : Nat → Int32} {Q : xO → yM → Nat → Prop} {k d n : Nat} {c : yS3} {f : Nat} {A : Nat} {x1 : Int} {m : yM} {j2 : Option Value} (hk : k ≤ f) (hA : (A = 256 ∨ A = 316)) (gx1 : rg x1) (hR : RM c m) (Hn : ∀ (y0 : Int) (z0 : Option Value) (m' : yM) (n' : Nat), J73_112 f A x1 m = some (.inl (y0, m')) → rg y0 → RM c m' → ∀ k', k' < k → PW (gZ L xs) k' 73 d 2 [some (.ref A), some (yI y0), z0] [] m' n' Q) (He : ∀ (y0 : Int) (z0 : Option Value) (m' : yM) (n' : Nat), J73_112 f A x1 m = some (.inr (.inl (y0, m'))) → rg y0 → RM c m' → ∀ k', k' ≤ k → PW (gZ L xs) k' 73 d 118 [some (.ref A), some (yI y0), z0] [] m' n' Q) (Hr : ∀ r m', J73_112 f A x1 m = some (.inr (.inr (r, m'))) → rg r → RM c m' → ∀ n', Q (.inl (some (yI r))) m' n') : PW (gZ L xs) k 73 d 112 [some (.ref A), some (yI x1), j2] [] m n Q := by
  have hX : J73_112 f A x1 m = J73_112 f A x1 m := rfl
  refine p_iinc 115 c73_112 rfl rfl rfl ?_
  refine p_gotoD 2 c73_115 rfl (fun k1949 hk1949 => ?_)
  exact Hn _ _ _ _ hX (rg_wr _) hR _ (by omega)
def J73_34 (f : Nat) (A : Nat) (x1 : Int) (a2 : Nat) (m : yM) : Option ((Int × yM) ⊕ ((Int × yM) ⊕ (Int × yM))) := (bP (F46 f A (m a2 4) m) (fun r1946 => (J73_112 f A x1 (yup m a2 6 r1946))))
set_option maxRecDepth 100000 in
theorem tJ73_34 {L : Nat} {xs : Nat → Int32} {Q : xO → yM → Nat → Prop} {k d n : Nat} {c : yS3} {f : Nat} {A : Nat} {x1 : Int} {a2 : Nat} {m : yM} (hk : k ≤ f) (hA : (A = 256 ∨ A = 316)) (gx1 : rg x1) (hs2 : (276 ≤ a2 ∧ a2 < 316) ∨ (336 ≤ a2 ∧ a2 < 376)) (hR : RM c m) (Hn : ∀ (y0 : Int) (z0 : Option Value) (m' : yM) (n' : Nat), J73_34 f A x1 a2 m = some (.inl (y0, m')) → rg y0 → RM c m' → ∀ k', k' < k → PW (gZ L xs) k' 73 d 2 [some (.ref A), some (yI y0), z0] [] m' n' Q) (He : ∀ (y0 : Int) (z0 : Option Value) (m' : yM) (n' : Nat), J73_34 f A x1 a2 m = some (.inr (.inl (y0, m'))) → rg y0 → RM c m' → ∀ k', k' ≤ k → PW (gZ L xs) k' 73 d 118 [some (.ref A), some (yI y0), z0] [] m' n' Q) (Hr : ∀ r m', J73_34 f A x1 a2 m = some (.inr (.inr (r, m'))) → rg r → RM c m' → ∀ n', Q (.inl (some (yI r))) m' n') : PW (gZ L xs) k 73 d 34 [some (.ref A), some (yI x1), some (.ref a2)] [] m n Q := by
  have hX : J73_34 f A x1 a2 m = J73_34 f A x1 a2 m := rfl
  refine p_aload 35 c73_34 rfl rfl ?_
  refine p_aload 36 c73_35 rfl rfl ?_
  refine p_aload 37 c73_36 rfl rfl ?_
  refine p_getX 40 (m a2 4) c73_37 rfl (kS_4 hs2) rfl ?_
  refine p_cO 43 [.ref A, yI (m a2 4)] [.ref a2] c73_40 rfl rfl rfl (fun k' hk' d' => d46 (f := f) (by omega) hA (hR.rg _ _) hR) (fun r1946 hF1944 hg1945 n1943 k1942 hk1942 => ?_)
  have hX1947 := hX.trans (bP_s hF1944)
  refine p_putI 46 c73_43 rfl (kS_6 hs2) ?_
  have hR1948 := hR.up a2 6 (v := r1946) (nselA (by omega)) hg1945
  refine p_goto 112 c73_46 rfl ?_
  exact tJ73_112 (f := f) (by omega) hA gx1 hR1948 (fun y0 y1 m' n' e' h0 hR' k' hk' => Hn y0 y1 m' n' (hX1947.trans e') h0 hR' k' (by omega)) (fun y0 y1 m' n' e' h0 hR' k' hk' => He y0 y1 m' n' (hX1947.trans e') h0 hR' k' (by omega)) (fun r' m' e' => Hr r' m' (hX1947.trans e'))
def J73_66 (f : Nat) (A : Nat) (x1 : Int) (a2 : Nat) (m : yM) : Option ((Int × yM) ⊕ ((Int × yM) ⊕ (Int × yM))) := (bP (F41 f A (m a2 4) m) (fun r1963 => (if r1963 = (-1) then (some (.inr (.inr (m a2 5, yup m a2 7 r1963)))) else (if m a2 0 = 5 then (J73_112 f A x1 (yup (yup m a2 7 r1963) (A + 8) (m a2 6).toNat r1963)) else (J73_112 f A x1 (yup m a2 7 r1963))))))
set_option maxRecDepth 100000 in
theorem tJ73_66 {L : Nat} {xs : Nat → Int32} {Q : xO → yM → Nat → Prop} {k d n : Nat} {c : yS3} {f : Nat} {A : Nat} {x1 : Int} {a2 : Nat} {m : yM} (hk : k ≤ f) (hA : (A = 256 ∨ A = 316)) (gx1 : rg x1) (hs2 : (276 ≤ a2 ∧ a2 < 316) ∨ (336 ≤ a2 ∧ a2 < 376)) (hR : RM c m) (Hn : ∀ (y0 : Int) (z0 : Option Value) (m' : yM) (n' : Nat), J73_66 f A x1 a2 m = some (.inl (y0, m')) → rg y0 → RM c m' → ∀ k', k' < k → PW (gZ L xs) k' 73 d 2 [some (.ref A), some (yI y0), z0] [] m' n' Q) (He : ∀ (y0 : Int) (z0 : Option Value) (m' : yM) (n' : Nat), J73_66 f A x1 a2 m = some (.inr (.inl (y0, m'))) → rg y0 → RM c m' → ∀ k', k' ≤ k → PW (gZ L xs) k' 73 d 118 [some (.ref A), some (yI y0), z0] [] m' n' Q) (Hr : ∀ r m', J73_66 f A x1 a2 m = some (.inr (.inr (r, m'))) → rg r → RM c m' → ∀ n', Q (.inl (some (yI r))) m' n') : PW (gZ L xs) k 73 d 66 [some (.ref A), some (yI x1), some (.ref a2)] [] m n Q := by
  have hX : J73_66 f A x1 a2 m = J73_66 f A x1 a2 m := rfl
  refine p_aload 67 c73_66 rfl rfl ?_
  refine p_aload 68 c73_67 rfl rfl ?_
  refine p_aload 69 c73_68 rfl rfl ?_
  refine p_getX 72 (m a2 4) c73_69 rfl (kS_4 hs2) rfl ?_
  refine p_cO 75 [.ref A, yI (m a2 4)] [.ref a2] c73_72 rfl rfl rfl (fun k' hk' d' => d41 (f := f) (by omega) hA (hR.rg _ _) hR) (fun r1963 hF1961 hg1962 n1960 k1959 hk1959 => ?_)
  have hX1964 := hX.trans (bP_s hF1961)
  refine p_putI 78 c73_75 rfl (kS_7 hs2) ?_
  have hR1965 := hR.up a2 7 (v := r1963) (nselA (by omega)) hg1962
  refine p_aload 79 c73_78 rfl rfl ?_
  refine p_getX 82 r1963 c73_79 rfl (kS_7 hs2) (yup_eq _ _ _ _) ?_
  refine p_iconst 83 c73_82 rfl ?_
  refine p_icmp 91 86 c73_83 rfl rfl (yc_ne hg1962 (rgD rfl)) (fun hb1966 k1967 hk1967 => ?_) (fun hb1966 k1968 hk1968 => ?_)
  · have hX1969 := hX1964.trans (if_neg hb1966)
    refine p_aload 92 c73_91 rfl rfl ?_
    refine p_getX 95 (m a2 0) c73_92 rfl (kS_0 hs2) (yup_nk (by decide)) ?_
    refine p_iconst 96 c73_95 rfl ?_
    refine p_icmp 112 99 c73_96 rfl rfl (yc_ne (hR.rg _ _) (rgD rfl)) (fun hb1970 k1971 hk1971 => ?_) (fun hb1970 k1972 hk1972 => ?_)
    · have hX1973 := hX1969.trans (if_neg hb1970)
      exact tJ73_112 (f := f) (by omega) hA gx1 hR1965 (fun y0 y1 m' n' e' h0 hR' k' hk' => Hn y0 y1 m' n' (hX1973.trans e') h0 hR' k' (by omega)) (fun y0 y1 m' n' e' h0 hR' k' hk' => He y0 y1 m' n' (hX1973.trans e') h0 hR' k' (by omega)) (fun r' m' e' => Hr r' m' (hX1973.trans e'))
    · have hX1974 := hX1969.trans (if_pos (Classical.not_not.mp hb1970))
      refine p_aload 100 c73_99 rfl rfl ?_
      refine p_getR 103 c73_100 rfl (kP_7 hA) ?_
      refine p_aload 104 c73_103 rfl rfl ?_
      refine p_getX 107 (m a2 6) c73_104 rfl (kS_6 hs2) (yup_nk (by decide)) ?_
      refine p_aload 108 c73_107 rfl rfl ?_
      refine p_getX 111 r1963 c73_108 rfl (kS_7 hs2) (yup_eq _ _ _ _) ?_
      refine p_iaS 112 c73_111 rfl (kPa_8 hA) (hR.rg _ _) r1963 (nar0 hg1962) (fun hx1975 => ?_)
      have hR1976 := hR1965.up (A + 8) (m a2 6).toNat (v := r1963) (nselA (by omega)) hg1962
      exact tJ73_112 (f := f) (by omega) hA gx1 hR1976 (fun y0 y1 m' n' e' h0 hR' k' hk' => Hn y0 y1 m' n' (hX1974.trans e') h0 hR' k' (by omega)) (fun y0 y1 m' n' e' h0 hR' k' hk' => He y0 y1 m' n' (hX1974.trans e') h0 hR' k' (by omega)) (fun r' m' e' => Hr r' m' (hX1974.trans e'))
  · have hX1977 := hX1964.trans (if_pos (Classical.not_not.mp hb1966))
    refine p_aload 87 c73_86 rfl rfl ?_
    refine p_getX 90 (m a2 5) c73_87 rfl (kS_5 hs2) (yup_nk (by decide)) ?_
    exact p_ireturn c73_90 (Hr _ _ hX1977 (hR.rg _ _) hR1965 _)
def B73_2 (f : Nat) (A : Nat) (x1 : Int) (m : yM) : Option ((Int × yM) ⊕ ((Int × yM) ⊕ (Int × yM))) := (if x1 < m A 16 then (if m (A + 20 + (x1).toNat) 0 = 9 then (J73_34 f A x1 (A + 20 + (x1).toNat) m) else (if m (A + 20 + (x1).toNat) 0 = 3 then (J73_34 f A x1 (A + 20 + (x1).toNat) m) else (if m (A + 20 + (x1).toNat) 0 = 5 then (J73_66 f A x1 (A + 20 + (x1).toNat) m) else (if m (A + 20 + (x1).toNat) 0 = 7 then (J73_66 f A x1 (A + 20 + (x1).toNat) m) else (J73_112 f A x1 m))))) else (some (.inr (.inl (x1, m)))))
set_option maxRecDepth 100000 in
theorem tB73_2 {L : Nat} {xs : Nat → Int32} {Q : xO → yM → Nat → Prop} {k d n : Nat} {c : yS3} {f : Nat} {A : Nat} {x1 : Int} {m : yM} {j2 : Option Value} (hk : k ≤ f) (hA : (A = 256 ∨ A = 316)) (gx1 : rg x1) (hR : RM c m) (Hn : ∀ (y0 : Int) (z0 : Option Value) (m' : yM) (n' : Nat), B73_2 f A x1 m = some (.inl (y0, m')) → rg y0 → RM c m' → ∀ k', k' < k → PW (gZ L xs) k' 73 d 2 [some (.ref A), some (yI y0), z0] [] m' n' Q) (He : ∀ (y0 : Int) (z0 : Option Value) (m' : yM) (n' : Nat), B73_2 f A x1 m = some (.inr (.inl (y0, m'))) → rg y0 → RM c m' → ∀ k', k' ≤ k → PW (gZ L xs) k' 73 d 118 [some (.ref A), some (yI y0), z0] [] m' n' Q) (Hr : ∀ r m', B73_2 f A x1 m = some (.inr (.inr (r, m'))) → rg r → RM c m' → ∀ n', Q (.inl (some (yI r))) m' n') : PW (gZ L xs) k 73 d 2 [some (.ref A), some (yI x1), j2] [] m n Q := by
  have hX : B73_2 f A x1 m = B73_2 f A x1 m := rfl
  refine p_iload 3 c73_2 rfl rfl ?_
  refine p_aload 4 c73_3 rfl rfl ?_
  refine p_getX 7 (m A 16) c73_4 rfl (kP_16 hA) rfl ?_
  refine p_icmp 118 10 c73_7 rfl rfl ((yc_ge gx1 (hR.rg _ _)).trans Int.not_lt.symm) (fun hb1932 k1933 hk1933 => ?_) (fun hb1932 k1934 hk1934 => ?_)
  · have hX1935 := hX.trans (if_neg hb1932)
    exact He _ _ _ _ hX1935 gx1 hR _ (by omega)
  · have hX1936 := hX.trans (if_pos (Classical.not_not.mp hb1932))
    refine p_aload 11 c73_10 rfl rfl ?_
    refine p_getR 14 c73_11 rfl (kP_6 hA) ?_
    refine p_iload 15 c73_14 rfl rfl ?_
    refine p_aaX 16 c73_15 rfl (kPr_7 hA) gx1 (fun hx1937 => ?_)
    refine p_astore 17 c73_16 rfl rfl ?_
    refine p_aload 18 c73_17 rfl rfl ?_
    refine p_getX 21 (m (A + 20 + (x1).toNat) 0) c73_18 rfl (kS_0 (kSr hA hx1937)) rfl ?_
    refine p_iconst 23 c73_21 rfl ?_
    refine p_icmp 34 26 c73_23 rfl rfl (yc_eq (hR.rg _ _) (rgD rfl)) (fun hb1938 k1939 hk1939 => ?_) (fun hb1938 k1940 hk1940 => ?_)
    · have hX1941 := hX1936.trans (if_pos hb1938)
      exact tJ73_34 (f := f) (by omega) hA gx1 (kSr hA hx1937) hR (fun y0 y1 m' n' e' h0 hR' k' hk' => Hn y0 y1 m' n' (hX1941.trans e') h0 hR' k' (by omega)) (fun y0 y1 m' n' e' h0 hR' k' hk' => He y0 y1 m' n' (hX1941.trans e') h0 hR' k' (by omega)) (fun r' m' e' => Hr r' m' (hX1941.trans e'))
    · have hX1950 := hX1936.trans (if_neg hb1938)
      refine p_aload 27 c73_26 rfl rfl ?_
      refine p_getX 30 (m (A + 20 + (x1).toNat) 0) c73_27 rfl (kS_0 (kSr hA hx1937)) rfl ?_
      refine p_iconst 31 c73_30 rfl ?_
      refine p_icmp 49 34 c73_31 rfl rfl (yc_ne (hR.rg _ _) (rgD rfl)) (fun hb1951 k1952 hk1952 => ?_) (fun hb1951 k1953 hk1953 => ?_)
      · have hX1954 := hX1950.trans (if_neg hb1951)
        refine p_aload 50 c73_49 rfl rfl ?_
        refine p_getX 53 (m (A + 20 + (x1).toNat) 0) c73_50 rfl (kS_0 (kSr hA hx1937)) rfl ?_
        refine p_iconst 54 c73_53 rfl ?_
        refine p_icmp 66 57 c73_54 rfl rfl (yc_eq (hR.rg _ _) (rgD rfl)) (fun hb1955 k1956 hk1956 => ?_) (fun hb1955 k1957 hk1957 => ?_)
        · have hX1958 := hX1954.trans (if_pos hb1955)
          exact tJ73_66 (f := f) (by omega) hA gx1 (kSr hA hx1937) hR (fun y0 y1 m' n' e' h0 hR' k' hk' => Hn y0 y1 m' n' (hX1958.trans e') h0 hR' k' (by omega)) (fun y0 y1 m' n' e' h0 hR' k' hk' => He y0 y1 m' n' (hX1958.trans e') h0 hR' k' (by omega)) (fun r' m' e' => Hr r' m' (hX1958.trans e'))
        · have hX1978 := hX1954.trans (if_neg hb1955)
          refine p_aload 58 c73_57 rfl rfl ?_
          refine p_getX 61 (m (A + 20 + (x1).toNat) 0) c73_58 rfl (kS_0 (kSr hA hx1937)) rfl ?_
          refine p_iconst 63 c73_61 rfl ?_
          refine p_icmp 112 66 c73_63 rfl rfl (yc_ne (hR.rg _ _) (rgD rfl)) (fun hb1979 k1980 hk1980 => ?_) (fun hb1979 k1981 hk1981 => ?_)
          · have hX1982 := hX1978.trans (if_neg hb1979)
            exact tJ73_112 (f := f) (by omega) hA gx1 hR (fun y0 y1 m' n' e' h0 hR' k' hk' => Hn y0 y1 m' n' (hX1982.trans e') h0 hR' k' (by omega)) (fun y0 y1 m' n' e' h0 hR' k' hk' => He y0 y1 m' n' (hX1982.trans e') h0 hR' k' (by omega)) (fun r' m' e' => Hr r' m' (hX1982.trans e'))
          · have hX1983 := hX1978.trans (if_pos (Classical.not_not.mp hb1979))
            exact tJ73_66 (f := f) (by omega) hA gx1 (kSr hA hx1937) hR (fun y0 y1 m' n' e' h0 hR' k' hk' => Hn y0 y1 m' n' (hX1983.trans e') h0 hR' k' (by omega)) (fun y0 y1 m' n' e' h0 hR' k' hk' => He y0 y1 m' n' (hX1983.trans e') h0 hR' k' (by omega)) (fun r' m' e' => Hr r' m' (hX1983.trans e'))
      · have hX1984 := hX1950.trans (if_pos (Classical.not_not.mp hb1951))
        exact tJ73_34 (f := f) (by omega) hA gx1 (kSr hA hx1937) hR (fun y0 y1 m' n' e' h0 hR' k' hk' => Hn y0 y1 m' n' (hX1984.trans e') h0 hR' k' (by omega)) (fun y0 y1 m' n' e' h0 hR' k' hk' => He y0 y1 m' n' (hX1984.trans e') h0 hR' k' (by omega)) (fun r' m' e' => Hr r' m' (hX1984.trans e'))
def F73 (f : Nat) (A : Nat) (m : yM) : Option (Int × yM) := (bL (yloop (fun (l : Int) ml => B73_2 f A l ml) f 0 m) (fun l1985 m1991 => (bP (F72 f A 0 239 0 m1991) (fun r2036 => (some ((-1), yup m1991 A 17 r2036))))) (fun r mr => some (r, mr)))
set_option maxRecDepth 100000 in
theorem d73 {L : Nat} {xs : Nat → Int32} {k d n : Nat} {c : yS3} {f : Nat} {A : Nat} {m : yM} (hk : k ≤ f) (hA : (A = 256 ∨ A = 316)) (hR : RM c m) : PC (gZ L xs) k d 73 [.ref A] m n (qS c (F73 f A m)) := by
  have hX : F73 f A m = F73 f A m := rfl
  have Hr : ∀ r m', F73 f A m = some (r, m') → rg r → RM c m' → ∀ n' : Nat, (qS c (F73 f A m)) (.inl (some (yI r))) m' n' := fun r m' e h1 h2 n' => ⟨r, rfl, h1, h2, e⟩
  refine PC.mk [some (.ref A), none, none] kn73 rfl ?_
  refine p_iconst 1 c73_0 rfl ?_
  refine p_istore 2 c73_1 rfl rfl ?_
  refine PW.loop (K := k) (pce := 118) (fun (l : Int) ml => B73_2 f A l ml) (fun (l : Int) j => [some (.ref A), some (yI l), j 2]) (fun (l : Int) => rg l) (RM c) (fun r' m' => rg r' → RM c m' → ∀ n' : Nat, (qS c (F73 f A m)) (.inl (some (yI r'))) m' n') (fun k' hk' l j m' n' hl hI Hn' He' Hr' => tB73_2 (f := f) (by omega) hA hl hI (fun y0 y1 m2 n2 e h0 hR2 => Hn' y0 (fun q => ([none, none, y1] : List (Option Value)).getD q none) m2 n2 e h0 hR2) (fun y0 y1 m2 n2 e h0 hR2 => He' y0 (fun q => ([none, none, y1] : List (Option Value)).getD q none) m2 n2 e h0 hR2) Hr') f k (by omega) (Nat.le_refl _) 0 (fun q => ([some (.ref A), some (yI 0), none] : xL).getD q none) _ _ (rgD rfl) hR (fun l1985 j1988 m1991 n1990 e1987 hl1986 hR1992 k1989 hk1989 => ?_) (fun r' m' e' => ?_)
  · have hX1993 := hX.trans (bL_l e1987)
    refine p_aload 119 c73_118 rfl rfl ?_
    refine p_aload 120 c73_119 rfl rfl ?_
    refine p_iconst 121 c73_120 rfl ?_
    refine p_ldc 123 c73_121 rfl ?_
    refine p_cX 126 [.retAddr 21] [yI 0, .ref A, .ref A] c73_123 rfl rfl rfl (fun k' hk' d' => d8go) (fun hgk1994 n1995 k1994 hk1994 => ?_)
    refine p_iconst 127 c73_126 rfl ?_
    refine p_cO 130 [.ref A, yI 0, yI 239, yI 0] [.ref A] c73_127 rfl rfl rfl (fun k' hk' d' => d72 (f := f) (by omega) hA (rgD rfl) (rgD rfl) (rgD rfl) hR1992) (fun r2036 hF2034 hg2035 n1997 k1996 hk1996 => ?_)
    have hX2037 := hX1993.trans (bP_s hF2034)
    refine p_putI 133 c73_130 rfl (kP_17 hA) ?_
    have hR2038 := hR1992.up A 17 (v := r2036) (nselA (by omega)) hg2035
    refine p_iconst 134 c73_133 rfl ?_
    exact p_ireturn c73_134 (Hr _ _ hX2037 (rgD rfl) hR2038 _)
  · exact Hr r' m' (hX.trans (bL_r e'))
end

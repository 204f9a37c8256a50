/-! PARTIAL RUNS: cells, calls, ends, loops -/
section PR2
variable {Z : yZ} {k i d pc pc' w a b : Nat} {ls ls' : xL} {st st' st0 : List Value} {m m' : yM} {n n' : Nat} {Q Qs : xO → yM → Nat → Prop} {o : xI}
theorem p_getX (pc' : Nat) {q ci t A : Nat} (x : Int) (ho : zP Z i pc = some (.getfield q, w, ci, b)) (hp : pc + w = pc') (hf : yfld (zSh Z) (zN Z) A q ci = some (.inl t)) (hx : m A q = x) (K : PW Z k i d pc' ls (yI x :: st) m n Q) : PW Z k i d pc ls (.ref A :: st) m n Q := by
  subst hp
  subst hx
  refine PW.go ho (fun h hL => Or.inr ⟨h, ?_, hL⟩) K
  obtain ⟨vs, h1, h2, -⟩ := hL.fld hf
  simp [zStp, xstep, h1, h2, xgo, yslv]
theorem p_getR (pc' : Nat) {q ci A B : Nat} (ho : zP Z i pc = some (.getfield q, w, ci, b)) (hp : pc + w = pc') (hf : yfld (zSh Z) (zN Z) A q ci = some (.inr (.inl B))) (K : PW Z k i d pc' ls (.ref B :: st) m n Q) : PW Z k i d pc ls (.ref A :: st) m n Q := by
  subst hp
  refine PW.go ho (fun h hL => Or.inr ⟨h, ?_, hL⟩) K
  obtain ⟨vs, h1, h2, -⟩ := hL.fld hf
  simp [zStp, xstep, h1, h2, xgo, yslv]
theorem p_getV (pc' : Nat) {q ci A : Nat} {l : List Nat} (v : Value) (ho : zP Z i pc = some (.getfield q, w, ci, b)) (hp : pc + w = pc') (hf : yfld (zSh Z) (zN Z) A q ci = some (.inr (.inr l))) (hx : ysv l (m A q) = v) (K : PW Z k i d pc' ls (v :: st) m n Q) : PW Z k i d pc ls (.ref A :: st) m n Q := by
  subst hp
  refine PW.go ho (fun h hL => Or.inr ⟨h, ?_, hL⟩) K
  obtain ⟨vs, h1, h2, -⟩ := hL.fld hf
  simp [zStp, xstep, h1, h2, xgo, yslv, hx]
/-- a field of null: no step -/
theorem p_getN {q ci : Nat} (ho : zP Z i pc = some (.getfield q, w, ci, b)) : PW Z k i d pc ls (.null :: st) m n Q := PW.stuck ho (fun h hL => rfl)
theorem p_put (pc' : Nat) {q ci t A : Nat} {s : ySl} {v : Value} {x : Int} (ho : zP Z i pc = some (.putfield q, w, ci, t)) (hp : pc + w = pc') (hf : yfld (zSh Z) (zN Z) A q ci = some s) (hs : yslv s x = v) (K : PW Z k i d pc' ls st (yup m A q x) n Q) : PW Z k i d pc ls (v :: .ref A :: st) m n Q := by
  subst hp
  refine PW.go ho (fun h hL => ?_) K
  obtain ⟨vs, h1, h2, sl, h3, h4, h5, h6⟩ := hL.fld hf
  have hq : q < vs.length := (List.getElem?_eq_some_iff.mp h2).1
  by_cases hv : xfit t v = true
  · refine Or.inr ⟨h.set A (.inr (ci, vs.set q v)), ?_, hL.set h1 (by simp [xcz]) ?_⟩
    · simp [zStp, xstep, h1, hq, hv, xgo]
    · rw [h3]
      simp only [yCell]
      refine ⟨_, rfl, by simp [h5], fun j s' hj => ?_⟩
      by_cases e : j = q
      · subst e
        rw [hj] at h4
        cases h4
        rw [List.getElem?_set_self hq, yup_eq, hs]
      · rw [List.getElem?_set_ne (fun q => e q.symm), yup_nk e]
        exact h6 j s' hj
  · exact Or.inl (by simp [zStp, xstep, h1, hv])
theorem p_putI (pc' : Nat) {q ci t t0 A : Nat} {x : Int} (ho : zP Z i pc = some (.putfield q, w, ci, t)) (hp : pc + w = pc') (hf : yfld (zSh Z) (zN Z) A q ci = some (.inl t0)) (K : PW Z k i d pc' ls st (yup m A q x) n Q) : PW Z k i d pc ls (yI x :: .ref A :: st) m n Q := p_put pc' ho hp hf rfl K
theorem p_inN {x : Int} {e : Nat} (he : e ≤ 100000) (hr : rg x) (h : ¬ (0 ≤ x ∧ x < e)) : xin (Int32.ofInt x) e = false := by
  unfold xin
  rw [decide_eq_false_iff_not, Classical.not_not]
  by_cases h0 : x < 0
  · exact Or.inl (by rw [Int32.lt_iff_toInt_lt, y_rng hr]; exact h0)
  · refine Or.inr ?_
    have : (Int32.ofInt x).toNatClampNeg = x.toNat := by
      show (Int32.ofInt x).toInt.toNat = x.toNat
      rw [y_rng hr]
    rw [this]
    omega
theorem p_iaX (pc' : Nat) {t A e : Nat} {x : Int} (v : Int) (ho : zP Z i pc = some (.iaload, w, t, b)) (hp : pc + w = pc') (hf : yarr (zSh Z) (zN Z) A = some (t, e)) (hr : rg x) (hv : m A x.toNat = v) (K : 0 ≤ x ∧ x < (e : Int) → PW Z k i d pc' ls (yI v :: st) m n Q) : PW Z k i d pc ls (yI x :: .ref A :: st) m n Q := by
  subst hp
  subst hv
  by_cases hx : 0 ≤ x ∧ x < (e : Int)
  · refine PW.go ho (fun h hL => Or.inr ⟨h, ?_, hL⟩) (K hx)
    obtain ⟨hk, -, g, h1, h2⟩ := hL.arr hf
    obtain ⟨e1, e2⟩ := y_in hk hx.1 hx.2
    have e3 := h2 x.toNat (by omega)
    simp [zStp, xstep, yI, h1, e1, e2, xgo, e3]
  · refine PW.stuck ho (fun h hL => ?_)
    obtain ⟨hk, -, g, h1, h2⟩ := hL.arr hf
    have e1 := p_inN hk hr hx
    simp [zStp, xstep, yI, h1, e1]
theorem p_script (pc' : Nat) {x : Int} (ho : zP Z i pc = some (.iaload, w, 0, b)) (hp : pc + w = pc') (hl : zLn Z ≤ 100000) (hr : rg x) (K : 0 ≤ x ∧ x < (zLn Z : Int) → PW Z k i d pc' ls (yI (zXs Z x.toNat).toInt :: st) m n Q) : PW Z k i d pc ls (yI x :: .retAddr 0 :: st) m n Q := by
  subst hp
  by_cases hx : 0 ≤ x ∧ x < (zLn Z : Int)
  · refine PW.gp ho (fun h => ?_) (K hx)
    obtain ⟨e1, e2⟩ := y_in hl hx.1 hx.2
    rw [y_back]
    have e1 : xin (Int32.ofInt x) Z.1.2.1 = true := e1
    simp [zStp, xstep, yI, e1, e2, xgo, zXs]
  · refine PW.stuck ho (fun h hL => ?_)
    have e1 : xin (Int32.ofInt x) Z.1.2.1 = false := p_inN hl hr hx
    simp [zStp, xstep, yI, e1]
theorem p_iaS (pc' : Nat) {t A e : Nat} {x v : Int} (ho : zP Z i pc = some (.iastore, w, t, b)) (hp : pc + w = pc') (hf : yarr (zSh Z) (zN Z) A = some (t, e)) (hr : rg x) (v' : Int) (hv : nar t v = v') (K : 0 ≤ x ∧ x < (e : Int) → PW Z k i d pc' ls st (yup m A x.toNat v') n Q) : PW Z k i d pc ls (yI v :: yI x :: .ref A :: st) m n Q := by
  subst hp
  subst hv
  by_cases hx : 0 ≤ x ∧ x < (e : Int)
  · refine PW.go ho (fun h hL => Or.inr ?_) (K hx)
    obtain ⟨hk, hs, g, h1, h2⟩ := hL.arr hf
    obtain ⟨e1, e2⟩ := y_in hk hx.1 hx.2
    refine ⟨h.set A (.inl (t, e, .inl (upd g x.toNat (if t = 3 then vp_nar .char (Int32.ofInt v) else if t = 1 then vp_nar .boolean (Int32.ofInt v) else if t = 2 then vp_nar .byte (Int32.ofInt v) else Int32.ofInt v)))), ?_, hL.set h1 rfl ?_⟩
    · simp only [zStp, xstep, yI, h1, e1, e2, xgo, and_self, if_true]
    · rw [hs]
      simp only [yCell]
      refine ⟨_, rfl, fun j hj => ?_⟩
      by_cases q : j = x.toNat
      · subst q
        rw [yup_eq]
        simp [upd, nar]
      · rw [yup_nk q, ← h2 j hj]
        simp [upd, q]
  · refine PW.stuck ho (fun h hL => ?_)
    obtain ⟨hk, -, g, h1, h2⟩ := hL.arr hf
    have e1 := p_inN hk hr hx
    simp [zStp, xstep, yI, h1, e1]
theorem p_laX (pc' : Nat) {A e : Nat} {x : Int} (v : Int64) (ho : zP Z i pc = some (.laload, w, a, b)) (hp : pc + w = pc') (hf : ylar (zSh Z) (zN Z) A = some e) (hr : rg x) (hv : Int64.ofInt (m A x.toNat) = v) (K : 0 ≤ x ∧ x < (e : Int) → PW Z k i d pc' ls (.long v :: st) m n Q) : PW Z k i d pc ls (yI x :: .ref A :: st) m n Q := by
  subst hp
  subst hv
  by_cases hx : 0 ≤ x ∧ x < (e : Int)
  · refine PW.go ho (fun h hL => Or.inr ⟨h, ?_, hL⟩) (K hx)
    obtain ⟨hk, -, g, h1, h2⟩ := hL.lar hf
    obtain ⟨e1, e2⟩ := y_in hk hx.1 hx.2
    have e3 := h2 x.toNat (by omega)
    simp [zStp, xstep, yI, h1, e1, e2, xgo, e3]
  · refine PW.stuck ho (fun h hL => ?_)
    obtain ⟨hk, -, g, h1, h2⟩ := hL.lar hf
    have e1 := p_inN hk hr hx
    simp [zStp, xstep, yI, h1, e1]
theorem p_laS (pc' : Nat) {A e : Nat} {x : Int} {v : Int64} (ho : zP Z i pc = some (.lastore, w, a, b)) (hp : pc + w = pc') (hf : ylar (zSh Z) (zN Z) A = some e) (hr : rg x) (K : 0 ≤ x ∧ x < (e : Int) → PW Z k i d pc' ls st (yup m A x.toNat v.toInt) n Q) : PW Z k i d pc ls (.long v :: yI x :: .ref A :: st) m n Q := by
  subst hp
  by_cases hx : 0 ≤ x ∧ x < (e : Int)
  · refine PW.go ho (fun h hL => Or.inr ?_) (K hx)
    obtain ⟨hk, hs, g, h1, h2⟩ := hL.lar hf
    obtain ⟨e1, e2⟩ := y_in hk hx.1 hx.2
    refine ⟨h.set A (.inl (5, e, .inr (.inl (vp_updL g x.toNat v)))), ?_, hL.set h1 rfl ?_⟩
    · simp only [zStp, xstep, yI, h1, e1, e2, xgo, and_self, if_true]
    · rw [hs]
      simp only [yCell]
      refine ⟨_, rfl, fun j hj => ?_⟩
      by_cases q : j = x.toNat
      · subst q
        rw [yup_eq]
        simp [vp_updL]
      · rw [yup_nk q, ← h2 j hj]
        simp [vp_updL, q]
  · refine PW.stuck ho (fun h hL => ?_)
    obtain ⟨hk, -, g, h1, h2⟩ := hL.lar hf
    have e1 := p_inN hk hr hx
    simp [zStp, xstep, yI, h1, e1]
theorem p_aaX (pc' : Nat) {A e B : Nat} {x : Int} (ho : zP Z i pc = some (.aaload, w, a, b)) (hp : pc + w = pc') (hf : yrow (zSh Z) (zN Z) A = some (e, B)) (hr : rg x) (K : 0 ≤ x ∧ x < (e : Int) → PW Z k i d pc' ls (.ref (B + x.toNat) :: st) m n Q) : PW Z k i d pc ls (yI x :: .ref A :: st) m n Q := by
  subst hp
  by_cases hx : 0 ≤ x ∧ x < (e : Int)
  · refine PW.go ho (fun h hL => Or.inr ⟨h, ?_, hL⟩) (K hx)
    obtain ⟨hk, t, g, t1, t2, h1, h2⟩ := hL.row hf
    obtain ⟨e1, e2⟩ := y_in hk hx.1 hx.2
    have e3 := h2 x.toNat (by omega)
    simp [zStp, xstep, yI, h1, e1, e2, xgo, e3, t1, t2, va_rf]
  · refine PW.stuck ho (fun h hL => ?_)
    obtain ⟨hk, t, g, t1, t2, h1, h2⟩ := hL.row hf
    have e1 := p_inN hk hr hx
    simp [zStp, xstep, yI, h1, e1]
theorem p_alen (pc' : Nat) {t A e : Nat} (ho : zP Z i pc = some (.arraylength, w, a, b)) (hp : pc + w = pc') (hf : yarr (zSh Z) (zN Z) A = some (t, e)) (K : PW Z k i d pc' ls (yI e :: st) m n Q) : PW Z k i d pc ls (.ref A :: st) m n Q := by
  subst hp
  refine PW.go ho (fun h hL => Or.inr ⟨h, ?_, hL⟩) K
  obtain ⟨hk, -, g, h1, h2⟩ := hL.arr hf
  simp [zStp, xstep, yI, h1, xgo, Int32.ofInt_eq_ofNat]
theorem p_rlen (pc' : Nat) {A e B : Nat} (ho : zP Z i pc = some (.arraylength, w, a, b)) (hp : pc + w = pc') (hf : yrow (zSh Z) (zN Z) A = some (e, B)) (K : PW Z k i d pc' ls (yI e :: st) m n Q) : PW Z k i d pc ls (.ref A :: st) m n Q := by
  subst hp
  refine PW.go ho (fun h hL => Or.inr ⟨h, ?_, hL⟩) K
  obtain ⟨hk, t, g, t1, t2, h1, h2⟩ := hL.row hf
  simp [zStp, xstep, yI, h1, xgo, Int32.ofInt_eq_ofNat]
theorem p_slen (pc' : Nat) (ho : zP Z i pc = some (.arraylength, w, a, b)) (hp : pc + w = pc') (K : PW Z k i d pc' ls (yI (zLn Z) :: st) m n Q) : PW Z k i d pc ls (.retAddr 0 :: st) m n Q := by
  subst hp
  refine PW.gp ho (fun h => ?_) K
  simp [zStp, xstep, yI, xgo, Int32.ofInt_eq_ofNat, zLn]
/-- the top of the stack by another name -/
theorem p_top {x : Int} (y : Int) (h : x = y) (K : PW Z k i d pc ls (yI y :: st) m n Q) : PW Z k i d pc ls (yI x :: st) m n Q := h ▸ K
theorem p_callR {j ix kk kd : Nat} {h : xH} : zStp Z (.invokeinterface j ix, w, kk, kd) pc ls st h = none ∨ zStp Z (.invokeinterface j ix, w, kk, kd) pc ls st h = some (.inr (.inr (j, (st.take kk).reverse, pc + w, st.drop kk))) := by
  unfold zStp
  simp only [xstep]
  split
  · split
    · exact Or.inr rfl
    · split
      · rename_i a0 as0 he
        split
        · split
          · rw [he]
            exact Or.inr rfl
          · exact Or.inl rfl
        · exact Or.inl rfl
      · rename_i q0 as0 he
        split
        · rw [he]
          exact Or.inr rfl
        · exact Or.inl rfl
      · exact Or.inl rfl
  · exact Or.inl rfl
/-- a call; hd: what a thrown exception does here -/
theorem p_call (pc' : Nat) (as : List Value) (st0 : List Value) {j ix kk kd : Nat} (ho : zP Z i pc = some (.invokeinterface j ix, w, kk, kd)) (hp : pc + w = pc') (ha : (st.take kk).reverse = as) (hr : st.drop kk = st0) (hc : ∀ k', k' < k → ∀ d', PC Z k' d' j as m n Qs) (k1 : ∀ v m' n', Qs (.inl v) m' n' → ∀ k', k' < k → PW Z k' i d pc' ls (v.toList ++ st0) m' n' Q) (k2 : ∀ q x m' n', Qs (.inr (q, x)) m' n' → (∀ pq, zHd Z i pc q = some (some pq) → ∀ k', k' < k → PW Z k' i d pq ls [.ref x] m' n' Q) ∧ (zHd Z i pc q = some none → Q (.inr (q, x)) m' n')) : PW Z k i d pc ls st m n Q := by
  subst hp
  subst ha
  subst hr
  intro h hL j0 hj r h' hrun
  cases j0 with
  | zero => cases hrun
  | succ j0 =>
    simp only [xrun, ho] at hrun
    rcases p_callR (Z := Z) (pc := pc) (w := w) (ls := ls) (st := st) (j := j) (ix := ix) (kk := kk) (kd := kd) (h := h) with e | e
    · rw [e] at hrun
      cases hrun
    · rw [e] at hrun
      cases d with
      | zero => cases hrun
      | succ d =>
        simp only at hrun
        split at hrun
        · split at hrun
          · cases hrun
          · rename_i v h1 hv
            obtain ⟨m1, n1, hl1, hq1⟩ := hc j0 (by omega) d h hL j0 (Nat.le_refl _) _ _ hv
            exact k1 v m1 n1 hq1 j0 (by omega) h1 hl1 j0 (Nat.le_refl _) _ _ hrun
          · rename_i q x h1 hv
            obtain ⟨m1, n1, hl1, hq1⟩ := hc j0 (by omega) d h hL j0 (Nat.le_refl _) _ _ hv
            have k3 := k2 q x m1 n1 hq1
            split at hrun
            · rename_i pq hd
              exact k3.1 pq hd j0 (by omega) h1 hl1 j0 (Nat.le_refl _) _ _ hrun
            · rename_i hd
              cases hrun
              exact ⟨m1, n1, hl1, k3.2 hd⟩
            · cases hrun
        · cases hrun
theorem p_throw {e : Nat} (ho : zP Z i pc = some (.athrow, w, e, b)) (hq : ∀ x n', Q (.inr (e, x)) m n') : PW Z k i d pc ls st m n Q := by
  intro h hL j hj r h' hr
  cases j with
  | zero => cases hr
  | succ j =>
    simp only [xrun, ho] at hr
    by_cases hw : xw st ≤ 8
    · have e1 : zStp Z (.athrow, w, e, b) pc ls st h = some (.inr (.inl (.inr (e, h.length), h ++ [.inr (e, List.replicate 6 .null)]))) := if_pos hw
      rw [e1] at hr
      cases hr
      exact ⟨m, n + 1, hL.app e, hq _ _⟩
    · have e1 : zStp Z (.athrow, w, e, b) pc ls st h = none := if_neg hw
      rw [e1] at hr
      cases hr
theorem p_ireturn {t : Nat} {x : Int} (ho : zP Z i pc = some (.ireturn, w, t, b)) (hq : Q (.inl (some (yI x))) m n) : PW Z k i d pc ls [yI x] m n Q := by
  intro h hL j hj r h' hr
  cases j with
  | zero => cases hr
  | succ j =>
    simp only [xrun, ho] at hr
    by_cases hv : xfit t (yI x) = true
    · have e1 : zStp Z (.ireturn, w, t, b) pc ls [yI x] h = some (.inr (.inl (.inl (some (yI x)), h))) := if_pos hv
      rw [e1] at hr
      cases hr
      exact ⟨m, n, hL, hq⟩
    · have e1 : zStp Z (.ireturn, w, t, b) pc ls [yI x] h = none := if_neg hv
      rw [e1] at hr
      cases hr
theorem p_areturn {v : Value} (ho : zP Z i pc = some (.areturn, w, a, b)) (hq : Q (.inl (some v)) m n) : PW Z k i d pc ls [v] m n Q := by
  intro h hL j hj r h' hr
  cases j with
  | zero => cases hr
  | succ j =>
    simp only [xrun, ho] at hr
    by_cases hv : xref v = true
    · have e1 : zStp Z (.areturn, w, a, b) pc ls [v] h = some (.inr (.inl (.inl (some v), h))) := if_pos hv
      rw [e1] at hr
      cases hr
      exact ⟨m, n, hL, hq⟩
    · have e1 : zStp Z (.areturn, w, a, b) pc ls [v] h = none := if_neg hv
      rw [e1] at hr
      cases hr
theorem p_return (ho : zP Z i pc = some (.return_, w, a, b)) (hq : Q (.inl none) m n) : PW Z k i d pc ls [] m n Q := by
  intro h hL j hj r h' hr
  cases j with
  | zero => cases hr
  | succ j =>
    simp only [xrun, ho] at hr
    have e1 : zStp Z (.return_, w, a, b) pc ls [] h = some (.inr (.inl (.inl none, h))) := rfl
    rw [e1] at hr
    cases hr
    exact ⟨m, n, hL, hq⟩
theorem p_tsw (pt : Nat) {df lo hi c o : Int} {offs : Array Int} (ho : zP Z i pc = some (.tableswitch df lo hi offs, w, a, b)) (hr : rg c) (hc : ¬ (c < lo ∨ hi < c)) (hoff : offs[(c - lo).toNat]? = some o) (ht : ((pc : Int) + o).toNat = pt) (K : PW Z k i d pt ls st m n Q) : PW Z k i d pc ls (yI c :: st) m n Q := by
  subst ht
  refine PW.gp ho (fun h => ?_) K
  simp only [zStp, xstep, yI, y_rng hr]
  rw [if_neg hc]
  simp only [hoff]
  rfl
theorem p_tswd (pt : Nat) {df lo hi x : Int} {offs : Array Int} (ho : zP Z i pc = some (.tableswitch df lo hi offs, w, a, b)) (hr : rg x) (hc : x < lo ∨ hi < x) (ht : ((pc : Int) + df).toNat = pt) (K : PW Z k i d pt ls st m n Q) : PW Z k i d pc ls (yI x :: st) m n Q := by
  subst ht
  refine PW.gp ho (fun h => ?_) K
  simp only [zStp, xstep, yI, y_rng hr]
  rw [if_pos hc]
  rfl
theorem p_lsw (pt : Nat) {df x o : Int} {ps : Array (Int × Int)} (ho : zP Z i pc = some (.lookupswitch df ps, w, a, b)) (hr : rg x) (hoff : Op.lookupswitch.offset ps.toList df x = o) (ht : ((pc : Int) + o).toNat = pt) (K : PW Z k i d pt ls st m n Q) : PW Z k i d pc ls (yI x :: st) m n Q := by
  subst ht
  refine PW.gp ho (fun h => ?_) K
  simp only [zStp, xstep, yI, y_rng hr, hoff]
  rfl
end PR2
/-! what holds of every memory here: its places are ints; which program the parser (cell 2), the facts (8), the machine (169) work on -/
def nsel (a q : Nat) : Prop := ¬ (a = 0 ∧ (q = 4 ∨ q = 5)) ∧ ¬ (a = 2 ∧ q = 1) ∧ ¬ (a = 8 ∧ q = 4) ∧ ¬ (a = 169 ∧ q = 4)
def s01 (x : Int) : Prop := x = 0 ∨ x = 1
def pA (x : Int) : Nat := if x = 0 then 256 else 316
def pX (A : Nat) : Int := if A = 256 then 0 else 1
abbrev yS3 : Type := Int × Int × Int
def RM (c : yS3) (m : yM) : Prop := (∀ a q, rg (m a q)) ∧ s01 (m 0 4) ∧ s01 (m 0 5) ∧ m 2 1 = c.1 ∧ m 8 4 = c.2.1 ∧ m 169 4 = c.2.2
theorem pA_is (x : Int) : pA x = 256 ∨ pA x = 316 := by
  unfold pA
  split
  · exact Or.inl rfl
  · exact Or.inr rfl
theorem pA_sv {x : Int} (h : s01 x) : ysv [256, 316] x = .ref (pA x) := by
  rcases h with rfl | rfl <;> rfl
theorem pA_sv2 {x y : Int} (h : s01 x) (e : x = y) : ysv [256, 316] x = .ref (pA y) := e ▸ pA_sv h
theorem pX_of {A : Nat} {x y : Int} (hA : A = 256 ∨ A = 316) (h : x = y) (hc : y = pX A) : ysv [256, 316] x = .ref A := by
  subst h
  subst hc
  rcases hA with rfl | rfl <;> rfl
theorem pX_sv {A : Nat} (h : A = 256 ∨ A = 316) : yslv (.inr (.inr [256, 316])) (pX A) = .ref A := by
  rcases h with rfl | rfl <;> rfl
theorem pA_pX {A : Nat} (h : A = 256 ∨ A = 316) : pA (pX A) = A := by
  rcases h with rfl | rfl <;> rfl
theorem pX_01 (A : Nat) : s01 (pX A) := by
  unfold pX s01
  split
  · exact Or.inl rfl
  · exact Or.inr rfl
theorem s01_rg {x : Int} (h : s01 x) : rg x := by
  rcases h with rfl | rfl <;> exact rgD rfl
theorem nselA {a q : Nat} (h : a ≠ 0 ∧ a ≠ 2 ∧ a ≠ 8 ∧ a ≠ 169) : nsel a q := by
  unfold nsel
  omega
theorem nselD {a q : Nat} (h : (decide (a = 0 ∧ (q = 4 ∨ q = 5)) || (decide (a = 2 ∧ q = 1) || (decide (a = 8 ∧ q = 4) || decide (a = 169 ∧ q = 4)))) = false) : nsel a q := by
  simp only [Bool.or_eq_false_iff, decide_eq_false_iff_not] at h
  exact h
theorem RM.up {c : yS3} {m : yM} (h : RM c m) (a q : Nat) {v : Int} (hs : nsel a q) (hv : rg v) : RM c (yup m a q v) := by
  obtain ⟨h1, h2, h3, h4, h5, h6⟩ := h
  obtain ⟨s1, s2, s3, s4⟩ := hs
  refine ⟨fun b j => ?_, ?_, ?_, ?_, ?_, ?_⟩
  · unfold yup
    split
    · exact hv
    · exact h1 b j
  · rw [yup_ne (by omega)]; exact h2
  · rw [yup_ne (by omega)]; exact h3
  · rw [yup_ne (by omega)]; exact h4
  · rw [yup_ne (by omega)]; exact h5
  · rw [yup_ne (by omega)]; exact h6
theorem RM.s2 {c : yS3} {m : yM} (h : RM c m) {x : Int} (hx : s01 x) : RM (x, c.2) (yup m 2 1 x) := by
  obtain ⟨h1, h2, h3, h4, h5, h6⟩ := h
  refine ⟨fun b j => ?_, h2, h3, rfl, h5, h6⟩
  unfold yup
  split
  · exact s01_rg hx
  · exact h1 b j
theorem RM.s8 {c : yS3} {m : yM} (h : RM c m) {x : Int} (hx : s01 x) : RM (c.1, x, c.2.2) (yup m 8 4 x) := by
  obtain ⟨h1, h2, h3, h4, h5, h6⟩ := h
  refine ⟨fun b j => ?_, h2, h3, h4, rfl, h6⟩
  unfold yup
  split
  · exact s01_rg hx
  · exact h1 b j
theorem RM.s169 {c : yS3} {m : yM} (h : RM c m) {x : Int} (hx : s01 x) : RM (c.1, c.2.1, x) (yup m 169 4 x) := by
  obtain ⟨h1, h2, h3, h4, h5, h6⟩ := h
  refine ⟨fun b j => ?_, h2, h3, h4, h5, rfl⟩
  unfold yup
  split
  · exact s01_rg hx
  · exact h1 b j
theorem RM.s04 {c : yS3} {m : yM} (h : RM c m) {x : Int} (hx : s01 x) : RM c (yup m 0 4 x) := by
  obtain ⟨h1, h2, h3, h4, h5, h6⟩ := h
  refine ⟨fun b j => ?_, hx, h3, h4, h5, h6⟩
  unfold yup
  split
  · exact s01_rg hx
  · exact h1 b j
theorem RM.s05 {c : yS3} {m : yM} (h : RM c m) {x : Int} (hx : s01 x) : RM c (yup m 0 5 x) := by
  obtain ⟨h1, h2, h3, h4, h5, h6⟩ := h
  refine ⟨fun b j => ?_, h2, hx, h4, h5, h6⟩
  unfold yup
  split
  · exact s01_rg hx
  · exact h1 b j
theorem RM.rg {c : yS3} {m : yM} (h : RM c m) (a q : Nat) : rg (m a q) := h.1 a q
/-! what a function gives, one behind another -/
section BND
variable {α β γ : Type}
def bI (o : Option (α × yM)) (g : α → yM → Option β) : Option β := match o with
  | none => none
  | some (r, m) => g r m
def bU (o : Option yM) (g : yM → Option β) : Option β := match o with
  | none => none
  | some m => g m
def bP (o : Option α) (g : α → Option β) : Option β := match o with
  | none => none
  | some r => g r
/-- it may throw: the exception goes on -/
def bT (o : Option ((α ⊕ Nat) × yM)) (g : α → yM → Option β) (t : Nat → yM → Option β) : Option β := match o with
  | none => none
  | some (.inl r, m) => g r m
  | some (.inr e, m) => t e m
/-- behind a loop -/
def bL (o : Option ((α × yM) ⊕ (γ × yM))) (g : α → yM → Option β) (t : γ → yM → Option β) : Option β := match o with
  | none => none
  | some (.inl (l, m)) => g l m
  | some (.inr (r, m)) => t r m
theorem bI_s {o : Option (α × yM)} {g : α → yM → Option β} {r : α} {m : yM} (h : o = some (r, m)) : bI o g = g r m := by subst h; rfl
theorem bU_s {o : Option yM} {g : yM → Option β} {m : yM} (h : o = some m) : bU o g = g m := by subst h; rfl
theorem bP_s {o : Option α} {g : α → Option β} {r : α} (h : o = some r) : bP o g = g r := by subst h; rfl
theorem bT_l {o : Option ((α ⊕ Nat) × yM)} {g : α → yM → Option β} {t : Nat → yM → Option β} {r : α} {m : yM} (h : o = some (.inl r, m)) : bT o g t = g r m := by subst h; rfl
theorem bT_r {o : Option ((α ⊕ Nat) × yM)} {g : α → yM → Option β} {t : Nat → yM → Option β} {e : Nat} {m : yM} (h : o = some (.inr e, m)) : bT o g t = t e m := by subst h; rfl
theorem bL_l {o : Option ((α × yM) ⊕ (γ × yM))} {g : α → yM → Option β} {t : γ → yM → Option β} {l : α} {m : yM} (h : o = some (.inl (l, m))) : bL o g t = g l m := by subst h; rfl
theorem bL_r {o : Option ((α × yM) ⊕ (γ × yM))} {g : α → yM → Option β} {t : γ → yM → Option β} {r : γ} {m : yM} (h : o = some (.inr (r, m))) : bL o g t = t r m := by subst h; rfl
/-- a loop: its body goes on, leaves it, or ends the method -/
def yloop (B : α → yM → Option ((α × yM) ⊕ ((α × yM) ⊕ (γ × yM)))) : Nat → α → yM → Option ((α × yM) ⊕ (γ × yM))
  | 0, _, _ => none
  | f + 1, l, m => match B l m with
    | none => none
    | some (.inl (l', m')) => yloop B f l' m'
    | some (.inr r) => some r
theorem yloop_n {B : α → yM → Option ((α × yM) ⊕ ((α × yM) ⊕ (γ × yM)))} {f : Nat} {l l' : α} {m m' : yM} (h : B l m = some (.inl (l', m'))) : yloop B (f + 1) l m = yloop B f l' m' := by
  simp only [yloop, h]
theorem yloop_e {B : α → yM → Option ((α × yM) ⊕ ((α × yM) ⊕ (γ × yM)))} {f : Nat} {l : α} {m : yM} {r : (α × yM) ⊕ (γ × yM)} (h : B l m = some (.inr r)) : yloop B (f + 1) l m = some r := by
  simp only [yloop, h]
end BND
theorem PW.zero {Z : yZ} {i d pc : Nat} {ls : xL} {st : List Value} {m : yM} {n : Nat} {Q : xO → yM → Nat → Prop} : PW Z 0 i d pc ls st m n Q := by
  intro h hL j hj r h' hr
  have e : j = 0 := by omega
  subst e
  cases hr
theorem PW.loop {Lt R : Type} {Z : yZ} {i d pch pce K : Nat} {Q : xO → yM → Nat → Prop} (B : Lt → yM → Option ((Lt × yM) ⊕ ((Lt × yM) ⊕ (R × yM)))) (loc : Lt → (Nat → Option Value) → xL) (rgl : Lt → Prop) (I : yM → Prop) (RQ : R → yM → Prop) (hB : ∀ k, k ≤ K → ∀ l j m n, rgl l → I m → (∀ l' j' m' n', B l m = some (.inl (l', m')) → rgl l' → I m' → ∀ k', k' < k → PW Z k' i d pch (loc l' j') [] m' n' Q) → (∀ l' j' m' n', B l m = some (.inr (.inl (l', m'))) → rgl l' → I m' → ∀ k', k' ≤ k → PW Z k' i d pce (loc l' j') [] m' n' Q) → (∀ r m', B l m = some (.inr (.inr (r, m'))) → RQ r m') → PW Z k i d pch (loc l j) [] m n Q) : ∀ f k, k ≤ f → k ≤ K → ∀ l j m n, rgl l → I m → (∀ l' j' m' n', yloop B f l m = some (.inl (l', m')) → rgl l' → I m' → ∀ k', k' ≤ k → PW Z k' i d pce (loc l' j') [] m' n' Q) → (∀ r m', yloop B f l m = some (.inr (r, m')) → RQ r m') → PW Z k i d pch (loc l j) [] m n Q := by
  intro f
  induction f with
  | zero =>
    intro k hk hK l j m n hl hI he hr
    have e : k = 0 := by omega
    subst e
    exact PW.zero
  | succ f ih =>
    intro k hk hK l j m n hl hI he hr
    refine hB k hK l j m n hl hI (fun l' j' m' n' e1 hl' hI' k' hk' => ?_) (fun l' j' m' n' e1 hl' hI' k' hk' => ?_) (fun r m' e1 => ?_)
    · refine ih k' (by omega) (by omega) l' j' m' n' hl' hI' (fun l2 j2 m2 n2 e2 hl2 hI2 k2 hk2 => ?_) (fun r m2 e2 => ?_)
      · exact he l2 j2 m2 n2 ((yloop_n e1).trans e2) hl2 hI2 k2 (by omega)
      · exact hr r m2 ((yloop_n e1).trans e2)
    · exact he l' j' m' n' (yloop_e e1) hl' hI' k' hk'
    · exact hr r m' (yloop_e e1)
/-- a loop that changes no place -/
def ploop {α γ : Type} (B : α → Option (α ⊕ (α ⊕ γ))) : Nat → α → Option (α ⊕ γ)
  | 0, _ => none
  | f + 1, l => match B l with
    | none => none
    | some (.inl l') => ploop B f l'
    | some (.inr r) => some r
theorem ploop_n {α γ : Type} {B : α → Option (α ⊕ (α ⊕ γ))} {f : Nat} {l l' : α} (h : B l = some (.inl l')) : ploop B (f + 1) l = ploop B f l' := by
  simp only [ploop, h]
theorem ploop_e {α γ : Type} {B : α → Option (α ⊕ (α ⊕ γ))} {f : Nat} {l : α} {r : α ⊕ γ} (h : B l = some (.inr r)) : ploop B (f + 1) l = some r := by
  simp only [ploop, h]
def bQ {α β γ : Type} (o : Option (α ⊕ γ)) (g : α → Option β) (t : γ → Option β) : Option β := match o with
  | none => none
  | some (.inl l) => g l
  | some (.inr r) => t r
theorem bQ_l {α β γ : Type} {o : Option (α ⊕ γ)} {g : α → Option β} {t : γ → Option β} {l : α} (h : o = some (.inl l)) : bQ o g t = g l := by subst h; rfl
theorem bQ_r {α β γ : Type} {o : Option (α ⊕ γ)} {g : α → Option β} {t : γ → Option β} {r : γ} (h : o = some (.inr r)) : bQ o g t = t r := by subst h; rfl
theorem PW.ploop {Lt R : Type} {Z : yZ} {i d pch pce K : Nat} {m : yM} {Q : xO → yM → Nat → Prop} (B : Lt → Option (Lt ⊕ (Lt ⊕ R))) (loc : Lt → (Nat → Option Value) → xL) (rgl : Lt → Prop) (RQ : R → Prop) (hB : ∀ k, k ≤ K → ∀ l j n, rgl l → (∀ l' j' n', B l = some (.inl l') → rgl l' → ∀ k', k' < k → PW Z k' i d pch (loc l' j') [] m n' Q) → (∀ l' j' n', B l = some (.inr (.inl l')) → rgl l' → ∀ k', k' ≤ k → PW Z k' i d pce (loc l' j') [] m n' Q) → (∀ r, B l = some (.inr (.inr r)) → RQ r) → PW Z k i d pch (loc l j) [] m n Q) : ∀ f k, k ≤ f → k ≤ K → ∀ l j n, rgl l → (∀ l' j' n', ploop B f l = some (.inl l') → rgl l' → ∀ k', k' ≤ k → PW Z k' i d pce (loc l' j') [] m n' Q) → (∀ r, ploop B f l = some (.inr r) → RQ r) → PW Z k i d pch (loc l j) [] m n Q := by
  intro f
  induction f with
  | zero =>
    intro k hk hK l j n hl he hr
    have e : k = 0 := by omega
    subst e
    exact PW.zero
  | succ f ih =>
    intro k hk hK l j n hl he hr
    refine hB k hK l j n hl (fun l' j' n' e1 hl' k' hk' => ?_) (fun l' j' n' e1 hl' k' hk' => ?_) (fun r e1 => ?_)
    · refine ih k' (by omega) (by omega) l' j' n' hl' (fun l2 j2 n2 e2 hl2 k2 hk2 => ?_) (fun r e2 => ?_)
      · exact he l2 j2 n2 ((ploop_n e1).trans e2) hl2 k2 (by omega)
      · exact hr r ((ploop_n e1).trans e2)
    · exact he l' j' n' (ploop_e e1) hl' k' hk'
    · exact hr r (ploop_e e1)
/-! what a method's function says of its run: it ends so (qS an int, qV nothing, qO an int and no place changed, qX that int, qR a reference; qT, qEV, qEA: or an exception of E) -/
def qS (c : yS3) (X : Option (Int × yM)) : xO → yM → Nat → Prop := fun o m' _ => ∃ r, o = .inl (some (yI r)) ∧ rg r ∧ RM c m' ∧ X = some (r, m')
def qV (c : yS3) (X : Option yM) : xO → yM → Nat → Prop := fun o m' _ => o = .inl none ∧ RM c m' ∧ X = some m'
def qO (m : yM) (X : Option Int) : xO → yM → Nat → Prop := fun o m' _ => ∃ r, o = .inl (some (yI r)) ∧ rg r ∧ m' = m ∧ X = some r
def qX (m : yM) (x : Int) : xO → yM → Nat → Prop := fun o m' _ => o = .inl (some (yI x)) ∧ rg x ∧ m' = m
def qXR (m : yM) (P : Nat → Prop) (x : Nat) : xO → yM → Nat → Prop := fun o m' _ => o = .inl (some (.ref x)) ∧ P x ∧ m' = m
def qR (c : yS3) (P : Nat → Prop) (X : Option (Nat × yM)) : xO → yM → Nat → Prop := fun o m' _ => ∃ r, o = .inl (some (.ref r)) ∧ P r ∧ RM c m' ∧ X = some (r, m')
def qEI (E : Nat → Prop) (c : yS3) (X : Option ((Int ⊕ Nat) × yM)) : xO → yM → Nat → Prop := fun o m' _ => (∃ r, o = .inl (some (yI r)) ∧ rg r ∧ RM c m' ∧ X = some (.inl r, m')) ∨ (∃ e x, o = .inr (e, x) ∧ E e ∧ RM c m' ∧ X = some (.inr e, m'))
def qEV (E : Nat → Prop) (c : yS3) (X : Option ((Unit ⊕ Nat) × yM)) : xO → yM → Nat → Prop := fun o m' _ => (o = .inl none ∧ RM c m' ∧ X = some (.inl (), m')) ∨ (∃ e x, o = .inr (e, x) ∧ E e ∧ RM c m' ∧ X = some (.inr e, m'))
def qEA (E : Nat → Prop) (c : yS3) (P : Nat → Prop) (X : Option ((Nat ⊕ Nat) × yM)) : xO → yM → Nat → Prop := fun o m' _ => (∃ r, o = .inl (some (.ref r)) ∧ P r ∧ RM c m' ∧ X = some (.inl r, m')) ∨ (∃ e x, o = .inr (e, x) ∧ E e ∧ RM c m' ∧ X = some (.inr e, m'))
section PC1
variable {Z : yZ} {k i d pc pc' w : Nat} {ls : xL} {st st0 : List Value} {m : yM} {n : Nat} {Q : xO → yM → Nat → Prop} {c : yS3} {j ix kk kd : Nat} {as : List Value} {P : Nat → Prop} {E : Nat → Prop}
theorem p_cS (pc' : Nat) (as : List Value) (st0 : List Value) {X : Option (Int × yM)} (ho : zP Z i pc = some (.invokeinterface j ix, w, kk, kd)) (hp : pc + w = pc') (ha : (st.take kk).reverse = as) (hr : st.drop kk = st0) (hc : ∀ k', k' < k → ∀ d', PC Z k' d' j as m n (qS c X)) (K : ∀ r m', X = some (r, m') → rg r → RM c m' → ∀ n' k', k' < k → PW Z k' i d pc' ls (yI r :: st0) m' n' Q) : PW Z k i d pc ls st m n Q :=
  p_call pc' as st0 ho hp ha hr hc (fun v m' n' hq k' hk' => by
    obtain ⟨r, e, h1, h2, h3⟩ := hq
    cases e
    exact K r m' h3 h1 h2 n' k' hk') (fun q x m' n' hq => by
    obtain ⟨r, e, h1⟩ := hq
    cases e)
theorem p_cV (pc' : Nat) (as : List Value) (st0 : List Value) {X : Option yM} (ho : zP Z i pc = some (.invokeinterface j ix, w, kk, kd)) (hp : pc + w = pc') (ha : (st.take kk).reverse = as) (hr : st.drop kk = st0) (hc : ∀ k', k' < k → ∀ d', PC Z k' d' j as m n (qV c X)) (K : ∀ m', X = some m' → RM c m' → ∀ n' k', k' < k → PW Z k' i d pc' ls st0 m' n' Q) : PW Z k i d pc ls st m n Q :=
  p_call pc' as st0 ho hp ha hr hc (fun v m' n' hq k' hk' => by
    obtain ⟨e, h2, h3⟩ := hq
    cases e
    exact K m' h3 h2 n' k' hk') (fun q x m' n' hq => by
    obtain ⟨e, h1⟩ := hq
    cases e)
theorem p_cO (pc' : Nat) (as : List Value) (st0 : List Value) {X : Option Int} (ho : zP Z i pc = some (.invokeinterface j ix, w, kk, kd)) (hp : pc + w = pc') (ha : (st.take kk).reverse = as) (hr : st.drop kk = st0) (hc : ∀ k', k' < k → ∀ d', PC Z k' d' j as m n (qO m X)) (K : ∀ r, X = some r → rg r → ∀ n' k', k' < k → PW Z k' i d pc' ls (yI r :: st0) m n' Q) : PW Z k i d pc ls st m n Q :=
  p_call pc' as st0 ho hp ha hr hc (fun v m' n' hq k' hk' => by
    obtain ⟨r, e, h1, h2, h3⟩ := hq
    cases e
    subst h2
    exact K r h3 h1 n' k' hk') (fun q x m' n' hq => by
    obtain ⟨r, e, h1⟩ := hq
    cases e)
theorem p_cX (pc' : Nat) (as : List Value) (st0 : List Value) {X : Int} (ho : zP Z i pc = some (.invokeinterface j ix, w, kk, kd)) (hp : pc + w = pc') (ha : (st.take kk).reverse = as) (hr : st.drop kk = st0) (hc : ∀ k', k' < k → ∀ d', PC Z k' d' j as m n (qX m X)) (K : rg X → ∀ n' k', k' < k → PW Z k' i d pc' ls (yI X :: st0) m n' Q) : PW Z k i d pc ls st m n Q :=
  p_call pc' as st0 ho hp ha hr hc (fun v m' n' hq k' hk' => by
    obtain ⟨e, h1, h2⟩ := hq
    cases e
    subst h2
    exact K h1 n' k' hk') (fun q x m' n' hq => by
    obtain ⟨e, h1⟩ := hq
    cases e)
theorem p_cXR (pc' : Nat) (as : List Value) (st0 : List Value) {X : Nat} (ho : zP Z i pc = some (.invokeinterface j ix, w, kk, kd)) (hp : pc + w = pc') (ha : (st.take kk).reverse = as) (hr : st.drop kk = st0) (hc : ∀ k', k' < k → ∀ d', PC Z k' d' j as m n (qXR m P X)) (K : P X → ∀ n' k', k' < k → PW Z k' i d pc' ls (.ref X :: st0) m n' Q) : PW Z k i d pc ls st m n Q :=
  p_call pc' as st0 ho hp ha hr hc (fun v m' n' hq k' hk' => by
    obtain ⟨e, h1, h2⟩ := hq
    cases e
    subst h2
    exact K h1 n' k' hk') (fun q x m' n' hq => by
    obtain ⟨e, h1⟩ := hq
    cases e)
theorem p_cR (pc' : Nat) (as : List Value) (st0 : List Value) {X : Option (Nat × yM)} (ho : zP Z i pc = some (.invokeinterface j ix, w, kk, kd)) (hp : pc + w = pc') (ha : (st.take kk).reverse = as) (hr : st.drop kk = st0) (hc : ∀ k', k' < k → ∀ d', PC Z k' d' j as m n (qR c P X)) (K : ∀ r m', X = some (r, m') → P r → RM c m' → ∀ n' k', k' < k → PW Z k' i d pc' ls (.ref r :: st0) m' n' Q) : PW Z k i d pc ls st m n Q :=
  p_call pc' as st0 ho hp ha hr hc (fun v m' n' hq k' hk' => by
    obtain ⟨r, e, h1, h2, h3⟩ := hq
    cases e
    exact K r m' h3 h1 h2 n' k' hk') (fun q x m' n' hq => by
    obtain ⟨r, e, h1⟩ := hq
    cases e)
/-- with exceptions: T says what is due where one is thrown -/
theorem p_cTI (pc' : Nat) (as : List Value) (st0 : List Value) {X : Option ((Int ⊕ Nat) × yM)} (ho : zP Z i pc = some (.invokeinterface j ix, w, kk, kd)) (hp : pc + w = pc') (ha : (st.take kk).reverse = as) (hr : st.drop kk = st0) (hc : ∀ k', k' < k → ∀ d', PC Z k' d' j as m n (qEI E c X)) (K : ∀ r m', X = some (.inl r, m') → rg r → RM c m' → ∀ n' k', k' < k → PW Z k' i d pc' ls (yI r :: st0) m' n' Q) (T : ∀ e x m' n', X = some (.inr e, m') → E e → RM c m' → (∀ pq, zHd Z i pc e = some (some pq) → ∀ k', k' < k → PW Z k' i d pq ls [.ref x] m' n' Q) ∧ (zHd Z i pc e = some none → Q (.inr (e, x)) m' n')) : PW Z k i d pc ls st m n Q :=
  p_call pc' as st0 ho hp ha hr hc (fun v m' n' hq k' hk' => by
    rcases hq with ⟨r, e, h1, h2, h3⟩ | ⟨q, x, e, h1⟩
    · cases e
      exact K r m' h3 h1 h2 n' k' hk'
    · cases e) (fun q x m' n' hq => by
    rcases hq with ⟨r, e, h1, h2, h3⟩ | ⟨q, x, e, h0, h1, h2⟩
    · cases e
    · cases e
      exact T q x m' n' h2 h0 h1)
theorem p_cTV (pc' : Nat) (as : List Value) (st0 : List Value) {X : Option ((Unit ⊕ Nat) × yM)} (ho : zP Z i pc = some (.invokeinterface j ix, w, kk, kd)) (hp : pc + w = pc') (ha : (st.take kk).reverse = as) (hr : st.drop kk = st0) (hc : ∀ k', k' < k → ∀ d', PC Z k' d' j as m n (qEV E c X)) (K : ∀ m', X = some (.inl (), m') → RM c m' → ∀ n' k', k' < k → PW Z k' i d pc' ls st0 m' n' Q) (T : ∀ e x m' n', X = some (.inr e, m') → E e → RM c m' → (∀ pq, zHd Z i pc e = some (some pq) → ∀ k', k' < k → PW Z k' i d pq ls [.ref x] m' n' Q) ∧ (zHd Z i pc e = some none → Q (.inr (e, x)) m' n')) : PW Z k i d pc ls st m n Q :=
  p_call pc' as st0 ho hp ha hr hc (fun v m' n' hq k' hk' => by
    rcases hq with ⟨e, h2, h3⟩ | ⟨q, x, e, h1⟩
    · cases e
      exact K m' h3 h2 n' k' hk'
    · cases e) (fun q x m' n' hq => by
    rcases hq with ⟨e, h2, h3⟩ | ⟨q, x, e, h0, h1, h2⟩
    · cases e
    · cases e
      exact T q x m' n' h2 h0 h1)
theorem p_cTA (pc' : Nat) (as : List Value) (st0 : List Value) {X : Option ((Nat ⊕ Nat) × yM)} (ho : zP Z i pc = some (.invokeinterface j ix, w, kk, kd)) (hp : pc + w = pc') (ha : (st.take kk).reverse = as) (hr : st.drop kk = st0) (hc : ∀ k', k' < k → ∀ d', PC Z k' d' j as m n (qEA E c P X)) (K : ∀ r m', X = some (.inl r, m') → P r → RM c m' → ∀ n' k', k' < k → PW Z k' i d pc' ls (.ref r :: st0) m' n' Q) (T : ∀ e x m' n', X = some (.inr e, m') → E e → RM c m' → (∀ pq, zHd Z i pc e = some (some pq) → ∀ k', k' < k → PW Z k' i d pq ls [.ref x] m' n' Q) ∧ (zHd Z i pc e = some none → Q (.inr (e, x)) m' n')) : PW Z k i d pc ls st m n Q :=
  p_call pc' as st0 ho hp ha hr hc (fun v m' n' hq k' hk' => by
    rcases hq with ⟨r, e, h1, h2, h3⟩ | ⟨q, x, e, h1⟩
    · cases e
      exact K r m' h3 h1 h2 n' k' hk'
    · cases e) (fun q x m' n' hq => by
    rcases hq with ⟨r, e, h1, h2, h3⟩ | ⟨q, x, e, h0, h1, h2⟩
    · cases e
    · cases e
      exact T q x m' n' h2 h0 h1)
end PC1

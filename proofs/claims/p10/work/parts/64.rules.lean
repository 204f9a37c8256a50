/-! THE RULES: cells, calls, ends -/
section YR2
variable {Z : yZ} {i d pc pc' w a b : Nat} {ls ls' : xL} {st st' st0 : List Value} {m m' : yM} {n n' : Nat} {Q Qs : xO → yM → Nat → Prop} {o : xI}
theorem y_getI (pc' : Nat) {q ci t A : Nat} (ho : zP Z i pc = some (.getfield q, w, ci, b)) (hp : pc + w = pc') (hf : yfld (zSh Z) (zN Z) A q ci = some (.inl t)) (k : YW Z i d pc' ls (yI (m A q) :: st) m n Q) : YW Z i d pc ls (.ref A :: st) m n Q := by
  subst hp
  refine YW.go ho (fun h hL => ⟨h, ?_, hL⟩) k
  obtain ⟨vs, h1, h2, -⟩ := hL.fld hf
  simp [zStp, xstep, h1, h2, xgo, yslv]
theorem y_getR (pc' : Nat) {q ci A B : Nat} (ho : zP Z i pc = some (.getfield q, w, ci, b)) (hp : pc + w = pc') (hf : yfld (zSh Z) (zN Z) A q ci = some (.inr (.inl B))) (k : YW Z i d pc' ls (.ref B :: st) m n Q) : YW Z i d pc ls (.ref A :: st) m n Q := by
  subst hp
  refine YW.go ho (fun h hL => ⟨h, ?_, hL⟩) k
  obtain ⟨vs, h1, h2, -⟩ := hL.fld hf
  simp [zStp, xstep, h1, h2, xgo, yslv]
theorem y_getS (pc' : Nat) {q ci A B : Nat} {l : List Nat} (ho : zP Z i pc = some (.getfield q, w, ci, b)) (hp : pc + w = pc') (hf : yfld (zSh Z) (zN Z) A q ci = some (.inr (.inr l))) (hx : ysv l (m A q) = .ref B) (k : YW Z i d pc' ls (.ref B :: st) m n Q) : YW Z i d pc ls (.ref A :: st) m n Q := by
  subst hp
  refine YW.go ho (fun h hL => ⟨h, ?_, hL⟩) k
  obtain ⟨vs, h1, h2, -⟩ := hL.fld hf
  simp [zStp, xstep, h1, h2, xgo, yslv, hx]
theorem y_put (pc' : Nat) {q ci t A : Nat} {s : ySl} {v : Value} {x : Int} (ho : zP Z i pc = some (.putfield q, w, ci, t)) (hp : pc + w = pc') (hf : yfld (zSh Z) (zN Z) A q ci = some s) (hv : xfit t v = true) (hs : yslv s x = v) (k : YW Z i d pc' ls st (yup m A q x) n Q) : YW Z i d pc ls (v :: .ref A :: st) m n Q := by
  subst hp
  refine YW.go ho (fun h hL => ?_) k
  obtain ⟨vs, h1, h2, sl, h3, h4, h5, h6⟩ := hL.fld hf
  have hq : q < vs.length := (List.getElem?_eq_some_iff.mp h2).1
  refine ⟨h.set A (.inr (ci, vs.set q v)), ?_, hL.set h1 (by simp [xcz]) ?_⟩
  · simp [zStp, xstep, h1, hq, hv, xgo]
  · rw [h3]
    simp only [yCell]
    refine ⟨_, rfl, by simp [h5], fun j s' hj => ?_⟩
    by_cases e : j = q
    · subst e
      rw [hj] at h4
      cases h4
      rw [List.getElem?_set_self hq, yup_eq, hs]
    · rw [List.getElem?_set_ne (fun q => e q.symm), yup_nk e]
      exact h6 j s' hj
theorem y_putI (pc' : Nat) {q ci t t0 A : Nat} {x : Int} (ho : zP Z i pc = some (.putfield q, w, ci, t)) (hp : pc + w = pc') (hf : yfld (zSh Z) (zN Z) A q ci = some (.inl t0)) (hv : xfit t (yI x) = true) (k : YW Z i d pc' ls st (yup m A q x) n Q) : YW Z i d pc ls (yI x :: .ref A :: st) m n Q := y_put pc' ho hp hf hv rfl k
theorem y_putS (pc' : Nat) (j : Nat) {q ci A B : Nat} {l : List Nat} (ho : zP Z i pc = some (.putfield q, w, ci, 6)) (hp : pc + w = pc') (hf : yfld (zSh Z) (zN Z) A q ci = some (.inr (.inr l))) (hj : l[j]? = some B) (k : YW Z i d pc' ls st (yup m A q j) n Q) : YW Z i d pc ls (.ref B :: .ref A :: st) m n Q := y_put pc' ho hp hf rfl (by
  have h0 : ¬ ((j : Int) < 0) := by omega
  simp [yslv, ysv, h0, hj]) k
theorem y_iaload (pc' : Nat) {t A e : Nat} {x : Int} (ho : zP Z i pc = some (.iaload, w, t, b)) (hp : pc + w = pc') (hf : yarr (zSh Z) (zN Z) A = some (t, e)) (hx : 0 ≤ x ∧ x < e) (k : YW Z i d pc' ls (yI (m A x.toNat) :: st) m n Q) : YW Z i d pc ls (yI x :: .ref A :: st) m n Q := by
  subst hp
  refine YW.go ho (fun h hL => ⟨h, ?_, hL⟩) k
  obtain ⟨hk, -, g, h1, h2⟩ := hL.arr hf
  obtain ⟨e1, e2⟩ := y_in hk hx.1 hx.2
  have e3 := h2 x.toNat (by omega)
  simp [zStp, xstep, yI, h1, e1, e2, xgo, e3]
theorem y_script (pc' : Nat) {x : Int} (ho : zP Z i pc = some (.iaload, w, 0, b)) (hp : pc + w = pc') (hl : zLn Z ≤ 100000) (hx : 0 ≤ x ∧ x < zLn Z) (k : YW Z i d pc' ls (yI (zXs Z x.toNat).toInt :: st) m n Q) : YW Z i d pc ls (yI x :: .retAddr 0 :: st) m n Q := by
  subst hp
  refine YW.gp ho (fun h => ?_) k
  obtain ⟨e1, e2⟩ := y_in hl hx.1 hx.2
  rw [y_back]
  have e1 : xin (Int32.ofInt x) Z.1.2.1 = true := e1
  simp [zStp, xstep, yI, e1, e2, xgo, zXs]
theorem y_iastore (pc' : Nat) {t A e : Nat} {x v : Int} (ho : zP Z i pc = some (.iastore, w, t, b)) (hp : pc + w = pc') (hf : yarr (zSh Z) (zN Z) A = some (t, e)) (hx : 0 ≤ x ∧ x < e) (hv : (if t = 3 then vp_nar .char (Int32.ofInt v) else if t = 1 then vp_nar .boolean (Int32.ofInt v) else if t = 2 then vp_nar .byte (Int32.ofInt v) else Int32.ofInt v) = Int32.ofInt v) (k : YW Z i d pc' ls st (yup m A x.toNat v) n Q) : YW Z i d pc ls (yI v :: yI x :: .ref A :: st) m n Q := by
  subst hp
  refine YW.go ho (fun h hL => ?_) k
  obtain ⟨hk, hs, g, h1, h2⟩ := hL.arr hf
  obtain ⟨e1, e2⟩ := y_in hk hx.1 hx.2
  refine ⟨h.set A (.inl (t, e, .inl (upd g x.toNat (Int32.ofInt v)))), ?_, hL.set h1 rfl ?_⟩
  · simp only [zStp, xstep, yI, h1, e1, e2, xgo, hv, and_self, if_true]
  · rw [hs]
    simp only [yCell]
    refine ⟨_, rfl, fun j hj => ?_⟩
    by_cases q : j = x.toNat
    · subst q
      rw [yup_eq]
      simp [upd]
    · rw [yup_nk q, ← h2 j hj]
      simp [upd, q]
theorem y_laload (pc' : Nat) {A e : Nat} {x : Int} (ho : zP Z i pc = some (.laload, w, a, b)) (hp : pc + w = pc') (hf : ylar (zSh Z) (zN Z) A = some e) (hx : 0 ≤ x ∧ x < e) (k : YW Z i d pc' ls (.long (Int64.ofInt (m A x.toNat)) :: st) m n Q) : YW Z i d pc ls (yI x :: .ref A :: st) m n Q := by
  subst hp
  refine YW.go ho (fun h hL => ⟨h, ?_, hL⟩) k
  obtain ⟨hk, -, g, h1, h2⟩ := hL.lar hf
  obtain ⟨e1, e2⟩ := y_in hk hx.1 hx.2
  have e3 := h2 x.toNat (by omega)
  simp [zStp, xstep, yI, h1, e1, e2, xgo, e3]
theorem y_lastore (pc' : Nat) {A e : Nat} {x : Int} {v : Int64} (ho : zP Z i pc = some (.lastore, w, a, b)) (hp : pc + w = pc') (hf : ylar (zSh Z) (zN Z) A = some e) (hx : 0 ≤ x ∧ x < e) (k : YW Z i d pc' ls st (yup m A x.toNat v.toInt) n Q) : YW Z i d pc ls (.long v :: yI x :: .ref A :: st) m n Q := by
  subst hp
  refine YW.go ho (fun h hL => ?_) k
  obtain ⟨hk, hs, g, h1, h2⟩ := hL.lar hf
  obtain ⟨e1, e2⟩ := y_in hk hx.1 hx.2
  refine ⟨h.set A (.inl (5, e, .inr (.inl (vp_updL g x.toNat v)))), ?_, hL.set h1 rfl ?_⟩
  · simp only [zStp, xstep, yI, h1, e1, e2, xgo, and_self, if_true]
  · rw [hs]
    simp only [yCell]
    refine ⟨_, rfl, fun j hj => ?_⟩
    by_cases q : j = x.toNat
    · subst q
      rw [yup_eq]
      simp [vp_updL]
    · rw [yup_nk q, ← h2 j hj]
      simp [vp_updL, q]
theorem y_aaload (pc' : Nat) {A e B : Nat} {x : Int} (ho : zP Z i pc = some (.aaload, w, a, b)) (hp : pc + w = pc') (hf : yrow (zSh Z) (zN Z) A = some (e, B)) (hx : 0 ≤ x ∧ x < e) (k : YW Z i d pc' ls (.ref (B + x.toNat) :: st) m n Q) : YW Z i d pc ls (yI x :: .ref A :: st) m n Q := by
  subst hp
  refine YW.go ho (fun h hL => ⟨h, ?_, hL⟩) k
  obtain ⟨hk, t, g, t1, t2, h1, h2⟩ := hL.row hf
  obtain ⟨e1, e2⟩ := y_in hk hx.1 hx.2
  have e3 := h2 x.toNat (by omega)
  simp [zStp, xstep, yI, h1, e1, e2, xgo, e3, t1, t2, va_rf]
theorem y_alen (pc' : Nat) {t A e : Nat} (ho : zP Z i pc = some (.arraylength, w, a, b)) (hp : pc + w = pc') (hf : yarr (zSh Z) (zN Z) A = some (t, e)) (k : YW Z i d pc' ls (yI e :: st) m n Q) : YW Z i d pc ls (.ref A :: st) m n Q := by
  subst hp
  refine YW.go ho (fun h hL => ⟨h, ?_, hL⟩) k
  obtain ⟨hk, -, g, h1, h2⟩ := hL.arr hf
  simp [zStp, xstep, yI, h1, xgo, Int32.ofInt_eq_ofNat]
theorem y_rlen (pc' : Nat) {A e B : Nat} (ho : zP Z i pc = some (.arraylength, w, a, b)) (hp : pc + w = pc') (hf : yrow (zSh Z) (zN Z) A = some (e, B)) (k : YW Z i d pc' ls (yI e :: st) m n Q) : YW Z i d pc ls (.ref A :: st) m n Q := by
  subst hp
  refine YW.go ho (fun h hL => ⟨h, ?_, hL⟩) k
  obtain ⟨hk, t, g, t1, t2, h1, h2⟩ := hL.row hf
  simp [zStp, xstep, yI, h1, xgo, Int32.ofInt_eq_ofNat]
theorem y_slen (pc' : Nat) (ho : zP Z i pc = some (.arraylength, w, a, b)) (hp : pc + w = pc') (k : YW Z i d pc' ls (yI (zLn Z) :: st) m n Q) : YW Z i d pc ls (.retAddr 0 :: st) m n Q := by
  subst hp
  refine YW.gp ho (fun h => ?_) k
  simp [zStp, xstep, yI, xgo, Int32.ofInt_eq_ofNat, zLn]
theorem y_blen (pc' : Nat) {j : Nat} (ho : zP Z i pc = some (.arraylength, w, a, b)) (hp : pc + w = pc') (hj : j % 2 = 1 ∧ j / 2 < (zLit Z).length) (k : YW Z i d pc' ls (yI ((zLit Z).getD (j / 2) []).length :: st) m n Q) : YW Z i d pc ls (.retAddr (j + 1) :: st) m n Q := by
  subst hp
  refine YW.gp ho (fun h => ?_) k
  have hj : j % 2 = 1 ∧ j / 2 < Z.1.2.2.2.1.length := hj
  simp only [zStp, xstep, yI, xgo, zLit, if_pos hj, Int32.ofInt_eq_ofNat]
theorem y_byte (pc' : Nat) {j : Nat} {x : Int} (ho : zP Z i pc = some (.baload, w, a, b)) (hp : pc + w = pc') (hj : j % 2 = 1 ∧ j / 2 < (zLit Z).length) (hb : ((zLit Z).getD (j / 2) []).length ≤ 100000) (hx : 0 ≤ x ∧ x < ((zLit Z).getD (j / 2) []).length) (k : YW Z i d pc' ls (yI (((zLit Z).getD (j / 2) []).getD x.toNat 0).toInt :: st) m n Q) : YW Z i d pc ls (yI x :: .retAddr (j + 1) :: st) m n Q := by
  subst hp
  refine YW.gp ho (fun h => ?_) k
  obtain ⟨e1, e2⟩ := y_in hb hx.1 hx.2
  rw [y_back]
  have hq : j % 2 = 1 ∧ j / 2 < Z.1.2.2.2.1.length ∧ xin (Int32.ofInt x) (Z.1.2.2.2.1.getD (j / 2) []).length = true := ⟨hj.1, hj.2, e1⟩
  simp only [zStp, xstep, yI, xgo, zLit, if_pos hq, e2]
/-- the receiver of a call is what the method asks -/
def ycan (Z : yZ) (j : Nat) (as : List Value) : Prop := match zMc Z j with
  | none => True
  | some ci => match as with
    | .ref a :: _ => yobj (zSh Z) (zN Z) a = some ci
    | .retAddr (q + 1) :: _ => ci = 1000 ∧ q % 2 = 0 ∧ q / 2 < (zLit Z).length
    | _ => False
theorem y_calls {j ix kk kd : Nat} {as : List Value} {h : xH} (hL : yLay Z m n h) (ha : (st.take kk).reverse = as) (hr : st.drop kk = st0) (hk : kk ≤ st.length) (hw : xw st0 ≤ 8) (hm : ycan Z j as) : zStp Z (.invokeinterface j ix, w, kk, kd) pc ls st h = some (.inr (.inr (j, as, pc + w, st0))) := by
  subst ha
  subst hr
  unfold zStp
  simp only [xstep]
  rw [if_pos ⟨hk, hw⟩]
  unfold ycan zMc at hm
  cases hmc : Z.1.2.2.2.2 j with
  | none => rfl
  | some ci =>
    rw [hmc] at hm
    simp only at hm ⊢
    split at hm
    · rename_i a0 as0 he
      obtain ⟨vs, hv⟩ := hL.obj hm
      simp only [he, hv, if_true]
    · rename_i q0 as0 he
      simp only [he]
      exact if_pos hm
    · exact hm.elim
theorem y_call (pc' : Nat) {j ix kk kd : Nat} {as : List Value} (ho : zP Z i pc = some (.invokeinterface j ix, w, kk, kd)) (hp : pc + w = pc') (ha : (st.take kk).reverse = as) (hr : st.drop kk = st0) (hk : kk ≤ st.length) (hw : xw st0 ≤ 8) (hm : ycan Z j as) (hc : YC Z d j as m n Qs) (k1 : ∀ v m' n', Qs (.inl v) m' n' → YW Z i (d + 1) pc' ls (v.toList ++ st0) m' n' Q) (k2 : ∀ q x m' n', Qs (.inr (q, x)) m' n' → (∃ pq, zHd Z i pc q = some (some pq) ∧ YW Z i (d + 1) pq ls [.ref x] m' n' Q) ∨ (zHd Z i pc q = some none ∧ Q (.inr (q, x)) m' n')) : YW Z i (d + 1) pc ls st m n Q := by
  subst hp
  intro h hL
  have hs := y_calls (w := w) (pc := pc) (ls := ls) (ix := ix) (kd := kd) hL ha hr hk hw hm
  obtain ⟨r, h', m', n', hx, hl, hq⟩ := hc h hL
  cases r with
  | inl v =>
    obtain ⟨r2, h2, m2, n2, x2, l2, q2⟩ := k1 v m' n' hq h' hl
    exact ⟨r2, h2, m2, n2, XR.call ho hs hx x2, l2, q2⟩
  | inr qx =>
    obtain ⟨q, x⟩ := qx
    rcases k2 q x m' n' hq with ⟨pq, e1, k3⟩ | ⟨e1, k3⟩
    · obtain ⟨r2, h2, m2, n2, x2, l2, q2⟩ := k3 h' hl
      exact ⟨r2, h2, m2, n2, XR.caught ho hs hx e1 x2, l2, q2⟩
    · exact ⟨_, h', m', n', XR.out ho hs hx e1, hl, k3⟩
/-- what a call gives: an int, nothing, a reference; nothing is thrown -/
def qI (R : Int → yM → Nat → Prop) : xO → yM → Nat → Prop := fun o m n => ∃ x, o = .inl (some (yI x)) ∧ R x m n
def qU (R : yM → Nat → Prop) : xO → yM → Nat → Prop := fun o m n => o = .inl none ∧ R m n
def qA (R : Nat → yM → Nat → Prop) : xO → yM → Nat → Prop := fun o m n => ∃ A, o = .inl (some (.ref A)) ∧ R A m n
/-- an int, or something is thrown -/
def qT (R : Int → yM → Nat → Prop) (T : Nat → yM → Nat → Prop) : xO → yM → Nat → Prop := fun o m n => (∃ x, o = .inl (some (yI x)) ∧ R x m n) ∨ (∃ q x, o = .inr (q, x) ∧ T q m n)
theorem y_callI (pc' : Nat) {j ix kk kd : Nat} {as : List Value} {R : Int → yM → Nat → Prop} (ho : zP Z i pc = some (.invokeinterface j ix, w, kk, kd)) (hp : pc + w = pc') (ha : (st.take kk).reverse = as) (hr : st.drop kk = st0) (hk : kk ≤ st.length) (hw : xw st0 ≤ 8) (hm : ycan Z j as) (hc : YC Z d j as m n (qI R)) (k1 : ∀ x m' n', R x m' n' → YW Z i (d + 1) pc' ls (yI x :: st0) m' n' Q) : YW Z i (d + 1) pc ls st m n Q :=
  y_call pc' ho hp ha hr hk hw hm hc (fun v m' n' hq => by
    obtain ⟨x, e, hR⟩ := hq
    cases e
    exact k1 x m' n' hR) (fun q x m' n' hq => by
    obtain ⟨x, e, hR⟩ := hq
    cases e)
theorem y_callU (pc' : Nat) {j ix kk kd : Nat} {as : List Value} {R : yM → Nat → Prop} (ho : zP Z i pc = some (.invokeinterface j ix, w, kk, kd)) (hp : pc + w = pc') (ha : (st.take kk).reverse = as) (hr : st.drop kk = st0) (hk : kk ≤ st.length) (hw : xw st0 ≤ 8) (hm : ycan Z j as) (hc : YC Z d j as m n (qU R)) (k1 : ∀ m' n', R m' n' → YW Z i (d + 1) pc' ls st0 m' n' Q) : YW Z i (d + 1) pc ls st m n Q :=
  y_call pc' ho hp ha hr hk hw hm hc (fun v m' n' hq => by
    obtain ⟨e, hR⟩ := hq
    cases e
    exact k1 m' n' hR) (fun q x m' n' hq => by
    obtain ⟨e, hR⟩ := hq
    cases e)
theorem y_callA (pc' : Nat) {j ix kk kd : Nat} {as : List Value} {R : Nat → yM → Nat → Prop} (ho : zP Z i pc = some (.invokeinterface j ix, w, kk, kd)) (hp : pc + w = pc') (ha : (st.take kk).reverse = as) (hr : st.drop kk = st0) (hk : kk ≤ st.length) (hw : xw st0 ≤ 8) (hm : ycan Z j as) (hc : YC Z d j as m n (qA R)) (k1 : ∀ A m' n', R A m' n' → YW Z i (d + 1) pc' ls (.ref A :: st0) m' n' Q) : YW Z i (d + 1) pc ls st m n Q :=
  y_call pc' ho hp ha hr hk hw hm hc (fun v m' n' hq => by
    obtain ⟨x, e, hR⟩ := hq
    cases e
    exact k1 x m' n' hR) (fun q x m' n' hq => by
    obtain ⟨x, e, hR⟩ := hq
    cases e)
theorem y_callT (pc' : Nat) {j ix kk kd : Nat} {as : List Value} {R : Int → yM → Nat → Prop} {T : Nat → yM → Nat → Prop} (ho : zP Z i pc = some (.invokeinterface j ix, w, kk, kd)) (hp : pc + w = pc') (ha : (st.take kk).reverse = as) (hr : st.drop kk = st0) (hk : kk ≤ st.length) (hw : xw st0 ≤ 8) (hm : ycan Z j as) (hc : YC Z d j as m n (qT R T)) (k1 : ∀ x m' n', R x m' n' → YW Z i (d + 1) pc' ls (yI x :: st0) m' n' Q) (k2 : ∀ q x m' n', T q m' n' → (∃ pq, zHd Z i pc q = some (some pq) ∧ YW Z i (d + 1) pq ls [.ref x] m' n' Q) ∨ (zHd Z i pc q = some none ∧ Q (.inr (q, x)) m' n')) : YW Z i (d + 1) pc ls st m n Q :=
  y_call pc' ho hp ha hr hk hw hm hc (fun v m' n' hq => by
    rcases hq with ⟨x, e, hR⟩ | ⟨q, x, e, hR⟩
    · cases e
      exact k1 x m' n' hR
    · cases e) (fun q x m' n' hq => by
    rcases hq with ⟨x, e, hR⟩ | ⟨q, x, e, hR⟩
    · cases e
    · cases e
      exact k2 q x m' n' hR)
theorem y_throw {e : Nat} (ho : zP Z i pc = some (.athrow, w, e, b)) (hw : xw st ≤ 8) (hq : Q (.inr (e, n)) m (n + 1)) : YW Z i d pc ls st m n Q := by
  intro h hL
  refine ⟨_, _, m, n + 1, XR.fin ho (r := (.inr (e, h.length), h ++ [.inr (e, List.replicate 6 .null)])) ?_, hL.app e, ?_⟩
  · exact if_pos hw
  · rw [hL.1]
    exact hq
theorem y_ireturn {t : Nat} {x : Int} (ho : zP Z i pc = some (.ireturn, w, t, b)) (hv : xfit t (yI x) = true) (hq : Q (.inl (some (yI x))) m n) : YW Z i d pc ls [yI x] m n Q := by
  intro h hL
  exact ⟨_, _, m, n, XR.fin ho (r := (.inl (some (yI x)), h)) (if_pos hv), hL, hq⟩
theorem y_areturn {v : Value} (ho : zP Z i pc = some (.areturn, w, a, b)) (hv : xref v = true) (hq : Q (.inl (some v)) m n) : YW Z i d pc ls [v] m n Q := by
  intro h hL
  exact ⟨_, _, m, n, XR.fin ho (r := (.inl (some v), h)) (if_pos hv), hL, hq⟩
theorem y_return (ho : zP Z i pc = some (.return_, w, a, b)) (hq : Q (.inl none) m n) : YW Z i d pc ls [] m n Q := by
  intro h hL
  exact ⟨_, _, m, n, XR.fin ho (r := (.inl none, h)) rfl, hL, hq⟩
theorem y_tsw (pt : Nat) {df lo hi c o : Int} {offs : Array Int} (ho : zP Z i pc = some (.tableswitch df lo hi offs, w, a, b)) (hr : -2147483648 ≤ c ∧ c < 2147483648) (hc : ¬ (c < lo ∨ hi < c)) (hoff : offs[(c - lo).toNat]? = some o) (ht : ((pc : Int) + o).toNat = pt) (k : YW Z i d pt ls st m n Q) : YW Z i d pc ls (yI c :: st) m n Q := by
  subst ht
  refine YW.gp ho (fun h => ?_) k
  simp only [zStp, xstep, yI, y_rng hr]
  rw [if_neg hc]
  simp only [hoff]
  rfl
theorem y_tswd (pt : Nat) {df lo hi x : Int} {offs : Array Int} (ho : zP Z i pc = some (.tableswitch df lo hi offs, w, a, b)) (hr : -2147483648 ≤ x ∧ x < 2147483648) (hc : x < lo ∨ hi < x) (ht : ((pc : Int) + df).toNat = pt) (k : YW Z i d pt ls st m n Q) : YW Z i d pc ls (yI x :: st) m n Q := by
  subst ht
  refine YW.gp ho (fun h => ?_) k
  simp only [zStp, xstep, yI, y_rng hr]
  rw [if_pos hc]
  rfl
theorem y_lsw (pt : Nat) {df x o : Int} {ps : Array (Int × Int)} (ho : zP Z i pc = some (.lookupswitch df ps, w, a, b)) (hr : -2147483648 ≤ x ∧ x < 2147483648) (hoff : Op.lookupswitch.offset ps.toList df x = o) (ht : ((pc : Int) + o).toNat = pt) (k : YW Z i d pt ls st m n Q) : YW Z i d pc ls (yI x :: st) m n Q := by
  subst ht
  refine YW.gp ho (fun h => ?_) k
  simp only [zStp, xstep, yI, y_rng hr, hoff]
  rfl
theorem y_fit0 (x : Int) : xfit 0 (yI x) = true := rfl
theorem y_fit1 {x : Int} (h : x = 0 ∨ x = 1) : xfit 1 (yI x) = true := by rcases h with rfl | rfl <;> decide
theorem y_nar0 (v : Int) : (if (0 : Nat) = 3 then vp_nar .char (Int32.ofInt v) else if (0 : Nat) = 1 then vp_nar .boolean (Int32.ofInt v) else if (0 : Nat) = 2 then vp_nar .byte (Int32.ofInt v) else Int32.ofInt v) = Int32.ofInt v := rfl
theorem y_nar1 {v : Int} (h : v = 0 ∨ v = 1) : (if (1 : Nat) = 3 then vp_nar .char (Int32.ofInt v) else if (1 : Nat) = 1 then vp_nar .boolean (Int32.ofInt v) else if (1 : Nat) = 2 then vp_nar .byte (Int32.ofInt v) else Int32.ofInt v) = Int32.ofInt v := by rcases h with rfl | rfl <;> decide
end YR2

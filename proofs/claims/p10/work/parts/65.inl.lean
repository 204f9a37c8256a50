/-! CALLS WALKED IN PLACE -/
section YK1
variable {Z : yZ} {i j d pc pc' w a b : Nat} {ls ls' : xL} {st st' st0 : List Value} {m m' : yM} {n n' : Nat} {Q Qs : xO → yM → Nat → Prop} {o : xI} {as : List Value}
/-- what is left of the caller when the call at pc ends with r -/
def yK (Z : yZ) (i d pc pc' : Nat) (ls : xL) (st0 : List Value) (Q : xO → yM → Nat → Prop) (r : xO) (m : yM) (n : Nat) : Prop := match r with
  | .inl v => YW Z i (d + 1) pc' ls (v.toList ++ st0) m n Q
  | .inr (q, x) => (∃ pq, zHd Z i pc q = some (some pq) ∧ YW Z i (d + 1) pq ls [.ref x] m n Q) ∨ (zHd Z i pc q = some none ∧ Q (.inr (q, x)) m n)
theorem ycanS (h : zMc Z j = none) : ycan Z j as := by
  unfold ycan
  rw [h]
  trivial
theorem ycanO {A ci : Nat} (h : zMc Z j = some ci) (h2 : yobj (zSh Z) (zN Z) A = some ci) : ycan Z j (.ref A :: as) := by
  unfold ycan
  rw [h]
  exact h2
theorem ycanT {q : Nat} (h : zMc Z j = some 1000) (h2 : q % 2 = 0 ∧ q / 2 < (zLit Z).length) : ycan Z j (.retAddr (q + 1) :: as) := by
  unfold ycan
  rw [h]
  exact ⟨rfl, h2⟩
theorem y_inl (pc' : Nat) {ix kk kd kx : Nat} {ls0 : xL} (ho : zP Z i pc = some (.invokeinterface j ix, w, kk, kd)) (hp : pc + w = pc') (ha : (st.take kk).reverse = as) (hr : st.drop kk = st0) (hk : kk ≤ st.length) (hw : xw st0 ≤ 8) (hm : ycan Z j as) (hx : zMx Z j = kx) (he : xent as kx = ls0) (hn : ls0.length = kx) (k : YW Z j d 0 ls0 [] m n (yK Z i d pc pc' ls st0 Q)) : YW Z i (d + 1) pc ls st m n Q :=
  y_call pc' ho hp ha hr hk hw hm (YC.mk (by rw [hx]; exact he) (by rw [hx]; exact hn) k) (fun v m' n' h => h) (fun q x m' n' h => h)
theorem y_ireturnK {i0 d0 pc0 t : Nat} {x : Int} (ho : zP Z i pc = some (.ireturn, w, t, b)) (hv : xfit t (yI x) = true) (k : YW Z i0 (d0 + 1) pc' ls' (yI x :: st0) m n Q) : YW Z i d pc ls [yI x] m n (yK Z i0 d0 pc0 pc' ls' st0 Q) := y_ireturn ho hv k
theorem y_areturnK {i0 d0 pc0 : Nat} {v : Value} (ho : zP Z i pc = some (.areturn, w, a, b)) (hv : xref v = true) (k : YW Z i0 (d0 + 1) pc' ls' (v :: st0) m n Q) : YW Z i d pc ls [v] m n (yK Z i0 d0 pc0 pc' ls' st0 Q) := y_areturn ho hv k
theorem y_returnK {i0 d0 pc0 : Nat} (ho : zP Z i pc = some (.return_, w, a, b)) (k : YW Z i0 (d0 + 1) pc' ls' st0 m n Q) : YW Z i d pc ls [] m n (yK Z i0 d0 pc0 pc' ls' st0 Q) := y_return ho k
theorem yK_in {q x pq : Nat} (h : zHd Z i pc q = some (some pq)) (k : YW Z i (d + 1) pq ls [.ref x] m n Q) : yK Z i d pc pc' ls st0 Q (.inr (q, x)) m n := Or.inl ⟨pq, h, k⟩
theorem yK_out {q x : Nat} (h : zHd Z i pc q = some none) (k : Q (.inr (q, x)) m n) : yK Z i d pc pc' ls st0 Q (.inr (q, x)) m n := Or.inr ⟨h, k⟩
end YK1
section YK2
variable {Z : yZ} {i j d pc pc' w a b : Nat} {ls ls' : xL} {st st' st0 : List Value} {m m' : yM} {n n' : Nat} {Q Qs : xO → yM → Nat → Prop} {o : xI} {as : List Value}
/-- the top of the stack by another name -/
theorem y_top {x : Int} (y : Int) (h : x = y) (k : YW Z i d pc ls (yI y :: st) m n Q) : YW Z i d pc ls (yI x :: st) m n Q := h ▸ k
theorem y_iincN (pc' : Nat) {q : Nat} {x c : Int} (y : Int) (ho : zP Z i pc = some (.iinc q c, w, a, b)) (hp : pc + w = pc') (hl : ls[q]? = some (some (yI x))) (hy : x + c = y) (hs : xset ls q (yI y) = some ls') (k : YW Z i d pc' ls' st m n Q) : YW Z i d pc ls st m n Q := by
  subst hy
  exact y_iinc pc' ho hp hl hs k
theorem y_getX (pc' : Nat) {q ci t A : Nat} (x : Int) (ho : zP Z i pc = some (.getfield q, w, ci, b)) (hp : pc + w = pc') (hf : yfld (zSh Z) (zN Z) A q ci = some (.inl t)) (hx : m A q = x) (k : YW Z i d pc' ls (yI x :: st) m n Q) : YW Z i d pc ls (.ref A :: st) m n Q := by
  subst hx
  exact y_getI pc' ho hp hf k
theorem y_iaX (pc' : Nat) {t A e : Nat} {x : Int} (v : Int) (ho : zP Z i pc = some (.iaload, w, t, b)) (hp : pc + w = pc') (hf : yarr (zSh Z) (zN Z) A = some (t, e)) (hx : 0 ≤ x ∧ x < e) (hv : m A x.toNat = v) (k : YW Z i d pc' ls (yI v :: st) m n Q) : YW Z i d pc ls (yI x :: .ref A :: st) m n Q := by
  subst hv
  exact y_iaload pc' ho hp hf hx k
theorem lg_self (x : Int64) : lg_cmp x x = 0 := by simp [lg_cmp]
theorem y_lcmp0 (pc' : Nat) {x y : Int64} (ho : zP Z i pc = some (.lcmp, w, a, b)) (hp : pc + w = pc') (h : x = y) (k : YW Z i d pc' ls (yI 0 :: st) m n Q) : YW Z i d pc ls (.long y :: .long x :: st) m n Q := by
  subst h
  refine y_lcmp pc' ho hp ?_
  rw [lg_self]
  exact k
theorem y_inlB (pc' : Nat) (as : List Value) (st0 : List Value) (ls0 : xL) {ix kk kd kx : Nat} (ho : zP Z i pc = some (.invokeinterface j ix, w, kk, kd)) (hp : pc + w = pc') (ha : (st.take kk).reverse = as) (hr : st.drop kk = st0) (hk : Nat.ble kk st.length = true) (hw : Nat.ble (xw st0) 8 = true) (hm : ycan Z j as) (hx : zMx Z j = kx) (he : xent as kx = ls0) (hn : ls0.length = kx) (k : YW Z j d 0 ls0 [] m n (yK Z i d pc pc' ls st0 Q)) : YW Z i (d + 1) pc ls st m n Q := y_inl pc' ho hp ha hr (Nat.le_of_ble_eq_true hk) (Nat.le_of_ble_eq_true hw) hm hx he hn k
theorem y_throwB {e : Nat} (ho : zP Z i pc = some (.athrow, w, e, b)) (hw : Nat.ble (xw st) 8 = true) (hq : Q (.inr (e, n)) m (n + 1)) : YW Z i d pc ls st m n Q := y_throw ho (Nat.le_of_ble_eq_true hw) hq
end YK2
section YK3
variable {Z : yZ} {i j d pc pc' w a b : Nat} {ls ls' : xL} {st st' st0 : List Value} {m m' : yM} {n n' : Nat} {Q Qs : xO → yM → Nat → Prop} {o : xI} {as : List Value}
theorem YC.mkB (ls0 : xL) {kx : Nat} (hx : zMx Z j = kx) (he : xent as kx = ls0) (hn : ls0.length = kx) (k : YW Z j d 0 ls0 [] m n Q) : YC Z d j as m n Q := YC.mk (by rw [hx]; exact he) (by rw [hx]; exact hn) k
/-- an int, and nothing is changed -/
def qP (m : yM) (n : Nat) (R : Int → Prop) : xO → yM → Nat → Prop := fun o m' n' => ∃ x, o = .inl (some (yI x)) ∧ R x ∧ m' = m ∧ n' = n
theorem y_callP (pc' : Nat) (as : List Value) (st0 : List Value) {ix kk kd : Nat} {R : Int → Prop} (ho : zP Z i pc = some (.invokeinterface j ix, w, kk, kd)) (hp : pc + w = pc') (ha : (st.take kk).reverse = as) (hr : st.drop kk = st0) (hk : Nat.ble kk st.length = true) (hw : Nat.ble (xw st0) 8 = true) (hm : ycan Z j as) (hc : YC Z d j as m n (qP m n R)) (k1 : ∀ x, R x → YW Z i (d + 1) pc' ls (yI x :: st0) m n Q) : YW Z i (d + 1) pc ls st m n Q :=
  y_call pc' ho hp ha hr (Nat.le_of_ble_eq_true hk) (Nat.le_of_ble_eq_true hw) hm hc (fun v m' n' hq => by
    obtain ⟨x, e, hR, rfl, rfl⟩ := hq
    cases e
    exact k1 x hR) (fun q x m' n' hq => by
    obtain ⟨x, e, hR⟩ := hq
    cases e)
theorem y_retP {t : Nat} {x : Int} {R : Int → Prop} (ho : zP Z i pc = some (.ireturn, w, t, b)) (hv : xfit t (yI x) = true) (hq : R x) : YW Z i d pc ls [yI x] m n (qP m n R) := y_ireturn ho hv ⟨x, rfl, hq, rfl, rfl⟩
theorem y_retI {t : Nat} {x : Int} {R : Int → yM → Nat → Prop} (ho : zP Z i pc = some (.ireturn, w, t, b)) (hv : xfit t (yI x) = true) (hq : R x m n) : YW Z i d pc ls [yI x] m n (qI R) := y_ireturn ho hv ⟨x, rfl, hq⟩
theorem y_retU {R : yM → Nat → Prop} (ho : zP Z i pc = some (.return_, w, a, b)) (hq : R m n) : YW Z i d pc ls [] m n (qU R) := y_return ho ⟨rfl, hq⟩
theorem y_retT {t : Nat} {x : Int} {R : Int → yM → Nat → Prop} {T : Nat → yM → Nat → Prop} (ho : zP Z i pc = some (.ireturn, w, t, b)) (hv : xfit t (yI x) = true) (hq : R x m n) : YW Z i d pc ls [yI x] m n (qT R T) := y_ireturn ho hv (Or.inl ⟨x, rfl, hq⟩)
theorem y_thrT {e : Nat} {R : Int → yM → Nat → Prop} {T : Nat → yM → Nat → Prop} (ho : zP Z i pc = some (.athrow, w, e, b)) (hw : Nat.ble (xw st) 8 = true) (hq : T e m (n + 1)) : YW Z i d pc ls st m n (qT R T) := y_throwB ho hw (Or.inr ⟨e, n, rfl, hq⟩)
theorem y_i2cN (pc' : Nat) {x : Int} (ho : zP Z i pc = some (.i2c, w, a, b)) (hp : pc + w = pc') (hx : 0 ≤ x ∧ x ≤ 65535) (k : YW Z i d pc' ls (yI x :: st) m n Q) : YW Z i d pc ls (yI x :: st) m n Q := by
  refine y_i2c pc' ho hp ?_
  have e : ((Int32.ofInt x).toUInt32 % 65536).toInt32 = Int32.ofInt x := by
    apply Int32.toBitVec_inj.mp
    apply BitVec.eq_of_toNat_eq
    have h1 : (Int32.ofInt x).toUInt32.toNat = x.toNat := by
      obtain ⟨k, rfl⟩ := Int.eq_ofNat_of_zero_le hx.1
      simp [Int32.ofInt_eq_ofNat]
      omega
    simp [h1]
    omega
  rw [e, y_rng (by omega)]
  exact k
theorem y_nar3 {v : Int} (h : 0 ≤ v ∧ v ≤ 65535) : (if (3 : Nat) = 3 then vp_nar .char (Int32.ofInt v) else if (3 : Nat) = 1 then vp_nar .boolean (Int32.ofInt v) else if (3 : Nat) = 2 then vp_nar .byte (Int32.ofInt v) else Int32.ofInt v) = Int32.ofInt v := by
  rw [if_pos rfl]
  unfold vp_nar narrow
  simp only
  apply Int32.toBitVec_inj.mp
  apply BitVec.eq_of_toNat_eq
  obtain ⟨k, rfl⟩ := Int.eq_ofNat_of_zero_le h.1
  simp [Int32.ofInt_eq_ofNat]
  omega
end YK3
section YK4
variable {Z : yZ} {i j d pc pc' w a b : Nat} {ls ls' : xL} {st st' : List Value} {m m' : yM} {n n' : Nat} {Q Qs : xO → yM → Nat → Prop} {o : xI}
theorem y_callIB (pc' : Nat) (as : List Value) (st0 : List Value) {ix kk kd : Nat} {R : Int → yM → Nat → Prop} (ho : zP Z i pc = some (.invokeinterface j ix, w, kk, kd)) (hp : pc + w = pc') (ha : (st.take kk).reverse = as) (hr : st.drop kk = st0) (hk : Nat.ble kk st.length = true) (hw : Nat.ble (xw st0) 8 = true) (hm : ycan Z j as) (hc : YC Z d j as m n (qI R)) (k1 : ∀ x m' n', R x m' n' → YW Z i (d + 1) pc' ls (yI x :: st0) m' n' Q) : YW Z i (d + 1) pc ls st m n Q := y_callI pc' ho hp ha hr (Nat.le_of_ble_eq_true hk) (Nat.le_of_ble_eq_true hw) hm hc k1
theorem y_callUB (pc' : Nat) (as : List Value) (st0 : List Value) {ix kk kd : Nat} {R : yM → Nat → Prop} (ho : zP Z i pc = some (.invokeinterface j ix, w, kk, kd)) (hp : pc + w = pc') (ha : (st.take kk).reverse = as) (hr : st.drop kk = st0) (hk : Nat.ble kk st.length = true) (hw : Nat.ble (xw st0) 8 = true) (hm : ycan Z j as) (hc : YC Z d j as m n (qU R)) (k1 : ∀ m' n', R m' n' → YW Z i (d + 1) pc' ls st0 m' n' Q) : YW Z i (d + 1) pc ls st m n Q := y_callU pc' ho hp ha hr (Nat.le_of_ble_eq_true hk) (Nat.le_of_ble_eq_true hw) hm hc k1
theorem y_callTB (pc' : Nat) (as : List Value) (st0 : List Value) {ix kk kd : Nat} {R : Int → yM → Nat → Prop} {T : Nat → yM → Nat → Prop} (ho : zP Z i pc = some (.invokeinterface j ix, w, kk, kd)) (hp : pc + w = pc') (ha : (st.take kk).reverse = as) (hr : st.drop kk = st0) (hk : Nat.ble kk st.length = true) (hw : Nat.ble (xw st0) 8 = true) (hm : ycan Z j as) (hc : YC Z d j as m n (qT R T)) (k1 : ∀ x m' n', R x m' n' → YW Z i (d + 1) pc' ls (yI x :: st0) m' n' Q) (k2 : ∀ q x m' n', T q m' n' → (∃ pq, zHd Z i pc q = some (some pq) ∧ YW Z i (d + 1) pq ls [.ref x] m' n' Q) ∨ (zHd Z i pc q = some none ∧ Q (.inr (q, x)) m' n')) : YW Z i (d + 1) pc ls st m n Q := y_callT pc' ho hp ha hr (Nat.le_of_ble_eq_true hk) (Nat.le_of_ble_eq_true hw) hm hc k1 k2
theorem y_lastoreN (pc' : Nat) (y : Int) {A e : Nat} {x : Int} {v : Int64} (ho : zP Z i pc = some (.lastore, w, a, b)) (hp : pc + w = pc') (hf : ylar (zSh Z) (zN Z) A = some e) (hx : 0 ≤ x ∧ x < e) (hv : v.toInt = y) (k : YW Z i d pc' ls st (yup m A x.toNat y) n Q) : YW Z i d pc ls (.long v :: yI x :: .ref A :: st) m n Q := by
  subst hv
  exact y_lastore pc' ho hp hf hx k
theorem y_laX (pc' : Nat) (y : Int) {A e : Nat} {x : Int} (ho : zP Z i pc = some (.laload, w, a, b)) (hp : pc + w = pc') (hf : ylar (zSh Z) (zN Z) A = some e) (hx : 0 ≤ x ∧ x < e) (hy : m A x.toNat = y) (k : YW Z i d pc' ls (.long (Int64.ofInt y) :: st) m n Q) : YW Z i d pc ls (yI x :: .ref A :: st) m n Q := by
  subst hy
  exact y_laload pc' ho hp hf hx k
/-- an int's long -/
theorem y_long {x : Int} (hx : -2147483648 ≤ x ∧ x < 2147483648) : Int64.ofInt x = (Int32.ofInt x).toInt64 := by
  apply Int64.toInt_inj.mp
  rw [Int32.toInt_toInt64, y_rng hx]
  exact Int64.toInt_ofInt_of_le (by omega) (by omega)
end YK4

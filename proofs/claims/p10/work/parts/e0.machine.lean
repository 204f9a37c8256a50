/-! THE MACHINE: methods that may throw -/
def wMx (a q : Nat) : Bool := (a == 169 && (q == 5 || q == 6)) || decide (170 ≤ a ∧ a < 256)
theorem wMx_h {a q : Nat} (h : 256 ≤ a) : wMx a q = false := by
  cases e : wMx a q with
  | false => rfl
  | true => simp [wMx] at e <;> omega
theorem wMx_r {a q : Nat} (h : 170 ≤ a ∧ a < 256) : wMx a q = true := by
  simp [wMx]
  omega
theorem wRo_wMx {R : Nat} (h : 170 ≤ R ∧ R < 256) : ∀ a q, wRo R a q = true → wMx a q = true := by
  intro a q e
  simp [wRo] at e
  simp [wMx]
  omega
theorem khn {i pc q : Nat} (h : gH i = []) : gHd i pc q = some none := by
  unfold gHd
  rw [h]
  rfl
/-- something was thrown: one cell more -/
def qThr (nn : Nat) (m : yM) : xO → yM → Nat → Prop := fun o m' n' => ∃ q x, o = .inr (q, x) ∧ n' = nn + 1 ∧ Ty gT m' ∧ Fr wMx m m' ∧ 10 ≤ q ∧ q ≤ 13
def qTI (nn : Nat) (m : yM) (R : Int → yM → Prop) : xO → yM → Nat → Prop := fun o m' n' => (∃ x, o = .inl (some (yI x)) ∧ n' = nn ∧ Ty gT m' ∧ Fr wMx m m' ∧ R x m') ∨ qThr nn m o m' n'
def qTU (nn : Nat) (m : yM) (R : yM → Prop) : xO → yM → Nat → Prop := fun o m' n' => (o = .inl none ∧ n' = nn ∧ Ty gT m' ∧ Fr wMx m m' ∧ R m') ∨ qThr nn m o m' n'
def qTA (nn : Nat) (m : yM) (R : Nat → yM → Prop) : xO → yM → Nat → Prop := fun o m' n' => (∃ A, o = .inl (some (.ref A)) ∧ n' = nn ∧ Ty gT m' ∧ Fr wMx m m' ∧ R A m') ∨ qThr nn m o m' n'
section QTL
variable {L : Nat} {xs : Nat → Int32} {i j d pc pc' w a b : Nat} {ls : xL} {st : List Value} {m m0 : yM} {nn : Nat} {Q : xO → yM → Nat → Prop}
/-- what is thrown in a callee goes out of the caller too -/
def qOut (nn : Nat) (m0 : yM) (Q : xO → yM → Nat → Prop) : Prop := ∀ o m' n', qThr nn m0 o m' n' → Q o m' n'
theorem qOut.I {R : Int → yM → Prop} : qOut nn m0 (qTI nn m0 R) := fun _ _ _ h => Or.inr h
theorem qOut.U {R : yM → Prop} : qOut nn m0 (qTU nn m0 R) := fun _ _ _ h => Or.inr h
theorem qOut.A {R : Nat → yM → Prop} : qOut nn m0 (qTA nn m0 R) := fun _ _ _ h => Or.inr h
theorem qThr.tr {m1 m2 : yM} {o : xO} {n' : Nat} (h : qThr nn m1 o m2 n') (F : Fr wMx m0 m1) : qThr nn m0 o m2 n' := by
  obtain ⟨q, x, h1, h2, h3, h4, h5⟩ := h
  exact ⟨q, x, h1, h2, h3, F.tr' h4, h5⟩
theorem y_mI (pc' : Nat) (as : List Value) (st0 : List Value) {ix kk kd : Nat} {R : Int → yM → Prop} (ho : gP i pc = some (.invokeinterface j ix, w, kk, kd)) (hp : pc + w = pc') (ha : (st.take kk).reverse = as) (hr : st.drop kk = st0) (hk : Nat.ble kk st.length = true) (hw : Nat.ble (xw st0) 8 = true) (hm : ycan (gZ L xs) j as) (hH : gH i = []) (hO : qOut nn m0 Q) (hF : Fr wMx m0 m) (hc : YC (gZ L xs) d j as m nn (qTI nn m R)) (k1 : ∀ x m', Ty gT m' → Fr wMx m m' → R x m' → YW (gZ L xs) i (d + 1) pc' ls (yI x :: st0) m' nn Q) : YW (gZ L xs) i (d + 1) pc ls st m nn Q :=
  y_call pc' ho hp ha hr (Nat.le_of_ble_eq_true hk) (Nat.le_of_ble_eq_true hw) hm hc (fun v m' n' hq => by
    rcases hq with ⟨x, e, rfl, h1, h2, h3⟩ | ⟨q, x, e, -⟩
    · cases e
      exact k1 x m' h1 h2 h3
    · cases e) (fun q x m' n' hq => by
    rcases hq with ⟨x, e, -⟩ | h
    · cases e
    · exact Or.inr ⟨khn hH, hO _ _ _ (h.tr hF)⟩)
theorem y_mU (pc' : Nat) (as : List Value) (st0 : List Value) {ix kk kd : Nat} {R : yM → Prop} (ho : gP i pc = some (.invokeinterface j ix, w, kk, kd)) (hp : pc + w = pc') (ha : (st.take kk).reverse = as) (hr : st.drop kk = st0) (hk : Nat.ble kk st.length = true) (hw : Nat.ble (xw st0) 8 = true) (hm : ycan (gZ L xs) j as) (hH : gH i = []) (hO : qOut nn m0 Q) (hF : Fr wMx m0 m) (hc : YC (gZ L xs) d j as m nn (qTU nn m R)) (k1 : ∀ m', Ty gT m' → Fr wMx m m' → R m' → YW (gZ L xs) i (d + 1) pc' ls st0 m' nn Q) : YW (gZ L xs) i (d + 1) pc ls st m nn Q :=
  y_call pc' ho hp ha hr (Nat.le_of_ble_eq_true hk) (Nat.le_of_ble_eq_true hw) hm hc (fun v m' n' hq => by
    rcases hq with ⟨e, rfl, h1, h2, h3⟩ | ⟨q, x, e, -⟩
    · cases e
      exact k1 m' h1 h2 h3
    · cases e) (fun q x m' n' hq => by
    rcases hq with ⟨e, -⟩ | h
    · cases e
    · exact Or.inr ⟨khn hH, hO _ _ _ (h.tr hF)⟩)
theorem y_mA (pc' : Nat) (as : List Value) (st0 : List Value) {ix kk kd : Nat} {R : Nat → yM → Prop} (ho : gP i pc = some (.invokeinterface j ix, w, kk, kd)) (hp : pc + w = pc') (ha : (st.take kk).reverse = as) (hr : st.drop kk = st0) (hk : Nat.ble kk st.length = true) (hw : Nat.ble (xw st0) 8 = true) (hm : ycan (gZ L xs) j as) (hH : gH i = []) (hO : qOut nn m0 Q) (hF : Fr wMx m0 m) (hc : YC (gZ L xs) d j as m nn (qTA nn m R)) (k1 : ∀ A m', Ty gT m' → Fr wMx m m' → R A m' → YW (gZ L xs) i (d + 1) pc' ls (.ref A :: st0) m' nn Q) : YW (gZ L xs) i (d + 1) pc ls st m nn Q :=
  y_call pc' ho hp ha hr (Nat.le_of_ble_eq_true hk) (Nat.le_of_ble_eq_true hw) hm hc (fun v m' n' hq => by
    rcases hq with ⟨A, e, rfl, h1, h2, h3⟩ | ⟨q, x, e, -⟩
    · cases e
      exact k1 A m' h1 h2 h3
    · cases e) (fun q x m' n' hq => by
    rcases hq with ⟨x, e, -⟩ | h
    · cases e
    · exact Or.inr ⟨khn hH, hO _ _ _ (h.tr hF)⟩)
theorem y_mThr {e : Nat} (ho : gP i pc = some (.athrow, w, e, b)) (hw : Nat.ble (xw st) 8 = true) (hT : Ty gT m) (hF : Fr wMx m0 m) (he : 10 ≤ e ∧ e ≤ 13) (hO : qOut nn m0 Q) : YW (gZ L xs) i d pc ls st m nn Q :=
  y_throwB ho hw (hO _ _ _ ⟨e, nn, rfl, rfl, hT, hF, he⟩)
theorem y_mRI {t : Nat} {x : Int} {R : Int → yM → Prop} (ho : gP i pc = some (.ireturn, w, t, b)) (hv : xfit t (yI x) = true) (hT : Ty gT m) (hF : Fr wMx m0 m) (hq : R x m) : YW (gZ L xs) i d pc ls [yI x] m nn (qTI nn m0 R) := y_ireturn ho hv (Or.inl ⟨x, rfl, rfl, hT, hF, hq⟩)
theorem y_mRU {R : yM → Prop} (ho : gP i pc = some (.return_, w, a, b)) (hT : Ty gT m) (hF : Fr wMx m0 m) (hq : R m) : YW (gZ L xs) i d pc ls [] m nn (qTU nn m0 R) := y_return ho (Or.inl ⟨rfl, rfl, hT, hF, hq⟩)
theorem y_mRA {A : Nat} {R : Nat → yM → Prop} (ho : gP i pc = some (.areturn, w, a, b)) (hT : Ty gT m) (hF : Fr wMx m0 m) (hq : R A m) : YW (gZ L xs) i d pc ls [.ref A] m nn (qTA nn m0 R) := y_areturn ho rfl (Or.inl ⟨A, rfl, rfl, hT, hF, hq⟩)
end QTL

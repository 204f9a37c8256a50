/-! more rules -/
section YT3
variable {Z : yZ} {i j d pc pc' w a b : Nat} {ls ls' : xL} {st st' : List Value} {m m' : yM} {n n' : Nat} {Q Qs : xO → yM → Nat → Prop} {o : xI}
theorem y_callAB (pc' : Nat) (as : List Value) (st0 : List Value) {ix kk kd : Nat} {R : Nat → yM → Nat → Prop} (ho : zP Z i pc = some (.invokeinterface j ix, w, kk, kd)) (hp : pc + w = pc') (ha : (st.take kk).reverse = as) (hr : st.drop kk = st0) (hk : Nat.ble kk st.length = true) (hw : Nat.ble (xw st0) 8 = true) (hm : ycan Z j as) (hc : YC Z d j as m n (qA R)) (k1 : ∀ A m' n', R A m' n' → YW Z i (d + 1) pc' ls (.ref A :: st0) m' n' Q) : YW Z i (d + 1) pc ls st m n Q := y_callA pc' ho hp ha hr (Nat.le_of_ble_eq_true hk) (Nat.le_of_ble_eq_true hw) hm hc k1
theorem y_retA {A : Nat} {R : Nat → yM → Nat → Prop} (ho : zP Z i pc = some (.areturn, w, a, b)) (hq : R A m n) : YW Z i d pc ls [.ref A] m n (qA R) := y_areturn ho rfl ⟨A, rfl, hq⟩
end YT3
/-- the variables of each method lie below 48 -/
def MP (B : Nat) (m : yM) : Prop := ∀ k : Nat, k < 10 → m (B + k) 2 + 2 + m (B + k) 3 ≤ 48

/-! THE LAW: what stands between its steps -/
def LI (m : yM) : Prop := CJ m ∧ MI m ∧ m 0 6 = m 376 1
theorem CJ.ty {m : yM} (h : CJ m) : Ty gT m := by
  rcases h with h | h
  · exact h.1
  · exact h.1
theorem CJ.fr {m m' : yM} (h : CJ m) (hT : Ty gT m') (e : ∀ a q, (a = 0 ∧ (q = 4 ∨ q = 5)) ∨ (a = 8 ∧ q = 4) ∨ (256 ≤ a ∧ a < 376) → m' a q = m a q) : CJ m' := by
  rcases h with h | h
  · exact Or.inl (h.fr (by decide) (h.1.atp 256 16 0 40 rfl).2 (h.1.atp 256 10 0 10 rfl).2 hT e)
  · exact Or.inr (h.fr (by decide) (h.1.atp 316 16 0 40 rfl).2 (h.1.atp 316 10 0 10 rfl).2 hT e)
theorem vG_a {a q : Nat} (h : (a = 376 ∧ (q = 18 ∨ q = 19)) ∨ vGq 0 a q = true ∨ vGq 1 a q = true) : 376 ≤ a ∧ a ≤ 403 ∧ a ≠ 377 ∧ ¬ (a = 376 ∧ (q = 1 ∨ q = 57)) := by
  simp [vGq] at h
  omega
theorem LI.cls {m m' : yM} (h : LI m) (F : Fr wCl m m') (hC : CJ m') : LI m' := by
  refine ⟨hC, h.2.1.fr hC.ty (fun a q ha => F a q ?_), ?_⟩
  · have hv := vG_a ha
    cases e : wCl a q with
    | false => rfl
    | true => simp [wCl] at e; omega
  · rw [F 0 6 rfl, F 376 1 rfl]
    exact h.2.2
theorem LI.mdl {m m' : yM} (h : LI m) (F : Fr wML m m') (hM : MI m') : LI m' := by
  refine ⟨h.1.fr hM.1 (fun a q ha => F a q ?_), hM, ?_⟩
  · cases e : wML a q with
    | false => rfl
    | true => simp [wML] at e; omega
  · rw [F 0 6 rfl, F 376 1 rfl]
    exact h.2.2
/-- both texts grow, or both are cut -/
theorem LI.app {m m1 m2 : yM} {n : Int} (h : LI m) (hT : Ty gT m2) (k1 : ∀ a q, a ≠ 1 → ¬ (a = 0 ∧ q = 6) → a ≠ 413 → m1 a q = m a q) (e1 : m1 0 6 = m 0 6 + n) (k2 : ∀ a q, a ≠ 377 → ¬ (a = 376 ∧ (q = 1 ∨ q = 57)) → m2 a q = m1 a q) (e2 : m2 376 1 = m 376 1 + n) : LI m2 := by
  refine ⟨h.1.fr hT (fun a q ha => ?_), h.2.1.fr hT (fun a q ha => ?_), ?_⟩
  · rw [k2 a q (by omega) (by omega), k1 a q (by omega) (by omega) (by omega)]
  · have hv := vG_a ha
    rw [k2 a q (by omega) (by omega), k1 a q (by omega) (by omega) (by omega)]
  · rw [e2, k2 0 6 (by decide) (by decide), e1, h.2.2]
/-- the model's code alone -/
theorem LI.cod {m : yM} {c : Int} (h : LI m) (hc : 0 ≤ c ∧ c ≤ 4) : LI (yup m 376 57 c) := by
  have hT := h.2.1.1.up 376 57 c 0 4 rfl hc
  refine h.mdl (Fr.rf.up 376 57 c rfl) (h.2.1.fr hT (fun a q ha => ?_))
  have hv := vG_a ha
  exact yup_ne (by omega)
theorem MI.g0 {m : yM} (h : MI m) (hp : m 376 18 = 0) : m 376 19 = 0 ∨ GQ 0 m := by
  rcases h.2 with q | ⟨q1, q2⟩ | ⟨q1, q2⟩
  · exact Or.inl q
  · exact Or.inr q2
  · omega
theorem MI.g1 {m : yM} (h : MI m) (hp : m 376 18 = 1) : m 376 19 = 0 ∨ GQ 1 m := by
  rcases h.2 with q | ⟨q1, q2⟩ | ⟨q1, q2⟩
  · exact Or.inl q
  · omega
  · exact Or.inr q2
def qL (nn : Nat) : xO → yM → Nat → Prop := qI (fun _ m' n' => n' ≤ nn + 1 ∧ LI m')
def qN (nn : Nat) : xO → yM → Nat → Prop := qI (fun _ m' n' => n' = nn ∧ LI m')
theorem qW_L {nn : Nat} {m : yM} (h : LI m) {o : xO} {m' : yM} {n' : Nat} (q : qW nn m o m' n') : qL nn o m' n' := by
  obtain ⟨z, e, -, hn, F, hC⟩ := q
  exact ⟨z, e, by omega, h.cls F hC⟩
theorem qMd_N {nn : Nat} {m : yM} (h : LI m) {o : xO} {m' : yM} {n' : Nat} (q : qMd nn m o m' n') : qN nn o m' n' := by
  obtain ⟨z, e, hn, F, hM⟩ := q
  exact ⟨z, e, hn, h.mdl F hM⟩
/-- the script -/
theorem s_sc {L : Nat} {xs : Nat → Int32} {i d pc w b : Nat} {ls : xL} {st : List Value} {m : yM} {n : Nat} {Q : xO → yM → Nat → Prop} {x : Int} (pc' : Nat) (ho : gP i pc = some (.iaload, w, 0, b)) (hp : pc + w = pc') (hL : L ≤ 2048) (hx : 0 ≤ x ∧ x < (L : Int)) (k : ∀ v : Int, (xs x.toNat).toInt = v → -2147483648 ≤ v ∧ v < 2147483648 → YW (gZ L xs) i d pc' ls (yI v :: st) m n Q) : YW (gZ L xs) i d pc ls (yI x :: .retAddr 0 :: st) m n Q := y_script pc' ho hp (by show L ≤ 100000; omega) (by show 0 ≤ x ∧ x < (L : Int); exact hx) (k _ rfl (i32r _))
theorem s_scX {L : Nat} {xs : Nat → Int32} {i d pc w b : Nat} {ls : xL} {st : List Value} {m : yM} {n : Nat} {Q : xO → yM → Nat → Prop} {x : Int} (pc' : Nat) (v : Int) (ho : gP i pc = some (.iaload, w, 0, b)) (hp : pc + w = pc') (hL : L ≤ 2048) (hx : 0 ≤ x ∧ x < (L : Int)) (hv : (xs x.toNat).toInt = v) (k : YW (gZ L xs) i d pc' ls (yI v :: st) m n Q) : YW (gZ L xs) i d pc ls (yI x :: .retAddr 0 :: st) m n Q := y_script pc' ho hp (by show L ≤ 100000; omega) (by show 0 ≤ x ∧ x < (L : Int); exact hx) (y_top v hv k)
theorem s_len {L : Nat} {xs : Nat → Int32} {i d pc w a b : Nat} {ls : xL} {st : List Value} {m : yM} {n : Nat} {Q : xO → yM → Nat → Prop} (pc' : Nat) (ho : gP i pc = some (.arraylength, w, a, b)) (hp : pc + w = pc') (k : YW (gZ L xs) i d pc' ls (yI (L : Int) :: st) m n Q) : YW (gZ L xs) i d pc ls (.retAddr 0 :: st) m n Q := y_slen pc' ho hp k

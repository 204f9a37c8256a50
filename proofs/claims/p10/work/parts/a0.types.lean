/-! TYPES OF PLACES: bounds that every write keeps; and what a method may write -/
section YT1
variable {t : Nat → Nat → Int × Int} {m m' m1 m2 : yM} {a q : Nat} {v lo hi : Int} {w w1 : Nat → Nat → Bool}
def Ty (t : Nat → Nat → Int × Int) (m : yM) : Prop := ∀ a q, (t a q).1 ≤ m a q ∧ m a q ≤ (t a q).2
theorem Ty.up (h : Ty t m) (a q : Nat) (v : Int) (lo hi : Int) (ht : t a q = (lo, hi)) (hv : lo ≤ v ∧ v ≤ hi) : Ty t (yup m a q v) := by
  intro b j
  by_cases e : b = a ∧ j = q
  · obtain ⟨rfl, rfl⟩ := e
    rw [yup_eq, ht]
    exact hv
  · rw [yup_ne e]
    exact h b j
theorem Ty.atp (h : Ty t m) (a q : Nat) (lo hi : Int) (ht : t a q = (lo, hi)) : lo ≤ m a q ∧ m a q ≤ hi := by
  have := h a q
  rw [ht] at this
  exact this
/-- nothing is changed but where w allows it -/
def Fr (w : Nat → Nat → Bool) (m m' : yM) : Prop := ∀ a q, w a q = false → m' a q = m a q
theorem Fr.rf : Fr w m m := fun _ _ _ => rfl
theorem Fr.up (h : Fr w m m1) (a q : Nat) (v : Int) (hw : w a q = true) : Fr w m (yup m1 a q v) := by
  intro b j hb
  by_cases e : b = a ∧ j = q
  · obtain ⟨rfl, rfl⟩ := e
    rw [hw] at hb
    cases hb
  · rw [yup_ne e]
    exact h b j hb
theorem Fr.tr (h : Fr w m m1) (h2 : Fr w1 m1 m2) (hs : ∀ a q, w1 a q = true → w a q = true) : Fr w m m2 := by
  intro b j hb
  have : w1 b j = false := by
    cases hw : w1 b j with
    | false => rfl
    | true => rw [hs b j hw] at hb; cases hb
  rw [h2 b j this]
  exact h b j hb
theorem Fr.tr' (h : Fr w m m1) (h2 : Fr w m1 m2) : Fr w m m2 := h.tr h2 (fun _ _ e => e)
theorem Fr.weak (h : Fr w1 m m1) (hs : ∀ a q, w1 a q = true → w a q = true) : Fr w m m1 := Fr.rf.tr h hs
end YT1
section YT2
variable {Z : yZ} {t : Nat → Nat → Int × Int} {i j d pc pc' w a b : Nat} {ls ls' : xL} {st st' : List Value} {m m' : yM} {n n' : Nat} {Q Qs : xO → yM → Nat → Prop} {o : xI}
/-- a place of an array: a new name, with its bounds -/
theorem y_iaT (pc' : Nat) {tt A e : Nat} {x : Int} (lo hi : Int) (ho : zP Z i pc = some (.iaload, w, tt, b)) (hp : pc + w = pc') (hf : yarr (zSh Z) (zN Z) A = some (tt, e)) (hx : 0 ≤ x ∧ x < e) (hT : Ty t m) (ht : t A x.toNat = (lo, hi)) (k : ∀ v, m A x.toNat = v → lo ≤ v ∧ v ≤ hi → YW Z i d pc' ls (yI v :: st) m n Q) : YW Z i d pc ls (yI x :: .ref A :: st) m n Q := y_iaload pc' ho hp hf hx (k _ rfl (hT.atp _ _ _ _ ht))
/-- a place of an object, likewise -/
theorem y_getT (pc' : Nat) {q ci tt A : Nat} (lo hi : Int) (ho : zP Z i pc = some (.getfield q, w, ci, b)) (hp : pc + w = pc') (hf : yfld (zSh Z) (zN Z) A q ci = some (.inl tt)) (hT : Ty t m) (ht : t A q = (lo, hi)) (k : ∀ v, m A q = v → lo ≤ v ∧ v ≤ hi → YW Z i d pc' ls (yI v :: st) m n Q) : YW Z i d pc ls (.ref A :: st) m n Q := y_getI pc' ho hp hf (k _ rfl (hT.atp _ _ _ _ ht))
/-- an int, wrapped -/
theorem y_wrap {x : Int} (k : ∀ v, v = (Int32.ofInt x).toInt → -2147483648 ≤ v ∧ v < 2147483648 → YW Z i d pc ls (yI v :: st) m n Q) : YW Z i d pc ls (yI x :: st) m n Q := by
  have h := k _ rfl ⟨(Int32.ofInt x).le_toInt, (Int32.ofInt x).toInt_lt⟩
  rw [y_back] at h
  exact h
/-- a name for the top -/
theorem y_nam {x : Int} (k : ∀ v, v = x → YW Z i d pc ls (yI v :: st) m n Q) : YW Z i d pc ls (yI x :: st) m n Q := k _ rfl
end YT2

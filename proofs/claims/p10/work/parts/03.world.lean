/-! THE REAL MACHINE'S HEAP AND THE PURE MACHINE'S: the cell k lies at base + k -/
/-- a pure value in the real machine: b: the script; ta: the texts, and one reference or null that is only handed on -/
def xv (b base : Nat) (ta : (Nat → Nat) × Option Nat) (v : Value) : Value := match v with
  | .ref k => .ref (base + k)
  | .retAddr 0 => .ref b
  | .retAddr (k + 1) => .ref (ta.1 k)
  | .float _ => va_rf ta.2
  | v => v
theorem xv_cat1 (b base : Nat) (ta : (Nat → Nat) × Option Nat) {v : Value} (h : v.category = 1) : (xv b base ta v).category = 1 := by
  cases v with
  | retAddr k => cases k <;> rfl
  | float x => show (va_rf ta.2).category = 1; cases ta.2 <;> rfl
  | long x => cases h
  | double x => cases h
  | _ => rfl
theorem xv_cat' (b base : Nat) (ta : (Nat → Nat) × Option Nat) (v : Value) : (xv b base ta v).category = v.category := by
  cases v with
  | retAddr k => cases k <;> rfl
  | float x => show (va_rf ta.2).category = 1; cases ta.2 <;> rfl
  | _ => rfl
theorem xv_ref {b base : Nat} {ta : (Nat → Nat) × Option Nat} {v : Value} (h : xref v = true) : ∃ a, xv b base ta v = .ref a := by
  cases v with
  | ref k => exact ⟨_, rfl⟩
  | retAddr k => cases k <;> exact ⟨_, rfl⟩
  | _ => cases h
/-- a pure cell in the real machine: dA: the class of arrays of a type's code -/
def xtr (b base : Nat) (ta : (Nat → Nat) × Option Nat) (dA : Nat → ClassId) (c : xC) : va_E := match c with
  | .inl (t, n, .inr (.inr (.inr (.inr f)))) => .inl (dA t, n, .inr (.inr (.inr (.inr (fun i => (f i).map (base + ·))))))
  | .inl (t, n, f) => .inl (dA t, n, f)
  | .inr (ci, fs) => .inr (ci, fs.map (xv b base ta))
def xws (b base : Nat) (ta : (Nat → Nat) × Option Nat) (dA : Nat → ClassId) (h : xH) : va_W := h.mapIdx (fun k c => (base + k, xtr b base ta dA c))
section XW
variable {b base : Nat} {ta : (Nat → Nat) × Option Nat} {dA : Nat → ClassId}
theorem xws_len (h : xH) : (xws b base ta dA h).length = h.length := by simp [xws]
theorem xws_at (h : xH) (k : Nat) : (xws b base ta dA h)[k]? = (h[k]?).map (fun c => (base + k, xtr b base ta dA c)) := by simp [xws]
theorem xws_get {h : xH} {k : Nat} {c : xC} (hk : h[k]? = some c) : (xws b base ta dA h)[k]? = some (base + k, xtr b base ta dA c) := by rw [xws_at, hk]; rfl
theorem xws_inv {h : xH} {k : Nat} {q : Nat × va_E} (hk : (xws b base ta dA h)[k]? = some q) : ∃ c, h[k]? = some c ∧ q = (base + k, xtr b base ta dA c) := by
  rw [xws_at] at hk
  cases hc : h[k]? with
  | none => rw [hc] at hk; cases hk
  | some c => rw [hc] at hk; exact ⟨c, rfl, (Option.some.inj hk).symm⟩
theorem xws_set (h : xH) (k : Nat) (c : xC) : xws b base ta dA (h.set k c) = (xws b base ta dA h).set k (base + k, xtr b base ta dA c) := by
  apply List.ext_getElem?
  intro j
  rw [xws_at, List.getElem?_set, List.getElem?_set, xws_len, xws_at]
  by_cases hj : k = j
  · subst hj
    by_cases hl : k < h.length <;> simp [hl]
  · simp [hj]
theorem xws_app (h : xH) (c : xC) : xws b base ta dA (h ++ [c]) = xws b base ta dA h ++ [(base + h.length, xtr b base ta dA c)] := by
  simp [xws, List.mapIdx_append]
theorem xws_D (h : xH) : va_D (fun q => base ≤ q) (xws b base ta dA h) := by
  refine ⟨fun i j p q hi hj e => ?_, fun k q hk => ?_⟩
  · obtain ⟨_, -, rfl⟩ := xws_inv hi
    obtain ⟨_, -, rfl⟩ := xws_inv hj
    have : base + i = base + j := e
    omega
  · obtain ⟨_, -, rfl⟩ := xws_inv hk
    exact Nat.le_add_right _ _
end XW
/-- the locals -/
def xls (b base : Nat) (ta : (Nat → Nat) × Option Nat) (ls : xL) (rl : Array Slot) : Prop := rl.size = ls.length ∧ lv_wf rl ∧ ∀ (i : Nat) (v : Value), ls[i]? = some (some v) → rl[i]? = some (.val (xv b base ta v))
/-- the listed pairs of the locals -/
def xlp (b base : Nat) (ta : (Nat → Nat) × Option Nat) (ls : xL) : List (Nat × Value) := (List.range ls.length).filterMap (fun i => match ls[i]? with
  | some (some v) => some (i, xv b base ta v)
  | _ => none)
theorem xlp_mem {b base : Nat} {ta : (Nat → Nat) × Option Nat} {ls : xL} {q : Nat × Value} : q ∈ xlp b base ta ls ↔ ∃ v, ls[q.1]? = some (some v) ∧ q.2 = xv b base ta v := by
  unfold xlp
  rw [List.mem_filterMap]
  constructor
  · rintro ⟨i, -, h⟩
    split at h
    · rename_i v hv
      cases h
      exact ⟨v, hv, rfl⟩
    · cases h
  · rintro ⟨v, hv, h⟩
    refine ⟨q.1, List.mem_range.mpr (List.getElem?_eq_some_iff.mp hv).1, ?_⟩
    rw [hv]
    show some (q.1, xv b base ta v) = some q
    rw [← h]
theorem xls_has {b base : Nat} {ta : (Nat → Nat) × Option Nat} {ls : xL} {rl : Array Slot} (h : xls b base ta ls rl) : lv_has rl ls.length (xlp b base ta ls) :=
  ⟨h.1, h.2.1, fun q hq => by
    obtain ⟨v, h1, h2⟩ := xlp_mem.mp hq
    rw [h2]
    exact h.2.2 _ _ h1⟩
theorem xset_spec {ls ls' : xL} {i : Nat} {v : Value} (h : xset ls i v = some ls') : i < ls.length ∧ ls' = ls.set i (some v) ∧ ∀ (j : Nat) (w : Value), j + 1 = i → ls[j]? = some (some w) → ¬ w.category = 2 := by
  unfold xset at h
  by_cases hi : i < ls.length
  · rw [if_pos hi] at h
    split at h
    · cases h
    · cases h
    · rename_i h1 h2
      cases h
      refine ⟨hi, rfl, fun j w hj hw => ?_⟩
      subst hj
      have e : (if j + 1 = 0 then none else ls[j + 1 - 1]?) = some (some w) := by
        rw [if_neg (Nat.succ_ne_zero j), Nat.add_sub_cancel]; exact hw
      cases w with
      | long x => exact absurd e (h1 x)
      | double x => exact absurd e (h2 x)
      | _ => intro q; cases q
  · rw [if_neg hi] at h
    cases h
/-- behind a store of one word -/
theorem xls_put {b base : Nat} {ta : (Nat → Nat) × Option Nat} {ls ls' : xL} {i : Nat} {v : Value} {rl : Array Slot} (hs : xset ls i v = some ls') (h : lv_has rl ls.length ((i, xv b base ta v) :: (xlp b base ta ls).filter (fun q => !(q.1 == i) && !(q.1 + 1 == i && q.2.category == 2)))) : xls b base ta ls' rl := by
  obtain ⟨hi, rfl, hj⟩ := xset_spec hs
  refine ⟨by rw [h.1, List.length_set], h.2.1, fun k w hk => ?_⟩
  rw [List.getElem?_set] at hk
  by_cases e : i = k
  · subst e
    rw [if_pos rfl, if_pos hi] at hk
    cases hk
    exact h.2.2 (i, xv b base ta v) List.mem_cons_self
  · rw [if_neg e] at hk
    refine h.2.2 (k, xv b base ta w) (List.mem_cons_of_mem _ (List.mem_filter.mpr ⟨xlp_mem.mpr ⟨w, hk, rfl⟩, ?_⟩))
    have e1 : (k == i) = false := by simp; exact fun q => e q.symm
    have e2 : (k + 1 == i && (xv b base ta w).category == 2) = false := by
      by_cases q : k + 1 = i
      · have := hj k w q hk
        rw [xv_cat']
        simp [this]
      · simp [q]
    simp only [e1, e2, Bool.not_false, Bool.and_self]

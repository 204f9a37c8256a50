/-! THE Y LAYER: runs of the pure machine over a heap whose cells stand still. A memory m gives the Int in the place k of the cell a; what a cell is, is told by a table of shapes. -/
/-- a place of an object: an int (with its type's number), a reference that stands, one of some references -/
abbrev ySl : Type := Nat ⊕ (Nat ⊕ List Nat)
/-- what a cell is: ints (type, length); longs (length); references one behind another (type, length, the first); an object (number, places) -/
abbrev ySh : Type := (Nat × Nat) ⊕ (Nat ⊕ ((Nat × Nat × Nat) ⊕ (Nat × List ySl)))
abbrev yM : Type := Nat → Nat → Int
/-- the machine, the shapes, how many cells stand, their slots -/
abbrev yZ : Type := ((Nat → List Value) × Nat × (Nat → Int32) × List (List Int32) × (Nat → Option Nat)) × (Nat → Nat → Option xI) × (Nat → Nat) × (Nat → Nat → Nat → Option (Option Nat)) × (Nat → ySh) × Nat × Nat
def zStp (Z : yZ) : xI → Nat → xL → List Value → xH → Option xG := xstep Z.1.1 Z.1.2.1 Z.1.2.2.1 Z.1.2.2.2.1 Z.1.2.2.2.2
def zLn (Z : yZ) : Nat := Z.1.2.1
def zXs (Z : yZ) : Nat → Int32 := Z.1.2.2.1
def zLit (Z : yZ) : List (List Int32) := Z.1.2.2.2.1
def zMc (Z : yZ) : Nat → Option Nat := Z.1.2.2.2.2
def zP (Z : yZ) : Nat → Nat → Option xI := Z.2.1
def zMx (Z : yZ) : Nat → Nat := Z.2.2.1
def zHd (Z : yZ) : Nat → Nat → Nat → Option (Option Nat) := Z.2.2.2.1
def zSh (Z : yZ) : Nat → ySh := Z.2.2.2.2.1
def zN (Z : yZ) : Nat := Z.2.2.2.2.2.1
def zC (Z : yZ) : Nat := Z.2.2.2.2.2.2
def yI (x : Int) : Value := .int (Int32.ofInt x)
def yup (m : yM) (a k : Nat) (v : Int) : yM := fun b j => if b = a ∧ j = k then v else m b j
theorem yup_eq (m : yM) (a k : Nat) (v : Int) : yup m a k v a k = v := by simp [yup]
theorem yup_ne {m : yM} {a k b j : Nat} {v : Int} (h : ¬ (b = a ∧ j = k)) : yup m a k v b j = m b j := by simp [yup, h]
theorem yup_na {m : yM} {a k b j : Nat} {v : Int} (h : b ≠ a) : yup m a k v b j = m b j := by simp [yup, h]
theorem yup_nk {m : yM} {a k b j : Nat} {v : Int} (h : j ≠ k) : yup m a k v b j = m b j := by simp [yup, h]
/-- one of some references: the x-th, else null -/
def ysv (l : List Nat) (x : Int) : Value := if x < 0 then .null else match l[x.toNat]? with
  | some a => .ref a
  | none => .null
def yslv (s : ySl) (x : Int) : Value := match s with
  | .inl _ => yI x
  | .inr (.inl a) => .ref a
  | .inr (.inr l) => ysv l x
def yCell (s : ySh) (f : Nat → Int) (c : xC) : Prop := match s with
  | .inl (t, k) => ∃ g : Nat → Int32, c = .inl (t, k, .inl g) ∧ ∀ j, j < k → g j = Int32.ofInt (f j)
  | .inr (.inl k) => ∃ g : Nat → Int64, c = .inl (5, k, .inr (.inl g)) ∧ ∀ j, j < k → g j = Int64.ofInt (f j)
  | .inr (.inr (.inl (t, k, b))) => ∃ g : Nat → Option Nat, c = .inl (t, k, .inr (.inr (.inr (.inr g)))) ∧ ∀ j, j < k → g j = some (b + j)
  | .inr (.inr (.inr (ci, sl))) => ∃ vs : List Value, c = .inr (ci, vs) ∧ vs.length = sl.length ∧ ∀ (j : Nat) (x : ySl), sl[j]? = some x → vs[j]? = some (yslv x (f j))
/-- the heap h holds the memory m; it has n cells -/
def yLay (Z : yZ) (m : yM) (n : Nat) (h : xH) : Prop := h.length = n ∧ zN Z ≤ n ∧ xsz h ≤ zC Z + 6 * n ∧ ∀ a, a < zN Z → ∃ c, h[a]? = some c ∧ yCell (zSh Z a) (m a) c
theorem yLay.set {Z : yZ} {m : yM} {n : Nat} {h : xH} (hl : yLay Z m n h) {a k : Nat} {v : Int} {c c' : xC} (hc : h[a]? = some c) (e : xcz c' = xcz c) (hc' : yCell (zSh Z a) (yup m a k v a) c') : yLay Z (yup m a k v) n (h.set a c') := by
  obtain ⟨h1, h2, h3, h4⟩ := hl
  have hal : a < h.length := (List.getElem?_eq_some_iff.mp hc).1
  refine ⟨by simpa using h1, h2, by rw [xsz_set hc e]; exact h3, fun b hb => ?_⟩
  by_cases hab : a = b
  · subst hab
    exact ⟨c', by rw [List.getElem?_set_self hal], hc'⟩
  · obtain ⟨c2, e2, k2⟩ := h4 b hb
    refine ⟨c2, by rw [List.getElem?_set_ne hab]; exact e2, ?_⟩
    have : yup m a k v b = m b := funext fun j => yup_na (fun q => hab q.symm)
    rw [this]
    exact k2
theorem yLay.app {Z : yZ} {m : yM} {n : Nat} {h : xH} (hl : yLay Z m n h) (e : Nat) : yLay Z m (n + 1) (h ++ [.inr (e, List.replicate 6 .null)]) := by
  obtain ⟨h1, h2, h3, h4⟩ := hl
  refine ⟨by simp [h1], by omega, ?_, fun b hb => ?_⟩
  · rw [xsz_app]
    have : xcz (.inr (e, List.replicate 6 Value.null)) = 6 := rfl
    omega
  · obtain ⟨c2, e2, k2⟩ := h4 b hb
    refine ⟨c2, ?_, k2⟩
    rw [List.getElem?_append_left (by omega)]
    exact e2
/-- from here the run of the method i ends so that Q holds -/
def YW (Z : yZ) (i d pc : Nat) (ls : xL) (st : List Value) (m : yM) (n : Nat) (Q : xO → yM → Nat → Prop) : Prop := ∀ h, yLay Z m n h → ∃ r h' m' n', XR (zStp Z) (zP Z) (zMx Z) (zHd Z) d i pc ls st h (r, h') ∧ yLay Z m' n' h' ∧ Q r m' n'
/-- a call of the method j ends so that Q holds -/
def YC (Z : yZ) (d j : Nat) (as : List Value) (m : yM) (n : Nat) (Q : xO → yM → Nat → Prop) : Prop := ∀ h, yLay Z m n h → ∃ r h' m' n', XCl (zStp Z) (zP Z) (zMx Z) (zHd Z) d j as h (r, h') ∧ yLay Z m' n' h' ∧ Q r m' n'
/-- what a place of an object is -/
def yfld (sh : Nat → ySh) (N : Nat) (a q ci : Nat) : Option ySl := if a < N then (match sh a with
  | .inr (.inr (.inr (c, sl))) => if c = ci then sl[q]? else none
  | _ => none) else none
/-- an array of ints: its type, its length -/
def yarr (sh : Nat → ySh) (N : Nat) (a : Nat) : Option (Nat × Nat) := if a < N then (match sh a with
  | .inl (t, k) => if k ≤ 100000 then some (t, k) else none
  | _ => none) else none
def ylar (sh : Nat → ySh) (N : Nat) (a : Nat) : Option Nat := if a < N then (match sh a with
  | .inr (.inl k) => if k ≤ 100000 then some k else none
  | _ => none) else none
/-- an array of references: its length, the first one -/
def yrow (sh : Nat → ySh) (N : Nat) (a : Nat) : Option (Nat × Nat) := if a < N then (match sh a with
  | .inr (.inr (.inl (t, k, b))) => if 6 ≤ t ∧ t < 12 ∧ k ≤ 100000 then some (k, b) else none
  | _ => none) else none
/-- an object: its number -/
def yobj (sh : Nat → ySh) (N : Nat) (a : Nat) : Option Nat := if a < N then (match sh a with
  | .inr (.inr (.inr (c, _))) => some c
  | _ => none) else none
section YB
variable {Z : yZ} {m : yM} {n : Nat} {h : xH}
theorem yLay.fld (hl : yLay Z m n h) {a q ci : Nat} {s : ySl} (hf : yfld (zSh Z) (zN Z) a q ci = some s) : ∃ vs : List Value, h[a]? = some (.inr (ci, vs)) ∧ vs[q]? = some (yslv s (m a q)) ∧ ∃ sl : List ySl, zSh Z a = .inr (.inr (.inr (ci, sl))) ∧ sl[q]? = some s ∧ vs.length = sl.length ∧ (∀ (j : Nat) (x : ySl), sl[j]? = some x → vs[j]? = some (yslv x (m a j))) := by
  unfold yfld at hf
  split at hf
  · rename_i ha
    obtain ⟨c, hc, kc⟩ := hl.2.2.2 a ha
    split at hf
    · rename_i c0 sl hs
      split at hf
      · rename_i hci
        subst hci
        rw [hs] at kc
        obtain ⟨vs, rfl, k1, k2⟩ := kc
        exact ⟨vs, hc, k2 q s hf, sl, hs, hf, k1, k2⟩
      · cases hf
    · cases hf
  · cases hf
theorem yLay.arr (hl : yLay Z m n h) {a t k : Nat} (hf : yarr (zSh Z) (zN Z) a = some (t, k)) : k ≤ 100000 ∧ zSh Z a = .inl (t, k) ∧ ∃ g : Nat → Int32, h[a]? = some (.inl (t, k, .inl g)) ∧ ∀ j, j < k → g j = Int32.ofInt (m a j) := by
  unfold yarr at hf
  split at hf
  · rename_i ha
    obtain ⟨c, hc, kc⟩ := hl.2.2.2 a ha
    split at hf
    · rename_i t0 k0 hs
      split at hf
      · rename_i hk
        cases hf
        rw [hs] at kc
        obtain ⟨g, rfl, k2⟩ := kc
        exact ⟨hk, hs, g, hc, k2⟩
      · cases hf
    · cases hf
  · cases hf
theorem yLay.lar (hl : yLay Z m n h) {a k : Nat} (hf : ylar (zSh Z) (zN Z) a = some k) : k ≤ 100000 ∧ zSh Z a = .inr (.inl k) ∧ ∃ g : Nat → Int64, h[a]? = some (.inl (5, k, .inr (.inl g))) ∧ ∀ j, j < k → g j = Int64.ofInt (m a j) := by
  unfold ylar at hf
  split at hf
  · rename_i ha
    obtain ⟨c, hc, kc⟩ := hl.2.2.2 a ha
    split at hf
    · rename_i k0 hs
      split at hf
      · rename_i hk
        cases hf
        rw [hs] at kc
        obtain ⟨g, rfl, k2⟩ := kc
        exact ⟨hk, hs, g, hc, k2⟩
      · cases hf
    · cases hf
  · cases hf
theorem yLay.row (hl : yLay Z m n h) {a b k : Nat} (hf : yrow (zSh Z) (zN Z) a = some (k, b)) : k ≤ 100000 ∧ ∃ (t : Nat) (g : Nat → Option Nat), 6 ≤ t ∧ t < 12 ∧ h[a]? = some (.inl (t, k, .inr (.inr (.inr (.inr g))))) ∧ ∀ j, j < k → g j = some (b + j) := by
  unfold yrow at hf
  split at hf
  · rename_i ha
    obtain ⟨c, hc, kc⟩ := hl.2.2.2 a ha
    split at hf
    · rename_i t0 k0 b0 hs
      split at hf
      · rename_i hk
        cases hf
        rw [hs] at kc
        obtain ⟨g, rfl, k2⟩ := kc
        exact ⟨hk.2.2, t0, g, hk.1, hk.2.1, hc, k2⟩
      · cases hf
    · cases hf
  · cases hf
theorem yLay.obj (hl : yLay Z m n h) {a ci : Nat} (hf : yobj (zSh Z) (zN Z) a = some ci) : ∃ vs : List Value, h[a]? = some (.inr (ci, vs)) := by
  unfold yobj at hf
  split at hf
  · rename_i ha
    obtain ⟨c, hc, kc⟩ := hl.2.2.2 a ha
    split at hf
    · rename_i c0 sl hs
      cases hf
      rw [hs] at kc
      obtain ⟨vs, rfl, -⟩ := kc
      exact ⟨vs, hc⟩
    · cases hf
  · cases hf
theorem y_in {x : Int} {k : Nat} (hk : k ≤ 100000) (h0 : 0 ≤ x) (h1 : x < k) : xin (Int32.ofInt x) k = true ∧ (Int32.ofInt x).toNatClampNeg = x.toNat := by
  have e : (Int32.ofInt x).toNatClampNeg = x.toNat := Int32.toNatClampNeg_ofInt_of_le (by omega) (by omega)
  refine ⟨?_, e⟩
  unfold xin
  rw [e]
  have h2 : ¬ (Int32.ofInt x < 0) := by
    rw [Int32.lt_iff_toInt_lt, Int32.toInt_ofInt_of_le (by omega) (by omega)]
    simp
    exact h0
  simp only [decide_eq_true_eq]
  rintro (q | q)
  · exact h2 q
  · omega
end YB

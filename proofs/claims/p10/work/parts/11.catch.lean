/-! AN EXCEPTION OUT OF A CALL: through the caller, or caught in it -/
/-- by these rows of handlers an exception of the class X that comes out of the call at pc is caught, and the method goes on at q -/
def xokH (Ts : List Cond) (own : String) (nc : List (String × String)) (ns : List String) (pc : Nat) (X : String) (q : Nat) : List (Nat × Nat × Nat × Nat) → Prop
  | [] => False
  | y :: t => (¬ (y.1 ≤ pc ∧ pc < y.2.1) ∧ xokH Ts own nc ns pc X q t) ∨ ((y.1 ≤ pc ∧ pc < y.2.1) ∧ y.2.2.2 ≠ 0 ∧ ((y.2.2.1 = q ∧ Cond.classLink own y.2.2.2 X ∈ Ts) ∨ ((∃ nm ∈ ns, Cond.classLink own y.2.2.2 nm ∈ Ts ∧ (X, nm) ∈ nc) ∧ xokH Ts own nc ns pc X q t)))
section XCATCH
variable {p : Program} {l : Launch} {e : Env} {R : Room} {s : State} {m : MethodId} {args : Array Value} {below : List Frame} {meth : Method} {c : Code} {Q : State → Prop}
variable {b base : Nat} {ta : (Nat → Nat) × Option Nat} {dA : Nat → ClassId} {D : va_G} {cl : List vw_C} {n0 z0 : Nat} {cc : ByteArray} {pc q : Nat} {ls : xL} {st : List Value} {h : xH}
variable {Ts : List Cond} {ty : Nat → FieldType} {own : String} {ini : Bool} {L : Nat} {xs : Nat → Int32} {nc : List (String × String)} {ns : List String} {lit : List (List Int32)} {ldcs : List (String × Nat × String × Nat)}
/-- no handler covers the call: the exception leaves the caller too -/
theorem xt_out {ei a : Nat} (hlocks : meth.locks = false) (hno : ∀ x ∈ c.exceptionTable.toList, covers x pc = false) : XT p l e R s m args below meth c (XQ below s b base ta dA D cl n0 z0 (.inr (ei, a)) h) b base ta dA D cl n0 z0 pc ls st h a := by
  intro H locs rl g1 g2 g3 g4 T hT X
  obtain ⟨a1, a2, a3, a4, a5⟩ := X.leaveThrown (base + a) (g := F0 m pc rl (st.map (xv b base ta))) rfl rfl rfl hno hlocks
  refine ⟨_, a1, .threw (base + a), locs, a2, a3, a4, a5, ?_, ?_, ?_, rfl⟩
  · show T.heap.size = _
    rw [hT]; exact g2
  · show va_P D cl _ T.heap
    rw [hT]; exact g3
  · show va_S _ s.heap T.heap locs
    rw [hT]; exact g4
theorem xokH_split {X : String} (hpl : e.platform.magicAccessors = ({} : Platform).magicAccessors) (hown : s.vm.findClass own = some m.cls) (hts : ∀ w ∈ Ts, w.before args s = true) (hV : XV nc s) {cX : ClassId} (hX : s.vm.findClass X = some cX) :
    ∀ (es : List ExceptionTableEntry), xokH Ts own nc ns pc X q (es.map (fun h => (h.startPc, h.endPc, h.handlerPc, h.catchType))) → ∃ pre x rest, es = pre ++ x :: rest ∧ (∀ y ∈ pre, RowPassed e.platform s m.cls pc cX y) ∧ covers x pc = true ∧ x.handlerPc = q ∧ x.catchType ≠ 0 ∧ (Cond.classLink own x.catchType X).before args s = true := by
  intro es
  induction es with
  | nil => intro h; cases h
  | cons y t ih =>
    intro h
    rcases h with ⟨h1, h2⟩ | ⟨h1, h2, h3⟩
    · obtain ⟨pre, x, rest, e1, e2, e3⟩ := ih h2
      refine ⟨y :: pre, x, rest, by rw [e1]; rfl, fun z hz => ?_, e3⟩
      rcases List.mem_cons.mp hz with rfl | hz
      · refine Or.inl ?_
        unfold covers
        have h1 : ¬ (z.startPc ≤ pc ∧ pc < z.endPc) := h1
        simp only [Bool.and_eq_false_imp, decide_eq_true_eq, decide_eq_false_iff_not]
        exact fun h9 h8 => h1 ⟨h9, h8⟩
      · exact e2 z hz
    · have hcov : covers y pc = true := by
        have h1 : y.startPc ≤ pc ∧ pc < y.endPc := h1
        unfold covers
        simp [h1.1, h1.2]
      rcases h3 with ⟨h4, h5⟩ | ⟨⟨nm, -, h5, h6⟩, h7⟩
      · exact ⟨[], y, t, rfl, (fun z hz => by cases hz), hcov, h4, h2, hts _ h5⟩
      · obtain ⟨pre, x, rest, e1, e2, e3⟩ := ih h7
        refine ⟨y :: pre, x, rest, by rw [e1]; rfl, fun z hz => ?_, e3⟩
        rcases List.mem_cons.mp hz with rfl | hz
        · exact RowPassed.of_words hpl hown h2 (hts _ h5) hX (hV _ h6 args s (State.WarmedH.refl s))
        · exact e2 z hz
/-- a handler takes it -/
theorem xt_catch {ei a : Nat} {fs : List Value} {r : vw_C} (F : XF p s m args meth c b base dA D cl Ts ty L xs ta lit ldcs cc own ini) (hV : XV nc s) (hr : cl[ei]? = some r) (ha : h[a]? = some (.inr (ei, fs))) {hdl : List (Nat × Nat × Nat × Nat)} (hh : c.exceptionTable.toList.map (fun h => (h.startPc, h.endPc, h.handlerPc, h.catchType)) = hdl) (hok : xokH Ts own nc ns pc r.1 q hdl)
    (hn : n0 ≤ h.length) (hz : z0 ≤ xsz h) (K : XK p l e R s m args below meth c Q b base ta dA D cl n0 z0 q ls [.ref a] h) : XT p l e R s m args below meth c Q b base ta dA D cl n0 z0 pc ls st h a := by
  obtain ⟨hx, hb, hown, hts, hK, hA, hX, hbl, hbs, hini, hTx⟩ := F
  intro H locs rl g1 g2 g3 g4 T hT X
  have hpl : e.platform.magicAccessors = ({} : Platform).magicAccessors := by rw [X.admits.platform]
  have hcls := (hK.1 ei r hr).2
  subst hh
  obtain ⟨pre, x, rest, e1, e2, e3, e4, e5, e6⟩ := xokH_split (args := args) (m := m) hpl hown hts hV hcls.1 _ hok
  obtain ⟨r', hr', cell, c1, c2, c3, -⟩ := g3 a _ (xws_get ha)
  have hcat := X.catches_of_link hown e5 e6 hcls.1 (va_assign hcls)
  rw [← c2] at hcat e2
  obtain ⟨vm', X', st'⟩ := X.caughtThrough (base + a) (g := F0 m pc rl (st.map (xv b base ta))) rfl (by rw [hT]; exact c1) (by rw [c3]; rfl) hcat.2 pre x rest e1 e2 e3 hcat.1
  obtain ⟨t, a1, b1⟩ := K hn hz H locs rl g1 g2 g3 g4 (T.setVm vm') hT X'
  refine ⟨t, ?_, b1⟩
  rw [X.pushThrowing_eq]
  refine st' t ?_
  rw [e4]
  exact a1
end XCATCH

/-! A THROW -/
section XREBASE
variable {p : Program} {l : Launch} {e : Env} {R : Room} {s : State} {m : MethodId} {args : Array Value} {below : List Frame} {meth : Method} {c : Code} {T : State} {locs : List Loc} {cells slots : Nat}
/-- the same walk, as if the invocation had begun in its present state -/
theorem xrebase (X : Stand p l e R s m args below meth c T locs cells slots) (hc : cells ≤ R.cells) (hs : slots ≤ R.slots) : Stand p l e { frames := R.frames, cells := R.cells - cells, slots := R.slots - slots, locals := R.locals } (T.setFrames (.invoking m args :: below)) m args below meth c T [] 0 0 := by
  obtain ⟨g₀, hfr⟩ := X.frames_eq
  have hcur : T.cur < T.threads.size := State.cur_lt_of_frames hfr
  have hf : (T.setFrames (.invoking m args :: below)).frames = .invoking m args :: below := State.frames_setFrames _ hcur
  have hm : T.vm.method? m = some meth := X.method'
  have hr := X.room
  simp only [State.hasRoom, Bool.and_eq_true, decide_eq_true_eq] at hr
  obtain ⟨⟨⟨⟨r1, r2, r3, r4, r5, r6⟩, r7⟩, r8⟩, r9⟩ := hr
  rw [State.localsInUse_invoking X.frames X.method X.code] at r1 r4 r5
  rw [X.frames] at r2 r3
  refine ⟨X.admits, X.cas, X.clock, hf, ?_, ?_, hm, X.code, X.here, X.tail, State.WarmedH.refl _, (State.stackLimits_setFrames _ _ _).symm, (State.stackBytes_setFrames _ _).symm, ?_⟩
  · simp only [State.hasRoom, Bool.and_eq_true, decide_eq_true_eq]
    rw [State.localsInUse_invoking hf hm X.code, hf, State.stackLimits_setFrames, State.stackBytes_setFrames, X.limits, X.bytes]
    have h1 := X.heapSize
    have h2 := X.used
    refine ⟨⟨⟨⟨r1, r2, r3, r4, r5, r6⟩, ?_⟩, ?_⟩, X.book⟩
    · show T.heap.size + (R.cells - cells) ≤ _
      omega
    · show T.slotsUsed + (R.slots - slots) ≤ _
      omega
  · have hh := X.hears
    cases below with
    | nil =>
      simp only [State.hears] at hh ⊢
      show (T.vm.method? m).any _ = true
      rw [X.warmed.alike.method?]
      exact hh
    | cons f r =>
      cases f with
      | java g =>
        simp only [State.hears] at hh ⊢
        have e1 : (T.setFrames (.invoking m args :: .java g :: r)).code? g.method = s.code? g.method := by
          rw [State.code?_eq, State.code?_eq]
          show (T.vm.method? g.method).bind _ = _
          rw [X.warmed.alike.method?]
        rw [e1]
        exact hh
      | native g => rfl
      | proc g => rfl
      | _ =>
        simp only [State.hears] at hh ⊢
        show (T.vm.method? m).any _ = true
        rw [X.warmed.alike.method?]
        exact hh
  · obtain ⟨th, hth, -⟩ := State.frames_cons hf
    obtain ⟨th0, hth0, -⟩ := State.frames_cons hfr
    have h := (State.sameButNew.refl (T.setFrames (.invoking m args :: below)) hth).setFrames T.frames (State.cur_lt_of_frames hf)
    rw [State.setFrames_setFrames, State.setFrames_self hth0] at h
    exact h
end XREBASE

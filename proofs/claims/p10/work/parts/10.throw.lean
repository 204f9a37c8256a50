/-! A THROW -/
section XREBASE
variable {p : Program} {l : Launch} {e : Env} {R : Room} {s : State} {m : MethodId} {args : Array Value} {below : List Frame} {meth : Method} {c : Code} {T : State} {locs : List Loc} {cells slots : Nat}
/-- the same walk, as if the invocation had begun in its present state -/
theorem xrebase (X : Stand p l e R s m args below meth c T locs cells slots) (hc : cells ≤ R.cells) (hs : slots ≤ R.slots) : Stand p l e { frames := R.frames, cells := R.cells - cells, slots := R.slots - slots, locals := R.locals } (T.setFrames (.invoking m args :: below)) m args below meth c T [] 0 0 := by
  obtain ⟨g₀, hfr⟩ := X.frames_eq
  have hcur : T.cur < T.threads.size := State.cur_lt_of_frames hfr
  have hf : (T.setFrames (.invoking m args :: below)).frames = .invoking m args :: below := State.frames_setFrames _ hcur
  have hm : T.vm.method? m = some meth := X.method'
  have hr := X.room
  simp only [State.hasRoom, Bool.and_eq_true, decide_eq_true_eq] at hr
  obtain ⟨⟨⟨⟨r1, r2, r3, r4, r5, r6⟩, r7⟩, r8⟩, r9⟩ := hr
  rw [State.localsInUse_invoking X.frames X.method X.code] at r1 r4 r5
  rw [X.frames] at r2 r3
  refine ⟨X.admits, X.cas, X.clock, hf, ?_, ?_, hm, X.code, X.here, X.tail, State.WarmedH.refl _, (State.stackLimits_setFrames _ _ _).symm, (State.stackBytes_setFrames _ _).symm, ?_⟩
  · simp only [State.hasRoom, Bool.and_eq_true, decide_eq_true_eq]
    rw [State.localsInUse_invoking hf hm X.code, hf, State.stackLimits_setFrames, State.stackBytes_setFrames, X.limits, X.bytes]
    have h1 := X.heapSize
    have h2 := X.used
    refine ⟨⟨⟨⟨r1, r2, r3, r4, r5, r6⟩, ?_⟩, ?_⟩, X.book⟩
    · show T.heap.size + (R.cells - cells) ≤ _
      omega
    · show T.slotsUsed + (R.slots - slots) ≤ _
      omega
  · have hh := X.hears
    cases below with
    | nil =>
      simp only [State.hears] at hh ⊢
      show (T.vm.method? m).any _ = true
      rw [X.warmed.alike.method?]
      exact hh
    | cons f r =>
      cases f with
      | java g =>
        simp only [State.hears] at hh ⊢
        have e1 : (T.setFrames (.invoking m args :: .java g :: r)).code? g.method = s.code? g.method := by
          rw [State.code?_eq, State.code?_eq]
          show (T.vm.method? g.method).bind _ = _
          rw [X.warmed.alike.method?]
        rw [e1]
        exact hh
      | native g => rfl
      | proc g => rfl
      | _ =>
        simp only [State.hears] at hh ⊢
        show (T.vm.method? m).any _ = true
        rw [X.warmed.alike.method?]
        exact hh
  · obtain ⟨th, hth, -⟩ := State.frames_cons hf
    obtain ⟨th0, hth0, -⟩ := State.frames_cons hfr
    have h := (State.sameButNew.refl (T.setFrames (.invoking m args :: below)) hth).setFrames T.frames (State.cur_lt_of_frames hf)
    rw [State.setFrames_setFrames, State.setFrames_self hth0] at h
    exact h
end XREBASE
/-- the linked throw o stands for 'throw new E()' at pc: its first number: the constructor's entry; then E's class; then the entry of 'new' -/
def xokT (Ts : List Cond) (cl : List vw_C) (own : String) (cc : ByteArray) (pc : Nat) (o : xI) : Prop := match o with
  | (.athrow, ic, ei, ix) => decode cc pc = .ok (.new ix, 3) ∧ decode cc (pc + 3) = .ok (.dup, 1) ∧ decode cc (pc + 3 + 1) = .ok (.invokespecial ic, 3) ∧ decode cc (pc + 3 + 1 + 3) = .ok (.athrow, 1) ∧
    ∃ r ∈ (cl[ei]?).toList, r.2.2 = 0 ∧ Cond.classLink own ix r.1 ∈ Ts ∧ Cond.initialized r.1 ∈ Ts ∧ Cond.instantiable r.1 6 ∈ Ts ∧ Bundle.fit r.1 = true ∧ ∀ w ∈ Bundle.ownAtoms0 own ic r.1 ["java/lang/RuntimeException", "java/lang/Exception"], w ∈ Ts ∨ w ∈ xU4
  | _ => False
section XTHROW
variable {p : Program} {l : Launch} {e : Env} {R : Room} {s : State} {m : MethodId} {args : Array Value} {below : List Frame} {meth : Method} {c : Code}
variable {b base : Nat} {ta : (Nat → Nat) × Option Nat} {dA : Nat → ClassId} {D : va_G} {cl : List vw_C} {n0 z0 : Nat} {cc : ByteArray} {pc : Nat} {ls : xL} {st : List Value} {h h' : xH} {r : xO}
variable {Ts : List Cond} {ty : Nat → FieldType} {own : String} {ini : Bool}
variable {nf : Nat → List Value} {L : Nat} {xs : Nat → Int32} {mc : Nat → Option Nat} {lit : List (List Int32)} {ldcs : List (String × Nat × String × Nat)}
set_option maxHeartbeats 1000000 in
theorem xs_throw {ic ei ix : Nat} (F : XF p s m args meth c b base dA D cl Ts ty L xs ta lit ldcs cc own ini) (hG : ∀ w ∈ Ts, xgw w = true) (hU : XU base s) (htr : e.platform.stackTraces = false) (hlocks : meth.locks = false) (hno : c.exceptionTable.toList = []) (hsz : ls.length = c.maxLocals)
    (hok : xokT Ts cl own cc pc (.athrow, ic, ei, ix)) (hs : xstep nf L xs lit mc (.athrow, ic, ei, ix) pc ls st h = some (.inr (.inl (r, h')))) (hfr : 8 ≤ R.frames) (hlo : 200 ≤ R.locals) (hR : h'.length - n0 ≤ R.cells ∧ xsz h' - z0 ≤ R.slots) :
    XK p l e R s m args below meth c (XQ below s b base ta dA D cl n0 z0 r h') b base ta dA D cl n0 z0 pc ls st h := by
  obtain ⟨hx, hb, hown, hts, hK, hA, hX, hbl, hbs, hini, hTx⟩ := F
  obtain ⟨d0, d3, d4, d7, q, hq, hq0, w1, w2, w3, hfit, hat⟩ := hok
  have hq : cl[ei]? = some q := by simpa using hq
  simp only [xstep] at hs
  split at hs
  · rename_i hw8
    cases hs
    intro hn hz H locs rl g1 g2 g3 g4 T hT X
    have hl1 : (h ++ [(.inr (ei, List.replicate 6 .null) : xC)]).length = h.length + 1 := by simp
    have hz1 : xsz (h ++ [(.inr (ei, List.replicate 6 .null) : xC)]) = xsz h + 6 := by rw [xsz_app]; rfl
    rw [hl1, hz1] at hR
    have hW2 : s.WarmedH (T.setFrames (.invoking m args :: below)).vm := X.warmed
    have X2 := xrebase X (by omega) (by omega)
    generalize hs2 : T.setFrames (.invoking m args :: below) = s2 at X2 hW2
    have hh2 : s2.heap = H := by rw [← hs2]; exact hT
    have hts2 : ∀ w ∈ Ts, w.before args s2 = true := fun w hw => xgw_at hW2 (hG w hw) (hts w hw)
    have hU2 : XU base s2 := hU.go hW2 (fun q hq => by rw [hh2]; exact g4.2.1 q (Nat.lt_of_lt_of_le hq hbs) (Nat.not_le.mpr hq))
    have hown2 : s2.vm.findClass own = some m.cls := by rw [hW2.alike.findClass]; exact hown
    rw [← hb] at d0 d3 d4 d7
    obtain ⟨vm1, cC, kC, f1, f2, f3, f4, X3, st3⟩ := X2.newCold hx hown2 (hts2 _ w1) (hts2 _ w3) (hts2 _ w2) (g := F0 m pc rl (st.map (xv b base ta))) rfl d0 (by show 0 + 1 ≤ R.cells - _; omega) (by show 0 + 6 ≤ R.slots - _; omega)
    have hWd : W p l e { frames := R.frames, cells := R.cells - (h.length - n0), slots := R.slots - (xsz h - z0), locals := R.locals } s2 m args below meth c ((T.setVm vm1).pushCell { cls := cC, slots := kC.instanceTypes.map defaultValue, vm := .none }).heap [] (0 + 1) (0 + 6)
        (fun U => U.status = .running ∧ Ended U below (.threw H.size) ∧ s2.WarmedH U.vm ∧ s2.sameButNew ({ U with vm := s2.vm } : State) [] (0 + 1) (0 + 6) ∧ ∃ ce, U.heap[H.size]? = some ce ∧ Bundle.OwnCell args s2 q.1 H.size .null ce) (F0 m (pc + 3) rl (.ref H.size :: st.map (xv b base ta))) := by
      refine lv_dup hx rfl d3 rfl ?_
      intro T4 hT4 X4
      obtain ⟨U, a1, a2, a3, a4, a5, a6⟩ := X4.ctorThrow0 hx htr (own := own) (cls := q.1) (names := ["java/lang/RuntimeException", "java/lang/Exception"]) (ic := ic) hown2 hfit (by decide +kernel) (fun w hw => by
          rcases hat w hw with h9 | h9
          · exact hts2 w h9
          · exact hU2 args s2 (State.WarmedH.refl _) (fun _ _ => rfl) w h9) (fun x hx9 => by cases hx9) (a := H.size) f1 f2 (by rw [hT4, ← hT]; simp [State.pushCell, State.setVm]) (by rw [hh2]; exact Nat.le_refl _)
        (g := F0 m (pc + 3 + 1) rl (.ref H.size :: .ref H.size :: st.map (xv b base ta))) rfl (by show rl.size = _; rw [g1.1, hsz]) rfl rfl rfl d4 d7 (by rw [hno]; exact fun x hx9 => by cases hx9) (by show 2 + 3 < R.frames; omega) (by
          show 2 * 0 + _ + (13 * (2 + 1) + 41) ≤ R.locals
          rw [List.map_cons, List.sum_cons, xw_map]
          show 2 * 0 + (1 + xw st) + _ ≤ _
          omega) hlocks
      exact ⟨U, a1, a2, a3, a4, a5, a6⟩
    obtain ⟨U, st4, a2, a3, a4, a5, ce, a6, a7⟩ := hWd _ rfl X3
    have hsz2 : U.heap.size = H.size + 1 := by
      have e1 : U.heap.size ≤ s2.heap.size + (0 + 1) := a5.2.2.1
      have e2 := (Array.getElem?_eq_some_iff.mp a6).1
      rw [hh2] at e1
      omega
    have hold : ∀ x, x < H.size → U.heap[x]? = H[x]? := by
      intro x hx9
      obtain ⟨c9, hc9⟩ : ∃ c9, H[x]? = some c9 := ⟨_, Array.getElem?_eq_getElem hx9⟩
      obtain ⟨c8, q1, q2, q3, q4⟩ := a5.2.2.2.2.2 x c9 (by rw [hh2]; exact hc9)
      have q1 : U.heap[x]? = some c8 := q1
      rw [q1, hc9]
      have e3 : c8.slots = c9.slots := by
        apply Array.ext_getElem?
        intro i
        exact q4 i (by simp)
      rw [q2, e3]
    have hWU : s.WarmedH U.vm := State.WarmedH.trans hW2 a4
    have hP : va_P D cl (xws b base ta dA (h ++ [.inr (ei, List.replicate 6 .null)])) U.heap := by
      rw [xws_app]
      refine (g3.kept (fun k q hk => hold q.1 ((g3 k q hk).lt))).app (fun k q9 hk => ?_)
      have hz9 : k < 1 := (List.getElem?_eq_some_iff.mp hk).1
      rw [show k = 0 by omega] at hk
      cases hk
      refine ⟨q, hq, ce, by rw [← g2]; exact a6, ?_, a7.vm, fun k hk => ?_⟩
      · have e4 := a7.cls
        rw [hW2.alike.findClass, (hK.1 ei q hq).2.1] at e4
        exact (Option.some.inj e4).symm
      · rw [hq0] at hk
        exact absurd hk (Nat.not_lt_zero _)
    have hTU : T.sameButNew ({ U with vm := T.vm } : State) [] (0 + 1) (0 + 6) := by
      rw [← hs2] at a5
      obtain ⟨b1, b2⟩ := a5
      refine ⟨?_, b2⟩
      rw [State.setFrames_setFrames] at b1
      exact b1
    refine ⟨U, st3 U (by rw [hT]; exact st4), .threw (base + h.length), locs ++ [], a2, by rw [← g2]; exact a3, hWU, ?_, by rw [hsz2, g2, hl1]; omega, hP, ⟨by rw [hsz2]; have := g4.1; omega, fun x hx9 hA9 => (hold x (Nat.lt_of_lt_of_le hx9 g4.1)).trans (g4.2.1 x hx9 hA9), fun x hx9 => g4.2.2 x (by simpa using hx9)⟩, rfl⟩
    have e5 := X.same.trans (hTU.setVm s.vm)
    rw [hl1, hz1, show h.length + 1 - n0 = h.length - n0 + (0 + 1) by omega, show xsz h + 6 - z0 = xsz h - z0 + (0 + 6) by omega]
    exact e5
  · cases hs
end XTHROW

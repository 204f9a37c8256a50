/-! A CALL AS A WHOLE: into the callee by its own run, and out of it, returned or thrown -/
theorem xsteps_down {tb : Tables} {e : Env} {g : Frame} {below : List Frame} {s t : State} (h : Steps tb e (g :: below) s t) : Steps tb e below s t := by
  obtain ⟨n, h1, h2⟩ := h
  exact ⟨n, h1, fun k hk => Within.weaken (mid := [g]) (h2 k hk)⟩
/-- what a throw asks of Throwable's two statics -/
def xU4 : List Cond := [.isRef (.static Bundle.tN "UNASSIGNED_STACK" Bundle.steD), .isRef (.static Bundle.tN "SUPPRESSED_SENTINEL" Bundle.listD), .laysStatic Bundle.tN "UNASSIGNED_STACK" Bundle.steD, .laysStatic Bundle.tN "SUPPRESSED_SENTINEL" Bundle.listD]
/-- it holds now, and in every later state that keeps what lies below base -/
def XU (base : Nat) (s : State) : Prop := ∀ (a' : Array Value) (U : State), s.WarmedH U.vm → (∀ q, q < base → U.heap[q]? = s.heap[q]?) → ∀ c ∈ xU4, c.before a' U = true
theorem XU.go {base : Nat} {s U : State} (h : XU base s) (hW : s.WarmedH U.vm) (hq : ∀ q, q < base → U.heap[q]? = s.heap[q]?) : XU base U := fun a' V hV hv => h a' V (State.WarmedH.trans hW hV) (fun q hl => (hv q hl).trans (hq q hl))
/-- pairs of classes of which the first can't be cast to the second: now, and in every later state -/
def XV (nc : List (String × String)) (s : State) : Prop := ∀ q ∈ nc, ∀ (a' : Array Value) (U : State), s.WarmedH U.vm → (Cond.not (.castable q.1 q.2)).before a' U = true
theorem XV.go {nc : List (String × String)} {s U : State} (h : XV nc s) (hW : s.WarmedH U.vm) : XV nc U := fun q hq a' V hV => h q hq a' V (State.WarmedH.trans hW hV)
section XENTRY
variable (p : Program) (l : Launch) (e : Env) (b base : Nat) (ta : (Nat → Nat) × Option Nat) (lit : List (List Int32)) (ldcs : List (String × Nat × String × Nat)) (dA : Nat → ClassId) (D : va_G) (cl : List vw_C) (Ts : List Cond) (ty : Nat → FieldType) (L : Nat) (xs : Nat → Int32)
variable (yM : Nat → MethodName) (cM : Nat → ByteArray) (mx : Nat → Nat) (rM : Nat → Option FieldType) (hM : Nat → List (Nat × Nat × Nat × Nat)) (nc : List (String × String))
/-- what holds at the entry of the method j -/
def XE (s : State) (m : MethodId) (args : Array Value) (meth : Method) (c : Code) (j : Nat) : Prop :=
  XF p s m args meth c b base dA D cl Ts ty L xs ta lit ldcs (cM j) (yM j).cls (decide ((yM j).name = "<init>")) ∧ meth.sig.returnType = rM j ∧ meth.locks = false ∧ c.maxLocals = mx j ∧ c.exceptionTable.toList.map (fun h => (h.startPc, h.endPc, h.handlerPc, h.catchType)) = hM j ∧ XU base s ∧ XV nc s
/-- the method j, called with the arguments as on the heap h, ends so: r, h'; d: the frames that it may lay -/
def XGood (d j : Nat) (as : List Value) (h : xH) (r : xO) (h' : xH) : Prop :=
  ∀ (R : Room) (s : State) (m : MethodId) (below : List Frame) (meth : Method) (c : Code), XE p b base ta lit ldcs dA D cl Ts ty L xs yM cM mx rM hM nc s m (as.map (xv b base ta)).toArray meth c j → d + 8 ≤ R.frames → 64 * d + 200 ≤ R.locals → h'.length - h.length ≤ R.cells → xsz h' - xsz h ≤ R.slots → s.heap.size = base + h.length → va_P D cl (xws b base ta dA h) s.heap →
    W p l e R s m (as.map (xv b base ta)).toArray below meth c s.heap [] 0 0 (XQ below s b base ta dA D cl h.length (xsz h) r h') (entryFrame m (as.map (xv b base ta)).toArray (mx j))
/-- what holds of the methods' tables: their code is the tables' -/
def XMt : Prop := (∀ w ∈ Ts, xgw w = true) ∧ (∀ j, Cond.static (yM j) ∈ Ts ∨ Cond.instanceMethod (yM j) ∈ Ts → XY Ts (yM j) (cM j) (mx j) (rM j) (hM j) ∧ ((yM j).name = "<init>" → rM j = none ∧ hM j = [] ∧ Cond.code (yM j) (cM j) (mx j) (rM j) ∈ Ts) ∧ plainName (yM j).cls = true ∧ mx j ≤ 40)
end XENTRY
section XCALL
variable {p : Program} {l : Launch} {e : Env} {R : Room} {s : State} {m : MethodId} {args : Array Value} {below : List Frame} {meth : Method} {c : Code} {Q : State → Prop}
variable {b base : Nat} {ta : (Nat → Nat) × Option Nat} {dA : Nat → ClassId} {D : va_G} {cl : List vw_C} {n0 z0 : Nat} {pc pc' : Nat} {ls : xL} {st st' : List Value} {h h1 : xH} {raw : Instr}
variable {Ts : List Cond} {ty : Nat → FieldType} {host : String}
variable {nf : Nat → List Value} {L : Nat} {xs : Nat → Int32} {mc : Nat → Option Nat} {lit : List (List Int32)} {ldcs : List (String × Nat × String × Nat)}
variable {yM : Nat → MethodName} {cM : Nat → ByteArray} {mx : Nat → Nat} {rM : Nat → Option FieldType} {hM : Nat → List (Nat × Nat × Nat × Nat)} {nc : List (String × String)}
/-- an exception at the place a has come out of the callee, over the caller's frame at pc -/
def XT (p : Program) (l : Launch) (e : Env) (R : Room) (s : State) (m : MethodId) (args : Array Value) (below : List Frame) (meth : Method) (c : Code) (Q : State → Prop) (b base : Nat) (ta : (Nat → Nat) × Option Nat) (dA : Nat → ClassId) (D : va_G) (cl : List vw_C) (n0 z0 : Nat) (pc : Nat) (ls : xL) (st : List Value) (h : xH) (a : Nat) : Prop :=
  ∀ (H : Heap) (locs : List Loc) (rl : Array Slot), xls b base ta ls rl → H.size = base + h.length → va_P D cl (xws b base ta dA h) H → va_S (fun q => base ≤ q) s.heap H locs →
    ∀ T : State, T.heap = H → Stand p l e R s m args below meth c T locs (h.length - n0) (xsz h - z0) → ∃ t, Steps p.tables e below ((T.setTop (F0 m pc rl (st.map (xv b base ta)))).pushFrame (.throwing (base + a))) t ∧ Q t
/-- what a call in the pure machine says of its operands -/
theorem xcall_spec {j ix n k kd j' : Nat} {as : List Value} (hs : xstep nf L xs lit mc (.invokeinterface j ix, n, k, kd) pc ls st h = some (.inr (.inr (j', as, pc', st')))) : j' = j ∧ pc' = pc + n ∧ st = as.reverse ++ st' ∧ as.length = k ∧ xw st' ≤ 8 ∧ ∀ ci, mc j = some ci → (∃ a as' fs, as = .ref a :: as' ∧ h[a]? = some (.inr (ci, fs))) ∨ (ci = 1000 ∧ ∃ i as', i < lit.length ∧ as = .retAddr (2 * i + 1) :: as') := by
  simp only [xstep] at hs
  split at hs
  · rename_i hk
    have hst : st = st.take k ++ st.drop k := (List.take_append_drop k st).symm
    have hl : (st.take k).length = k := by rw [List.length_take]; omega
    split at hs
    · rename_i hmc
      cases hs
      refine ⟨rfl, rfl, by rw [List.reverse_reverse]; exact hst, by rw [List.length_reverse]; exact hl, hk.2, fun ci hci => by rw [hmc] at hci; cases hci⟩
    · rename_i ci hmc
      split at hs
      · rename_i a as0 he
        split at hs
        · rename_i c0 fs hc
          split at hs
          · rename_i hcc
            subst hcc
            cases hs
            refine ⟨rfl, rfl, ?_, ?_, hk.2, fun ci2 hci => ?_⟩
            · rw [← he, List.reverse_reverse]
              exact hst
            · rw [← he, List.length_reverse]
              exact hl
            · rw [hmc] at hci
              cases hci
              exact Or.inl ⟨a, as0, fs, rfl, hc⟩
          · cases hs
        · cases hs
      · rename_i q as0 he
        split at hs
        · rename_i hq
          cases hs
          refine ⟨rfl, rfl, ?_, ?_, hk.2, fun ci2 hci => ?_⟩
          · rw [← he, List.reverse_reverse]
            exact hst
          · rw [← he, List.length_reverse]
            exact hl
          · rw [hmc] at hci
            cases hci
            refine Or.inr ⟨hq.1, q / 2, as0, hq.2.2, ?_⟩
            rw [show 2 * (q / 2) = q by omega]
        · cases hs
      · cases hs
  · cases hs
theorem xw_map (b base : Nat) (ta : (Nat → Nat) × Option Nat) (st : List Value) : ((st.map (xv b base ta)).map fun v => v.category).sum = xw st := by
  unfold xw
  rw [List.map_map]
  congr 1
  apply List.map_congr_left
  intro v _
  exact xv_cat' b base ta v
set_option maxHeartbeats 1000000 in
theorem xs_call {i d j ix n k kd : Nat} {as : List Value} {rc : xO} (E : XE p b base ta lit ldcs dA D cl Ts ty L xs yM cM mx rM hM nc s m args meth c i) (M : XMt Ts yM cM mx rM hM) (hd : decode (cM i) pc = .ok (raw, n)) (hC : xokC Ts cl (yM i).cls host yM mc raw (.invokeinterface j ix, n, k, kd))
    (hs : xstep nf L xs lit mc (.invokeinterface j ix, n, k, kd) pc ls st h = some (.inr (.inr (j, as, pc', st')))) (IH : XGood p l e b base ta lit ldcs dA D cl Ts ty L xs yM cM mx rM hM nc d j as h rc h1)
    (hfr : d + 9 ≤ R.frames) (hlo : 64 * (d + 1) + 200 ≤ R.locals) (hm1 : h.length ≤ h1.length) (hm2 : xsz h ≤ xsz h1) (hR : h1.length - n0 ≤ R.cells ∧ xsz h1 - z0 ≤ R.slots) (hsz : ls.length = mx i)
    (kr : ∀ v, rc = .inl v → XK p l e R s m args below meth c Q b base ta dA D cl n0 z0 pc' ls (v.toList ++ st') h1) (kt : ∀ q a, rc = .inr (q, a) → XT p l e R s m args below meth c Q b base ta dA D cl n0 z0 pc ls st' h1 a) :
    XK p l e R s m args below meth c Q b base ta dA D cl n0 z0 pc ls st h := by
  obtain ⟨⟨hx, hb, hown, hts, hK, hA, hX, hbl, hbs, -, hTx⟩, -, -, hml, -, hU, hV⟩ := E
  obtain ⟨hG, hM9⟩ := M
  have hcal : Cond.static (yM j) ∈ Ts ∨ Cond.instanceMethod (yM j) ∈ Ts := by
    rcases hC.2.2.2 with ⟨-, -, -, -, q, -⟩ | ⟨-, -, -, q, -⟩ | ⟨-, -, -, -, -, q, -⟩ | ⟨-, -, -, -, -, q, -⟩
    · exact Or.inl q
    · exact Or.inr q
    · exact Or.inr q
    · exact Or.inr q
  obtain ⟨hY, hnl, hpl, hmx⟩ := hM9 j hcal
  obtain ⟨-, rfl, hst, hk, hw8, hmc⟩ := xcall_spec hs
  intro hn hz H locs rl g1 g2 g3 g4 T hT X
  have hn3 : n = 3 := hC.1
  subst hn3
  rw [← hb] at hd
  obtain ⟨mk, vm', hnamed, hW', X₁, step⟩ := xinvoke X hx hown hts hK (by rw [hT]; exact g3) hTx (by rw [hT]; exact g4) hY hnl hC hk hmc (g := F0 m pc rl (st.map (xv b base ta))) (rest := st'.map (xv b base ta)) rfl (by show st.map _ = _; rw [hst, List.map_append, List.map_reverse]) hd
  have hts' : ∀ (a' : Array Value) (U : State), s.WarmedH U.vm → ∀ w ∈ Ts, w.before a' U = true := fun a' U hU w hw => xgw_at hU (hG w hw) (hts w hw)
  have hnamed1 : (T.setVm vm').methodNamed? (yM j) = some mk := X₁.named hnamed
  obtain ⟨mk2, methk, ck, hnk, hmk, hck, hcb, hcl, hch, hrk, hlk, hsg⟩ := xy_spec hY (hts' #[] (T.setVm vm') hW')
  cases hnamed1.symm.trans hnk
  have hpk : (T.setVm vm').plainMethod mk := by
    intro kk hkk
    obtain ⟨k2, hk2, hk3⟩ := className_of_methodNamed hnamed1
    cases hkk.symm.trans hk2
    exact plain_of_name (by rw [hk3]; exact hpl)
  have hc9 : h.length - n0 ≤ R.cells := by have := hR.1; omega
  have hs9 : xsz h - z0 ≤ R.slots := by have := hR.2; omega
  obtain ⟨Y, hinto⟩ := X₁.into (g := F0 m pc rl (st'.map (xv b base ta))) rfl (by show rl.size = _; rw [g1.1, hsz, hml]) hd (as.map (xv b base ta)).toArray (R' := { frames := R.frames - 1, cells := R.cells - (h.length - n0), slots := R.slots - (xsz h - z0), locals := R.locals - (8 + (mx j + 11)) }) hmk hck hlk hpk
    (by show R.frames - 1 + 1 ≤ _; omega) (by show 2 * 0 + _ + (ck.maxLocals + 11) + (R.locals - (8 + (mx j + 11))) ≤ _; rw [xw_map, hcl]; omega) (by show _ + (R.cells - _) ≤ _; omega) (by show _ + (R.slots - _) ≤ _; omega)
  generalize hs' : (T.setVm vm').calling (F0 m pc rl (st'.map (xv b base ta))) mk (as.map (xv b base ta)).toArray = s' at Y
  have hvm : s'.vm = vm' := by rw [← hs']; rfl
  have hhp : s'.heap = H := by rw [← hs']; exact hT
  have hWs : s.WarmedH s'.vm := by rw [hvm]; exact hW'
  have hWT : (T.setVm vm').vm.Alike s'.vm := by rw [hvm]; exact Vm.Alike.refl _
  have hnm' : s'.methodNamed? (yM j) = some mk := by
    rw [← hnamed1]
    show State.methodNamed? s' _ = State.methodNamed? (T.setVm vm') _
    unfold State.methodNamed?
    rw [hvm]
    rfl
  have hXE : XE p b base ta lit ldcs dA D cl Ts ty L xs yM cM mx rM hM nc s' mk (as.map (xv b base ta)).toArray methk ck j := by
    refine ⟨⟨hx, hcb, findClass_of_methodNamed hnm', hts' _ s' hWs, va_K.moved hWs.alike hK, fun t => ⟨arrOfT_moved hWs.alike (hA t).1, (hA t).2.moved hWs.alike⟩, ?_, hbl, by rw [hhp, g2]; omega, fun hq => ?_, hTx.go hWs (fun q hq hA9 => by rw [hhp]; exact g4.2.1 q hq hA9)⟩, hrk, hlk, hcl, hch, hU.go hWs (fun q hq => by rw [hhp]; exact g4.2.1 q (Nat.lt_of_lt_of_le hq hbs) (Nat.not_le.mpr hq)), hV.go hWs⟩
    · rw [hhp]
      exact va_X.moved hWs.alike (hX.kept (g4.2.1 b (Nat.lt_of_lt_of_le hbl hbs) (Nat.not_le.mpr hbl)))
    · rw [(name_of_methodNamed hnamed1 hmk).1]
      exact of_decide_eq_true hq
  have WI := IH { frames := R.frames - 1, cells := R.cells - (h.length - n0), slots := R.slots - (xsz h - z0), locals := R.locals - (8 + (mx j + 11)) } s' mk (.java (F0 m pc rl (st'.map (xv b base ta))) :: below) methk ck hXE (by show d + 8 ≤ R.frames - 1; omega) (by show 64 * d + 200 ≤ R.locals - (8 + (mx j + 11)); omega) (by show _ ≤ R.cells - _; have := hR.1; omega) (by show _ ≤ R.slots - _; have := hR.2; omega) (by rw [hhp]; exact g2) (by rw [hhp]; exact g3)
  obtain ⟨t, st1, o, L9, hrun, hend, hWt, hsame, t2, t3, t4, ho⟩ := WI _ (by rw [hhp]; exact hT) Y
  rw [← hcl, ← hinto []] at st1
  have st2 := xsteps_down st1
  have hS : va_S (fun q => base ≤ q) s.heap t.heap (locs ++ L9) := by
    rw [hhp] at t4
    refine ⟨Nat.le_trans g4.1 t4.1, fun q hq hA9 => (t4.2.1 q (Nat.lt_of_lt_of_le hq g4.1) hA9).trans (g4.2.1 q hq hA9), fun q hq => ?_⟩
    rcases List.mem_append.mp hq with hq | hq
    · exact g4.2.2 q hq
    · exact t4.2.2 q hq
  have ec : h.length - n0 + (h1.length - h.length) = h1.length - n0 := by omega
  have es : xsz h - z0 + (xsz h1 - xsz h) = xsz h1 - z0 := by omega
  rw [← hs'] at hWt hsame
  cases rc with
  | inl v =>
    have ho : o = .returned (v.map (xv b base ta)) := ho
    subst ho
    obtain ⟨T2, X2, -, -, ht⟩ := X₁.outOf (g := F0 m pc rl (st'.map (xv b base ta))) rfl hd hend hWt hsame
    rw [ec, es] at X2
    have hh : T2.heap = t.heap := by rw [ht]; rfl
    have K := kr v rfl (by omega) (by omega) t.heap (locs ++ L9) rl g1 t2 t3 hS T2 hh X2
    obtain ⟨t5, a5, b5⟩ := K
    refine ⟨t5, step t5 (fun acts => ?_), b5⟩
    rw [doInvoke_state]
    refine st2.trans ?_
    rw [ht]
    have e9 : (v.map (xv b base ta)).toList ++ st'.map (xv b base ta) = (v.toList ++ st').map (xv b base ta) := by cases v <;> simp
    show Steps p.tables e below (T2.setTop (F0 m (pc + 3) rl ((v.map (xv b base ta)).toList ++ st'.map (xv b base ta)))) t5
    rw [e9]
    exact a5
  | inr qa =>
    obtain ⟨q, a⟩ := qa
    have ho : o = .threw (base + a) := ho
    subst ho
    obtain ⟨T2, X2, -, -, ht⟩ := X₁.outOfThrown (g := F0 m pc rl (st'.map (xv b base ta))) rfl hend hWt hsame
    rw [ec, es] at X2
    have hh : T2.heap = t.heap := by rw [ht]; rfl
    obtain ⟨t5, a5, b5⟩ := kt q a rfl t.heap (locs ++ L9) rl g1 t2 t3 hS T2 hh X2
    refine ⟨t5, step t5 (fun acts => ?_), b5⟩
    rw [doInvoke_state]
    refine st2.trans ?_
    rw [ht]
    exact a5
end XCALL

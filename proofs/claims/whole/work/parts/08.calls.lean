/-! CALLS -/
/-- a word that stays true when more of the tables has been linked -/
def xgw (w : Cond) : Bool := goodWord w || (match w with | .methodLinkNest .. => true | .declares _ => true | .castable .. => true | _ => false)
theorem xgw_at {w : Cond} {args a' : Array Value} {s U : State} (hW : s.WarmedH U.vm) (hg : xgw w = true) (h : w.before args s = true) : w.before a' U = true := by
  unfold xgw at hg
  rcases Bool.or_eq_true _ _ |>.mp hg with h1 | h1
  · exact word_at hW (good_of_word h1) h
  · cases w <;> first | (cases h1; done) | exact va_Nw.use rfl (va_Nw.warmM hW (va_Nw.of rfl h)) | exact va_Nw.use rfl (va_Nw.warmD hW (va_Nw.of rfl h)) | exact va_Nw.use rfl (va_Nw.warmC hW (va_Nw.of rfl h))
/-- a method's code by the tables, with its handlers -/
def XY (Ts : List Cond) (y : MethodName) (bytes : ByteArray) (maxL : Nat) (ret : Option FieldType) (hdl : List (Nat × Nat × Nat × Nat)) : Prop := (hdl = [] ∧ Cond.code y bytes maxL ret ∈ Ts) ∨ Cond.codeWith y bytes maxL ret hdl ∈ Ts
theorem xy_spec {Ts : List Cond} {y : MethodName} {bytes : ByteArray} {maxL : Nat} {ret : Option FieldType} {hdl : List (Nat × Nat × Nat × Nat)} {args : Array Value} {s : State} (h : XY Ts y bytes maxL ret hdl) (hts : ∀ w ∈ Ts, w.before args s = true) :
    ∃ mk meth c, s.methodNamed? y = some mk ∧ s.vm.method? mk = some meth ∧ meth.code = some c ∧ c.code = bytes ∧ c.maxLocals = maxL ∧ c.exceptionTable.toList.map (fun h => (h.startPc, h.endPc, h.handlerPc, h.catchType)) = hdl ∧ meth.sig.returnType = ret ∧ meth.locks = false ∧ parseMethodDescriptor y.desc = some meth.sig := by
  rcases h with ⟨rfl, h⟩ | h
  · have hc := hts _ h
    obtain ⟨mk, hn⟩ := Cond.code_named hc
    obtain ⟨meth, c, h1, h2, h3, h4, h5, h6, h7, h8⟩ := Cond.code_spec hn hc
    refine ⟨mk, meth, c, hn, h1, h2, h3, h4, ?_, h5, h6, h8⟩
    have : c.exceptionTable = #[] := by simpa using h7
    rw [this]
    rfl
  · obtain ⟨mk, meth, c, h0, h1, h2, h3, h4, h5, h6, h7, h8⟩ := Cond.codeWith_spec (hts _ h)
    exact ⟨mk, meth, c, h0, h1, h2, h3, h4, h5, h6, h7, h8⟩
/-- the linked call o stands for the instruction raw in a method of the class own -/
def xokC (Ts : List Cond) (cl : List vw_C) (own host : String) (yM : Nat → MethodName) (mc : Nat → Option Nat) (raw : Instr) (o : xI) : Prop := match o with
  | (.invokeinterface j ix, n, k, kd) => n = 3 ∧ ((yM j).cls ≠ "java/lang/invoke/MethodHandle" ∧ (yM j).cls ≠ "java/lang/invoke/VarHandle") ∧ Cond.initialized (yM j).cls ∈ Ts ∧
    ((kd = 0 ∧ raw = .invokestatic ix ∧ mc j = none ∧ Cond.methodLink own ix (yM j) ∈ Ts ∧ Cond.static (yM j) ∈ Ts ∧ (parseMethodDescriptor (yM j).desc).map (fun d => d.parameters.length) = some k) ∨
     (kd = 1 ∧ raw = .invokevirtual ix ∧ Cond.methodLink own ix (yM j) ∈ Ts ∧ Cond.instanceMethod (yM j) ∈ Ts ∧ Cond.selects (yM j).cls (yM j) (yM j) ∈ Ts ∧ (∃ ci ∈ (mc j).toList, ∃ r ∈ (cl[ci]?).toList, r.1 = (yM j).cls) ∧ (parseMethodDescriptor (yM j).desc).map (fun d => d.parameters.length + 1) = some k) ∨
     (kd = 2 ∧ raw = .invokespecial ix ∧ (yM j).name = "<init>" ∧ (mc j).isSome = true ∧ Cond.methodLink own ix (yM j) ∈ Ts ∧ Cond.instanceMethod (yM j) ∈ Ts ∧ (parseMethodDescriptor (yM j).desc).map (fun d => d.parameters.length + 1) = some k) ∨
     (kd = 3 ∧ raw = .invokespecial ix ∧ (yM j).name = "<init>" ∧ (mc j).isSome = true ∧ Cond.methodLinkNest own ix (yM j) host ∈ Ts ∧ Cond.instanceMethod (yM j) ∈ Ts ∧ (parseMethodDescriptor (yM j).desc).map (fun d => d.parameters.length + 1) = some k))
  | _ => False
section XCALLS
variable {p : Program} {l : Launch} {e : Env} {R : Room} {s : State} {m : MethodId} {args : Array Value} {below : List Frame} {meth : Method} {c : Code} {T : State} {locs : List Loc} {cells slots : Nat}
variable {b base : Nat} {ta : Nat → Nat} {dA : Nat → ClassId} {D : va_G} {cl : List vw_C} {Ts : List Cond} {own host : String} {yM : Nat → MethodName} {mc : Nat → Option Nat} {raw : Instr} {j ix n k kd : Nat} {h : xH}
/-- up to the callee's entry -/
theorem xinvoke (X : Stand p l e R s m args below meth c T locs cells slots) (hx : p.tables.exec = Jvm.exec) (hown : s.vm.findClass own = some m.cls) (hts : ∀ w ∈ Ts, w.before args s = true) (hK : va_K D cl [] s) (hP : va_P D cl (xws b base ta dA h) T.heap)
    {bytes : ByteArray} {maxL : Nat} {ret : Option FieldType} {hdl : List (Nat × Nat × Nat × Nat)} (hY : XY Ts (yM j) bytes maxL ret hdl) (hnl : (yM j).name = "<init>" → ret = none ∧ hdl = [] ∧ Cond.code (yM j) bytes maxL ret ∈ Ts) (hC : xokC Ts cl own host yM mc raw (.invokeinterface j ix, n, k, kd))
    {as rest : List Value} (hk : as.length = k) (hm : ∀ ci, mc j = some ci → ∃ a as' fs, as = .ref a :: as' ∧ h[a]? = some (.inr (ci, fs)))
    {g : JFrame} (hg : g.method = m) (hstack : g.stack = (as.map (xv b base ta)).reverse ++ rest) (hdg : decode c.code g.pc = .ok (raw, 3)) :
    ∃ (mk : MethodId) (vm' : Vm), s.methodNamed? (yM j) = some mk ∧ s.WarmedH vm' ∧ Stand p l e R s m args below meth c (T.setVm vm') locs cells slots ∧
      ∀ target, (∀ acts, Steps p.tables e below (doInvoke e ((T.setVm vm').setTop { g with stack := rest }) acts mk (as.map (xv b base ta)).toArray).1 target) → Steps p.tables e below (T.setTop g) target := by
  obtain ⟨rfl, hy, hini, hC⟩ := hC
  obtain ⟨mk, methM, cM, hnamed, hmethM, -, -, -, -, -, -, hsigM⟩ := xy_spec hY hts
  have hlen : ∀ z, (parseMethodDescriptor (yM j).desc).map (fun d => d.parameters.length + z) = some k → methM.sig.parameters.length + z = k := fun z hz => by
    rw [hsigM] at hz
    exact Option.some.inj hz
  rcases hC with ⟨-, rfl, hmc, hl, hst, hp⟩ | ⟨-, rfl, hl, hin, hse, ⟨ci, hci, r, hr, hrC⟩, hp⟩ | ⟨-, rfl, hnm, hmc, hl, hin, hp⟩ | ⟨-, rfl, hnm, hmc, hl, hin, hp⟩
  · have hstatic : methM.isStatic = true := Cond.static_spec hnamed hmethM (hts _ hst)
    obtain ⟨kP, hkP, -⟩ := className_of_methodNamed hnamed
    have hinitP : kP.init = .initialized := Cond.initialized_spec (findClass_of_methodNamed hnamed) hkP (hts _ hini)
    obtain ⟨vm₁, X₁, hstep₁⟩ := X.invokestatic hx hown (hts _ hl) hnamed hmethM hstatic hkP hinitP hy (g := g) hg (argsL := as.map (xv b base ta)) (rest := rest) (by rw [List.length_map, hk]; exact (hlen 0 hp).symm) hstack hdg
    exact ⟨mk, vm₁, hnamed, X₁.warmed, X₁, hstep₁⟩
  · have hci : mc j = some ci := by simpa using hci
    have hr : cl[ci]? = some r := by simpa using hr
    obtain ⟨a, as', fs, rfl, ha⟩ := hm ci hci
    obtain ⟨cellB, hcB, hoB, hclB⟩ := va_recv hK hP hr (xws_get ha)
    rw [hrC] at hclB
    obtain ⟨mk', methM', hnamed', hmethM', hstM, habM⟩ := Cond.instanceMethod_spec (hts _ hin)
    cases hnamed.symm.trans hnamed'
    cases hmethM.symm.trans hmethM'
    obtain ⟨c2, r2, m2, q1, q2, q3, q4, kP, hkP, hkPi⟩ := Cond.selects_spec (hts _ hse)
    cases hclB.symm.trans q1
    cases (State.methodFound?_of_named hnamed hy).symm.trans q2
    cases hnamed.symm.trans q3
    have hselP : selectMethod e.platform s.vm cellB.cls mk = .method mk := by rw [Launch.admits_selectMethod X.admits]; exact q4
    obtain ⟨vm₁, X₁, hstep₁⟩ := X.invokevirtual hx hown (hts _ hl) hnamed hmethM hstM hkP hkPi hy (a := base + a) (cell := cellB) hcB
      (fun z h => by rw [h] at hoB; cases hoB) hselP hmethM habM hkP hkPi (g := g) hg (argsL := as'.map (xv b base ta)) (rest := rest) (by have := hlen 1 hp; rw [List.length_map]; simp at hk; omega) (by rw [hstack]; simp [xv]) hdg
    exact ⟨mk, vm₁, hnamed, X₁.warmed, X₁, hstep₁⟩
  · obtain ⟨ci, hci⟩ := Option.isSome_iff_exists.mp hmc
    obtain ⟨a, as', fs, rfl, ha⟩ := hm ci hci
    obtain ⟨rfl, rfl, hcode⟩ := hnl hnm
    subst hg
    have hpl : e.platform.magicAccessors = ({} : Platform).magicAccessors := by rw [X.admits.platform]
    obtain ⟨mk', methM', cM', kP, vm₁, hnamed', -, -, -, -, -, -, -, hW₁, hstep₁⟩ := Steps.initColdArgs (e := e) X.here hx X.warmed hpl hown hnm hy (hts _ hl) (hts _ hin) (hts _ hcode) (f := g) rfl (a := base + a) (argsL := as'.map (xv b base ta)) (rest := rest) (fun sig h => by rw [hsigM] at h; cases h; have := hlen 1 hp; rw [List.length_map]; simp at hk; omega) (by rw [hstack]; simp [xv]) hdg
    exact ⟨mk', vm₁, hnamed', hW₁, X.noted hW₁, hstep₁⟩
  · obtain ⟨ci, hci⟩ := Option.isSome_iff_exists.mp hmc
    obtain ⟨a, as', fs, rfl, ha⟩ := hm ci hci
    obtain ⟨rfl, rfl, hcode⟩ := hnl hnm
    subst hg
    have hpl : e.platform.magicAccessors = ({} : Platform).magicAccessors := by rw [X.admits.platform]
    obtain ⟨mk', methM', cM', kP, vm₁, hnamed', -, -, -, -, -, -, -, hW₁, hstep₁⟩ := Steps.initColdArgsNest (e := e) X.here hx X.warmed hpl hown hnm hy (hts _ hl) (hts _ hin) (hts _ hcode) (f := g) rfl (a := base + a) (argsL := as'.map (xv b base ta)) (rest := rest) (fun sig h => by rw [hsigM] at h; cases h; have := hlen 1 hp; rw [List.length_map]; simp at hk; omega) (by rw [hstack]; simp [xv]) hdg
    exact ⟨mk', vm₁, hnamed', hW₁, X.noted hW₁, hstep₁⟩
end XCALLS

/-! CALLS -/
/-- a word that stays true when more of the tables has been linked -/
def xgw (w : Cond) : Bool := goodWord w || (match w with | .methodLinkNest .. => true | .declares _ => true | .castable .. => true | .arrayOver (.object _) => true | .arrayOver (.array _) => true | _ => false)
theorem xgw_at {w : Cond} {args a' : Array Value} {s U : State} (hW : s.WarmedH U.vm) (hg : xgw w = true) (h : w.before args s = true) : w.before a' U = true := by
  unfold xgw at hg
  rcases Bool.or_eq_true _ _ |>.mp hg with h1 | h1
  · exact word_at hW (good_of_word h1) h
  · cases w with
    | arrayOver t =>
      cases t with
      | object C => exact va_AO.use (va_AO.moved hW.alike (va_AO.of h))
      | array t => exact over_moved hW.alike h
      | _ => cases h1
    | methodLinkNest a i x h9 => exact va_Nw.use rfl (va_Nw.warmM hW (va_Nw.of rfl h))
    | declares x => exact va_Nw.use rfl (va_Nw.warmD hW (va_Nw.of rfl h))
    | castable C T => exact va_Nw.use rfl (va_Nw.warmC hW (va_Nw.of rfl h))
    | _ => cases h1
/-- a method's code by the tables, with its handlers -/
def XY (Ts : List Cond) (y : MethodName) (bytes : ByteArray) (maxL : Nat) (ret : Option FieldType) (hdl : List (Nat × Nat × Nat × Nat)) : Prop := (hdl = [] ∧ Cond.code y bytes maxL ret ∈ Ts) ∨ Cond.codeWith y bytes maxL ret hdl ∈ Ts
theorem xy_spec {Ts : List Cond} {y : MethodName} {bytes : ByteArray} {maxL : Nat} {ret : Option FieldType} {hdl : List (Nat × Nat × Nat × Nat)} {args : Array Value} {s : State} (h : XY Ts y bytes maxL ret hdl) (hts : ∀ w ∈ Ts, w.before args s = true) :
    ∃ mk meth c, s.methodNamed? y = some mk ∧ s.vm.method? mk = some meth ∧ meth.code = some c ∧ c.code = bytes ∧ c.maxLocals = maxL ∧ c.exceptionTable.toList.map (fun h => (h.startPc, h.endPc, h.handlerPc, h.catchType)) = hdl ∧ meth.sig.returnType = ret ∧ meth.locks = false ∧ parseMethodDescriptor y.desc = some meth.sig := by
  rcases h with ⟨rfl, h⟩ | h
  · have hc := hts _ h
    obtain ⟨mk, hn⟩ := Cond.code_named hc
    obtain ⟨meth, c, h1, h2, h3, h4, h5, h6, h7, h8⟩ := Cond.code_spec hn hc
    refine ⟨mk, meth, c, hn, h1, h2, h3, h4, ?_, h5, h6, h8⟩
    have : c.exceptionTable = #[] := by simpa using h7
    rw [this]
    rfl
  · obtain ⟨mk, meth, c, h0, h1, h2, h3, h4, h5, h6, h7, h8⟩ := Cond.codeWith_spec (hts _ h)
    exact ⟨mk, meth, c, h0, h1, h2, h3, h4, h5, h6, h7, h8⟩
/-- the linked call o stands for the instruction raw in a method of the class own -/
def xokC (Ts : List Cond) (cl : List vw_C) (own host : String) (yM : Nat → MethodName) (mc : Nat → Option Nat) (raw : Instr) (o : xI) : Prop := match o with
  | (.invokeinterface j ix, n, k, kd) => n = 3 ∧ ((yM j).cls ≠ "java/lang/invoke/MethodHandle" ∧ (yM j).cls ≠ "java/lang/invoke/VarHandle") ∧ Cond.initialized (yM j).cls ∈ Ts ∧
    ((kd = 0 ∧ raw = .invokestatic ix ∧ mc j = none ∧ Cond.methodLink own ix (yM j) ∈ Ts ∧ Cond.static (yM j) ∈ Ts ∧ (parseMethodDescriptor (yM j).desc).map (fun d => d.parameters.length) = some k) ∨
     (kd = 1 ∧ raw = .invokevirtual ix ∧ Cond.methodLink own ix (yM j) ∈ Ts ∧ Cond.instanceMethod (yM j) ∈ Ts ∧ Cond.selects (yM j).cls (yM j) (yM j) ∈ Ts ∧ ((∃ ci ∈ (mc j).toList, ci ≠ 1000 ∧ ∃ r ∈ (cl[ci]?).toList, r.1 = (yM j).cls) ∨ (mc j = some 1000 ∧ cl[1000]? = none ∧ (yM j).cls = "java/lang/String")) ∧ (parseMethodDescriptor (yM j).desc).map (fun d => d.parameters.length + 1) = some k) ∨
     (kd = 2 ∧ raw = .invokespecial ix ∧ (yM j).name = "<init>" ∧ (mc j).isSome = true ∧ Cond.methodLink own ix (yM j) ∈ Ts ∧ Cond.instanceMethod (yM j) ∈ Ts ∧ (parseMethodDescriptor (yM j).desc).map (fun d => d.parameters.length + 1) = some k) ∨
     (kd = 3 ∧ raw = .invokespecial ix ∧ (yM j).name = "<init>" ∧ (mc j).isSome = true ∧ Cond.methodLinkNest own ix (yM j) host ∈ Ts ∧ Cond.instanceMethod (yM j) ∈ Ts ∧ (parseMethodDescriptor (yM j).desc).map (fun d => d.parameters.length + 1) = some k))
  | _ => False
section XCALLS
variable {p : Program} {l : Launch} {e : Env} {R : Room} {s : State} {m : MethodId} {args : Array Value} {below : List Frame} {meth : Method} {c : Code} {T : State} {locs : List Loc} {cells slots : Nat}
variable {b base : Nat} {ta : (Nat → Nat) × Option Nat} {dA : Nat → ClassId} {D : va_G} {cl : List vw_C} {Ts : List Cond} {own host : String} {yM : Nat → MethodName} {mc : Nat → Option Nat} {raw : Instr} {j ix n k kd : Nat} {h : xH} {lit : List (List Int32)} {ldcs : List (String × Nat × String × Nat)}
/-- up to the callee's entry -/
theorem xinvoke (X : Stand p l e R s m args below meth c T locs cells slots) (hx : p.tables.exec = Jvm.exec) (hown : s.vm.findClass own = some m.cls) (hts : ∀ w ∈ Ts, w.before args s = true) (hK : va_K D cl [] s) (hP : va_P D cl (xws b base ta dA h) T.heap) (hTx : XTx base ta lit ldcs s) (hS : va_S (fun q => base ≤ q) s.heap T.heap locs)
    {bytes : ByteArray} {maxL : Nat} {ret : Option FieldType} {hdl : List (Nat × Nat × Nat × Nat)} (hY : XY Ts (yM j) bytes maxL ret hdl) (hnl : (yM j).name = "<init>" → ret = none ∧ hdl = [] ∧ Cond.code (yM j) bytes maxL ret ∈ Ts) (hC : xokC Ts cl own host yM mc raw (.invokeinterface j ix, n, k, kd))
    {as rest : List Value} (hk : as.length = k) (hm : ∀ ci, mc j = some ci → (∃ a as' fs, as = .ref a :: as' ∧ h[a]? = some (.inr (ci, fs))) ∨ (ci = 1000 ∧ ∃ i as', i < lit.length ∧ as = .retAddr (2 * i + 1) :: as'))
    {g : JFrame} (hg : g.method = m) (hstack : g.stack = (as.map (xv b base ta)).reverse ++ rest) (hdg : decode c.code g.pc = .ok (raw, 3)) :
    ∃ (mk : MethodId) (vm' : Vm), s.methodNamed? (yM j) = some mk ∧ s.WarmedH vm' ∧ Stand p l e R s m args below meth c (T.setVm vm') locs cells slots ∧
      ∀ target, (∀ acts, Steps p.tables e below (doInvoke e ((T.setVm vm').setTop { g with stack := rest }) acts mk (as.map (xv b base ta)).toArray).1 target) → Steps p.tables e below (T.setTop g) target := by
  obtain ⟨rfl, hy, hini, hC⟩ := hC
  obtain ⟨mk, methM, cM, hnamed, hmethM, -, -, -, -, -, -, hsigM⟩ := xy_spec hY hts
  have hlen : ∀ z, (parseMethodDescriptor (yM j).desc).map (fun d => d.parameters.length + z) = some k → methM.sig.parameters.length + z = k := fun z hz => by
    rw [hsigM] at hz
    exact Option.some.inj hz
  have hrecv : ∀ ci, mc j = some ci → ∃ (a : Nat) (as' : List Value), as.map (xv b base ta) = .ref a :: as'.map (xv b base ta) ∧ as.length = as'.length + 1 := by
    intro ci hci
    rcases hm ci hci with ⟨a, as', fs, rfl, -⟩ | ⟨-, i, as', -, rfl⟩
    · exact ⟨base + a, as', rfl, rfl⟩
    · exact ⟨ta.1 (2 * i), as', rfl, rfl⟩
  rcases hC with ⟨-, rfl, hmc, hl, hst, hp⟩ | ⟨-, rfl, hl, hin, hse, hcc, hp⟩ | ⟨-, rfl, hnm, hmc, hl, hin, hp⟩ | ⟨-, rfl, hnm, hmc, hl, hin, hp⟩
  · have hstatic : methM.isStatic = true := Cond.static_spec hnamed hmethM (hts _ hst)
    obtain ⟨kP, hkP, -⟩ := className_of_methodNamed hnamed
    have hinitP : kP.init = .initialized := Cond.initialized_spec (findClass_of_methodNamed hnamed) hkP (hts _ hini)
    obtain ⟨vm₁, X₁, hstep₁⟩ := X.invokestatic hx hown (hts _ hl) hnamed hmethM hstatic hkP hinitP hy (g := g) hg (argsL := as.map (xv b base ta)) (rest := rest) (by rw [List.length_map, hk]; exact (hlen 0 hp).symm) hstack hdg
    exact ⟨mk, vm₁, hnamed, X₁.warmed, X₁, hstep₁⟩
  · obtain ⟨a, as', e1, e2, cellB, hcB, hoB, hclB⟩ : ∃ (a : Nat) (as' : List Value), as.map (xv b base ta) = .ref a :: as'.map (xv b base ta) ∧ as.length = as'.length + 1 ∧ ∃ cellB : Cell, T.heap[a]? = some cellB ∧ cellB.vm.isStatics = false ∧ s.vm.findClass (yM j).cls = some cellB.cls := by
      rcases hcc with ⟨ci, hci, hne, r, hr, hrC⟩ | ⟨hci, h1000, hS9⟩
      · have hci : mc j = some ci := by simpa using hci
        have hr : cl[ci]? = some r := by simpa using hr
        rcases hm ci hci with ⟨a, as', fs, rfl, ha⟩ | ⟨h9, -⟩
        · obtain ⟨cellB, hcB, hoB, hclB⟩ := va_recv hK hP hr (xws_get ha)
          rw [hrC] at hclB
          exact ⟨base + a, as', rfl, rfl, cellB, hcB, hoB, hclB⟩
        · exact absurd h9 hne
      · rcases hm 1000 hci with ⟨a, as', fs, rfl, ha⟩ | ⟨-, i, as', hi, rfl⟩
        · obtain ⟨r9, hr9, -⟩ := hP a _ (xws_get ha)
          rw [h1000] at hr9
          cases hr9
        · obtain ⟨cellB, hcB, hoB, hclB⟩ := vk_recv hTx.1 hi hS
          exact ⟨ta.1 (2 * i), as', rfl, rfl, cellB, hcB, hoB, by rw [hS9]; exact hclB⟩
    obtain ⟨mk', methM', hnamed', hmethM', hstM, habM⟩ := Cond.instanceMethod_spec (hts _ hin)
    cases hnamed.symm.trans hnamed'
    cases hmethM.symm.trans hmethM'
    obtain ⟨c2, r2, m2, q1, q2, q3, q4, kP, hkP, hkPi⟩ := Cond.selects_spec (hts _ hse)
    cases hclB.symm.trans q1
    cases (State.methodFound?_of_named hnamed hy).symm.trans q2
    cases hnamed.symm.trans q3
    have hselP : selectMethod e.platform s.vm cellB.cls mk = .method mk := by rw [Launch.admits_selectMethod X.admits]; exact q4
    rw [e1] at hstack ⊢
    obtain ⟨vm₁, X₁, hstep₁⟩ := X.invokevirtual hx hown (hts _ hl) hnamed hmethM hstM hkP hkPi hy (a := a) (cell := cellB) hcB
      (fun z h => by rw [h] at hoB; cases hoB) hselP hmethM habM hkP hkPi (g := g) hg (argsL := as'.map (xv b base ta)) (rest := rest) (by have := hlen 1 hp; rw [List.length_map]; omega) (by rw [hstack]; simp) hdg
    exact ⟨mk, vm₁, hnamed, X₁.warmed, X₁, hstep₁⟩
  · obtain ⟨ci, hci⟩ := Option.isSome_iff_exists.mp hmc
    obtain ⟨a, as', e1, e2⟩ := hrecv ci hci
    obtain ⟨rfl, rfl, hcode⟩ := hnl hnm
    subst hg
    rw [e1] at hstack ⊢
    have hpl : e.platform.magicAccessors = ({} : Platform).magicAccessors := by rw [X.admits.platform]
    obtain ⟨mk', methM', cM', kP, vm₁, hnamed', -, -, -, -, -, -, -, hW₁, hstep₁⟩ := Steps.initColdArgs (e := e) X.here hx X.warmed hpl hown hnm hy (hts _ hl) (hts _ hin) (hts _ hcode) (f := g) rfl (a := a) (argsL := as'.map (xv b base ta)) (rest := rest) (fun sig h => by rw [hsigM] at h; cases h; have := hlen 1 hp; rw [List.length_map]; omega) (by rw [hstack]; simp) hdg
    exact ⟨mk', vm₁, hnamed', hW₁, X.noted hW₁, hstep₁⟩
  · obtain ⟨ci, hci⟩ := Option.isSome_iff_exists.mp hmc
    obtain ⟨a, as', e1, e2⟩ := hrecv ci hci
    obtain ⟨rfl, rfl, hcode⟩ := hnl hnm
    subst hg
    rw [e1] at hstack ⊢
    have hpl : e.platform.magicAccessors = ({} : Platform).magicAccessors := by rw [X.admits.platform]
    obtain ⟨mk', methM', cM', kP, vm₁, hnamed', -, -, -, -, -, -, -, hW₁, hstep₁⟩ := Steps.initColdArgsNest (e := e) X.here hx X.warmed hpl hown hnm hy (hts _ hl) (hts _ hin) (hts _ hcode) (f := g) rfl (a := a) (argsL := as'.map (xv b base ta)) (rest := rest) (fun sig h => by rw [hsigM] at h; cases h; have := hlen 1 hp; rw [List.length_map]; omega) (by rw [hstack]; simp) hdg
    exact ⟨mk', vm₁, hnamed', hW₁, X.noted hW₁, hstep₁⟩
end XCALLS

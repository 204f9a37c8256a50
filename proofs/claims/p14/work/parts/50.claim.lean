section
/-! THE CLAIM OUT OF ONE WALK OF THE LAW'S BODY. Your part is whole_start (and what it stands on); all else here is the same for every law, but numbers. -/
def R_law : String := "PointsToLaw"
def lw_P (b : Addr) (xs : List Int32) (args : Array Value) (s : State) : Prop := args = #[.ref b] ∧ s.IntsAt b xs ∧ xs.length ≤ 2048 ∧ (Jvm.Cond.and given_1 narrow_1).before args s = true
def lw_Q (_ : Array Value) (s : State) (o : Outcome) (t : State) : Prop := o = .returned (some (.int 1)) ∧ Framed s o t [] 601024 7293034
def lw_Z (below : List Frame) (a : Array Value) (s : State) : State → Prop := fun t => ∃ o, t.status = .running ∧ Ended t below o ∧ lw_Q a s o t
/-- the law's own end, with 1 on the stack, nothing written that was there before, its room as the claim has it -/
theorem lw_ret {p : Program} {l : Launch} {e : Env} {s : State} {m : MethodId} {below : List Frame} {meth : Method} {c : Code} {b : Nat} (hx : p.tables.exec = Jvm.exec) (hb : c.code = code) (hr : meth.sig.returnType = ret) (hlocks : meth.locks = false) {pc : Nat} {H : Heap} {ls : Array Slot} (hdg : decode code pc = .ok (.ireturn, 1)) : W p l e room_1 s m #[Value.ref b] below meth c H [] 601024 7293034 (lw_Z below #[Value.ref b] s) (F0 m pc ls [.int 1]) := by
  intro T hT X
  obtain ⟨fs, hret, hrun, hended, hW, hframe⟩ := X.leave (v := some (.int 1)) (hlocks := hlocks) (fun h => by rw [hr] at h; cases h)
  have hmeth' : T.vm.method? m = some meth := X.method'
  refine ⟨T.setFrames fs, ?_, .returned (some (.int 1)), hrun, hended, rfl, ⟨_, rfl⟩, hW, hframe⟩
  jvm_step X.here [X.here.top, hx, hb, hdg, hmeth', hr, ret, narrow_b1]
  (try refine ⟨rfl, ?_⟩); (try refine ⟨rfl, ?_⟩)
  first | (intro acts; rw [hret _ acts rfl rfl rfl]) | rw [hret _ _ rfl rfl rfl]
  exact Steps.refl _
/-- what holds at the law's entry: the machine, the code, the tables' words (any of lw_tbl by 'hts w (by decide +kernel)'), the script of L ints xs at the cell b, what the Statement gives of the start (any of its parts by flat_of_before) -/
def lw_At (p : Program) (s : State) (m : MethodId) (meth : Method) (c : Code) (b L : Nat) (xs : Nat → Int32) : Prop :=
  p.tables.exec = Jvm.exec ∧ c.code = code ∧ meth.sig.returnType = ret ∧ c.maxLocals = 7 ∧ s.vm.findClass R_law = some m.cls ∧ (∀ w ∈ lw_tbl, w.before #[Value.ref b] s = true) ∧ va_X b L xs s s.heap ∧ b < s.heap.size ∧ meth.locks = false ∧ (Jvm.Cond.and given_1 narrow_1).before #[Value.ref b] s = true
/-- THE PURE STATEMENT: on every script of at most 2048 ints the pure machine's run of the law ends with 1, within the room -/
def gPure : Prop := ∀ (L : Nat) (xs : Nat → Int32), L ≤ 2048 → ∃ (n : Nat) (h' : xH), xrun (xstep gNf L xs gLit gMc) gP gMx gHd n 1200 gLaw 0 (xent [.retAddr 0] 7) [] [] = some (.inl (some (.int 1)), h') ∧ h'.length ≤ 601024 ∧ xsz h' ≤ 7293034
set_option maxHeartbeats 4000000 in
theorem whole_start (hp : gPure) {p : Program} {e : Env} {s : State} {m : MethodId} {below : List Frame} {meth : Method} {c : Code} (l : Launch) (hfl : l.flags = flags0) (hno : c.exceptionTable.isEmpty = true) {b L : Nat} {xs : Nat → Int32} (hL : L ≤ 2048) (C0 : lw_At p s m meth c b L xs) : W p l e room_1 s m #[Value.ref b] below meth c s.heap [] 0 0 (lw_Z below #[Value.ref b] s) (entryFrame m ([Value.ref b] : List Value).toArray 7) := by
  obtain ⟨hx, hb, hr, hml, hown, hts, hX, hbl, hlocks, hgv⟩ := C0
  have hs := flat_of_before _ hgv
  obtain ⟨ta, hTx⟩ := gXTx hts hs
  obtain ⟨D, hK⟩ := gD hts
  obtain ⟨dA, hA⟩ := gArr hts
  obtain ⟨n, h', hrun, hc, hz⟩ := hp L xs hL
  intro T hT X
  have htr : e.platform.stackTraces = false := by
    rw [X.admits.platform]
    show l.stackTraces = false
    unfold Launch.stackTraces
    rw [hfl]
    decide +kernel
  have hno2 : c.exceptionTable = #[] := by simpa using hno
  have E : XE p b s.heap.size ta gLit gLdcs dA D gCl gTs gTy L xs gY gC gMx gRet gH gNc s m #[Value.ref b] meth c gLaw :=
    ⟨⟨hx, hb, hown, (fun w hw => hts w (List.mem_filter.mp hw).1), hK, hA, hX, hbl, Nat.le_refl _, fun q => absurd q (by decide +kernel), hTx⟩, hr, hlocks, hml, by rw [hno2]; rfl, gXU hts hs, gXV hs⟩
  have K := xsound (l := l) (e := e) gXP gXHd gXG gXMt htr n 1200 gLaw 0 (xent [.retAddr 0] 7) [] [] _ h' hrun room_1 s m #[Value.ref b] below meth c 0 0 E (by decide) (by decide) (by rw [Nat.sub_zero]; exact hc) (by rw [Nat.sub_zero]; exact hz) rfl (Nat.zero_le _) (Nat.zero_le _) s.heap [] _ (xls_entry [.retAddr 0] 7 rfl) (by simp) (fun k q h => by simp [xws] at h) va_S.rf
  rw [lg_entry_eq]
  refine W.mono (fun t ht => ?_) K T hT X
  obtain ⟨o, locs, h1, h2, h3, h4, h5, h6, h7, ho⟩ := ht
  have ho : o = .returned (some (.int 1)) := ho
  refine ⟨o, h1, h2, ho, ⟨_, ho⟩, h3, h4.weaken (fun y hy hlt => absurd hlt (Nat.not_lt.mpr (h7.2.2 y hy))) (by rw [Nat.sub_zero]; exact hc) (by rw [Nat.sub_zero]; exact hz)⟩
set_option maxHeartbeats 4000000 in
theorem lw_walk (hp : gPure) (l : Launch) (hfl : l.flags = flags0) (b : Addr) (xs : List Int32) : MetFree l x (headSpec (Jvm.Cond.code x code maxLocals ret :: tables_1) room_1) (lw_P b xs) (fun _ _ _ _ _ => True) lw_Q := by
  refine MetFree.of_bodyS (code := code) (maxLocals := maxLocals) (ret := ret) (by decide) ?_ ?_
  · intro args s m h hn
    obtain ⟨meth, c, h1, h2, h3, h4, h5, h6, -, -⟩ := Cond.code_spec hn (atoms_spec (ws := Jvm.Cond.code x code maxLocals ret :: tables_1) h _ List.mem_cons_self)
    exact ⟨meth, c, h1, h2, h3, h4, h5, h6⟩
  · intro p e s m args below meth c s₁ B hml0 hP _
    obtain ⟨rfl, hx, hbd, hgv⟩ := hP
    obtain ⟨scr, harrAt, hlist, hof, hsmall⟩ := hx
    obtain ⟨hcb, hkn, -, -⟩ := State.arrayAt?_spec harrAt
    have hown : s.vm.findClass R_law = some m.cls := findClass_of_methodNamed B.named
    have hts0 : ∀ c ∈ (Jvm.Cond.code x code maxLocals ret :: tables_1), c.before #[Value.ref b] s = true := atoms_spec (ws := Jvm.Cond.code x code maxLocals ret :: tables_1) B.pre
    have hts : ∀ w ∈ lw_tbl, w.before #[Value.ref b] s = true := k2_hts_sels lw_privs (fun w hw => hts0 w (List.mem_cons_of_mem _ hw)) lw_privs_ok
    have hml : c.maxLocals = 7 := B.maxLocals_eq (hts0 _ List.mem_cons_self)
    have X₀ : Stand p l e room_1 s m #[Value.ref b] below meth c s₁ [] 0 0 := Stand.of_body B
    have hh0 : s₁.heap = s.heap := by rw [B.state]; rfl
    have hsz : scr.slots.size = xs.length := by rw [← Array.length_toList, hlist, List.length_map]
    have hval : ∀ j : Nat, j < xs.length → scr.slots[j]? = some (.int (xs.getD j 0)) := fun j hj => by
      rw [← Array.getElem?_toList, hlist]
      simp [hj]
    have hbl : b < s.heap.size := (Array.getElem?_eq_some_iff.mp hcb).1
    have hX : va_X b xs.length (fun j => xs.getD j 0) s s.heap := ⟨scr, hcb, hof, hkn, hsz, hval⟩
    have K : W p l e room_1 s m #[Value.ref b] below meth c s₁.heap [] 0 0 (lw_Z below #[Value.ref b] s) (entryFrame m ([Value.ref b] : List Value).toArray 7) := by
      rw [hh0]
      exact whole_start hp l hfl (B.noHandlers (hts0 _ List.mem_cons_self)) hbd ⟨B.exec, B.bytes, B.returns, hml, hown, hts, hX, hbl, B.notSynchronized, hgv⟩
    obtain ⟨t, a1, o, b1, b2, b3⟩ := K s₁ rfl X₀
    exact ⟨t, o, a1, b1, b2, b3⟩
theorem lw_pre_spec {args : Array Value} {s : State} (h : (Jvm.Cond.and given_1 narrow_1).before args s = true) (hr : rest_1_c.before args s = true) : ∃ (b : Addr) (xs : List Int32), lw_P b xs args s := by
  have hs := flat_of_before _ h
  have hq := flat_of_before _ hr
  have hc : (Cond.count 1).before args s = true := hs _ (by decide +kernel)
  have harr : (Cond.arrayOf (.arg 0) .int).before args s = true := hs _ (by decide +kernel)
  have hle : (Cond.le (.length (.arg 0)) (.int 2048)).before args s = true := hs _ (by decide +kernel)
  have hlen : (Cond.isInt (.length (.arg 0))).before args s = true := hq _ (by decide +kernel)
  have hall : (Cond.all (.arg 0) (.isInt (.elem (.arg 0) (.index 0)))).before args s = true := hq _ (by decide +kernel)
  obtain ⟨b, xs, hb, hx⟩ := State.ints_of_pre rfl harr hlen hall
  have hsm : xs.length < 2 ^ 31 := hx.choose_spec.2.2.2
  have hev : (Term.length (.arg 0)).eval args s none [] s = some (.int xs.length.toInt32) := hx.length_eval hb
  have hv := Cond.le_ints hev (show (Term.int 2048).eval args s none [] s = some (.int 2048) from rfl)
  have hd : xs.length.toInt32 ≤ 2048 := by
    simpa [Cond.before, Cond.holds, hv] using hle
  have hN : xs.length ≤ 2048 := (Int32.ofNat_le_ofNat hsm (by decide)).mp (show Int32.ofNat xs.length ≤ Int32.ofNat 2048 from hd)
  exact ⟨b, xs, Cond.one_arg hc (show args[0]? = some (.ref b) from hb), hx, hN, h⟩
theorem lw_comes (hp : gPure) (l : Launch) (hfl : l.flags = flags0) : Comes l x (Jvm.Cond.code x code maxLocals ret :: tables_1) room_1 (fun tb e args s => Calls_1 tb e args s ∧ rest_1 tb e args s ∧ Pre_1 tb e args s)
    (fun _ _ args s o t => lw_Q args s o t) := by
  intro p e ha hc hk s m args below hf hfit hheap happ hpre
  obtain ⟨b, xs, hP⟩ := lw_pre_spec hpre.2.2 hpre.2.1
  obtain ⟨k, o, h1, h2, h3, hQ⟩ := lw_walk hp l hfl b xs p e ha hc hk s m args below hf ((Spec.applies_iff_loose hf).mp happ).1 hP trivial
  exact ⟨k, o, h1, h2, h3, hQ⟩
theorem lw_frame {s t : State} {o : Outcome} {args : Array Value} (h : Framed s o t [] 601024 7293034) :
    Framed s o t (fieldLocs frame_1_writes args s ++ arrayLocs frame_1_arrays args s ++ staticLocs frame_1_statics s) 601024 7293034 := h
theorem lw_limb (hp : gPure) (L : Cond) (hL : ∀ (args : Array Value) (s t : State), L.after args s (.returned (some (.int 1))) t = true) :
    ArmFor flags0 classFile x code maxLocals ret World_1 tables_1 room_1 Calls_1 rest_1 Pre_1
      (fun tb e a s o t => postC L tb e a s o t ∧ Framed s o t (fieldLocs frame_1_writes a s ++ arrayLocs frame_1_arrays a s ++ staticLocs frame_1_statics s) 601024 7293034) := by
  intro l hfl _ _ p e ha hc hk s m args below hf hfit hheap happ hpre
  obtain ⟨k, o, h1, h2, h3, rfl, hF⟩ := lw_comes hp l hfl p e ha hc hk s m args below hf hfit hheap happ hpre
  exact ⟨k, _, h1, h2, h3, hL args s _, lw_frame hF⟩
theorem i_vc_open (hp : gPure) : Claimed_1_1 ∧ Claimed_1_2 := ⟨lw_limb hp limb_1_1 (fun args s t => by simp [limb_1_1, Cond.after, Cond.holds, Cond.value]), lw_limb hp limb_1_2 (fun args s t => Cond.after_iff.mpr (by
  first | (rw [show limb_1_2 = Cond.eq .result (.int 1) from rfl, Cond.eq_ints (x := 1) (y := 1) rfl rfl]; simp; done) | (simp [limb_1_2, Cond.value, Term.eval]; done)))⟩
end
section
/-! RUNS OF THE PURE MACHINE, without their fuel -/
section XPURE
variable {stp : xI → Nat → xL → List Value → xH → Option xG} {P : Nat → Nat → Option xI} {mx : Nat → Nat} {hd : Nat → Nat → Nat → Option (Option Nat)}
theorem xrun_more : ∀ (n k d i pc : Nat) (ls : xL) (st : List Value) (h : xH) (r : xO × xH), xrun stp P mx hd n d i pc ls st h = some r → xrun stp P mx hd (n + k) d i pc ls st h = some r := by
  intro n
  induction n with
  | zero => intro k d i pc ls st h r hr; cases hr
  | succ n ih =>
    intro k d i pc ls st h r hr
    rw [show n + 1 + k = (n + k) + 1 by omega]
    simp only [xrun] at hr ⊢
    split at hr
    · cases hr
    · rename_i o ho
      split at hr
      · cases hr
      · rename_i pc' ls' st' h1 hs
        exact ih k _ _ _ _ _ _ _ hr
      · exact hr
      · rename_i j as pc' st' hs
        split at hr
        · cases hr
        · rename_i d
          split at hr
          · rename_i hent
            rw [if_pos hent]
            split at hr
            · cases hr
            · rename_i v h1 hc
              rw [ih k _ _ _ _ _ _ _ hc]
              exact ih k _ _ _ _ _ _ _ hr
            · rename_i q a h1 hc
              rw [ih k _ _ _ _ _ _ _ hc]
              split at hr
              · rename_i pq hq
                simp only [hq]
                exact ih k _ _ _ _ _ _ _ hr
              · rename_i hq
                simp only [hq]
                exact hr
              · cases hr
          · cases hr
/-- from here the run of the method i ends so -/
def XR (stp : xI → Nat → xL → List Value → xH → Option xG) (P : Nat → Nat → Option xI) (mx : Nat → Nat) (hd : Nat → Nat → Nat → Option (Option Nat)) (d i pc : Nat) (ls : xL) (st : List Value) (h : xH) (r : xO × xH) : Prop := ∃ n, xrun stp P mx hd n d i pc ls st h = some r
/-- the method j, called with as on h, ends so -/
def XCl (stp : xI → Nat → xL → List Value → xH → Option xG) (P : Nat → Nat → Option xI) (mx : Nat → Nat) (hd : Nat → Nat → Nat → Option (Option Nat)) (d j : Nat) (as : List Value) (h : xH) (r : xO × xH) : Prop := (xent as (mx j)).length = mx j ∧ XR stp P mx hd d j 0 (xent as (mx j)) [] h r
variable {d i j pc pc' : Nat} {ls ls' : xL} {st st' : List Value} {h h' h1 : xH} {r : xO × xH} {o : xI} {as : List Value}
theorem XR.go (ho : P i pc = some o) (hs : stp o pc ls st h = some (.inl (pc', ls', st', h'))) (k : XR stp P mx hd d i pc' ls' st' h' r) : XR stp P mx hd d i pc ls st h r := by
  obtain ⟨n, hn⟩ := k
  refine ⟨n + 1, ?_⟩
  simp only [xrun, ho, hs]
  exact hn
theorem XR.fin (ho : P i pc = some o) (hs : stp o pc ls st h = some (.inr (.inl r))) : XR stp P mx hd d i pc ls st h r := ⟨1, by simp only [xrun, ho, hs]⟩
theorem XR.call (ho : P i pc = some o) (hs : stp o pc ls st h = some (.inr (.inr (j, as, pc', st')))) {v : Option Value} (hc : XCl stp P mx hd d j as h (.inl v, h1)) (k : XR stp P mx hd (d + 1) i pc' ls (v.toList ++ st') h1 r) : XR stp P mx hd (d + 1) i pc ls st h r := by
  obtain ⟨he, n, hn⟩ := hc
  obtain ⟨m, hm⟩ := k
  refine ⟨n + m + 1, ?_⟩
  simp only [xrun, ho, hs]
  rw [if_pos he, xrun_more n m _ _ _ _ _ _ _ hn]
  rw [Nat.add_comm n m]
  exact xrun_more m n _ _ _ _ _ _ _ hm
theorem XR.caught (ho : P i pc = some o) (hs : stp o pc ls st h = some (.inr (.inr (j, as, pc', st')))) {q a pq : Nat} (hc : XCl stp P mx hd d j as h (.inr (q, a), h1)) (hq : hd i pc q = some (some pq)) (k : XR stp P mx hd (d + 1) i pq ls [.ref a] h1 r) : XR stp P mx hd (d + 1) i pc ls st h r := by
  obtain ⟨he, n, hn⟩ := hc
  obtain ⟨m, hm⟩ := k
  refine ⟨n + m + 1, ?_⟩
  simp only [xrun, ho, hs]
  rw [if_pos he, xrun_more n m _ _ _ _ _ _ _ hn]
  simp only [hq]
  rw [Nat.add_comm n m]
  exact xrun_more m n _ _ _ _ _ _ _ hm
theorem XR.out (ho : P i pc = some o) (hs : stp o pc ls st h = some (.inr (.inr (j, as, pc', st')))) {q a : Nat} (hc : XCl stp P mx hd d j as h (.inr (q, a), h1)) (hq : hd i pc q = some none) : XR stp P mx hd (d + 1) i pc ls st h (.inr (q, a), h1) := by
  obtain ⟨he, n, hn⟩ := hc
  refine ⟨n + 1, ?_⟩
  simp only [xrun, ho, hs]
  rw [if_pos he, hn]
  simp only [hq]
end XPURE
end
section
/-! THE Y LAYER: runs of the pure machine over a heap whose cells stand still. A memory m gives the Int in the place k of the cell a; what a cell is, is told by a table of shapes. -/
/-- a place of an object: an int (with its type's number), a reference that stands, one of some references -/
abbrev ySl : Type := Nat ⊕ (Nat ⊕ List Nat)
/-- what a cell is: ints (type, length); longs (length); references one behind another (type, length, the first); an object (number, places) -/
abbrev ySh : Type := (Nat × Nat) ⊕ (Nat ⊕ ((Nat × Nat × Nat) ⊕ (Nat × List ySl)))
abbrev yM : Type := Nat → Nat → Int
/-- the machine, the shapes, how many cells stand, their slots -/
abbrev yZ : Type := ((Nat → List Value) × Nat × (Nat → Int32) × List (List Int32) × (Nat → Option Nat)) × (Nat → Nat → Option xI) × (Nat → Nat) × (Nat → Nat → Nat → Option (Option Nat)) × (Nat → ySh) × Nat × Nat
def zStp (Z : yZ) : xI → Nat → xL → List Value → xH → Option xG := xstep Z.1.1 Z.1.2.1 Z.1.2.2.1 Z.1.2.2.2.1 Z.1.2.2.2.2
def zLn (Z : yZ) : Nat := Z.1.2.1
def zXs (Z : yZ) : Nat → Int32 := Z.1.2.2.1
def zLit (Z : yZ) : List (List Int32) := Z.1.2.2.2.1
def zMc (Z : yZ) : Nat → Option Nat := Z.1.2.2.2.2
def zP (Z : yZ) : Nat → Nat → Option xI := Z.2.1
def zMx (Z : yZ) : Nat → Nat := Z.2.2.1
def zHd (Z : yZ) : Nat → Nat → Nat → Option (Option Nat) := Z.2.2.2.1
def zSh (Z : yZ) : Nat → ySh := Z.2.2.2.2.1
def zN (Z : yZ) : Nat := Z.2.2.2.2.2.1
def zC (Z : yZ) : Nat := Z.2.2.2.2.2.2
def yI (x : Int) : Value := .int (Int32.ofInt x)
def yup (m : yM) (a k : Nat) (v : Int) : yM := fun b j => if b = a ∧ j = k then v else m b j
theorem yup_eq (m : yM) (a k : Nat) (v : Int) : yup m a k v a k = v := by simp [yup]
theorem yup_ne {m : yM} {a k b j : Nat} {v : Int} (h : ¬ (b = a ∧ j = k)) : yup m a k v b j = m b j := by simp [yup, h]
theorem yup_na {m : yM} {a k b j : Nat} {v : Int} (h : b ≠ a) : yup m a k v b j = m b j := by simp [yup, h]
theorem yup_nk {m : yM} {a k b j : Nat} {v : Int} (h : j ≠ k) : yup m a k v b j = m b j := by simp [yup, h]
/-- one of some references: the x-th, else null -/
def ysv (l : List Nat) (x : Int) : Value := if x < 0 then .null else match l[x.toNat]? with
  | some a => .ref a
  | none => .null
def yslv (s : ySl) (x : Int) : Value := match s with
  | .inl _ => yI x
  | .inr (.inl a) => .ref a
  | .inr (.inr l) => ysv l x
def yCell (s : ySh) (f : Nat → Int) (c : xC) : Prop := match s with
  | .inl (t, k) => ∃ g : Nat → Int32, c = .inl (t, k, .inl g) ∧ ∀ j, j < k → g j = Int32.ofInt (f j)
  | .inr (.inl k) => ∃ g : Nat → Int64, c = .inl (5, k, .inr (.inl g)) ∧ ∀ j, j < k → g j = Int64.ofInt (f j)
  | .inr (.inr (.inl (t, k, b))) => ∃ g : Nat → Option Nat, c = .inl (t, k, .inr (.inr (.inr (.inr g)))) ∧ ∀ j, j < k → g j = some (b + j)
  | .inr (.inr (.inr (ci, sl))) => ∃ vs : List Value, c = .inr (ci, vs) ∧ vs.length = sl.length ∧ ∀ (j : Nat) (x : ySl), sl[j]? = some x → vs[j]? = some (yslv x (f j))
/-- the heap h holds the memory m; it has n cells -/
def yLay (Z : yZ) (m : yM) (n : Nat) (h : xH) : Prop := h.length = n ∧ zN Z ≤ n ∧ xsz h ≤ zC Z + 6 * n ∧ ∀ a, a < zN Z → ∃ c, h[a]? = some c ∧ yCell (zSh Z a) (m a) c
theorem yLay.set {Z : yZ} {m : yM} {n : Nat} {h : xH} (hl : yLay Z m n h) {a k : Nat} {v : Int} {c c' : xC} (hc : h[a]? = some c) (e : xcz c' = xcz c) (hc' : yCell (zSh Z a) (yup m a k v a) c') : yLay Z (yup m a k v) n (h.set a c') := by
  obtain ⟨h1, h2, h3, h4⟩ := hl
  have hal : a < h.length := (List.getElem?_eq_some_iff.mp hc).1
  refine ⟨by simpa using h1, h2, by rw [xsz_set hc e]; exact h3, fun b hb => ?_⟩
  by_cases hab : a = b
  · subst hab
    exact ⟨c', by rw [List.getElem?_set_self hal], hc'⟩
  · obtain ⟨c2, e2, k2⟩ := h4 b hb
    refine ⟨c2, by rw [List.getElem?_set_ne hab]; exact e2, ?_⟩
    have : yup m a k v b = m b := funext fun j => yup_na (fun q => hab q.symm)
    rw [this]
    exact k2
theorem yLay.app {Z : yZ} {m : yM} {n : Nat} {h : xH} (hl : yLay Z m n h) (e : Nat) : yLay Z m (n + 1) (h ++ [.inr (e, List.replicate 6 .null)]) := by
  obtain ⟨h1, h2, h3, h4⟩ := hl
  refine ⟨by simp [h1], by omega, ?_, fun b hb => ?_⟩
  · rw [xsz_app]
    have : xcz (.inr (e, List.replicate 6 Value.null)) = 6 := rfl
    omega
  · obtain ⟨c2, e2, k2⟩ := h4 b hb
    refine ⟨c2, ?_, k2⟩
    rw [List.getElem?_append_left (by omega)]
    exact e2
/-- from here the run of the method i ends so that Q holds -/
def YW (Z : yZ) (i d pc : Nat) (ls : xL) (st : List Value) (m : yM) (n : Nat) (Q : xO → yM → Nat → Prop) : Prop := ∀ h, yLay Z m n h → ∃ r h' m' n', XR (zStp Z) (zP Z) (zMx Z) (zHd Z) d i pc ls st h (r, h') ∧ yLay Z m' n' h' ∧ Q r m' n'
/-- a call of the method j ends so that Q holds -/
def YC (Z : yZ) (d j : Nat) (as : List Value) (m : yM) (n : Nat) (Q : xO → yM → Nat → Prop) : Prop := ∀ h, yLay Z m n h → ∃ r h' m' n', XCl (zStp Z) (zP Z) (zMx Z) (zHd Z) d j as h (r, h') ∧ yLay Z m' n' h' ∧ Q r m' n'
/-- what a place of an object is -/
def yfld (sh : Nat → ySh) (N : Nat) (a q ci : Nat) : Option ySl := if a < N then (match sh a with
  | .inr (.inr (.inr (c, sl))) => if c = ci then sl[q]? else none
  | _ => none) else none
/-- an array of ints: its type, its length -/
def yarr (sh : Nat → ySh) (N : Nat) (a : Nat) : Option (Nat × Nat) := if a < N then (match sh a with
  | .inl (t, k) => if k ≤ 100000 then some (t, k) else none
  | _ => none) else none
def ylar (sh : Nat → ySh) (N : Nat) (a : Nat) : Option Nat := if a < N then (match sh a with
  | .inr (.inl k) => if k ≤ 100000 then some k else none
  | _ => none) else none
/-- an array of references: its length, the first one -/
def yrow (sh : Nat → ySh) (N : Nat) (a : Nat) : Option (Nat × Nat) := if a < N then (match sh a with
  | .inr (.inr (.inl (t, k, b))) => if 6 ≤ t ∧ t < 12 ∧ k ≤ 100000 then some (k, b) else none
  | _ => none) else none
/-- an object: its number -/
def yobj (sh : Nat → ySh) (N : Nat) (a : Nat) : Option Nat := if a < N then (match sh a with
  | .inr (.inr (.inr (c, _))) => some c
  | _ => none) else none
section YB
variable {Z : yZ} {m : yM} {n : Nat} {h : xH}
theorem yLay.fld (hl : yLay Z m n h) {a q ci : Nat} {s : ySl} (hf : yfld (zSh Z) (zN Z) a q ci = some s) : ∃ vs : List Value, h[a]? = some (.inr (ci, vs)) ∧ vs[q]? = some (yslv s (m a q)) ∧ ∃ sl : List ySl, zSh Z a = .inr (.inr (.inr (ci, sl))) ∧ sl[q]? = some s ∧ vs.length = sl.length ∧ (∀ (j : Nat) (x : ySl), sl[j]? = some x → vs[j]? = some (yslv x (m a j))) := by
  unfold yfld at hf
  split at hf
  · rename_i ha
    obtain ⟨c, hc, kc⟩ := hl.2.2.2 a ha
    split at hf
    · rename_i c0 sl hs
      split at hf
      · rename_i hci
        subst hci
        rw [hs] at kc
        obtain ⟨vs, rfl, k1, k2⟩ := kc
        exact ⟨vs, hc, k2 q s hf, sl, hs, hf, k1, k2⟩
      · cases hf
    · cases hf
  · cases hf
theorem yLay.arr (hl : yLay Z m n h) {a t k : Nat} (hf : yarr (zSh Z) (zN Z) a = some (t, k)) : k ≤ 100000 ∧ zSh Z a = .inl (t, k) ∧ ∃ g : Nat → Int32, h[a]? = some (.inl (t, k, .inl g)) ∧ ∀ j, j < k → g j = Int32.ofInt (m a j) := by
  unfold yarr at hf
  split at hf
  · rename_i ha
    obtain ⟨c, hc, kc⟩ := hl.2.2.2 a ha
    split at hf
    · rename_i t0 k0 hs
      split at hf
      · rename_i hk
        cases hf
        rw [hs] at kc
        obtain ⟨g, rfl, k2⟩ := kc
        exact ⟨hk, hs, g, hc, k2⟩
      · cases hf
    · cases hf
  · cases hf
theorem yLay.lar (hl : yLay Z m n h) {a k : Nat} (hf : ylar (zSh Z) (zN Z) a = some k) : k ≤ 100000 ∧ zSh Z a = .inr (.inl k) ∧ ∃ g : Nat → Int64, h[a]? = some (.inl (5, k, .inr (.inl g))) ∧ ∀ j, j < k → g j = Int64.ofInt (m a j) := by
  unfold ylar at hf
  split at hf
  · rename_i ha
    obtain ⟨c, hc, kc⟩ := hl.2.2.2 a ha
    split at hf
    · rename_i k0 hs
      split at hf
      · rename_i hk
        cases hf
        rw [hs] at kc
        obtain ⟨g, rfl, k2⟩ := kc
        exact ⟨hk, hs, g, hc, k2⟩
      · cases hf
    · cases hf
  · cases hf
theorem yLay.row (hl : yLay Z m n h) {a b k : Nat} (hf : yrow (zSh Z) (zN Z) a = some (k, b)) : k ≤ 100000 ∧ ∃ (t : Nat) (g : Nat → Option Nat), 6 ≤ t ∧ t < 12 ∧ h[a]? = some (.inl (t, k, .inr (.inr (.inr (.inr g))))) ∧ ∀ j, j < k → g j = some (b + j) := by
  unfold yrow at hf
  split at hf
  · rename_i ha
    obtain ⟨c, hc, kc⟩ := hl.2.2.2 a ha
    split at hf
    · rename_i t0 k0 b0 hs
      split at hf
      · rename_i hk
        cases hf
        rw [hs] at kc
        obtain ⟨g, rfl, k2⟩ := kc
        exact ⟨hk.2.2, t0, g, hk.1, hk.2.1, hc, k2⟩
      · cases hf
    · cases hf
  · cases hf
theorem yLay.obj (hl : yLay Z m n h) {a ci : Nat} (hf : yobj (zSh Z) (zN Z) a = some ci) : ∃ vs : List Value, h[a]? = some (.inr (ci, vs)) := by
  unfold yobj at hf
  split at hf
  · rename_i ha
    obtain ⟨c, hc, kc⟩ := hl.2.2.2 a ha
    split at hf
    · rename_i c0 sl hs
      cases hf
      rw [hs] at kc
      obtain ⟨vs, rfl, -⟩ := kc
      exact ⟨vs, hc⟩
    · cases hf
  · cases hf
theorem y_in {x : Int} {k : Nat} (hk : k ≤ 100000) (h0 : 0 ≤ x) (h1 : x < k) : xin (Int32.ofInt x) k = true ∧ (Int32.ofInt x).toNatClampNeg = x.toNat := by
  have e : (Int32.ofInt x).toNatClampNeg = x.toNat := Int32.toNatClampNeg_ofInt_of_le (by omega) (by omega)
  refine ⟨?_, e⟩
  unfold xin
  rw [e]
  have h2 : ¬ (Int32.ofInt x < 0) := by
    rw [Int32.lt_iff_toInt_lt, Int32.toInt_ofInt_of_le (by omega) (by omega)]
    simp
    exact h0
  simp only [decide_eq_true_eq]
  rintro (q | q)
  · exact h2 q
  · omega
end YB
end
section
/-! THE RULES: an instruction each -/
section YR1
variable {Z : yZ} {i d pc pc' w a b : Nat} {ls ls' : xL} {st st' : List Value} {m m' : yM} {n n' : Nat} {Q : xO → yM → Nat → Prop} {o : xI}
theorem YW.go (ho : zP Z i pc = some o) (hs : ∀ h, yLay Z m n h → ∃ h', zStp Z o pc ls st h = some (.inl (pc', ls', st', h')) ∧ yLay Z m' n' h') (k : YW Z i d pc' ls' st' m' n' Q) : YW Z i d pc ls st m n Q := by
  intro h hL
  obtain ⟨h', hs', hL'⟩ := hs h hL
  obtain ⟨r, h'', m'', n'', hx, hl, hq⟩ := k h' hL'
  exact ⟨r, h'', m'', n'', XR.go ho hs' hx, hl, hq⟩
theorem YW.gp (ho : zP Z i pc = some o) (hs : ∀ h, zStp Z o pc ls st h = some (.inl (pc', ls', st', h))) (k : YW Z i d pc' ls' st' m n Q) : YW Z i d pc ls st m n Q := YW.go ho (fun h hL => ⟨h, hs h, hL⟩) k
theorem YW.mono {Q' : xO → yM → Nat → Prop} (k : YW Z i d pc ls st m n Q) (hq : ∀ r m' n', Q r m' n' → Q' r m' n') : YW Z i d pc ls st m n Q' := by
  intro h hL
  obtain ⟨r, h', m', n', hx, hl, q⟩ := k h hL
  exact ⟨r, h', m', n', hx, hl, hq _ _ _ q⟩
theorem YC.mono {j : Nat} {as : List Value} {Q' : xO → yM → Nat → Prop} (k : YC Z d j as m n Q) (hq : ∀ r m' n', Q r m' n' → Q' r m' n') : YC Z d j as m n Q' := by
  intro h hL
  obtain ⟨r, h', m', n', hx, hl, q⟩ := k h hL
  exact ⟨r, h', m', n', hx, hl, hq _ _ _ q⟩
theorem YC.mk {j : Nat} {as : List Value} {ls0 : xL} (he : xent as (zMx Z j) = ls0) (hn : ls0.length = zMx Z j) (k : YW Z j d 0 ls0 [] m n Q) : YC Z d j as m n Q := by
  intro h hL
  obtain ⟨r, h', m', n', hx, hl, q⟩ := k h hL
  subst he
  exact ⟨r, h', m', n', ⟨hn, hx⟩, hl, q⟩
theorem y_iconst (pc' : Nat) {v : Int} (ho : zP Z i pc = some (.iconst v, w, a, b)) (hp : pc + w = pc') (k : YW Z i d pc' ls (yI v :: st) m n Q) : YW Z i d pc ls st m n Q := YW.gp ho (fun _ => by subst hp; rfl) k
theorem y_lconst (pc' : Nat) {v : Int} (ho : zP Z i pc = some (.goto_w v, w, a, b)) (hp : pc + w = pc') (k : YW Z i d pc' ls (.long (Int64.ofInt v) :: st) m n Q) : YW Z i d pc ls st m n Q := YW.gp ho (fun _ => by subst hp; rfl) k
theorem y_ldc (pc' : Nat) {v : Nat} (ho : zP Z i pc = some (.ldc v, w, a, b)) (hp : pc + w = pc') (hv : v < (zLit Z).length) (k : YW Z i d pc' ls (.retAddr (2 * v + 1) :: st) m n Q) : YW Z i d pc ls st m n Q := YW.gp ho (fun _ => by subst hp; exact if_pos hv) k
theorem y_static0 (pc' : Nat) (ho : zP Z i pc = some (.getstatic 0, w, a, b)) (hp : pc + w = pc') (k : YW Z i d pc' ls (yI 1 :: st) m n Q) : YW Z i d pc ls st m n Q := YW.gp ho (fun _ => by subst hp; rfl) k
theorem y_static1 (pc' : Nat) (ho : zP Z i pc = some (.getstatic 1, w, a, b)) (hp : pc + w = pc') (k : YW Z i d pc' ls (.float 0 :: st) m n Q) : YW Z i d pc ls st m n Q := YW.gp ho (fun _ => by subst hp; rfl) k
theorem y_text (pc' : Nat) {j : Nat} (ho : zP Z i pc = some (.saload, w, a, b)) (hp : pc + w = pc') (hj : j % 2 = 0 ∧ j / 2 < (zLit Z).length) (k : YW Z i d pc' ls (.retAddr (j + 2) :: st) m n Q) : YW Z i d pc ls (.retAddr (j + 1) :: st) m n Q := YW.gp ho (fun _ => by subst hp; exact if_pos hj) k
theorem y_coder (pc' : Nat) {j : Nat} (ho : zP Z i pc = some (.sastore, w, a, b)) (hp : pc + w = pc') (hj : j % 2 = 0 ∧ j / 2 < (zLit Z).length) (k : YW Z i d pc' ls (yI 0 :: st) m n Q) : YW Z i d pc ls (.retAddr (j + 1) :: st) m n Q := YW.gp ho (fun _ => by subst hp; exact if_pos hj) k
theorem y_iload (pc' : Nat) {q : Nat} {x : Int} (ho : zP Z i pc = some (.iload q, w, a, b)) (hp : pc + w = pc') (hl : ls[q]? = some (some (yI x))) (k : YW Z i d pc' ls (yI x :: st) m n Q) : YW Z i d pc ls st m n Q := YW.gp ho (fun _ => by subst hp; simp only [zStp, xstep, hl, yI]; rfl) k
theorem y_lload (pc' : Nat) {q : Nat} {x : Int64} (ho : zP Z i pc = some (.lload q, w, a, b)) (hp : pc + w = pc') (hl : ls[q]? = some (some (.long x))) (k : YW Z i d pc' ls (.long x :: st) m n Q) : YW Z i d pc ls st m n Q := YW.gp ho (fun _ => by subst hp; simp only [zStp, xstep, hl]; rfl) k
theorem y_aload (pc' : Nat) {q : Nat} {v : Value} (ho : zP Z i pc = some (.aload q, w, a, b)) (hp : pc + w = pc') (hl : ls[q]? = some (some v)) (hv : xref v = true) (k : YW Z i d pc' ls (v :: st) m n Q) : YW Z i d pc ls st m n Q := YW.gp ho (fun _ => by subst hp; simp only [zStp, xstep, hl, hv]; rfl) k
theorem y_istore (pc' : Nat) {q : Nat} {x : Int} (ho : zP Z i pc = some (.istore q, w, a, b)) (hp : pc + w = pc') (hl : xset ls q (yI x) = some ls') (k : YW Z i d pc' ls' st m n Q) : YW Z i d pc ls (yI x :: st) m n Q := YW.gp ho (fun _ => by subst hp; simp only [zStp, xstep, yI] at hl ⊢; simp only [hl]; rfl) k
theorem y_astore (pc' : Nat) {q : Nat} {v : Value} (ho : zP Z i pc = some (.astore q, w, a, b)) (hp : pc + w = pc') (hv : xref v = true) (hl : xset ls q v = some ls') (k : YW Z i d pc' ls' st m n Q) : YW Z i d pc ls (v :: st) m n Q := YW.gp ho (fun _ => by subst hp; simp only [zStp, xstep, hv, hl]; rfl) k
theorem y_iinc (pc' : Nat) {q : Nat} {x c : Int} (ho : zP Z i pc = some (.iinc q c, w, a, b)) (hp : pc + w = pc') (hl : ls[q]? = some (some (yI x))) (hs : xset ls q (yI (x + c)) = some ls') (k : YW Z i d pc' ls' st m n Q) : YW Z i d pc ls st m n Q := YW.gp ho (fun _ => by subst hp; simp only [yI, Int32.ofInt_add] at hs; simp only [zStp, xstep, hl, yI, hs]; rfl) k
theorem yI_add (x y : Int) : yI (x + y) = .int (Int32.ofInt x + Int32.ofInt y) := by simp [yI]
theorem yI_sub (x y : Int) : yI (x - y) = .int (Int32.ofInt x - Int32.ofInt y) := by simp [yI]
theorem yI_mul (x y : Int) : yI (x * y) = .int (Int32.ofInt x * Int32.ofInt y) := by simp [yI]
theorem y_iadd (pc' : Nat) {x y : Int} (ho : zP Z i pc = some (.iadd, w, a, b)) (hp : pc + w = pc') (k : YW Z i d pc' ls (yI (x + y) :: st) m n Q) : YW Z i d pc ls (yI y :: yI x :: st) m n Q := YW.gp ho (fun _ => by subst hp; rw [yI_add]; rfl) k
theorem y_isub (pc' : Nat) {x y : Int} (ho : zP Z i pc = some (.isub, w, a, b)) (hp : pc + w = pc') (k : YW Z i d pc' ls (yI (x - y) :: st) m n Q) : YW Z i d pc ls (yI y :: yI x :: st) m n Q := YW.gp ho (fun _ => by subst hp; rw [yI_sub]; rfl) k
theorem y_imul (pc' : Nat) {x y : Int} (ho : zP Z i pc = some (.imul, w, a, b)) (hp : pc + w = pc') (k : YW Z i d pc' ls (yI (x * y) :: st) m n Q) : YW Z i d pc ls (yI y :: yI x :: st) m n Q := YW.gp ho (fun _ => by subst hp; rw [yI_mul]; rfl) k
theorem y_back (x : Int32) : yI x.toInt = .int x := by simp [yI]
theorem y_iand (pc' : Nat) {x y : Int} (ho : zP Z i pc = some (.iand, w, a, b)) (hp : pc + w = pc') (k : YW Z i d pc' ls (yI (Int32.ofInt x &&& Int32.ofInt y).toInt :: st) m n Q) : YW Z i d pc ls (yI y :: yI x :: st) m n Q := YW.gp ho (fun _ => by subst hp; rw [y_back]; rfl) k
theorem y_ior (pc' : Nat) {x y : Int} (ho : zP Z i pc = some (.ior, w, a, b)) (hp : pc + w = pc') (k : YW Z i d pc' ls (yI (Int32.ofInt x ||| Int32.ofInt y).toInt :: st) m n Q) : YW Z i d pc ls (yI y :: yI x :: st) m n Q := YW.gp ho (fun _ => by subst hp; rw [y_back]; rfl) k
theorem y_ishl (pc' : Nat) {x y : Int} (ho : zP Z i pc = some (.ishl, w, a, b)) (hp : pc + w = pc') (k : YW Z i d pc' ls (yI (Int32.ofInt x <<< (Int32.ofInt y &&& 31)).toInt :: st) m n Q) : YW Z i d pc ls (yI y :: yI x :: st) m n Q := YW.gp ho (fun _ => by subst hp; rw [y_back]; rfl) k
theorem y_ishr (pc' : Nat) {x y : Int} (ho : zP Z i pc = some (.ishr, w, a, b)) (hp : pc + w = pc') (k : YW Z i d pc' ls (yI (Int32.ofInt x >>> (Int32.ofInt y &&& 31)).toInt :: st) m n Q) : YW Z i d pc ls (yI y :: yI x :: st) m n Q := YW.gp ho (fun _ => by subst hp; rw [y_back]; rfl) k
theorem y_land (pc' : Nat) {x y : Int64} (ho : zP Z i pc = some (.land, w, a, b)) (hp : pc + w = pc') (k : YW Z i d pc' ls (.long (x &&& y) :: st) m n Q) : YW Z i d pc ls (.long y :: .long x :: st) m n Q := YW.gp ho (fun _ => by subst hp; rfl) k
theorem y_lor (pc' : Nat) {x y : Int64} (ho : zP Z i pc = some (.lor, w, a, b)) (hp : pc + w = pc') (k : YW Z i d pc' ls (.long (x ||| y) :: st) m n Q) : YW Z i d pc ls (.long y :: .long x :: st) m n Q := YW.gp ho (fun _ => by subst hp; rfl) k
theorem y_lushr (pc' : Nat) {x : Int64} {y : Int} (ho : zP Z i pc = some (.lushr, w, a, b)) (hp : pc + w = pc') (k : YW Z i d pc' ls (.long (x.toUInt64 >>> ((Int32.ofInt y).toInt64.toUInt64 &&& Int64.toUInt64 63)).toInt64 :: st) m n Q) : YW Z i d pc ls (yI y :: .long x :: st) m n Q := YW.gp ho (fun _ => by subst hp; rfl) k
theorem y_lshl (pc' : Nat) {x : Int64} {y : Int} (ho : zP Z i pc = some (.lshl, w, a, b)) (hp : pc + w = pc') (k : YW Z i d pc' ls (.long (x <<< ((Int32.ofInt y).toInt64 &&& 63)) :: st) m n Q) : YW Z i d pc ls (yI y :: .long x :: st) m n Q := YW.gp ho (fun _ => by subst hp; rfl) k
theorem y_lshr (pc' : Nat) {x : Int64} {y : Int} (ho : zP Z i pc = some (.lshr, w, a, b)) (hp : pc + w = pc') (k : YW Z i d pc' ls (.long (x >>> ((Int32.ofInt y).toInt64 &&& 63)) :: st) m n Q) : YW Z i d pc ls (yI y :: .long x :: st) m n Q := YW.gp ho (fun _ => by subst hp; rfl) k
theorem y_lcmp (pc' : Nat) {x y : Int64} (ho : zP Z i pc = some (.lcmp, w, a, b)) (hp : pc + w = pc') (k : YW Z i d pc' ls (yI (lg_cmp x y).toInt :: st) m n Q) : YW Z i d pc ls (.long y :: .long x :: st) m n Q := YW.gp ho (fun _ => by subst hp; rw [y_back]; rfl) k
theorem y_i2l (pc' : Nat) {x : Int} (ho : zP Z i pc = some (.i2l, w, a, b)) (hp : pc + w = pc') (k : YW Z i d pc' ls (.long (Int32.ofInt x).toInt64 :: st) m n Q) : YW Z i d pc ls (yI x :: st) m n Q := YW.gp ho (fun _ => by subst hp; rfl) k
theorem y_l2i (pc' : Nat) {x : Int64} (ho : zP Z i pc = some (.l2i, w, a, b)) (hp : pc + w = pc') (k : YW Z i d pc' ls (yI x.toInt32.toInt :: st) m n Q) : YW Z i d pc ls (.long x :: st) m n Q := YW.gp ho (fun _ => by subst hp; rw [y_back]; rfl) k
theorem y_i2c (pc' : Nat) {x : Int} (ho : zP Z i pc = some (.i2c, w, a, b)) (hp : pc + w = pc') (k : YW Z i d pc' ls (yI ((Int32.ofInt x).toUInt32 % 65536).toInt32.toInt :: st) m n Q) : YW Z i d pc ls (yI x :: st) m n Q := YW.gp ho (fun _ => by subst hp; rw [y_back]; rfl) k
theorem y_dup (pc' : Nat) {v : Value} (ho : zP Z i pc = some (.dup, w, a, b)) (hp : pc + w = pc') (hv : v.category = 1) (k : YW Z i d pc' ls (v :: v :: st) m n Q) : YW Z i d pc ls (v :: st) m n Q := YW.gp ho (fun _ => by subst hp; exact if_pos hv) k
theorem y_dup2 (pc' : Nat) {v u : Value} (ho : zP Z i pc = some (.dup2, w, a, b)) (hp : pc + w = pc') (hv : v.category = 1 ∧ u.category = 1) (k : YW Z i d pc' ls (v :: u :: v :: u :: st) m n Q) : YW Z i d pc ls (v :: u :: st) m n Q := YW.gp ho (fun _ => by subst hp; exact if_pos hv) k
theorem y_pop (pc' : Nat) {v : Value} (ho : zP Z i pc = some (.pop, w, a, b)) (hp : pc + w = pc') (hv : v.category = 1) (k : YW Z i d pc' ls st m n Q) : YW Z i d pc ls (v :: st) m n Q := YW.gp ho (fun _ => by subst hp; exact if_pos hv) k
theorem y_goto (pc' : Nat) {t : Int} (ho : zP Z i pc = some (.goto t, w, a, b)) (hp : t.toNat = pc') (k : YW Z i d pc' ls st m n Q) : YW Z i d pc ls st m n Q := YW.gp ho (fun _ => by subst hp; rfl) k
theorem y_if (pt pc' : Nat) {c : ClassFile.Cond} {t x : Int} {φ : Prop} (ho : zP Z i pc = some (.ifCond c t, w, a, b)) (ht : t.toNat = pt) (hp : pc + w = pc') (hφ : xcmp c (Int32.ofInt x) 0 = true ↔ φ) (k1 : φ → YW Z i d pt ls st m n Q) (k2 : ¬ φ → YW Z i d pc' ls st m n Q) : YW Z i d pc ls (yI x :: st) m n Q := by
  subst ht
  subst hp
  by_cases hc : φ
  · exact YW.gp ho (fun _ => if_pos (hφ.mpr hc)) (k1 hc)
  · exact YW.gp ho (fun _ => if_neg (fun q => hc (hφ.mp q))) (k2 hc)
theorem y_icmp (pt pc' : Nat) {c : ClassFile.Cond} {t x y : Int} {φ : Prop} (ho : zP Z i pc = some (.if_icmp c t, w, a, b)) (ht : t.toNat = pt) (hp : pc + w = pc') (hφ : xcmp c (Int32.ofInt x) (Int32.ofInt y) = true ↔ φ) (k1 : φ → YW Z i d pt ls st m n Q) (k2 : ¬ φ → YW Z i d pc' ls st m n Q) : YW Z i d pc ls (yI y :: yI x :: st) m n Q := by
  subst ht
  subst hp
  by_cases hc : φ
  · exact YW.gp ho (fun _ => if_pos (hφ.mpr hc)) (k1 hc)
  · exact YW.gp ho (fun _ => if_neg (fun q => hc (hφ.mp q))) (k2 hc)
theorem y_rng {x : Int} (hx : -2147483648 ≤ x ∧ x < 2147483648) : (Int32.ofInt x).toInt = x := Int32.toInt_ofInt_of_le (by omega) (by omega)
theorem yc_eq {x y : Int} (hx : -2147483648 ≤ x ∧ x < 2147483648) (hy : -2147483648 ≤ y ∧ y < 2147483648) : xcmp .eq (Int32.ofInt x) (Int32.ofInt y) = true ↔ x = y := by
  unfold xcmp
  rw [decide_eq_true_iff, ← Int32.toInt_inj, y_rng hx, y_rng hy]
theorem yc_ne {x y : Int} (hx : -2147483648 ≤ x ∧ x < 2147483648) (hy : -2147483648 ≤ y ∧ y < 2147483648) : xcmp .ne (Int32.ofInt x) (Int32.ofInt y) = true ↔ ¬ x = y := by
  unfold xcmp
  rw [decide_eq_true_iff, ← Int32.toInt_inj, y_rng hx, y_rng hy]
theorem yc_lt {x y : Int} (hx : -2147483648 ≤ x ∧ x < 2147483648) (hy : -2147483648 ≤ y ∧ y < 2147483648) : xcmp .lt (Int32.ofInt x) (Int32.ofInt y) = true ↔ x < y := by
  unfold xcmp
  rw [decide_eq_true_iff, Int32.lt_iff_toInt_lt, y_rng hx, y_rng hy]
theorem yc_ge {x y : Int} (hx : -2147483648 ≤ x ∧ x < 2147483648) (hy : -2147483648 ≤ y ∧ y < 2147483648) : xcmp .ge (Int32.ofInt x) (Int32.ofInt y) = true ↔ y ≤ x := by
  unfold xcmp
  rw [decide_eq_true_iff, Int32.le_iff_toInt_le, y_rng hx, y_rng hy]
theorem yc_gt {x y : Int} (hx : -2147483648 ≤ x ∧ x < 2147483648) (hy : -2147483648 ≤ y ∧ y < 2147483648) : xcmp .gt (Int32.ofInt x) (Int32.ofInt y) = true ↔ y < x := by
  unfold xcmp
  rw [decide_eq_true_iff, Int32.lt_iff_toInt_lt, y_rng hx, y_rng hy]
theorem yc_le {x y : Int} (hx : -2147483648 ≤ x ∧ x < 2147483648) (hy : -2147483648 ≤ y ∧ y < 2147483648) : xcmp .le (Int32.ofInt x) (Int32.ofInt y) = true ↔ x ≤ y := by
  unfold xcmp
  rw [decide_eq_true_iff, Int32.le_iff_toInt_le, y_rng hx, y_rng hy]
theorem yz_eq {x : Int} (hx : -2147483648 ≤ x ∧ x < 2147483648) : xcmp .eq (Int32.ofInt x) 0 = true ↔ x = 0 := yc_eq hx (y := 0) (by omega)
theorem yz_ne {x : Int} (hx : -2147483648 ≤ x ∧ x < 2147483648) : xcmp .ne (Int32.ofInt x) 0 = true ↔ ¬ x = 0 := yc_ne hx (y := 0) (by omega)
theorem yz_lt {x : Int} (hx : -2147483648 ≤ x ∧ x < 2147483648) : xcmp .lt (Int32.ofInt x) 0 = true ↔ x < 0 := yc_lt hx (y := 0) (by omega)
theorem yz_ge {x : Int} (hx : -2147483648 ≤ x ∧ x < 2147483648) : xcmp .ge (Int32.ofInt x) 0 = true ↔ 0 ≤ x := yc_ge hx (y := 0) (by omega)
theorem yz_gt {x : Int} (hx : -2147483648 ≤ x ∧ x < 2147483648) : xcmp .gt (Int32.ofInt x) 0 = true ↔ 0 < x := yc_gt hx (y := 0) (by omega)
theorem yz_le {x : Int} (hx : -2147483648 ≤ x ∧ x < 2147483648) : xcmp .le (Int32.ofInt x) 0 = true ↔ x ≤ 0 := yc_le hx (y := 0) (by omega)
theorem y_idiv (pc' : Nat) {x y : Int} (ho : zP Z i pc = some (.idiv, w, a, b)) (hp : pc + w = pc') (hx : 0 ≤ x ∧ x < 2147483648) (hy : 0 < y ∧ y < 2147483648) (k : YW Z i d pc' ls (yI (x / y) :: st) m n Q) : YW Z i d pc ls (yI y :: yI x :: st) m n Q := by
  subst hp
  refine YW.gp ho (fun _ => ?_) k
  have h0 : ¬ (Int32.ofInt y = 0) := fun q => by
    have := congrArg Int32.toInt q
    rw [y_rng (by omega)] at this
    simp at this
    omega
  have e : Int32.ofInt x / Int32.ofInt y = Int32.ofInt (x / y) := by
    rw [← Int.tdiv_eq_ediv_of_nonneg hx.1]
    exact (Int32.ofInt_tdiv (by have : Int32.minValue.toInt = -2147483648 := rfl; omega) (by have : Int32.maxValue.toInt = 2147483647 := rfl; omega) (by have : Int32.minValue.toInt = -2147483648 := rfl; omega) (by have : Int32.maxValue.toInt = 2147483647 := rfl; omega)).symm
  show (if Int32.ofInt y = 0 then none else _) = _
  rw [if_neg h0, e]
  rfl
theorem y_irem (pc' : Nat) {x y : Int} (ho : zP Z i pc = some (.irem, w, a, b)) (hp : pc + w = pc') (hx : 0 ≤ x ∧ x < 2147483648) (hy : 0 < y ∧ y < 2147483648) (k : YW Z i d pc' ls (yI (x % y) :: st) m n Q) : YW Z i d pc ls (yI y :: yI x :: st) m n Q := by
  subst hp
  refine YW.gp ho (fun _ => ?_) k
  have h0 : ¬ (Int32.ofInt y = 0) := fun q => by
    have := congrArg Int32.toInt q
    rw [y_rng (by omega)] at this
    simp at this
    omega
  have e : Int32.ofInt x - Int32.ofInt x / Int32.ofInt y * Int32.ofInt y = Int32.ofInt (x % y) := by
    have e1 : Int32.ofInt x / Int32.ofInt y = Int32.ofInt (x / y) := by
      rw [← Int.tdiv_eq_ediv_of_nonneg hx.1]
      exact (Int32.ofInt_tdiv (by have : Int32.minValue.toInt = -2147483648 := rfl; omega) (by have : Int32.maxValue.toInt = 2147483647 := rfl; omega) (by have : Int32.minValue.toInt = -2147483648 := rfl; omega) (by have : Int32.maxValue.toInt = 2147483647 := rfl; omega)).symm
    rw [e1, ← Int32.ofInt_mul, ← Int32.ofInt_sub]
    congr 1
    have := Int.mul_ediv_add_emod x y
    rw [Int.mul_comm] at this
    omega
  show (if Int32.ofInt y = 0 then none else _) = _
  rw [if_neg h0, e]
  rfl
end YR1
end
section
/-! THE RULES: cells, calls, ends -/
section YR2
variable {Z : yZ} {i d pc pc' w a b : Nat} {ls ls' : xL} {st st' st0 : List Value} {m m' : yM} {n n' : Nat} {Q Qs : xO → yM → Nat → Prop} {o : xI}
theorem y_getI (pc' : Nat) {q ci t A : Nat} (ho : zP Z i pc = some (.getfield q, w, ci, b)) (hp : pc + w = pc') (hf : yfld (zSh Z) (zN Z) A q ci = some (.inl t)) (k : YW Z i d pc' ls (yI (m A q) :: st) m n Q) : YW Z i d pc ls (.ref A :: st) m n Q := by
  subst hp
  refine YW.go ho (fun h hL => ⟨h, ?_, hL⟩) k
  obtain ⟨vs, h1, h2, -⟩ := hL.fld hf
  simp [zStp, xstep, h1, h2, xgo, yslv]
theorem y_getR (pc' : Nat) {q ci A B : Nat} (ho : zP Z i pc = some (.getfield q, w, ci, b)) (hp : pc + w = pc') (hf : yfld (zSh Z) (zN Z) A q ci = some (.inr (.inl B))) (k : YW Z i d pc' ls (.ref B :: st) m n Q) : YW Z i d pc ls (.ref A :: st) m n Q := by
  subst hp
  refine YW.go ho (fun h hL => ⟨h, ?_, hL⟩) k
  obtain ⟨vs, h1, h2, -⟩ := hL.fld hf
  simp [zStp, xstep, h1, h2, xgo, yslv]
theorem y_getS (pc' : Nat) {q ci A B : Nat} {l : List Nat} (ho : zP Z i pc = some (.getfield q, w, ci, b)) (hp : pc + w = pc') (hf : yfld (zSh Z) (zN Z) A q ci = some (.inr (.inr l))) (hx : ysv l (m A q) = .ref B) (k : YW Z i d pc' ls (.ref B :: st) m n Q) : YW Z i d pc ls (.ref A :: st) m n Q := by
  subst hp
  refine YW.go ho (fun h hL => ⟨h, ?_, hL⟩) k
  obtain ⟨vs, h1, h2, -⟩ := hL.fld hf
  simp [zStp, xstep, h1, h2, xgo, yslv, hx]
theorem y_put (pc' : Nat) {q ci t A : Nat} {s : ySl} {v : Value} {x : Int} (ho : zP Z i pc = some (.putfield q, w, ci, t)) (hp : pc + w = pc') (hf : yfld (zSh Z) (zN Z) A q ci = some s) (hv : xfit t v = true) (hs : yslv s x = v) (k : YW Z i d pc' ls st (yup m A q x) n Q) : YW Z i d pc ls (v :: .ref A :: st) m n Q := by
  subst hp
  refine YW.go ho (fun h hL => ?_) k
  obtain ⟨vs, h1, h2, sl, h3, h4, h5, h6⟩ := hL.fld hf
  have hq : q < vs.length := (List.getElem?_eq_some_iff.mp h2).1
  refine ⟨h.set A (.inr (ci, vs.set q v)), ?_, hL.set h1 (by simp [xcz]) ?_⟩
  · simp [zStp, xstep, h1, hq, hv, xgo]
  · rw [h3]
    simp only [yCell]
    refine ⟨_, rfl, by simp [h5], fun j s' hj => ?_⟩
    by_cases e : j = q
    · subst e
      rw [hj] at h4
      cases h4
      rw [List.getElem?_set_self hq, yup_eq, hs]
    · rw [List.getElem?_set_ne (fun q => e q.symm), yup_nk e]
      exact h6 j s' hj
theorem y_putI (pc' : Nat) {q ci t t0 A : Nat} {x : Int} (ho : zP Z i pc = some (.putfield q, w, ci, t)) (hp : pc + w = pc') (hf : yfld (zSh Z) (zN Z) A q ci = some (.inl t0)) (hv : xfit t (yI x) = true) (k : YW Z i d pc' ls st (yup m A q x) n Q) : YW Z i d pc ls (yI x :: .ref A :: st) m n Q := y_put pc' ho hp hf hv rfl k
theorem y_putS (pc' : Nat) (j : Nat) {q ci A B : Nat} {l : List Nat} (ho : zP Z i pc = some (.putfield q, w, ci, 6)) (hp : pc + w = pc') (hf : yfld (zSh Z) (zN Z) A q ci = some (.inr (.inr l))) (hj : l[j]? = some B) (k : YW Z i d pc' ls st (yup m A q j) n Q) : YW Z i d pc ls (.ref B :: .ref A :: st) m n Q := y_put pc' ho hp hf rfl (by
  have h0 : ¬ ((j : Int) < 0) := by omega
  simp [yslv, ysv, h0, hj]) k
theorem y_iaload (pc' : Nat) {t A e : Nat} {x : Int} (ho : zP Z i pc = some (.iaload, w, t, b)) (hp : pc + w = pc') (hf : yarr (zSh Z) (zN Z) A = some (t, e)) (hx : 0 ≤ x ∧ x < e) (k : YW Z i d pc' ls (yI (m A x.toNat) :: st) m n Q) : YW Z i d pc ls (yI x :: .ref A :: st) m n Q := by
  subst hp
  refine YW.go ho (fun h hL => ⟨h, ?_, hL⟩) k
  obtain ⟨hk, -, g, h1, h2⟩ := hL.arr hf
  obtain ⟨e1, e2⟩ := y_in hk hx.1 hx.2
  have e3 := h2 x.toNat (by omega)
  simp [zStp, xstep, yI, h1, e1, e2, xgo, e3]
theorem y_script (pc' : Nat) {x : Int} (ho : zP Z i pc = some (.iaload, w, 0, b)) (hp : pc + w = pc') (hl : zLn Z ≤ 100000) (hx : 0 ≤ x ∧ x < zLn Z) (k : YW Z i d pc' ls (yI (zXs Z x.toNat).toInt :: st) m n Q) : YW Z i d pc ls (yI x :: .retAddr 0 :: st) m n Q := by
  subst hp
  refine YW.gp ho (fun h => ?_) k
  obtain ⟨e1, e2⟩ := y_in hl hx.1 hx.2
  rw [y_back]
  have e1 : xin (Int32.ofInt x) Z.1.2.1 = true := e1
  simp [zStp, xstep, yI, e1, e2, xgo, zXs]
theorem y_iastore (pc' : Nat) {t A e : Nat} {x v : Int} (ho : zP Z i pc = some (.iastore, w, t, b)) (hp : pc + w = pc') (hf : yarr (zSh Z) (zN Z) A = some (t, e)) (hx : 0 ≤ x ∧ x < e) (hv : (if t = 3 then vp_nar .char (Int32.ofInt v) else if t = 1 then vp_nar .boolean (Int32.ofInt v) else if t = 2 then vp_nar .byte (Int32.ofInt v) else Int32.ofInt v) = Int32.ofInt v) (k : YW Z i d pc' ls st (yup m A x.toNat v) n Q) : YW Z i d pc ls (yI v :: yI x :: .ref A :: st) m n Q := by
  subst hp
  refine YW.go ho (fun h hL => ?_) k
  obtain ⟨hk, hs, g, h1, h2⟩ := hL.arr hf
  obtain ⟨e1, e2⟩ := y_in hk hx.1 hx.2
  refine ⟨h.set A (.inl (t, e, .inl (upd g x.toNat (Int32.ofInt v)))), ?_, hL.set h1 rfl ?_⟩
  · simp only [zStp, xstep, yI, h1, e1, e2, xgo, hv, and_self, if_true]
  · rw [hs]
    simp only [yCell]
    refine ⟨_, rfl, fun j hj => ?_⟩
    by_cases q : j = x.toNat
    · subst q
      rw [yup_eq]
      simp [upd]
    · rw [yup_nk q, ← h2 j hj]
      simp [upd, q]
theorem y_laload (pc' : Nat) {A e : Nat} {x : Int} (ho : zP Z i pc = some (.laload, w, a, b)) (hp : pc + w = pc') (hf : ylar (zSh Z) (zN Z) A = some e) (hx : 0 ≤ x ∧ x < e) (k : YW Z i d pc' ls (.long (Int64.ofInt (m A x.toNat)) :: st) m n Q) : YW Z i d pc ls (yI x :: .ref A :: st) m n Q := by
  subst hp
  refine YW.go ho (fun h hL => ⟨h, ?_, hL⟩) k
  obtain ⟨hk, -, g, h1, h2⟩ := hL.lar hf
  obtain ⟨e1, e2⟩ := y_in hk hx.1 hx.2
  have e3 := h2 x.toNat (by omega)
  simp [zStp, xstep, yI, h1, e1, e2, xgo, e3]
theorem y_lastore (pc' : Nat) {A e : Nat} {x : Int} {v : Int64} (ho : zP Z i pc = some (.lastore, w, a, b)) (hp : pc + w = pc') (hf : ylar (zSh Z) (zN Z) A = some e) (hx : 0 ≤ x ∧ x < e) (k : YW Z i d pc' ls st (yup m A x.toNat v.toInt) n Q) : YW Z i d pc ls (.long v :: yI x :: .ref A :: st) m n Q := by
  subst hp
  refine YW.go ho (fun h hL => ?_) k
  obtain ⟨hk, hs, g, h1, h2⟩ := hL.lar hf
  obtain ⟨e1, e2⟩ := y_in hk hx.1 hx.2
  refine ⟨h.set A (.inl (5, e, .inr (.inl (vp_updL g x.toNat v)))), ?_, hL.set h1 rfl ?_⟩
  · simp only [zStp, xstep, yI, h1, e1, e2, xgo, and_self, if_true]
  · rw [hs]
    simp only [yCell]
    refine ⟨_, rfl, fun j hj => ?_⟩
    by_cases q : j = x.toNat
    · subst q
      rw [yup_eq]
      simp [vp_updL]
    · rw [yup_nk q, ← h2 j hj]
      simp [vp_updL, q]
theorem y_aaload (pc' : Nat) {A e B : Nat} {x : Int} (ho : zP Z i pc = some (.aaload, w, a, b)) (hp : pc + w = pc') (hf : yrow (zSh Z) (zN Z) A = some (e, B)) (hx : 0 ≤ x ∧ x < e) (k : YW Z i d pc' ls (.ref (B + x.toNat) :: st) m n Q) : YW Z i d pc ls (yI x :: .ref A :: st) m n Q := by
  subst hp
  refine YW.go ho (fun h hL => ⟨h, ?_, hL⟩) k
  obtain ⟨hk, t, g, t1, t2, h1, h2⟩ := hL.row hf
  obtain ⟨e1, e2⟩ := y_in hk hx.1 hx.2
  have e3 := h2 x.toNat (by omega)
  simp [zStp, xstep, yI, h1, e1, e2, xgo, e3, t1, t2, va_rf]
theorem y_alen (pc' : Nat) {t A e : Nat} (ho : zP Z i pc = some (.arraylength, w, a, b)) (hp : pc + w = pc') (hf : yarr (zSh Z) (zN Z) A = some (t, e)) (k : YW Z i d pc' ls (yI e :: st) m n Q) : YW Z i d pc ls (.ref A :: st) m n Q := by
  subst hp
  refine YW.go ho (fun h hL => ⟨h, ?_, hL⟩) k
  obtain ⟨hk, -, g, h1, h2⟩ := hL.arr hf
  simp [zStp, xstep, yI, h1, xgo, Int32.ofInt_eq_ofNat]
theorem y_rlen (pc' : Nat) {A e B : Nat} (ho : zP Z i pc = some (.arraylength, w, a, b)) (hp : pc + w = pc') (hf : yrow (zSh Z) (zN Z) A = some (e, B)) (k : YW Z i d pc' ls (yI e :: st) m n Q) : YW Z i d pc ls (.ref A :: st) m n Q := by
  subst hp
  refine YW.go ho (fun h hL => ⟨h, ?_, hL⟩) k
  obtain ⟨hk, t, g, t1, t2, h1, h2⟩ := hL.row hf
  simp [zStp, xstep, yI, h1, xgo, Int32.ofInt_eq_ofNat]
theorem y_slen (pc' : Nat) (ho : zP Z i pc = some (.arraylength, w, a, b)) (hp : pc + w = pc') (k : YW Z i d pc' ls (yI (zLn Z) :: st) m n Q) : YW Z i d pc ls (.retAddr 0 :: st) m n Q := by
  subst hp
  refine YW.gp ho (fun h => ?_) k
  simp [zStp, xstep, yI, xgo, Int32.ofInt_eq_ofNat, zLn]
theorem y_blen (pc' : Nat) {j : Nat} (ho : zP Z i pc = some (.arraylength, w, a, b)) (hp : pc + w = pc') (hj : j % 2 = 1 ∧ j / 2 < (zLit Z).length) (k : YW Z i d pc' ls (yI ((zLit Z).getD (j / 2) []).length :: st) m n Q) : YW Z i d pc ls (.retAddr (j + 1) :: st) m n Q := by
  subst hp
  refine YW.gp ho (fun h => ?_) k
  have hj : j % 2 = 1 ∧ j / 2 < Z.1.2.2.2.1.length := hj
  simp only [zStp, xstep, yI, xgo, zLit, if_pos hj, Int32.ofInt_eq_ofNat]
theorem y_byte (pc' : Nat) {j : Nat} {x : Int} (ho : zP Z i pc = some (.baload, w, a, b)) (hp : pc + w = pc') (hj : j % 2 = 1 ∧ j / 2 < (zLit Z).length) (hb : ((zLit Z).getD (j / 2) []).length ≤ 100000) (hx : 0 ≤ x ∧ x < ((zLit Z).getD (j / 2) []).length) (k : YW Z i d pc' ls (yI (((zLit Z).getD (j / 2) []).getD x.toNat 0).toInt :: st) m n Q) : YW Z i d pc ls (yI x :: .retAddr (j + 1) :: st) m n Q := by
  subst hp
  refine YW.gp ho (fun h => ?_) k
  obtain ⟨e1, e2⟩ := y_in hb hx.1 hx.2
  rw [y_back]
  have hq : j % 2 = 1 ∧ j / 2 < Z.1.2.2.2.1.length ∧ xin (Int32.ofInt x) (Z.1.2.2.2.1.getD (j / 2) []).length = true := ⟨hj.1, hj.2, e1⟩
  simp only [zStp, xstep, yI, xgo, zLit, if_pos hq, e2]
/-- the receiver of a call is what the method asks -/
def ycan (Z : yZ) (j : Nat) (as : List Value) : Prop := match zMc Z j with
  | none => True
  | some ci => match as with
    | .ref a :: _ => yobj (zSh Z) (zN Z) a = some ci
    | .retAddr (q + 1) :: _ => ci = 1000 ∧ q % 2 = 0 ∧ q / 2 < (zLit Z).length
    | _ => False
theorem y_calls {j ix kk kd : Nat} {as : List Value} {h : xH} (hL : yLay Z m n h) (ha : (st.take kk).reverse = as) (hr : st.drop kk = st0) (hk : kk ≤ st.length) (hw : xw st0 ≤ 8) (hm : ycan Z j as) : zStp Z (.invokeinterface j ix, w, kk, kd) pc ls st h = some (.inr (.inr (j, as, pc + w, st0))) := by
  subst ha
  subst hr
  unfold zStp
  simp only [xstep]
  rw [if_pos ⟨hk, hw⟩]
  unfold ycan zMc at hm
  cases hmc : Z.1.2.2.2.2 j with
  | none => rfl
  | some ci =>
    rw [hmc] at hm
    simp only at hm ⊢
    split at hm
    · rename_i a0 as0 he
      obtain ⟨vs, hv⟩ := hL.obj hm
      simp only [he, hv, if_true]
    · rename_i q0 as0 he
      simp only [he]
      exact if_pos hm
    · exact hm.elim
theorem y_call (pc' : Nat) {j ix kk kd : Nat} {as : List Value} (ho : zP Z i pc = some (.invokeinterface j ix, w, kk, kd)) (hp : pc + w = pc') (ha : (st.take kk).reverse = as) (hr : st.drop kk = st0) (hk : kk ≤ st.length) (hw : xw st0 ≤ 8) (hm : ycan Z j as) (hc : YC Z d j as m n Qs) (k1 : ∀ v m' n', Qs (.inl v) m' n' → YW Z i (d + 1) pc' ls (v.toList ++ st0) m' n' Q) (k2 : ∀ q x m' n', Qs (.inr (q, x)) m' n' → (∃ pq, zHd Z i pc q = some (some pq) ∧ YW Z i (d + 1) pq ls [.ref x] m' n' Q) ∨ (zHd Z i pc q = some none ∧ Q (.inr (q, x)) m' n')) : YW Z i (d + 1) pc ls st m n Q := by
  subst hp
  intro h hL
  have hs := y_calls (w := w) (pc := pc) (ls := ls) (ix := ix) (kd := kd) hL ha hr hk hw hm
  obtain ⟨r, h', m', n', hx, hl, hq⟩ := hc h hL
  cases r with
  | inl v =>
    obtain ⟨r2, h2, m2, n2, x2, l2, q2⟩ := k1 v m' n' hq h' hl
    exact ⟨r2, h2, m2, n2, XR.call ho hs hx x2, l2, q2⟩
  | inr qx =>
    obtain ⟨q, x⟩ := qx
    rcases k2 q x m' n' hq with ⟨pq, e1, k3⟩ | ⟨e1, k3⟩
    · obtain ⟨r2, h2, m2, n2, x2, l2, q2⟩ := k3 h' hl
      exact ⟨r2, h2, m2, n2, XR.caught ho hs hx e1 x2, l2, q2⟩
    · exact ⟨_, h', m', n', XR.out ho hs hx e1, hl, k3⟩
/-- what a call gives: an int, nothing, a reference; nothing is thrown -/
def qI (R : Int → yM → Nat → Prop) : xO → yM → Nat → Prop := fun o m n => ∃ x, o = .inl (some (yI x)) ∧ R x m n
def qU (R : yM → Nat → Prop) : xO → yM → Nat → Prop := fun o m n => o = .inl none ∧ R m n
def qA (R : Nat → yM → Nat → Prop) : xO → yM → Nat → Prop := fun o m n => ∃ A, o = .inl (some (.ref A)) ∧ R A m n
/-- an int, or something is thrown -/
def qT (R : Int → yM → Nat → Prop) (T : Nat → yM → Nat → Prop) : xO → yM → Nat → Prop := fun o m n => (∃ x, o = .inl (some (yI x)) ∧ R x m n) ∨ (∃ q x, o = .inr (q, x) ∧ T q m n)
theorem y_callI (pc' : Nat) {j ix kk kd : Nat} {as : List Value} {R : Int → yM → Nat → Prop} (ho : zP Z i pc = some (.invokeinterface j ix, w, kk, kd)) (hp : pc + w = pc') (ha : (st.take kk).reverse = as) (hr : st.drop kk = st0) (hk : kk ≤ st.length) (hw : xw st0 ≤ 8) (hm : ycan Z j as) (hc : YC Z d j as m n (qI R)) (k1 : ∀ x m' n', R x m' n' → YW Z i (d + 1) pc' ls (yI x :: st0) m' n' Q) : YW Z i (d + 1) pc ls st m n Q :=
  y_call pc' ho hp ha hr hk hw hm hc (fun v m' n' hq => by
    obtain ⟨x, e, hR⟩ := hq
    cases e
    exact k1 x m' n' hR) (fun q x m' n' hq => by
    obtain ⟨x, e, hR⟩ := hq
    cases e)
theorem y_callU (pc' : Nat) {j ix kk kd : Nat} {as : List Value} {R : yM → Nat → Prop} (ho : zP Z i pc = some (.invokeinterface j ix, w, kk, kd)) (hp : pc + w = pc') (ha : (st.take kk).reverse = as) (hr : st.drop kk = st0) (hk : kk ≤ st.length) (hw : xw st0 ≤ 8) (hm : ycan Z j as) (hc : YC Z d j as m n (qU R)) (k1 : ∀ m' n', R m' n' → YW Z i (d + 1) pc' ls st0 m' n' Q) : YW Z i (d + 1) pc ls st m n Q :=
  y_call pc' ho hp ha hr hk hw hm hc (fun v m' n' hq => by
    obtain ⟨e, hR⟩ := hq
    cases e
    exact k1 m' n' hR) (fun q x m' n' hq => by
    obtain ⟨e, hR⟩ := hq
    cases e)
theorem y_callA (pc' : Nat) {j ix kk kd : Nat} {as : List Value} {R : Nat → yM → Nat → Prop} (ho : zP Z i pc = some (.invokeinterface j ix, w, kk, kd)) (hp : pc + w = pc') (ha : (st.take kk).reverse = as) (hr : st.drop kk = st0) (hk : kk ≤ st.length) (hw : xw st0 ≤ 8) (hm : ycan Z j as) (hc : YC Z d j as m n (qA R)) (k1 : ∀ A m' n', R A m' n' → YW Z i (d + 1) pc' ls (.ref A :: st0) m' n' Q) : YW Z i (d + 1) pc ls st m n Q :=
  y_call pc' ho hp ha hr hk hw hm hc (fun v m' n' hq => by
    obtain ⟨x, e, hR⟩ := hq
    cases e
    exact k1 x m' n' hR) (fun q x m' n' hq => by
    obtain ⟨x, e, hR⟩ := hq
    cases e)
theorem y_callT (pc' : Nat) {j ix kk kd : Nat} {as : List Value} {R : Int → yM → Nat → Prop} {T : Nat → yM → Nat → Prop} (ho : zP Z i pc = some (.invokeinterface j ix, w, kk, kd)) (hp : pc + w = pc') (ha : (st.take kk).reverse = as) (hr : st.drop kk = st0) (hk : kk ≤ st.length) (hw : xw st0 ≤ 8) (hm : ycan Z j as) (hc : YC Z d j as m n (qT R T)) (k1 : ∀ x m' n', R x m' n' → YW Z i (d + 1) pc' ls (yI x :: st0) m' n' Q) (k2 : ∀ q x m' n', T q m' n' → (∃ pq, zHd Z i pc q = some (some pq) ∧ YW Z i (d + 1) pq ls [.ref x] m' n' Q) ∨ (zHd Z i pc q = some none ∧ Q (.inr (q, x)) m' n')) : YW Z i (d + 1) pc ls st m n Q :=
  y_call pc' ho hp ha hr hk hw hm hc (fun v m' n' hq => by
    rcases hq with ⟨x, e, hR⟩ | ⟨q, x, e, hR⟩
    · cases e
      exact k1 x m' n' hR
    · cases e) (fun q x m' n' hq => by
    rcases hq with ⟨x, e, hR⟩ | ⟨q, x, e, hR⟩
    · cases e
    · cases e
      exact k2 q x m' n' hR)
theorem y_throw {e : Nat} (ho : zP Z i pc = some (.athrow, w, e, b)) (hw : xw st ≤ 8) (hq : Q (.inr (e, n)) m (n + 1)) : YW Z i d pc ls st m n Q := by
  intro h hL
  refine ⟨_, _, m, n + 1, XR.fin ho (r := (.inr (e, h.length), h ++ [.inr (e, List.replicate 6 .null)])) ?_, hL.app e, ?_⟩
  · exact if_pos hw
  · rw [hL.1]
    exact hq
theorem y_ireturn {t : Nat} {x : Int} (ho : zP Z i pc = some (.ireturn, w, t, b)) (hv : xfit t (yI x) = true) (hq : Q (.inl (some (yI x))) m n) : YW Z i d pc ls [yI x] m n Q := by
  intro h hL
  exact ⟨_, _, m, n, XR.fin ho (r := (.inl (some (yI x)), h)) (if_pos hv), hL, hq⟩
theorem y_areturn {v : Value} (ho : zP Z i pc = some (.areturn, w, a, b)) (hv : xref v = true) (hq : Q (.inl (some v)) m n) : YW Z i d pc ls [v] m n Q := by
  intro h hL
  exact ⟨_, _, m, n, XR.fin ho (r := (.inl (some v), h)) (if_pos hv), hL, hq⟩
theorem y_return (ho : zP Z i pc = some (.return_, w, a, b)) (hq : Q (.inl none) m n) : YW Z i d pc ls [] m n Q := by
  intro h hL
  exact ⟨_, _, m, n, XR.fin ho (r := (.inl none, h)) rfl, hL, hq⟩
theorem y_tsw (pt : Nat) {df lo hi c o : Int} {offs : Array Int} (ho : zP Z i pc = some (.tableswitch df lo hi offs, w, a, b)) (hr : -2147483648 ≤ c ∧ c < 2147483648) (hc : ¬ (c < lo ∨ hi < c)) (hoff : offs[(c - lo).toNat]? = some o) (ht : ((pc : Int) + o).toNat = pt) (k : YW Z i d pt ls st m n Q) : YW Z i d pc ls (yI c :: st) m n Q := by
  subst ht
  refine YW.gp ho (fun h => ?_) k
  simp only [zStp, xstep, yI, y_rng hr]
  rw [if_neg hc]
  simp only [hoff]
  rfl
theorem y_tswd (pt : Nat) {df lo hi x : Int} {offs : Array Int} (ho : zP Z i pc = some (.tableswitch df lo hi offs, w, a, b)) (hr : -2147483648 ≤ x ∧ x < 2147483648) (hc : x < lo ∨ hi < x) (ht : ((pc : Int) + df).toNat = pt) (k : YW Z i d pt ls st m n Q) : YW Z i d pc ls (yI x :: st) m n Q := by
  subst ht
  refine YW.gp ho (fun h => ?_) k
  simp only [zStp, xstep, yI, y_rng hr]
  rw [if_pos hc]
  rfl
theorem y_lsw (pt : Nat) {df x o : Int} {ps : Array (Int × Int)} (ho : zP Z i pc = some (.lookupswitch df ps, w, a, b)) (hr : -2147483648 ≤ x ∧ x < 2147483648) (hoff : Op.lookupswitch.offset ps.toList df x = o) (ht : ((pc : Int) + o).toNat = pt) (k : YW Z i d pt ls st m n Q) : YW Z i d pc ls (yI x :: st) m n Q := by
  subst ht
  refine YW.gp ho (fun h => ?_) k
  simp only [zStp, xstep, yI, y_rng hr, hoff]
  rfl
theorem y_fit0 (x : Int) : xfit 0 (yI x) = true := rfl
theorem y_fit1 {x : Int} (h : x = 0 ∨ x = 1) : xfit 1 (yI x) = true := by rcases h with rfl | rfl <;> decide
theorem y_nar0 (v : Int) : (if (0 : Nat) = 3 then vp_nar .char (Int32.ofInt v) else if (0 : Nat) = 1 then vp_nar .boolean (Int32.ofInt v) else if (0 : Nat) = 2 then vp_nar .byte (Int32.ofInt v) else Int32.ofInt v) = Int32.ofInt v := rfl
theorem y_nar1 {v : Int} (h : v = 0 ∨ v = 1) : (if (1 : Nat) = 3 then vp_nar .char (Int32.ofInt v) else if (1 : Nat) = 1 then vp_nar .boolean (Int32.ofInt v) else if (1 : Nat) = 2 then vp_nar .byte (Int32.ofInt v) else Int32.ofInt v) = Int32.ofInt v := by rcases h with rfl | rfl <;> decide
end YR2
end
section
/-! CALLS WALKED IN PLACE -/
section YK1
variable {Z : yZ} {i j d pc pc' w a b : Nat} {ls ls' : xL} {st st' st0 : List Value} {m m' : yM} {n n' : Nat} {Q Qs : xO → yM → Nat → Prop} {o : xI} {as : List Value}
/-- what is left of the caller when the call at pc ends with r -/
def yK (Z : yZ) (i d pc pc' : Nat) (ls : xL) (st0 : List Value) (Q : xO → yM → Nat → Prop) (r : xO) (m : yM) (n : Nat) : Prop := match r with
  | .inl v => YW Z i (d + 1) pc' ls (v.toList ++ st0) m n Q
  | .inr (q, x) => (∃ pq, zHd Z i pc q = some (some pq) ∧ YW Z i (d + 1) pq ls [.ref x] m n Q) ∨ (zHd Z i pc q = some none ∧ Q (.inr (q, x)) m n)
theorem ycanS (h : zMc Z j = none) : ycan Z j as := by
  unfold ycan
  rw [h]
  trivial
theorem ycanO {A ci : Nat} (h : zMc Z j = some ci) (h2 : yobj (zSh Z) (zN Z) A = some ci) : ycan Z j (.ref A :: as) := by
  unfold ycan
  rw [h]
  exact h2
theorem ycanT {q : Nat} (h : zMc Z j = some 1000) (h2 : q % 2 = 0 ∧ q / 2 < (zLit Z).length) : ycan Z j (.retAddr (q + 1) :: as) := by
  unfold ycan
  rw [h]
  exact ⟨rfl, h2⟩
theorem y_inl (pc' : Nat) {ix kk kd kx : Nat} {ls0 : xL} (ho : zP Z i pc = some (.invokeinterface j ix, w, kk, kd)) (hp : pc + w = pc') (ha : (st.take kk).reverse = as) (hr : st.drop kk = st0) (hk : kk ≤ st.length) (hw : xw st0 ≤ 8) (hm : ycan Z j as) (hx : zMx Z j = kx) (he : xent as kx = ls0) (hn : ls0.length = kx) (k : YW Z j d 0 ls0 [] m n (yK Z i d pc pc' ls st0 Q)) : YW Z i (d + 1) pc ls st m n Q :=
  y_call pc' ho hp ha hr hk hw hm (YC.mk (by rw [hx]; exact he) (by rw [hx]; exact hn) k) (fun v m' n' h => h) (fun q x m' n' h => h)
theorem y_ireturnK {i0 d0 pc0 t : Nat} {x : Int} (ho : zP Z i pc = some (.ireturn, w, t, b)) (hv : xfit t (yI x) = true) (k : YW Z i0 (d0 + 1) pc' ls' (yI x :: st0) m n Q) : YW Z i d pc ls [yI x] m n (yK Z i0 d0 pc0 pc' ls' st0 Q) := y_ireturn ho hv k
theorem y_areturnK {i0 d0 pc0 : Nat} {v : Value} (ho : zP Z i pc = some (.areturn, w, a, b)) (hv : xref v = true) (k : YW Z i0 (d0 + 1) pc' ls' (v :: st0) m n Q) : YW Z i d pc ls [v] m n (yK Z i0 d0 pc0 pc' ls' st0 Q) := y_areturn ho hv k
theorem y_returnK {i0 d0 pc0 : Nat} (ho : zP Z i pc = some (.return_, w, a, b)) (k : YW Z i0 (d0 + 1) pc' ls' st0 m n Q) : YW Z i d pc ls [] m n (yK Z i0 d0 pc0 pc' ls' st0 Q) := y_return ho k
theorem yK_in {q x pq : Nat} (h : zHd Z i pc q = some (some pq)) (k : YW Z i (d + 1) pq ls [.ref x] m n Q) : yK Z i d pc pc' ls st0 Q (.inr (q, x)) m n := Or.inl ⟨pq, h, k⟩
theorem yK_out {q x : Nat} (h : zHd Z i pc q = some none) (k : Q (.inr (q, x)) m n) : yK Z i d pc pc' ls st0 Q (.inr (q, x)) m n := Or.inr ⟨h, k⟩
end YK1
section YK2
variable {Z : yZ} {i j d pc pc' w a b : Nat} {ls ls' : xL} {st st' st0 : List Value} {m m' : yM} {n n' : Nat} {Q Qs : xO → yM → Nat → Prop} {o : xI} {as : List Value}
/-- the top of the stack by another name -/
theorem y_top {x : Int} (y : Int) (h : x = y) (k : YW Z i d pc ls (yI y :: st) m n Q) : YW Z i d pc ls (yI x :: st) m n Q := h ▸ k
theorem y_iincN (pc' : Nat) {q : Nat} {x c : Int} (y : Int) (ho : zP Z i pc = some (.iinc q c, w, a, b)) (hp : pc + w = pc') (hl : ls[q]? = some (some (yI x))) (hy : x + c = y) (hs : xset ls q (yI y) = some ls') (k : YW Z i d pc' ls' st m n Q) : YW Z i d pc ls st m n Q := by
  subst hy
  exact y_iinc pc' ho hp hl hs k
theorem y_getX (pc' : Nat) {q ci t A : Nat} (x : Int) (ho : zP Z i pc = some (.getfield q, w, ci, b)) (hp : pc + w = pc') (hf : yfld (zSh Z) (zN Z) A q ci = some (.inl t)) (hx : m A q = x) (k : YW Z i d pc' ls (yI x :: st) m n Q) : YW Z i d pc ls (.ref A :: st) m n Q := by
  subst hx
  exact y_getI pc' ho hp hf k
theorem y_iaX (pc' : Nat) {t A e : Nat} {x : Int} (v : Int) (ho : zP Z i pc = some (.iaload, w, t, b)) (hp : pc + w = pc') (hf : yarr (zSh Z) (zN Z) A = some (t, e)) (hx : 0 ≤ x ∧ x < e) (hv : m A x.toNat = v) (k : YW Z i d pc' ls (yI v :: st) m n Q) : YW Z i d pc ls (yI x :: .ref A :: st) m n Q := by
  subst hv
  exact y_iaload pc' ho hp hf hx k
theorem lg_self (x : Int64) : lg_cmp x x = 0 := by simp [lg_cmp]
theorem y_lcmp0 (pc' : Nat) {x y : Int64} (ho : zP Z i pc = some (.lcmp, w, a, b)) (hp : pc + w = pc') (h : x = y) (k : YW Z i d pc' ls (yI 0 :: st) m n Q) : YW Z i d pc ls (.long y :: .long x :: st) m n Q := by
  subst h
  refine y_lcmp pc' ho hp ?_
  rw [lg_self]
  exact k
theorem y_inlB (pc' : Nat) (as : List Value) (st0 : List Value) (ls0 : xL) {ix kk kd kx : Nat} (ho : zP Z i pc = some (.invokeinterface j ix, w, kk, kd)) (hp : pc + w = pc') (ha : (st.take kk).reverse = as) (hr : st.drop kk = st0) (hk : Nat.ble kk st.length = true) (hw : Nat.ble (xw st0) 8 = true) (hm : ycan Z j as) (hx : zMx Z j = kx) (he : xent as kx = ls0) (hn : ls0.length = kx) (k : YW Z j d 0 ls0 [] m n (yK Z i d pc pc' ls st0 Q)) : YW Z i (d + 1) pc ls st m n Q := y_inl pc' ho hp ha hr (Nat.le_of_ble_eq_true hk) (Nat.le_of_ble_eq_true hw) hm hx he hn k
theorem y_throwB {e : Nat} (ho : zP Z i pc = some (.athrow, w, e, b)) (hw : Nat.ble (xw st) 8 = true) (hq : Q (.inr (e, n)) m (n + 1)) : YW Z i d pc ls st m n Q := y_throw ho (Nat.le_of_ble_eq_true hw) hq
end YK2
section YK3
variable {Z : yZ} {i j d pc pc' w a b : Nat} {ls ls' : xL} {st st' st0 : List Value} {m m' : yM} {n n' : Nat} {Q Qs : xO → yM → Nat → Prop} {o : xI} {as : List Value}
theorem YC.mkB (ls0 : xL) {kx : Nat} (hx : zMx Z j = kx) (he : xent as kx = ls0) (hn : ls0.length = kx) (k : YW Z j d 0 ls0 [] m n Q) : YC Z d j as m n Q := YC.mk (by rw [hx]; exact he) (by rw [hx]; exact hn) k
/-- an int, and nothing is changed -/
def qP (m : yM) (n : Nat) (R : Int → Prop) : xO → yM → Nat → Prop := fun o m' n' => ∃ x, o = .inl (some (yI x)) ∧ R x ∧ m' = m ∧ n' = n
theorem y_callP (pc' : Nat) (as : List Value) (st0 : List Value) {ix kk kd : Nat} {R : Int → Prop} (ho : zP Z i pc = some (.invokeinterface j ix, w, kk, kd)) (hp : pc + w = pc') (ha : (st.take kk).reverse = as) (hr : st.drop kk = st0) (hk : Nat.ble kk st.length = true) (hw : Nat.ble (xw st0) 8 = true) (hm : ycan Z j as) (hc : YC Z d j as m n (qP m n R)) (k1 : ∀ x, R x → YW Z i (d + 1) pc' ls (yI x :: st0) m n Q) : YW Z i (d + 1) pc ls st m n Q :=
  y_call pc' ho hp ha hr (Nat.le_of_ble_eq_true hk) (Nat.le_of_ble_eq_true hw) hm hc (fun v m' n' hq => by
    obtain ⟨x, e, hR, rfl, rfl⟩ := hq
    cases e
    exact k1 x hR) (fun q x m' n' hq => by
    obtain ⟨x, e, hR⟩ := hq
    cases e)
theorem y_retP {t : Nat} {x : Int} {R : Int → Prop} (ho : zP Z i pc = some (.ireturn, w, t, b)) (hv : xfit t (yI x) = true) (hq : R x) : YW Z i d pc ls [yI x] m n (qP m n R) := y_ireturn ho hv ⟨x, rfl, hq, rfl, rfl⟩
theorem y_retI {t : Nat} {x : Int} {R : Int → yM → Nat → Prop} (ho : zP Z i pc = some (.ireturn, w, t, b)) (hv : xfit t (yI x) = true) (hq : R x m n) : YW Z i d pc ls [yI x] m n (qI R) := y_ireturn ho hv ⟨x, rfl, hq⟩
theorem y_retU {R : yM → Nat → Prop} (ho : zP Z i pc = some (.return_, w, a, b)) (hq : R m n) : YW Z i d pc ls [] m n (qU R) := y_return ho ⟨rfl, hq⟩
theorem y_retT {t : Nat} {x : Int} {R : Int → yM → Nat → Prop} {T : Nat → yM → Nat → Prop} (ho : zP Z i pc = some (.ireturn, w, t, b)) (hv : xfit t (yI x) = true) (hq : R x m n) : YW Z i d pc ls [yI x] m n (qT R T) := y_ireturn ho hv (Or.inl ⟨x, rfl, hq⟩)
theorem y_thrT {e : Nat} {R : Int → yM → Nat → Prop} {T : Nat → yM → Nat → Prop} (ho : zP Z i pc = some (.athrow, w, e, b)) (hw : Nat.ble (xw st) 8 = true) (hq : T e m (n + 1)) : YW Z i d pc ls st m n (qT R T) := y_throwB ho hw (Or.inr ⟨e, n, rfl, hq⟩)
theorem y_i2cN (pc' : Nat) {x : Int} (ho : zP Z i pc = some (.i2c, w, a, b)) (hp : pc + w = pc') (hx : 0 ≤ x ∧ x ≤ 65535) (k : YW Z i d pc' ls (yI x :: st) m n Q) : YW Z i d pc ls (yI x :: st) m n Q := by
  refine y_i2c pc' ho hp ?_
  have e : ((Int32.ofInt x).toUInt32 % 65536).toInt32 = Int32.ofInt x := by
    apply Int32.toBitVec_inj.mp
    apply BitVec.eq_of_toNat_eq
    have h1 : (Int32.ofInt x).toUInt32.toNat = x.toNat := by
      obtain ⟨k, rfl⟩ := Int.eq_ofNat_of_zero_le hx.1
      simp [Int32.ofInt_eq_ofNat]
      omega
    simp [h1]
    omega
  rw [e, y_rng (by omega)]
  exact k
theorem y_nar3 {v : Int} (h : 0 ≤ v ∧ v ≤ 65535) : (if (3 : Nat) = 3 then vp_nar .char (Int32.ofInt v) else if (3 : Nat) = 1 then vp_nar .boolean (Int32.ofInt v) else if (3 : Nat) = 2 then vp_nar .byte (Int32.ofInt v) else Int32.ofInt v) = Int32.ofInt v := by
  rw [if_pos rfl]
  unfold vp_nar narrow
  simp only
  apply Int32.toBitVec_inj.mp
  apply BitVec.eq_of_toNat_eq
  obtain ⟨k, rfl⟩ := Int.eq_ofNat_of_zero_le h.1
  simp [Int32.ofInt_eq_ofNat]
  omega
end YK3
section YK4
variable {Z : yZ} {i j d pc pc' w a b : Nat} {ls ls' : xL} {st st' : List Value} {m m' : yM} {n n' : Nat} {Q Qs : xO → yM → Nat → Prop} {o : xI}
theorem y_callIB (pc' : Nat) (as : List Value) (st0 : List Value) {ix kk kd : Nat} {R : Int → yM → Nat → Prop} (ho : zP Z i pc = some (.invokeinterface j ix, w, kk, kd)) (hp : pc + w = pc') (ha : (st.take kk).reverse = as) (hr : st.drop kk = st0) (hk : Nat.ble kk st.length = true) (hw : Nat.ble (xw st0) 8 = true) (hm : ycan Z j as) (hc : YC Z d j as m n (qI R)) (k1 : ∀ x m' n', R x m' n' → YW Z i (d + 1) pc' ls (yI x :: st0) m' n' Q) : YW Z i (d + 1) pc ls st m n Q := y_callI pc' ho hp ha hr (Nat.le_of_ble_eq_true hk) (Nat.le_of_ble_eq_true hw) hm hc k1
theorem y_callUB (pc' : Nat) (as : List Value) (st0 : List Value) {ix kk kd : Nat} {R : yM → Nat → Prop} (ho : zP Z i pc = some (.invokeinterface j ix, w, kk, kd)) (hp : pc + w = pc') (ha : (st.take kk).reverse = as) (hr : st.drop kk = st0) (hk : Nat.ble kk st.length = true) (hw : Nat.ble (xw st0) 8 = true) (hm : ycan Z j as) (hc : YC Z d j as m n (qU R)) (k1 : ∀ m' n', R m' n' → YW Z i (d + 1) pc' ls st0 m' n' Q) : YW Z i (d + 1) pc ls st m n Q := y_callU pc' ho hp ha hr (Nat.le_of_ble_eq_true hk) (Nat.le_of_ble_eq_true hw) hm hc k1
theorem y_callTB (pc' : Nat) (as : List Value) (st0 : List Value) {ix kk kd : Nat} {R : Int → yM → Nat → Prop} {T : Nat → yM → Nat → Prop} (ho : zP Z i pc = some (.invokeinterface j ix, w, kk, kd)) (hp : pc + w = pc') (ha : (st.take kk).reverse = as) (hr : st.drop kk = st0) (hk : Nat.ble kk st.length = true) (hw : Nat.ble (xw st0) 8 = true) (hm : ycan Z j as) (hc : YC Z d j as m n (qT R T)) (k1 : ∀ x m' n', R x m' n' → YW Z i (d + 1) pc' ls (yI x :: st0) m' n' Q) (k2 : ∀ q x m' n', T q m' n' → (∃ pq, zHd Z i pc q = some (some pq) ∧ YW Z i (d + 1) pq ls [.ref x] m' n' Q) ∨ (zHd Z i pc q = some none ∧ Q (.inr (q, x)) m' n')) : YW Z i (d + 1) pc ls st m n Q := y_callT pc' ho hp ha hr (Nat.le_of_ble_eq_true hk) (Nat.le_of_ble_eq_true hw) hm hc k1 k2
theorem y_lastoreN (pc' : Nat) (y : Int) {A e : Nat} {x : Int} {v : Int64} (ho : zP Z i pc = some (.lastore, w, a, b)) (hp : pc + w = pc') (hf : ylar (zSh Z) (zN Z) A = some e) (hx : 0 ≤ x ∧ x < e) (hv : v.toInt = y) (k : YW Z i d pc' ls st (yup m A x.toNat y) n Q) : YW Z i d pc ls (.long v :: yI x :: .ref A :: st) m n Q := by
  subst hv
  exact y_lastore pc' ho hp hf hx k
theorem y_laX (pc' : Nat) (y : Int) {A e : Nat} {x : Int} (ho : zP Z i pc = some (.laload, w, a, b)) (hp : pc + w = pc') (hf : ylar (zSh Z) (zN Z) A = some e) (hx : 0 ≤ x ∧ x < e) (hy : m A x.toNat = y) (k : YW Z i d pc' ls (.long (Int64.ofInt y) :: st) m n Q) : YW Z i d pc ls (yI x :: .ref A :: st) m n Q := by
  subst hy
  exact y_laload pc' ho hp hf hx k
/-- an int's long -/
theorem y_long {x : Int} (hx : -2147483648 ≤ x ∧ x < 2147483648) : Int64.ofInt x = (Int32.ofInt x).toInt64 := by
  apply Int64.toInt_inj.mp
  rw [Int32.toInt_toInt64, y_rng hx]
  exact Int64.toInt_ofInt_of_le (by omega) (by omega)
end YK4
end
section
/-! RUNS THAT DON'T LOOK AT THE SCRIPT; a heap held against a memory by the kernel -/
def xnoS (o : xI) (st : List Value) : Bool := match o.1, st with
  | .iaload, _ :: .retAddr 0 :: _ => false
  | .arraylength, .retAddr 0 :: _ => false
  | _, _ => true
def xstepN (nf : Nat → List Value) (lit : List (List Int32)) (mc : Nat → Option Nat) (o : xI) (pc : Nat) (ls : xL) (st : List Value) (h : xH) : Option xG := if xnoS o st = true then xstep nf 0 (fun _ => 0) lit mc o pc ls st h else none
set_option maxHeartbeats 2000000 in
theorem xstepN_imp {nf : Nat → List Value} {L : Nat} {xs : Nat → Int32} {lit : List (List Int32)} {mc : Nat → Option Nat} {o : xI} {pc : Nat} {ls : xL} {st : List Value} {h : xH} {g : xG} (hs : xstepN nf lit mc o pc ls st h = some g) : xstep nf L xs lit mc o pc ls st h = some g := by
  unfold xstepN at hs
  split at hs
  · rename_i hn
    obtain ⟨ins, w, a, b⟩ := o
    cases ins
    case iaload =>
      rcases st with _ | ⟨v1, _ | ⟨v2, st⟩⟩
      · exact hs
      · cases v1 <;> exact hs
      · cases v1 <;> cases v2 <;> first | exact hs | (rename_i k; cases k <;> first | exact hs | cases hn)
    case arraylength =>
      rcases st with _ | ⟨v1, st⟩
      · exact hs
      · cases v1 <;> first | exact hs | (rename_i k; cases k <;> first | exact hs | cases hn)
    all_goals exact hs
  · cases hs
theorem xrun_stp {stp1 stp2 : xI → Nat → xL → List Value → xH → Option xG} {P : Nat → Nat → Option xI} {mx : Nat → Nat} {hd : Nat → Nat → Nat → Option (Option Nat)} (H : ∀ o pc ls st h g, stp1 o pc ls st h = some g → stp2 o pc ls st h = some g) : ∀ (n d i pc : Nat) (ls : xL) (st : List Value) (h : xH) (r : xO × xH), xrun stp1 P mx hd n d i pc ls st h = some r → xrun stp2 P mx hd n d i pc ls st h = some r := by
  intro n
  induction n with
  | zero => intro d i pc ls st h r hr; cases hr
  | succ n ih =>
    intro d i pc ls st h r hr
    simp only [xrun] at hr ⊢
    split at hr
    · cases hr
    · rename_i o ho
      split at hr
      · cases hr
      · rename_i pc' ls' st' h1 hs
        simp only [H _ _ _ _ _ _ hs]
        exact ih _ _ _ _ _ _ _ hr
      · rename_i r1 hs
        simp only [H _ _ _ _ _ _ hs]
        exact hr
      · rename_i j as pc' st' hs
        simp only [H _ _ _ _ _ _ hs]
        split at hr
        · cases hr
        · rename_i d
          split at hr
          · rename_i hent
            rw [if_pos hent]
            split at hr
            · cases hr
            · rename_i v h1 hc
              rw [ih _ _ _ _ _ _ _ hc]
              exact ih _ _ _ _ _ _ _ hr
            · rename_i q a h1 hc
              rw [ih _ _ _ _ _ _ _ hc]
              split at hr
              · rename_i pq hq
                simp only [hq]
                exact ih _ _ _ _ _ _ _ hr
              · rename_i hq
                simp only [hq]
                exact hr
              · cases hr
          · cases hr
def yCellB (s : ySh) (f : Nat → Int) (c : xC) : Bool := match s, c with
  | .inl (t, k), .inl (t', k', .inl g) => t' == t && k' == k && (List.range k).all (fun j => g j == Int32.ofInt (f j))
  | .inr (.inl k), .inl (t', k', .inr (.inl g)) => t' == 5 && k' == k && (List.range k).all (fun j => g j == Int64.ofInt (f j))
  | .inr (.inr (.inl (t, k, b))), .inl (t', k', .inr (.inr (.inr (.inr g)))) => t' == t && k' == k && (List.range k).all (fun j => g j == some (b + j))
  | .inr (.inr (.inr (ci, sl))), .inr (c', vs) => c' == ci && vs == sl.zipIdx.map (fun p => yslv p.1 (f p.2))
  | _, _ => false
theorem yCellB_sound {s : ySh} {f : Nat → Int} {c : xC} (hc : yCellB s f c = true) : yCell s f c := by
  unfold yCellB at hc
  split at hc
  · simp only [Bool.and_eq_true, beq_iff_eq, List.all_eq_true, List.mem_range] at hc
    obtain ⟨⟨rfl, rfl⟩, h3⟩ := hc
    exact ⟨_, rfl, h3⟩
  · simp only [Bool.and_eq_true, beq_iff_eq, List.all_eq_true, List.mem_range] at hc
    obtain ⟨⟨rfl, rfl⟩, h3⟩ := hc
    exact ⟨_, rfl, h3⟩
  · simp only [Bool.and_eq_true, beq_iff_eq, List.all_eq_true, List.mem_range] at hc
    obtain ⟨⟨rfl, rfl⟩, h3⟩ := hc
    exact ⟨_, rfl, h3⟩
  · simp only [Bool.and_eq_true, beq_iff_eq] at hc
    obtain ⟨rfl, rfl⟩ := hc
    refine ⟨_, rfl, by simp, fun j x hj => ?_⟩
    simp [hj]
  · cases hc
def yLayB (sh : Nat → ySh) (m : yM) : Nat → xH → Bool
  | _, [] => true
  | a, c :: h => yCellB (sh a) (m a) c && yLayB sh m (a + 1) h
theorem yLayB_sound {sh : Nat → ySh} {m : yM} : ∀ (h : xH) (a : Nat), yLayB sh m a h = true → ∀ (k : Nat) (c : xC), h[k]? = some c → yCell (sh (a + k)) (m (a + k)) c := by
  intro h
  induction h with
  | nil => intro a _ k c hk; simp at hk
  | cons c0 h ih =>
    intro a hb k c hk
    simp only [yLayB, Bool.and_eq_true] at hb
    cases k with
    | zero =>
      simp at hk
      subst hk
      exact yCellB_sound hb.1
    | succ k =>
      have := ih (a + 1) hb.2 k c (by simpa using hk)
      rw [show a + (k + 1) = a + 1 + k by omega]
      exact this
end

section
/-! WHAT THE PURE MACHINE DOES, THE REAL ONE DOES -/
section XALL
variable {nf : Nat → List Value} {L : Nat} {xs : Nat → Int32} {mc : Nat → Option Nat} {lit : List (List Int32)} {ldcs : List (String × Nat × String × Nat)}
set_option maxHeartbeats 2000000 in
theorem xstep_end {o : xI} {pc : Nat} {ls : xL} {st : List Value} {h h' : xH} {r : xO} (hs : xstep nf L xs lit mc o pc ls st h = some (.inr (.inl (r, h')))) : (h.length ≤ h'.length ∧ xsz h ≤ xsz h') ∧ (∀ k a, r = .inr (k, a) → ∃ fs, h'[a]? = some (.inr (k, fs))) ∧ (o.1 = .ireturn ∨ o.1 = .areturn ∨ o.1 = .return_ ∨ o.1 = .athrow) := by
  have happ : ∀ (cs : List xC), h.length ≤ (h ++ cs).length ∧ xsz h ≤ xsz (h ++ cs) := fun cs => ⟨by rw [List.length_append]; omega, by unfold xsz; rw [List.map_append, List.sum_append]; omega⟩
  obtain ⟨i1, n1, x1, x2⟩ := o
  cases i1 <;> (try (cases hs; done)) <;> simp only [xstep] at hs <;> (try (cases hs; done)) <;> (repeat' (split at hs)) <;> (try (cases hs; done))
  · cases hs
    exact ⟨⟨Nat.le_refl _, Nat.le_refl _⟩, (fun k a h9 => by cases h9), Or.inr (Or.inl rfl)⟩
  · cases hs
    exact ⟨happ _, (fun k a h9 => by cases h9; exact ⟨_, by rw [List.getElem?_append_right (Nat.le_refl _), Nat.sub_self]; rfl⟩), Or.inr (Or.inr (Or.inr rfl))⟩
  · cases hs
    exact ⟨⟨Nat.le_refl _, Nat.le_refl _⟩, (fun k a h9 => by cases h9), Or.inl rfl⟩
  · cases hs
    exact ⟨⟨Nat.le_refl _, Nat.le_refl _⟩, (fun k a h9 => by cases h9), Or.inr (Or.inr (Or.inl rfl))⟩
set_option maxHeartbeats 2000000 in
theorem xstep_call {o : xI} {pc : Nat} {ls : xL} {st : List Value} {h : xH} {q : Nat × List Value × Nat × List Value} (hs : xstep nf L xs lit mc o pc ls st h = some (.inr (.inr q))) : ∃ ix n k kd, o = (.invokeinterface q.1 ix, n, k, kd) := by
  obtain ⟨i1, n1, x1, x2⟩ := o
  cases i1 <;> (try (cases hs; done)) <;> simp only [xstep] at hs <;> (try (cases hs; done)) <;> (repeat' (split at hs)) <;> (try (cases hs; done)) <;> (cases hs; exact ⟨_, _, _, _, rfl⟩)
variable {P : Nat → Nat → Option xI} {mx : Nat → Nat} {hd : Nat → Nat → Nat → Option (Option Nat)}
theorem xrun_keep : ∀ (n d i pc : Nat) (ls : xL) (st : List Value) (h : xH) (r : xO) (h' : xH), xrun (xstep nf L xs lit mc) P mx hd n d i pc ls st h = some (r, h') → (h.length ≤ h'.length ∧ xsz h ≤ xsz h') ∧ ∀ k a, r = .inr (k, a) → ∃ fs, h'[a]? = some (.inr (k, fs)) := by
  intro n
  induction n with
  | zero => intro d i pc ls st h r h' hr; cases hr
  | succ n ih =>
    intro d i pc ls st h r h' hr
    simp only [xrun] at hr
    split at hr
    · cases hr
    · rename_i o ho
      split at hr
      · cases hr
      · rename_i pc' ls' st' h1 hs
        obtain ⟨-, k1, k2⟩ := xstep_keep hs
        obtain ⟨⟨j1, j2⟩, j3⟩ := ih _ _ _ _ _ _ _ _ hr
        exact ⟨⟨Nat.le_trans k1 j1, Nat.le_trans k2 j2⟩, j3⟩
      · rename_i r1 hs
        cases hr
        obtain ⟨k1, k2, -⟩ := xstep_end hs
        exact ⟨k1, k2⟩
      · rename_i j as pc' st' hs
        split at hr
        · cases hr
        · rename_i d
          split at hr
          · split at hr
            · cases hr
            · rename_i v h1 hc
              obtain ⟨⟨j1, j2⟩, -⟩ := ih _ _ _ _ _ _ _ _ hc
              obtain ⟨⟨l1, l2⟩, l3⟩ := ih _ _ _ _ _ _ _ _ hr
              exact ⟨⟨Nat.le_trans j1 l1, Nat.le_trans j2 l2⟩, l3⟩
            · rename_i k a h1 hc
              obtain ⟨⟨j1, j2⟩, j3⟩ := ih _ _ _ _ _ _ _ _ hc
              split at hr
              · obtain ⟨⟨l1, l2⟩, l3⟩ := ih _ _ _ _ _ _ _ _ hr
                exact ⟨⟨Nat.le_trans j1 l1, Nat.le_trans j2 l2⟩, l3⟩
              · cases hr
                exact ⟨⟨j1, j2⟩, j3⟩
              · cases hr
          · cases hr
end XALL
section XGO
variable {p : Program} {l : Launch} {e : Env} {R : Room} {s : State} {m : MethodId} {args : Array Value} {below : List Frame} {meth : Method} {c : Code} {Q : State → Prop}
variable {b base : Nat} {ta : (Nat → Nat) × Option Nat} {dA : Nat → ClassId} {D : va_G} {cl : List vw_C} {n0 z0 : Nat} {cc : ByteArray} {pc pc' : Nat} {ls ls' : xL} {st st' : List Value} {h h' : xH} {raw : Instr} {o : xI}
variable {Ts : List Cond} {ty : Nat → FieldType} {own : String} {tf : Nat → Nat → Nat} {ini : Bool}
variable {nf : Nat → List Value} {L : Nat} {xs : Nat → Int32} {mc : Nat → Option Nat} {lit : List (List Int32)} {ldcs : List (String × Nat × String × Nat)}
set_option maxHeartbeats 4000000 in
/-- every instruction that goes on -/
theorem xs_go (F : XF p s m args meth c b base dA D cl Ts ty L xs ta lit ldcs cc own ini) (G : XG Ts cl tf ty) (hd : decode cc pc = .ok (raw, o.2.1)) (hok : xok Ts cl own tf nf ty ldcs ini pc raw o) (hs : xstep nf L xs lit mc o pc ls st h = some (.inl (pc', ls', st', h'))) (hR : h'.length - n0 ≤ R.cells ∧ xsz h' - z0 ≤ R.slots) (hsz : ls.length = c.maxLocals) (hfr : 1 ≤ R.frames) (hlo : 120 ≤ R.locals)
    (K : XK p l e R s m args below meth c Q b base ta dA D cl n0 z0 pc' ls' st' h') : XK p l e R s m args below meth c Q b base ta dA D cl n0 z0 pc ls st h := by
  obtain ⟨i1, n1, x1, x2⟩ := o
  have hd : decode cc pc = .ok (raw, n1) := hd
  cases i1 with
  | iconst v => exact xs_iconst F G hd hok hs K
  | goto_w v => exact xs_lconst F G hd hok hs K
  | ldc i => exact xs_ldc F G hd hok hs K
  | getstatic i => exact xs_gets F G hd hok hs K
  | saload => exact xs_tval F G hd hok hs K
  | sastore => exact xs_tcod F G hd hok hs K
  | baload => exact xs_tbyt F G hd hok hs K
  | iload i => exact xs_iload F G hd hok hs K
  | lload i => exact xs_lload F G hd hok hs K
  | aload i => exact xs_aload F G hd hok hs K
  | istore i => exact xs_istore F G hd hok hs K
  | astore i => exact xs_astore F G hd hok hs K
  | iinc i k => exact xs_iinc F G hd hok hs K
  | iadd => exact xs_iadd F G hd hok hs K
  | isub => exact xs_isub F G hd hok hs K
  | imul => exact xs_imul F G hd hok hs K
  | idiv => exact xs_idiv F G hd hok hs K
  | irem => exact xs_irem F G hd hok hs K
  | iand => exact xs_iand F G hd hok hs K
  | ior => exact xs_ior F G hd hok hs K
  | ishl => exact xs_ishl F G hd hok hs K
  | ishr => exact xs_ishr F G hd hok hs K
  | ineg => exact xs_ineg F G hd hok hs K
  | land => exact xs_land F G hd hok hs K
  | lor => exact xs_lor F G hd hok hs K
  | lushr => exact xs_lushr F G hd hok hs K
  | lshl => exact xs_lshl F G hd hok hs K
  | lshr => exact xs_lshr F G hd hok hs K
  | lcmp => exact xs_lcmp F G hd hok hs K
  | i2l => exact xs_i2l F G hd hok hs K
  | l2i => exact xs_l2i F G hd hok hs K
  | i2c => exact xs_i2c F G hd hok hs K
  | dup => exact xs_dup F G hd hok hs K
  | dup_x1 => exact xs_dup_x1 F G hd hok hs K
  | dup2 => exact xs_dup2 F G hd hok hs K
  | pop => exact xs_pop F G hd hok hs K
  | goto t => exact xs_goto F G hd hok hs K
  | ifCond cd t => exact xs_if F G hd hok hs K
  | if_icmp cd t => exact xs_icmp F G hd hok hs K
  | tableswitch d lo hi offs => exact xs_table F G hd hok hs K
  | lookupswitch d ps => exact xs_lookup F G hd hok hs K
  | getfield k => exact xs_getf F G hd hok hs K
  | putfield k => exact xs_putf F G hd hok hs hR K
  | iaload => exact xs_iald F G hd hok hs K
  | iastore => exact xs_iast F G hd hok hs hR K
  | laload => exact xs_lald F G hd hok hs K
  | lastore => exact xs_last F G hd hok hs hR K
  | aaload => exact xs_aald F G hd hok hs K
  | aastore => exact xs_aast F G hd hok hs hR K
  | arraylength => exact xs_alen F G hd hok hs K
  | new ci => exact xs_new F G hd hok hs hR K
  | newarray a => exact xs_newa F G hd hok hs hR K
  | anewarray t => exact xs_anewa F G hd hok hs hR K
  | multianewarray t t' => exact xs_manewa F G hd hok hs hR K
  | invokespecial k => exact xs_oinit hsz hfr hlo F G hd hok hs K
  | invokeinterface j ix =>
    exfalso
    simp only [xstep] at hs
    (repeat' (split at hs)) <;> cases hs
  | athrow =>
    exfalso
    simp only [xstep] at hs
    split at hs <;> cases hs
  | ireturn =>
    exfalso
    simp only [xstep] at hs
    (repeat' (split at hs)) <;> cases hs
  | areturn =>
    exfalso
    simp only [xstep] at hs
    (repeat' (split at hs)) <;> cases hs
  | return_ =>
    exfalso
    simp only [xstep] at hs
    (repeat' (split at hs)) <;> cases hs
  | _ => cases hs
end XGO
end
section
/-! THE THEOREM -/
section XSOUND
variable {p : Program} {l : Launch} {e : Env} {b base : Nat} {ta : (Nat → Nat) × Option Nat} {dA : Nat → ClassId} {D : va_G} {cl : List vw_C} {Ts : List Cond} {ty : Nat → FieldType} {L : Nat} {xs : Nat → Int32} {tf : Nat → Nat → Nat} {nf : Nat → List Value} {mc : Nat → Option Nat} {lit : List (List Int32)} {ldcs : List (String × Nat × String × Nat)} {host : String} {nc : List (String × String)} {ns : List String}
variable {yM : Nat → MethodName} {cM : Nat → ByteArray} {mx : Nat → Nat} {rM : Nat → Option FieldType} {hM : Nat → List (Nat × Nat × Nat × Nat)} {P : Nat → Nat → Option xI} {hd : Nat → Nat → Nat → Option (Option Nat)}
/-- the linked code is the bytecode -/
def XP (cl : List vw_C) (Ts : List Cond) (ty : Nat → FieldType) (tf : Nat → Nat → Nat) (nf : Nat → List Value) (mc : Nat → Option Nat) (host : String) (yM : Nat → MethodName) (cM : Nat → ByteArray) (rM : Nat → Option FieldType) (hM : Nat → List (Nat × Nat × Nat × Nat)) (ldcs : List (String × Nat × String × Nat)) (P : Nat → Nat → Option xI) : Prop :=
  ∀ (i pc : Nat) (o : xI), P i pc = some o → (o.1 = .athrow ∧ xokT Ts cl (yM i).cls (cM i) pc o ∧ hM i = []) ∨ (o.1 ≠ .athrow ∧ ∃ raw, decode (cM i) pc = .ok (raw, o.2.1) ∧ xok Ts cl (yM i).cls tf nf ty ldcs (decide ((yM i).name = "<init>")) pc raw o ∧ xokR (rM i) o ∧ ((∃ j ix, o.1 = .invokeinterface j ix) → xokC Ts cl (yM i).cls host yM mc raw o))
/-- the handlers -/
def XHd (cl : List vw_C) (Ts : List Cond) (nc : List (String × String)) (ns : List String) (yM : Nat → MethodName) (hM : Nat → List (Nat × Nat × Nat × Nat)) (hd : Nat → Nat → Nat → Option (Option Nat)) : Prop :=
  ∀ (i pc k : Nat), (∀ q, hd i pc k = some (some q) → ∃ r, cl[k]? = some r ∧ xokH Ts (yM i).cls nc ns pc r.1 q (hM i)) ∧ (hd i pc k = some none → ∀ y ∈ hM i, ¬ (y.1 ≤ pc ∧ pc < y.2.1))
set_option maxHeartbeats 1000000 in
theorem xsound (hP : XP cl Ts ty tf nf mc host yM cM rM hM ldcs P) (hH : XHd cl Ts nc ns yM hM hd) (G : XG Ts cl tf ty) (M : XMt Ts yM cM mx rM hM) (htr : e.platform.stackTraces = false) :
    ∀ (n d i pc : Nat) (ls : xL) (st : List Value) (h : xH) (r : xO) (h' : xH), xrun (xstep nf L xs lit mc) P mx hd n d i pc ls st h = some (r, h') →
      ∀ (R : Room) (s : State) (m : MethodId) (args : Array Value) (below : List Frame) (meth : Method) (c : Code) (n0 z0 : Nat), XE p b base ta lit ldcs dA D cl Ts ty L xs yM cM mx rM hM nc s m args meth c i → d + 8 ≤ R.frames → 64 * d + 200 ≤ R.locals → h'.length - n0 ≤ R.cells → xsz h' - z0 ≤ R.slots → ls.length = mx i →
        XK p l e R s m args below meth c (XQ below s b base ta dA D cl n0 z0 r h') b base ta dA D cl n0 z0 pc ls st h := by
  intro n
  induction n with
  | zero => intro d i pc ls st h r h' hr; cases hr
  | succ n ih =>
    intro d i pc ls st h r h' hr R s m args below meth c n0 z0 E hfr hlo hRc hRs hsz
    have E' := E
    obtain ⟨F, hret, hlocks, hml, hch, hU, hV⟩ := E'
    simp only [xrun] at hr
    split at hr
    · cases hr
    · rename_i o ho
      rcases hP i pc o ho with ⟨hat, hokT, hno⟩ | ⟨hnt, raw, hdec, hok, hokR, hokC⟩
      · obtain ⟨i1, ic, ei, ix⟩ := o
        have hat : i1 = .athrow := hat
        subst hat
        split at hr
        · cases hr
        · rename_i pc' ls' st' h1 hs
          exfalso
          simp only [xstep] at hs
          split at hs <;> cases hs
        · rename_i r1 hs
          cases hr
          refine xs_throw F M.1 hU htr hlocks ?_ (hsz.trans hml.symm) hokT hs (by omega) (by omega) ⟨hRc, hRs⟩
          rw [hno] at hch
          simpa using hch
        · rename_i j as pc' st' hs
          exfalso
          simp only [xstep] at hs
          split at hs <;> cases hs
      · split at hr
        · cases hr
        · rename_i pc' ls' st' h1 hs
          obtain ⟨k0, k1, k2⟩ := xstep_keep hs
          obtain ⟨⟨j1, j2⟩, -⟩ := xrun_keep _ _ _ _ _ _ _ _ _ hr
          exact xs_go F G hdec hok hs ⟨by omega, by omega⟩ (hsz.trans hml.symm) (by omega) (by omega) (ih _ _ _ _ _ _ _ _ hr R s m args below meth c n0 z0 E hfr hlo hRc hRs (k0.trans hsz))
        · rename_i r1 hs
          cases hr
          obtain ⟨-, -, hend⟩ := xstep_end hs
          have hend : o.1 = .ireturn ∨ o.1 = .areturn ∨ o.1 = .return_ := by
            rcases hend with q | q | q | q
            · exact Or.inl q
            · exact Or.inr (Or.inl q)
            · exact Or.inr (Or.inr q)
            · exact absurd q hnt
          exact xs_ends F hret hlocks hend hdec hok hokR hs
        · rename_i j as pc' st' hs
          obtain ⟨ix, n1, k, kd, rfl⟩ := xstep_call hs
          have hC := hokC ⟨_, _, rfl⟩
          split at hr
          · cases hr
          · rename_i d
            split at hr
            · rename_i hent
              have IH : ∀ (rc : xO) (h1 : xH), xrun (xstep nf L xs lit mc) P mx hd n d j 0 (xent as (mx j)) [] h = some (rc, h1) → XGood p l e b base ta lit ldcs dA D cl Ts ty L xs yM cM mx rM hM nc d j as h rc h1 := by
                intro rc h1 hc R' s' m' below' meth' c' E9 f1 f2 f3 f4 f5 f6
                have K := ih _ _ _ _ _ _ _ _ hc R' s' m' (as.map (xv b base ta)).toArray below' meth' c' h.length (xsz h) E9 f1 f2 f3 f4 hent (Nat.le_refl _) (Nat.le_refl _) s'.heap [] _ (xls_entry as (mx j) hent) f5 f6 va_S.rf
                rw [Nat.sub_self, Nat.sub_self] at K
                rw [lg_entry_eq]
                exact K
              split at hr
              · cases hr
              · rename_i v h1 hc
                obtain ⟨⟨j1, j2⟩, -⟩ := xrun_keep _ _ _ _ _ _ _ _ _ hc
                obtain ⟨⟨l1, l2⟩, -⟩ := xrun_keep _ _ _ _ _ _ _ _ _ hr
                refine xs_call E M hdec hC hs (IH _ _ hc) (by omega) (by omega) j1 j2 ⟨by omega, by omega⟩ hsz (fun v9 hv => ?_) (fun q a hv => by cases hv)
                cases hv
                exact ih _ _ _ _ _ _ _ _ hr R s m args below meth c n0 z0 E hfr hlo hRc hRs hsz
              · rename_i k9 a h1 hc
                obtain ⟨⟨j1, j2⟩, j3⟩ := xrun_keep _ _ _ _ _ _ _ _ _ hc
                obtain ⟨fs, hfs⟩ := j3 k9 a rfl
                split at hr
                · rename_i q hq
                  obtain ⟨⟨l1, l2⟩, -⟩ := xrun_keep _ _ _ _ _ _ _ _ _ hr
                  obtain ⟨r9, hr9, hokH⟩ := (hH i pc k9).1 q hq
                  intro hn hz
                  refine xs_call E M hdec hC hs (IH _ _ hc) (by omega) (by omega) j1 j2 ⟨by omega, by omega⟩ hsz (fun v9 hv => by cases hv) (fun q2 a2 hv => ?_) hn hz
                  cases hv
                  exact xt_catch F hV hr9 hfs hch hokH (by omega) (by omega) (ih _ _ _ _ _ _ _ _ hr R s m args below meth c n0 z0 E hfr hlo hRc hRs hsz)
                · rename_i hq
                  cases hr
                  refine xs_call E M hdec hC hs (IH _ _ hc) (by omega) (by omega) j1 j2 ⟨by omega, by omega⟩ hsz (fun v9 hv => by cases hv) (fun q2 a2 hv => ?_)
                  cases hv
                  refine xt_out hlocks (fun x hx => ?_)
                  have h9 := (hH i pc k9).2 hq (x.startPc, x.endPc, x.handlerPc, x.catchType) (by rw [← hch]; exact List.mem_map.mpr ⟨x, hx, rfl⟩)
                  unfold covers
                  simp only [Bool.and_eq_false_imp, decide_eq_true_eq, decide_eq_false_iff_not]
                  exact fun h8 h7 => h9 ⟨h8, h7⟩
                · cases hr
            · cases hr
end XSOUND
end
section
/-! CHECKING THE TABLES: each row by the kernel -/
/-- a row of a method's table: its place, the instruction, the linked one -/
def xrow (Ts : List Cond) (cl : List vw_C) (ty : Nat → FieldType) (tf : Nat → Nat → Nat) (nf : Nat → List Value) (mc : Nat → Option Nat) (host : String) (yM : Nat → MethodName) (ldcs : List (String × Nat × String × Nat)) (y : MethodName) (cc : ByteArray) (ret : Option FieldType) (hdl : List (Nat × Nat × Nat × Nat)) (r : Nat × Instr × xI) : Prop :=
  (r.2.2.1 = .athrow ∧ xokT Ts cl y.cls cc r.1 r.2.2 ∧ hdl = []) ∨ (r.2.2.1 ≠ .athrow ∧ decode cc r.1 = .ok (r.2.1, r.2.2.2.1) ∧ xok Ts cl y.cls tf nf ty ldcs (decide (y.name = "<init>")) r.1 r.2.1 r.2.2 ∧ xokR ret r.2.2 ∧ (match r.2.2.1 with | .invokeinterface _ _ => xokC Ts cl y.cls host yM mc r.2.1 r.2.2 | _ => True))
/-- is a word in the list: looked for by what tells words apart soonest -/
def xkq (w t : Cond) : Bool := match w with
  | .fieldLink _ i _ _ _ => (match t with | .fieldLink _ j _ _ _ => Nat.beq i j | _ => false)
  | .classLink _ i _ => (match t with | .classLink _ j _ => Nat.beq i j | _ => false)
  | .methodLink _ i _ => (match t with | .methodLink _ j _ => Nat.beq i j | _ => false)
  | .instanceMethod x => (match t with | .instanceMethod y => decide (x.name = y.name) | _ => false)
  | .static x => (match t with | .static y => decide (x.name = y.name) | _ => false)
  | .selects _ x _ => (match t with | .selects _ y _ => decide (x.name = y.name) | _ => false)
  | _ => true
def xfd (w : Cond) : List Cond → Bool
  | [] => false
  | t :: r => bif xkq w t then (bif decide (w = t) then true else xfd w r) else xfd w r
theorem xfd_in {w : Cond} : ∀ {Ts : List Cond}, xfd w Ts = true → w ∈ Ts
  | [], h => absurd h (by unfold xfd; decide)
  | t :: r, h => by
    unfold xfd at h
    cases h1 : xkq w t with
    | false => rw [h1] at h; exact List.mem_cons_of_mem _ (xfd_in h)
    | true =>
      rw [h1] at h
      cases h2 : decide (w = t) with
      | false => rw [h2] at h; exact List.mem_cons_of_mem _ (xfd_in h)
      | true => rw [of_decide_eq_true h2]; exact List.mem_cons_self
def xmD (Ts : List Cond) (w : Cond) : Decidable (w ∈ Ts) := if h : xfd w Ts = true then .isTrue (xfd_in h) else inferInstance
def xokD (Ts : List Cond) (cl : List vw_C) (own : String) (tf : Nat → Nat → Nat) (nf : Nat → List Value) (ty : Nat → FieldType) (ldcs : List (String × Nat × String × Nat)) (ini : Bool) (pc : Nat) (raw : Instr) (o : xI) : Decidable (xok Ts cl own tf nf ty ldcs ini pc raw o) := by
  have hm : ∀ w : Cond, Decidable (w ∈ Ts) := xmD Ts
  unfold xok
  split <;> first | infer_instance | (refine @instDecidableAnd _ _ ?_ ?_ <;> first | infer_instance | (refine @instDecidableAnd _ _ ?_ ?_ <;> first | infer_instance | (split <;> infer_instance)))
def xokRD (ret : Option FieldType) (o : xI) : Decidable (xokR ret o) := by
  unfold xokR
  split <;> infer_instance
def xokCD (Ts : List Cond) (cl : List vw_C) (own host : String) (yM : Nat → MethodName) (mc : Nat → Option Nat) (raw : Instr) (o : xI) : Decidable (xokC Ts cl own host yM mc raw o) := by
  have hm : ∀ w : Cond, Decidable (w ∈ Ts) := xmD Ts
  unfold xokC
  split <;> first | infer_instance | skip
def xokTD (Ts : List Cond) (cl : List vw_C) (own : String) (cc : ByteArray) (pc : Nat) (o : xI) : Decidable (xokT Ts cl own cc pc o) := by
  have hm : ∀ w : Cond, Decidable (w ∈ Ts) := xmD Ts
  unfold xokT
  split <;> infer_instance
def xrowD (Ts : List Cond) (cl : List vw_C) (ty : Nat → FieldType) (tf : Nat → Nat → Nat) (nf : Nat → List Value) (mc : Nat → Option Nat) (host : String) (yM : Nat → MethodName) (ldcs : List (String × Nat × String × Nat)) (y : MethodName) (cc : ByteArray) (ret : Option FieldType) (hdl : List (Nat × Nat × Nat × Nat)) (r : Nat × Instr × xI) : Decidable (xrow Ts cl ty tf nf mc host yM ldcs y cc ret hdl r) := by
  unfold xrow
  have d1 := xokTD Ts cl y.cls cc r.1 r.2.2
  have d2 := xokD Ts cl y.cls tf nf ty ldcs (decide (y.name = "<init>")) r.1 r.2.1 r.2.2
  have d3 := xokRD ret r.2.2
  have d4 : Decidable (match r.2.2.1 with | .invokeinterface _ _ => xokC Ts cl y.cls host yM mc r.2.1 r.2.2 | _ => True) := by
    have d5 := xokCD Ts cl y.cls host yM mc r.2.1 r.2.2
    split <;> infer_instance
  infer_instance
section XMONO
variable {Ts Ts' : List Cond} {cl : List vw_C} {own host : String} {tf : Nat → Nat → Nat} {nf : Nat → List Value} {ty : Nat → FieldType} {ldcs : List (String × Nat × String × Nat)} {ini : Bool} {pc : Nat} {raw : Instr} {o : xI} {yM : Nat → MethodName} {mc : Nat → Option Nat} {cc : ByteArray}
theorem xok_mono (hT : ∀ w ∈ Ts', w ∈ Ts) (h : xok Ts' cl own tf nf ty ldcs ini pc raw o) : xok Ts cl own tf nf ty ldcs ini pc raw o := by
  unfold xok at h ⊢
  split at h <;> try exact h
  · exact ⟨h.1, h.2.1, hT _ h.2.2⟩
  · refine ⟨h.1, h.2.1, ?_⟩
    rcases h.2.2 with ⟨a, q⟩ | ⟨a, q⟩
    · exact Or.inl ⟨a, hT _ q⟩
    · exact Or.inr ⟨a, hT _ q⟩
  · exact ⟨h.1, h.2.1, hT _ h.2.2⟩
  · exact ⟨h.1, h.2.1, hT _ h.2.2⟩
  · obtain ⟨h1, h2, r, hr, h3, h4⟩ := h
    exact ⟨h1, h2, r, hr, h3, hT _ h4⟩
  · obtain ⟨h1, h2, ix, hix, r, hr, h3, h4, h5⟩ := h
    exact ⟨h1, h2, ix, hix, r, hr, h3, hT _ h4, h5⟩
  · obtain ⟨h1, h2, r, hr, h3, h4, h5, h6⟩ := h
    exact ⟨h1, h2, r, hr, hT _ h3, hT _ h4, hT _ h5, h6⟩
  · exact ⟨h.1, h.2.1, h.2.2.1, h.2.2.2.1, hT _ h.2.2.2.2⟩
  · obtain ⟨h1, h2, h3⟩ := h
    refine ⟨h1, h2, ?_⟩
    split at h3
    · exact ⟨hT _ h3.1, hT _ h3.2⟩
    · exact h3
  · obtain ⟨h1, h2, h3, h4, h5, h6, h7⟩ := h
    exact ⟨h1, h2, h3, h4, hT _ h5, hT _ h6, hT _ h7⟩
  · exact ⟨h.1, h.2.1, hT _ h.2.2.1, hT _ h.2.2.2.1, hT _ h.2.2.2.2⟩
theorem xokC_mono (hT : ∀ w ∈ Ts', w ∈ Ts) (h : xokC Ts' cl own host yM mc raw o) : xokC Ts cl own host yM mc raw o := by
  unfold xokC at h ⊢
  split at h <;> try exact h
  obtain ⟨h1, h2, h3, h4⟩ := h
  refine ⟨h1, h2, hT _ h3, ?_⟩
  rcases h4 with ⟨a1, a2, a3, a4, a5, a6⟩ | ⟨a1, a2, a3, a4, a5, a6⟩ | ⟨a1, a2, a3, a4, a5, a6, a7⟩ | ⟨a1, a2, a3, a4, a5, a6, a7⟩
  · exact Or.inl ⟨a1, a2, a3, hT _ a4, hT _ a5, a6⟩
  · exact Or.inr (Or.inl ⟨a1, a2, hT _ a3, hT _ a4, hT _ a5, a6⟩)
  · exact Or.inr (Or.inr (Or.inl ⟨a1, a2, a3, a4, hT _ a5, hT _ a6, a7⟩))
  · exact Or.inr (Or.inr (Or.inr ⟨a1, a2, a3, a4, hT _ a5, hT _ a6, a7⟩))
theorem xokT_mono (hT : ∀ w ∈ Ts', w ∈ Ts) (h : xokT Ts' cl own cc pc o) : xokT Ts cl own cc pc o := by
  unfold xokT at h ⊢
  split at h <;> try exact h
  obtain ⟨h1, h2, h3, h4, r, hr, h5, h6, h7, h8, h9, h10⟩ := h
  exact ⟨h1, h2, h3, h4, r, hr, h5, hT _ h6, hT _ h7, hT _ h8, h9, fun w hw => (h10 w hw).elim (fun q => Or.inl (hT _ q)) Or.inr⟩
/-- a checked table gives what the theorem asks of the code -/
theorem xp_row {y : MethodName} {ret : Option FieldType} {hdl : List (Nat × Nat × Nat × Nat)} {r : Nat × Instr × xI} (hT : ∀ w ∈ Ts', w ∈ Ts) (h : xrow Ts' cl ty tf nf mc host yM ldcs y cc ret hdl r) :
    (r.2.2.1 = .athrow ∧ xokT Ts cl y.cls cc r.1 r.2.2 ∧ hdl = []) ∨ (r.2.2.1 ≠ .athrow ∧ ∃ raw, decode cc r.1 = .ok (raw, r.2.2.2.1) ∧ xok Ts cl y.cls tf nf ty ldcs (decide (y.name = "<init>")) r.1 raw r.2.2 ∧ xokR ret r.2.2 ∧ ((∃ j ix, r.2.2.1 = .invokeinterface j ix) → xokC Ts cl y.cls host yM mc raw r.2.2)) := by
  rcases h with ⟨h1, h2, h3⟩ | ⟨h1, h2, h3, h4, h5⟩
  · exact Or.inl ⟨h1, xokT_mono hT h2, h3⟩
  · refine Or.inr ⟨h1, _, h2, xok_mono hT h3, h4, fun hj => ?_⟩
    obtain ⟨j, ix, hj⟩ := hj
    rw [hj] at h5
    exact xokC_mono hT h5
end XMONO
/-- where a method goes on: ct: the classes of its catch types -/
def xhd (ct : List (Nat × Nat)) (pc k : Nat) : List (Nat × Nat × Nat × Nat) → Option (Option Nat)
  | [] => some none
  | y :: t => if y.1 ≤ pc ∧ pc < y.2.1 then (if ct.lookup y.2.2.2 = some k then some (some y.2.2.1) else (match xhd ct pc k t with | some (some q) => some (some q) | _ => none)) else xhd ct pc k t
theorem xhd_none {ct : List (Nat × Nat)} {pc k : Nat} : ∀ {hdl : List (Nat × Nat × Nat × Nat)}, xhd ct pc k hdl = some none → ∀ y ∈ hdl, ¬ (y.1 ≤ pc ∧ pc < y.2.1) := by
  intro hdl
  induction hdl with
  | nil => intro _ y hy; cases hy
  | cons z t ih =>
    intro h y hy
    unfold xhd at h
    split at h
    · split at h
      · cases h
      · split at h <;> cases h
    · rename_i hz
      rcases List.mem_cons.mp hy with rfl | hy
      · exact hz
      · exact ih h y hy
theorem xhd_some {Ts : List Cond} {own : String} {nc : List (String × String)} {ns : List String} {ct : List (Nat × Nat)} {pc k q : Nat} {X : String} (nm : Nat → String) (hX : nm k = X) (hct : ∀ x ∈ ct, x.1 ≠ 0 ∧ Cond.classLink own x.1 (nm x.2) ∈ Ts ∧ nm x.2 ∈ ns ∧ (x.2 ≠ k → (X, nm x.2) ∈ nc)) :
    ∀ {hdl : List (Nat × Nat × Nat × Nat)}, (∀ y ∈ hdl, ∃ c, ct.lookup y.2.2.2 = some c) → xhd ct pc k hdl = some (some q) → xokH Ts own nc ns pc X q hdl := by
  have hmem : ∀ (ct : List (Nat × Nat)) (a c : Nat), ct.lookup a = some c → (a, c) ∈ ct := by
    intro ct a c
    induction ct with
    | nil => intro h; cases h
    | cons x t ih =>
      intro h
      obtain ⟨x1, x2⟩ := x
      rw [List.lookup_cons] at h
      split at h
      · rename_i hb
        cases h
        have : a = x1 := by simpa using hb
        rw [this]
        exact List.mem_cons_self
      · exact List.mem_cons_of_mem _ (ih h)
  intro hdl
  induction hdl with
  | nil => intro _ h; cases h
  | cons y t ih =>
    intro hl h
    unfold xhd at h
    obtain ⟨c, hc⟩ := hl y List.mem_cons_self
    obtain ⟨c0, c1, c2, c3⟩ := hct _ (hmem _ _ _ hc)
    split at h
    · rename_i hcov
      split at h
      · rename_i hk
        cases h
        rw [hc] at hk
        cases hk
        exact Or.inr ⟨hcov, c0, Or.inl ⟨rfl, by rw [← hX]; exact c1⟩⟩
      · rename_i hk
        split at h
        · rename_i q2 hq
          cases h
          have hne : c ≠ k := fun e => hk (by rw [hc, e])
          exact Or.inr ⟨hcov, c0, Or.inr ⟨⟨nm c, c2, c1, c3 hne⟩, ih (fun z hz => hl z (List.mem_cons_of_mem _ hz)) hq⟩⟩
        · cases h
    · rename_i hcov
      exact Or.inl ⟨hcov, ih (fun z hz => hl z (List.mem_cons_of_mem _ hz)) h⟩
/-- places of words -/
theorem xplaces {big : List Cond} {ws : List Cond} {ps : List Nat} (h : ws.map some = ps.map (fun i => big[i]?)) : ∀ w ∈ ws, w ∈ big := by
  intro w hw
  have h1 : some w ∈ ws.map some := List.mem_map.mpr ⟨w, hw, rfl⟩
  rw [h] at h1
  obtain ⟨i, -, hi⟩ := List.mem_map.mp h1
  exact List.mem_of_getElem? hi
end

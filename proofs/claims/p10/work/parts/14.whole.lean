/-! THE THEOREM -/
section XSOUND
variable {p : Program} {l : Launch} {e : Env} {b base : Nat} {ta : (Nat → Nat) × Option Nat} {dA : Nat → ClassId} {D : va_G} {cl : List vw_C} {Ts : List Cond} {ty : Nat → FieldType} {L : Nat} {xs : Nat → Int32} {tf : Nat → Nat → Nat} {nf : Nat → List Value} {mc : Nat → Option Nat} {lit : List (List Int32)} {ldcs : List (String × Nat × String × Nat)} {host : String} {nc : List (String × String)} {ns : List String}
variable {yM : Nat → MethodName} {cM : Nat → ByteArray} {mx : Nat → Nat} {rM : Nat → Option FieldType} {hM : Nat → List (Nat × Nat × Nat × Nat)} {P : Nat → Nat → Option xI} {hd : Nat → Nat → Nat → Option (Option Nat)}
/-- the linked code is the bytecode -/
def XP (cl : List vw_C) (Ts : List Cond) (ty : Nat → FieldType) (tf : Nat → Nat → Nat) (nf : Nat → List Value) (mc : Nat → Option Nat) (host : String) (yM : Nat → MethodName) (cM : Nat → ByteArray) (rM : Nat → Option FieldType) (hM : Nat → List (Nat × Nat × Nat × Nat)) (ldcs : List (String × Nat × String × Nat)) (P : Nat → Nat → Option xI) : Prop :=
  ∀ (i pc : Nat) (o : xI), P i pc = some o → (o.1 = .athrow ∧ xokT Ts cl (yM i).cls (cM i) pc o ∧ hM i = []) ∨ (o.1 ≠ .athrow ∧ ∃ raw, decode (cM i) pc = .ok (raw, o.2.1) ∧ xok Ts cl (yM i).cls tf nf ty ldcs (decide ((yM i).name = "<init>")) pc raw o ∧ xokR (rM i) o ∧ ((∃ j ix, o.1 = .invokeinterface j ix) → xokC Ts cl (yM i).cls host yM mc raw o))
/-- the handlers -/
def XHd (cl : List vw_C) (Ts : List Cond) (nc : List (String × String)) (ns : List String) (yM : Nat → MethodName) (hM : Nat → List (Nat × Nat × Nat × Nat)) (hd : Nat → Nat → Nat → Option (Option Nat)) : Prop :=
  ∀ (i pc k : Nat), (∀ q, hd i pc k = some (some q) → ∃ r, cl[k]? = some r ∧ xokH Ts (yM i).cls nc ns pc r.1 q (hM i)) ∧ (hd i pc k = some none → ∀ y ∈ hM i, ¬ (y.1 ≤ pc ∧ pc < y.2.1))
set_option maxHeartbeats 1000000 in
theorem xsound (hP : XP cl Ts ty tf nf mc host yM cM rM hM ldcs P) (hH : XHd cl Ts nc ns yM hM hd) (G : XG Ts cl tf ty) (M : XMt Ts yM cM mx rM hM) (htr : e.platform.stackTraces = false) :
    ∀ (n d i pc : Nat) (ls : xL) (st : List Value) (h : xH) (r : xO) (h' : xH), xrun (xstep nf L xs lit mc) P mx hd n d i pc ls st h = some (r, h') →
      ∀ (R : Room) (s : State) (m : MethodId) (args : Array Value) (below : List Frame) (meth : Method) (c : Code) (n0 z0 : Nat), XE p b base ta lit ldcs dA D cl Ts ty L xs yM cM mx rM hM nc s m args meth c i → d + 8 ≤ R.frames → 64 * d + 200 ≤ R.locals → h'.length - n0 ≤ R.cells → xsz h' - z0 ≤ R.slots → ls.length = mx i →
        XK p l e R s m args below meth c (XQ below s b base ta dA D cl n0 z0 r h') b base ta dA D cl n0 z0 pc ls st h := by
  intro n
  induction n with
  | zero => intro d i pc ls st h r h' hr; cases hr
  | succ n ih =>
    intro d i pc ls st h r h' hr R s m args below meth c n0 z0 E hfr hlo hRc hRs hsz
    have E' := E
    obtain ⟨F, hret, hlocks, hml, hch, hU, hV⟩ := E'
    simp only [xrun] at hr
    split at hr
    · cases hr
    · rename_i o ho
      rcases hP i pc o ho with ⟨hat, hokT, hno⟩ | ⟨hnt, raw, hdec, hok, hokR, hokC⟩
      · obtain ⟨i1, ic, ei, ix⟩ := o
        have hat : i1 = .athrow := hat
        subst hat
        split at hr
        · cases hr
        · rename_i pc' ls' st' h1 hs
          exfalso
          simp only [xstep] at hs
          split at hs <;> cases hs
        · rename_i r1 hs
          cases hr
          refine xs_throw F M.1 hU htr hlocks ?_ (hsz.trans hml.symm) hokT hs (by omega) (by omega) ⟨hRc, hRs⟩
          rw [hno] at hch
          simpa using hch
        · rename_i j as pc' st' hs
          exfalso
          simp only [xstep] at hs
          split at hs <;> cases hs
      · split at hr
        · cases hr
        · rename_i pc' ls' st' h1 hs
          obtain ⟨k0, k1, k2⟩ := xstep_keep hs
          obtain ⟨⟨j1, j2⟩, -⟩ := xrun_keep _ _ _ _ _ _ _ _ _ hr
          exact xs_go F G hdec hok hs ⟨by omega, by omega⟩ (hsz.trans hml.symm) (by omega) (by omega) (ih _ _ _ _ _ _ _ _ hr R s m args below meth c n0 z0 E hfr hlo hRc hRs (k0.trans hsz))
        · rename_i r1 hs
          cases hr
          obtain ⟨-, -, hend⟩ := xstep_end hs
          have hend : o.1 = .ireturn ∨ o.1 = .areturn ∨ o.1 = .return_ := by
            rcases hend with q | q | q | q
            · exact Or.inl q
            · exact Or.inr (Or.inl q)
            · exact Or.inr (Or.inr q)
            · exact absurd q hnt
          exact xs_ends F hret hlocks hend hdec hok hokR hs
        · rename_i j as pc' st' hs
          obtain ⟨ix, n1, k, kd, rfl⟩ := xstep_call hs
          have hC := hokC ⟨_, _, rfl⟩
          split at hr
          · cases hr
          · rename_i d
            split at hr
            · rename_i hent
              have IH : ∀ (rc : xO) (h1 : xH), xrun (xstep nf L xs lit mc) P mx hd n d j 0 (xent as (mx j)) [] h = some (rc, h1) → XGood p l e b base ta lit ldcs dA D cl Ts ty L xs yM cM mx rM hM nc d j as h rc h1 := by
                intro rc h1 hc R' s' m' below' meth' c' E9 f1 f2 f3 f4 f5 f6
                have K := ih _ _ _ _ _ _ _ _ hc R' s' m' (as.map (xv b base ta)).toArray below' meth' c' h.length (xsz h) E9 f1 f2 f3 f4 hent (Nat.le_refl _) (Nat.le_refl _) s'.heap [] _ (xls_entry as (mx j) hent) f5 f6 va_S.rf
                rw [Nat.sub_self, Nat.sub_self] at K
                rw [lg_entry_eq]
                exact K
              split at hr
              · cases hr
              · rename_i v h1 hc
                obtain ⟨⟨j1, j2⟩, -⟩ := xrun_keep _ _ _ _ _ _ _ _ _ hc
                obtain ⟨⟨l1, l2⟩, -⟩ := xrun_keep _ _ _ _ _ _ _ _ _ hr
                refine xs_call E M hdec hC hs (IH _ _ hc) (by omega) (by omega) j1 j2 ⟨by omega, by omega⟩ hsz (fun v9 hv => ?_) (fun q a hv => by cases hv)
                cases hv
                exact ih _ _ _ _ _ _ _ _ hr R s m args below meth c n0 z0 E hfr hlo hRc hRs hsz
              · rename_i k9 a h1 hc
                obtain ⟨⟨j1, j2⟩, j3⟩ := xrun_keep _ _ _ _ _ _ _ _ _ hc
                obtain ⟨fs, hfs⟩ := j3 k9 a rfl
                split at hr
                · rename_i q hq
                  obtain ⟨⟨l1, l2⟩, -⟩ := xrun_keep _ _ _ _ _ _ _ _ _ hr
                  obtain ⟨r9, hr9, hokH⟩ := (hH i pc k9).1 q hq
                  intro hn hz
                  refine xs_call E M hdec hC hs (IH _ _ hc) (by omega) (by omega) j1 j2 ⟨by omega, by omega⟩ hsz (fun v9 hv => by cases hv) (fun q2 a2 hv => ?_) hn hz
                  cases hv
                  exact xt_catch F hV hr9 hfs hch hokH (by omega) (by omega) (ih _ _ _ _ _ _ _ _ hr R s m args below meth c n0 z0 E hfr hlo hRc hRs hsz)
                · rename_i hq
                  cases hr
                  refine xs_call E M hdec hC hs (IH _ _ hc) (by omega) (by omega) j1 j2 ⟨by omega, by omega⟩ hsz (fun v9 hv => by cases hv) (fun q2 a2 hv => ?_)
                  cases hv
                  refine xt_out hlocks (fun x hx => ?_)
                  have h9 := (hH i pc k9).2 hq (x.startPc, x.endPc, x.handlerPc, x.catchType) (by rw [← hch]; exact List.mem_map.mpr ⟨x, hx, rfl⟩)
                  unfold covers
                  simp only [Bool.and_eq_false_imp, decide_eq_true_eq, decide_eq_false_iff_not]
                  exact fun h8 h7 => h9 ⟨h8, h7⟩
                · cases hr
            · cases hr
end XSOUND

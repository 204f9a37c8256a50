/-! THE INSTRUCTIONS THAT LEAVE THE HEAP AS IT IS -/
/-- the code of a field's type -/
def xtc (t : FieldType) : Nat := match t with
  | .int => 0
  | .boolean => 1
  | .byte => 2
  | .char => 3
  | .short => 4
  | .long => 5
  | .object _ => 6
  | .array _ => 6
  | _ => 99
/-- what holds of a class: the words of its fields, their types, their names -/
def XC (Ts : List Cond) (tf : Nat → Nat → Nat) (ci : Nat) (r : vw_C) : Prop := (∀ w ∈ u_ws r.1 r.2.1 r.2.2, w ∈ Ts) ∧ (∃ ty0 : Nat → FieldType, ∀ k, k < r.2.2 → parseFieldDescriptor (r.2.1 k).2.2.1 = some (ty0 k) ∧ xtc (ty0 k) = tf ci k) ∧ ∀ a, a < r.2.2 → ∀ b, b < r.2.2 → a ≠ b → (r.2.1 a).2.1 ≠ (r.2.1 b).2.1
/-- what holds of the tables, whatever the state: of the classes; ty: the types of the arrays' elements by their codes -/
def XG (Ts : List Cond) (cl : List vw_C) (tf : Nat → Nat → Nat) (ty : Nat → FieldType) : Prop := (∀ (ci : Nat) (r : vw_C), cl[ci]? = some r → XC Ts tf ci r) ∧ ty 0 = .int ∧ ty 1 = .boolean ∧ ty 2 = .byte ∧ ty 3 = .char ∧ ty 5 = .long ∧ ∀ t, 6 ≤ t → t < 12 → (ty t).isReference = true
/-- what holds of the texts: the literals, where they are loaded, and that Strings are compact -/
def XTx (base : Nat) (ta : (Nat → Nat) × Option Nat) (lit : List (List Int32)) (ldcs : List (String × Nat × String × Nat)) (s : State) : Prop :=
  vk_S lit.length (lit.map List.length) lit (fun i => ta.1 (2 * i)) (fun i => ta.1 (2 * i + 1)) (fun q => base ≤ q) s s.heap ∧ (∀ q ∈ ldcs, vk_R q.1 q.2.1 q.2.2.1 (ta.1 (2 * q.2.2.2)) s) ∧ va_Z "java/lang/String" "COMPACT_STRINGS" "Z" (.int 1) (fun q => base ≤ q) s s.heap ∧ va_Z "jdk/internal/util/Preconditions" "SIOOBE_FORMATTER" "Ljava/util/function/BiFunction;" (va_rf ta.2) (fun q => base ≤ q) s s.heap
theorem XTx.go {base : Nat} {ta : (Nat → Nat) × Option Nat} {lit : List (List Int32)} {ldcs : List (String × Nat × String × Nat)} {s U : State} (h : XTx base ta lit ldcs s) (hW : s.WarmedH U.vm) (hq : ∀ q, q < s.heap.size → ¬ base ≤ q → U.heap[q]? = s.heap[q]?) : XTx base ta lit ldcs U :=
  ⟨vk_S.moved hW.alike (h.1.kept hq), fun q hq9 => (h.2.1 q hq9).warm hW, va_Z.moved hW.alike (h.2.2.1.kept hq), va_Z.moved hW.alike (h.2.2.2.kept hq)⟩
/-- what holds at a method's entry -/
def XF (p : Program) (s : State) (m : MethodId) (args : Array Value) (meth : Method) (c : Code) (b base : Nat) (dA : Nat → ClassId) (D : va_G) (cl : List vw_C) (Ts : List Cond) (ty : Nat → FieldType) (L : Nat) (xs : Nat → Int32) (ta : (Nat → Nat) × Option Nat) (lit : List (List Int32)) (ldcs : List (String × Nat × String × Nat)) (cc : ByteArray) (own : String) (ini : Bool) : Prop :=
  p.tables.exec = Jvm.exec ∧ c.code = cc ∧ s.vm.findClass own = some m.cls ∧ (∀ w ∈ Ts, w.before args s = true) ∧ va_K D cl [] s ∧ (∀ t, ArrOfT s (dA t) (ty t) ∧ va_RA s (dA t) (ty t)) ∧ va_X b L xs s s.heap ∧ b < base ∧ base ≤ s.heap.size ∧ (ini = true → meth.name = "<init>") ∧ XTx base ta lit ldcs s
theorem xin_of {i : Int32} {n : Nat} (h : xin i n = true) : ¬ (i < 0 ∨ n ≤ i.toNatClampNeg) := of_decide_eq_true h
theorem xin_lt {i : Int32} {n : Nat} (h : xin i n = true) : i.toNatClampNeg < n := Nat.not_le.mp fun q => xin_of h (Or.inr q)
section XPLAIN
variable {p : Program} {l : Launch} {e : Env} {R : Room} {s : State} {m : MethodId} {args : Array Value} {below : List Frame} {meth : Method} {c : Code} {Q : State → Prop}
variable {b base : Nat} {ta : (Nat → Nat) × Option Nat} {dA : Nat → ClassId} {D : va_G} {cl : List vw_C} {n0 z0 : Nat} {cc : ByteArray} {pc pc' n : Nat} {ls ls' : xL} {st st' : List Value} {h h' : xH} {raw : Instr} {x1 x2 : Nat}
variable {Ts : List Cond} {ty : Nat → FieldType} {own : String} {tf : Nat → Nat → Nat} {ini : Bool}
variable {nf : Nat → List Value} {L : Nat} {xs : Nat → Int32} {mc : Nat → Option Nat} {lit : List (List Int32)} {ldcs : List (String × Nat × String × Nat)}
theorem xs_iconst {v : Int} (F : XF p s m args meth c b base dA D cl Ts ty L xs ta lit ldcs cc own ini) (G : XG Ts cl tf ty) (hd : decode cc pc = .ok (raw, n)) (hok : xok Ts cl own tf nf ty ldcs ini pc raw (.iconst v, n, x1, x2)) (hs : xstep nf L xs lit mc (.iconst v, n, x1, x2) pc ls st h = some (.inl (pc', ls', st', h'))) (K : XK p l e R s m args below meth c Q b base ta dA D cl n0 z0 pc' ls' st' h') : XK p l e R s m args below meth c Q b base ta dA D cl n0 z0 pc ls st h := by
  obtain ⟨hx, hb, hown, hts, hK, hA, hX, hbl, hbs, hini, hTx⟩ := F
  obtain ⟨hcl, ty0, ty1, ty2, ty3, ty5, tyR⟩ := G
  cases hs
  intro hn hz H locs rl h1 h2 h3 h4
  rcases hok with ⟨rfl, rfl⟩ | ⟨rfl, rfl, hv⟩ | ⟨rfl, rfl, hv⟩
  · exact lv_iconst hx hb hd rfl (K hn hz H locs rl h1 h2 h3 h4)
  · exact lv_bipush hx hb hd hv (K hn hz H locs rl h1 h2 h3 h4)
  · exact lv_sipush hx hb hd hv (K hn hz H locs rl h1 h2 h3 h4)
theorem xs_lconst {v : Int} (F : XF p s m args meth c b base dA D cl Ts ty L xs ta lit ldcs cc own ini) (G : XG Ts cl tf ty) (hd : decode cc pc = .ok (raw, n)) (hok : xok Ts cl own tf nf ty ldcs ini pc raw (.goto_w v, n, x1, x2)) (hs : xstep nf L xs lit mc (.goto_w v, n, x1, x2) pc ls st h = some (.inl (pc', ls', st', h'))) (K : XK p l e R s m args below meth c Q b base ta dA D cl n0 z0 pc' ls' st' h') : XK p l e R s m args below meth c Q b base ta dA D cl n0 z0 pc ls st h := by
  obtain ⟨hx, hb, hown, hts, hK, hA, hX, hbl, hbs, hini, hTx⟩ := F
  obtain ⟨hcl, ty0, ty1, ty2, ty3, ty5, tyR⟩ := G
  cases hs
  intro hn hz H locs rl h1 h2 h3 h4
  obtain ⟨rfl, rfl, hv⟩ := hok
  exact lv_ldc2 hx hb hown (hts _ hv) hd (K hn hz H locs rl h1 h2 h3 h4)
theorem xs_iload {i : Nat} (F : XF p s m args meth c b base dA D cl Ts ty L xs ta lit ldcs cc own ini) (G : XG Ts cl tf ty) (hd : decode cc pc = .ok (raw, n)) (hok : xok Ts cl own tf nf ty ldcs ini pc raw (.iload i, n, x1, x2)) (hs : xstep nf L xs lit mc (.iload i, n, x1, x2) pc ls st h = some (.inl (pc', ls', st', h'))) (K : XK p l e R s m args below meth c Q b base ta dA D cl n0 z0 pc' ls' st' h') : XK p l e R s m args below meth c Q b base ta dA D cl n0 z0 pc ls st h := by
  obtain ⟨hx, hb, hown, hts, hK, hA, hX, hbl, hbs, hini, hTx⟩ := F
  obtain ⟨hcl, ty0, ty1, ty2, ty3, ty5, tyR⟩ := G
  simp only [xstep] at hs
  split at hs
  · rename_i x hl
    cases hs
    intro hn hz H locs rl h1 h2 h3 h4
    rcases hok with ⟨rfl, rfl⟩ | ⟨rfl, k, rfl, rfl⟩
    · exact lv_iload hx hb hd (h1.2.2 _ _ hl) (K hn hz H locs rl h1 h2 h3 h4)
    · exact lv_iload_n hx hb hd rfl (h1.2.2 _ _ hl) (K hn hz H locs rl h1 h2 h3 h4)
  · cases hs
theorem xs_lload {i : Nat} (F : XF p s m args meth c b base dA D cl Ts ty L xs ta lit ldcs cc own ini) (G : XG Ts cl tf ty) (hd : decode cc pc = .ok (raw, n)) (hok : xok Ts cl own tf nf ty ldcs ini pc raw (.lload i, n, x1, x2)) (hs : xstep nf L xs lit mc (.lload i, n, x1, x2) pc ls st h = some (.inl (pc', ls', st', h'))) (K : XK p l e R s m args below meth c Q b base ta dA D cl n0 z0 pc' ls' st' h') : XK p l e R s m args below meth c Q b base ta dA D cl n0 z0 pc ls st h := by
  obtain ⟨hx, hb, hown, hts, hK, hA, hX, hbl, hbs, hini, hTx⟩ := F
  obtain ⟨hcl, ty0, ty1, ty2, ty3, ty5, tyR⟩ := G
  simp only [xstep] at hs
  split at hs
  · rename_i x hl
    cases hs
    intro hn hz H locs rl h1 h2 h3 h4
    rcases hok with ⟨rfl, rfl⟩ | ⟨rfl, k, rfl, rfl⟩
    · exact lv_lload hx hb hd (h1.2.2 _ _ hl) (K hn hz H locs rl h1 h2 h3 h4)
    · exact lv_lload_n hx hb hd rfl (h1.2.2 _ _ hl) (K hn hz H locs rl h1 h2 h3 h4)
  · cases hs
theorem xs_aload {i : Nat} (F : XF p s m args meth c b base dA D cl Ts ty L xs ta lit ldcs cc own ini) (G : XG Ts cl tf ty) (hd : decode cc pc = .ok (raw, n)) (hok : xok Ts cl own tf nf ty ldcs ini pc raw (.aload i, n, x1, x2)) (hs : xstep nf L xs lit mc (.aload i, n, x1, x2) pc ls st h = some (.inl (pc', ls', st', h'))) (K : XK p l e R s m args below meth c Q b base ta dA D cl n0 z0 pc' ls' st' h') : XK p l e R s m args below meth c Q b base ta dA D cl n0 z0 pc ls st h := by
  obtain ⟨hx, hb, hown, hts, hK, hA, hX, hbl, hbs, hini, hTx⟩ := F
  obtain ⟨hcl, ty0, ty1, ty2, ty3, ty5, tyR⟩ := G
  simp only [xstep] at hs
  split at hs
  · rename_i v hl
    split at hs
    · rename_i hv
      cases hs
      intro hn hz H locs rl h1 h2 h3 h4
      obtain ⟨a, ha⟩ := xv_ref (b := b) (base := base) (ta := ta) hv
      have hl2 := h1.2.2 _ _ hl
      rw [ha] at hl2
      have K2 := K hn hz H locs rl h1 h2 h3 h4
      rw [List.map_cons, ha] at K2
      rcases hok with ⟨rfl, rfl⟩ | ⟨rfl, k, rfl, rfl⟩
      · exact lv_aload hx hb hd hl2 K2
      · exact lv_aload_n hx hb hd rfl hl2 K2
    · cases hs
  · cases hs
theorem xs_istore {i : Nat} (F : XF p s m args meth c b base dA D cl Ts ty L xs ta lit ldcs cc own ini) (G : XG Ts cl tf ty) (hd : decode cc pc = .ok (raw, n)) (hok : xok Ts cl own tf nf ty ldcs ini pc raw (.istore i, n, x1, x2)) (hs : xstep nf L xs lit mc (.istore i, n, x1, x2) pc ls st h = some (.inl (pc', ls', st', h'))) (K : XK p l e R s m args below meth c Q b base ta dA D cl n0 z0 pc' ls' st' h') : XK p l e R s m args below meth c Q b base ta dA D cl n0 z0 pc ls st h := by
  obtain ⟨hx, hb, hown, hts, hK, hA, hX, hbl, hbs, hini, hTx⟩ := F
  obtain ⟨hcl, ty0, ty1, ty2, ty3, ty5, tyR⟩ := G
  simp only [xstep] at hs
  split at hs
  · rename_i x st0
    split at hs
    · rename_i ls1 he
      cases hs
      refine xs_store he K (fun H locs cells slots rl hl hi kk => ?_)
      rcases hok with ⟨rfl, rfl⟩ | ⟨rfl, k, rfl, rfl⟩
      · exact lv_istore hx hb hd hl hi rfl kk
      · exact lv_istore_n hx hb hd rfl hl hi rfl kk
    · cases hs
  · cases hs
theorem xs_astore {i : Nat} (F : XF p s m args meth c b base dA D cl Ts ty L xs ta lit ldcs cc own ini) (G : XG Ts cl tf ty) (hd : decode cc pc = .ok (raw, n)) (hok : xok Ts cl own tf nf ty ldcs ini pc raw (.astore i, n, x1, x2)) (hs : xstep nf L xs lit mc (.astore i, n, x1, x2) pc ls st h = some (.inl (pc', ls', st', h'))) (K : XK p l e R s m args below meth c Q b base ta dA D cl n0 z0 pc' ls' st' h') : XK p l e R s m args below meth c Q b base ta dA D cl n0 z0 pc ls st h := by
  obtain ⟨hx, hb, hown, hts, hK, hA, hX, hbl, hbs, hini, hTx⟩ := F
  obtain ⟨hcl, ty0, ty1, ty2, ty3, ty5, tyR⟩ := G
  simp only [xstep] at hs
  split at hs
  · rename_i v st0
    split at hs
    · rename_i hv
      split at hs
      · rename_i ls1 he
        cases hs
        refine xs_store he K (fun H locs cells slots rl hl hi kk => ?_)
        obtain ⟨a, ha⟩ := xv_ref (b := b) (base := base) (ta := ta) hv
        rw [ha] at kk ⊢
        rcases hok with ⟨rfl, rfl⟩ | ⟨rfl, k, rfl, rfl⟩
        · exact lv_astore hx hb hd hl hi rfl kk
        · exact lv_astore_n hx hb hd rfl hl hi rfl kk
      · cases hs
    · cases hs
  · cases hs
theorem xs_iinc {i : Nat} {k : Int} (F : XF p s m args meth c b base dA D cl Ts ty L xs ta lit ldcs cc own ini) (G : XG Ts cl tf ty) (hd : decode cc pc = .ok (raw, n)) (hok : xok Ts cl own tf nf ty ldcs ini pc raw (.iinc i k, n, x1, x2)) (hs : xstep nf L xs lit mc (.iinc i k, n, x1, x2) pc ls st h = some (.inl (pc', ls', st', h'))) (K : XK p l e R s m args below meth c Q b base ta dA D cl n0 z0 pc' ls' st' h') : XK p l e R s m args below meth c Q b base ta dA D cl n0 z0 pc ls st h := by
  obtain ⟨hx, hb, hown, hts, hK, hA, hX, hbl, hbs, hini, hTx⟩ := F
  obtain ⟨hcl, ty0, ty1, ty2, ty3, ty5, tyR⟩ := G
  simp only [xstep] at hs
  split at hs
  · rename_i x hl
    split at hs
    · rename_i ls1 he
      cases hs
      obtain ⟨rfl, rfl⟩ := hok
      intro hn hz H locs rl h1 h2 h3 h4
      obtain ⟨j, hj⟩ := List.getElem?_of_mem (xlp_mem.mpr ⟨.int x, hl, rfl⟩ : (i, Value.int x) ∈ xlp b base ta ls)
      exact lv_iinc hx hb hd (xls_has h1) hj rfl (xset_spec he).1 rfl (fun ls1 hl1 => K hn hz H locs ls1 (xls_put he hl1) h2 h3 h4)
    · cases hs
  · cases hs
theorem xs_iadd (F : XF p s m args meth c b base dA D cl Ts ty L xs ta lit ldcs cc own ini) (G : XG Ts cl tf ty) (hd : decode cc pc = .ok (raw, n)) (hok : xok Ts cl own tf nf ty ldcs ini pc raw (.iadd, n, x1, x2)) (hs : xstep nf L xs lit mc (.iadd, n, x1, x2) pc ls st h = some (.inl (pc', ls', st', h'))) (K : XK p l e R s m args below meth c Q b base ta dA D cl n0 z0 pc' ls' st' h') : XK p l e R s m args below meth c Q b base ta dA D cl n0 z0 pc ls st h := by
  obtain ⟨hx, hb, hown, hts, hK, hA, hX, hbl, hbs, hini, hTx⟩ := F
  obtain ⟨hcl, ty0, ty1, ty2, ty3, ty5, tyR⟩ := G
  simp only [xstep] at hs
  split at hs
  · cases hs
    obtain ⟨rfl, rfl⟩ := hok
    intro hn hz H locs rl h1 h2 h3 h4
    exact lv_iadd hx hb hd (K hn hz H locs rl h1 h2 h3 h4)
  · cases hs
theorem xs_isub (F : XF p s m args meth c b base dA D cl Ts ty L xs ta lit ldcs cc own ini) (G : XG Ts cl tf ty) (hd : decode cc pc = .ok (raw, n)) (hok : xok Ts cl own tf nf ty ldcs ini pc raw (.isub, n, x1, x2)) (hs : xstep nf L xs lit mc (.isub, n, x1, x2) pc ls st h = some (.inl (pc', ls', st', h'))) (K : XK p l e R s m args below meth c Q b base ta dA D cl n0 z0 pc' ls' st' h') : XK p l e R s m args below meth c Q b base ta dA D cl n0 z0 pc ls st h := by
  obtain ⟨hx, hb, hown, hts, hK, hA, hX, hbl, hbs, hini, hTx⟩ := F
  obtain ⟨hcl, ty0, ty1, ty2, ty3, ty5, tyR⟩ := G
  simp only [xstep] at hs
  split at hs
  · cases hs
    obtain ⟨rfl, rfl⟩ := hok
    intro hn hz H locs rl h1 h2 h3 h4
    exact lv_isub hx hb hd (K hn hz H locs rl h1 h2 h3 h4)
  · cases hs
theorem xs_imul (F : XF p s m args meth c b base dA D cl Ts ty L xs ta lit ldcs cc own ini) (G : XG Ts cl tf ty) (hd : decode cc pc = .ok (raw, n)) (hok : xok Ts cl own tf nf ty ldcs ini pc raw (.imul, n, x1, x2)) (hs : xstep nf L xs lit mc (.imul, n, x1, x2) pc ls st h = some (.inl (pc', ls', st', h'))) (K : XK p l e R s m args below meth c Q b base ta dA D cl n0 z0 pc' ls' st' h') : XK p l e R s m args below meth c Q b base ta dA D cl n0 z0 pc ls st h := by
  obtain ⟨hx, hb, hown, hts, hK, hA, hX, hbl, hbs, hini, hTx⟩ := F
  obtain ⟨hcl, ty0, ty1, ty2, ty3, ty5, tyR⟩ := G
  simp only [xstep] at hs
  split at hs
  · cases hs
    obtain ⟨rfl, rfl⟩ := hok
    intro hn hz H locs rl h1 h2 h3 h4
    exact lv_imul hx hb hd (K hn hz H locs rl h1 h2 h3 h4)
  · cases hs
theorem xs_iand (F : XF p s m args meth c b base dA D cl Ts ty L xs ta lit ldcs cc own ini) (G : XG Ts cl tf ty) (hd : decode cc pc = .ok (raw, n)) (hok : xok Ts cl own tf nf ty ldcs ini pc raw (.iand, n, x1, x2)) (hs : xstep nf L xs lit mc (.iand, n, x1, x2) pc ls st h = some (.inl (pc', ls', st', h'))) (K : XK p l e R s m args below meth c Q b base ta dA D cl n0 z0 pc' ls' st' h') : XK p l e R s m args below meth c Q b base ta dA D cl n0 z0 pc ls st h := by
  obtain ⟨hx, hb, hown, hts, hK, hA, hX, hbl, hbs, hini, hTx⟩ := F
  obtain ⟨hcl, ty0, ty1, ty2, ty3, ty5, tyR⟩ := G
  simp only [xstep] at hs
  split at hs
  · cases hs
    obtain ⟨rfl, rfl⟩ := hok
    intro hn hz H locs rl h1 h2 h3 h4
    exact lv_iand hx hb hd (K hn hz H locs rl h1 h2 h3 h4)
  · cases hs
theorem xs_ior (F : XF p s m args meth c b base dA D cl Ts ty L xs ta lit ldcs cc own ini) (G : XG Ts cl tf ty) (hd : decode cc pc = .ok (raw, n)) (hok : xok Ts cl own tf nf ty ldcs ini pc raw (.ior, n, x1, x2)) (hs : xstep nf L xs lit mc (.ior, n, x1, x2) pc ls st h = some (.inl (pc', ls', st', h'))) (K : XK p l e R s m args below meth c Q b base ta dA D cl n0 z0 pc' ls' st' h') : XK p l e R s m args below meth c Q b base ta dA D cl n0 z0 pc ls st h := by
  obtain ⟨hx, hb, hown, hts, hK, hA, hX, hbl, hbs, hini, hTx⟩ := F
  obtain ⟨hcl, ty0, ty1, ty2, ty3, ty5, tyR⟩ := G
  simp only [xstep] at hs
  split at hs
  · cases hs
    obtain ⟨rfl, rfl⟩ := hok
    intro hn hz H locs rl h1 h2 h3 h4
    exact lv_ior hx hb hd (K hn hz H locs rl h1 h2 h3 h4)
  · cases hs
theorem xs_ishl (F : XF p s m args meth c b base dA D cl Ts ty L xs ta lit ldcs cc own ini) (G : XG Ts cl tf ty) (hd : decode cc pc = .ok (raw, n)) (hok : xok Ts cl own tf nf ty ldcs ini pc raw (.ishl, n, x1, x2)) (hs : xstep nf L xs lit mc (.ishl, n, x1, x2) pc ls st h = some (.inl (pc', ls', st', h'))) (K : XK p l e R s m args below meth c Q b base ta dA D cl n0 z0 pc' ls' st' h') : XK p l e R s m args below meth c Q b base ta dA D cl n0 z0 pc ls st h := by
  obtain ⟨hx, hb, hown, hts, hK, hA, hX, hbl, hbs, hini, hTx⟩ := F
  obtain ⟨hcl, ty0, ty1, ty2, ty3, ty5, tyR⟩ := G
  simp only [xstep] at hs
  split at hs
  · cases hs
    obtain ⟨rfl, rfl⟩ := hok
    intro hn hz H locs rl h1 h2 h3 h4
    exact lv_ishl hx hb hd (K hn hz H locs rl h1 h2 h3 h4)
  · cases hs
theorem xs_ishr (F : XF p s m args meth c b base dA D cl Ts ty L xs ta lit ldcs cc own ini) (G : XG Ts cl tf ty) (hd : decode cc pc = .ok (raw, n)) (hok : xok Ts cl own tf nf ty ldcs ini pc raw (.ishr, n, x1, x2)) (hs : xstep nf L xs lit mc (.ishr, n, x1, x2) pc ls st h = some (.inl (pc', ls', st', h'))) (K : XK p l e R s m args below meth c Q b base ta dA D cl n0 z0 pc' ls' st' h') : XK p l e R s m args below meth c Q b base ta dA D cl n0 z0 pc ls st h := by
  obtain ⟨hx, hb, hown, hts, hK, hA, hX, hbl, hbs, hini, hTx⟩ := F
  obtain ⟨hcl, ty0, ty1, ty2, ty3, ty5, tyR⟩ := G
  simp only [xstep] at hs
  split at hs
  · cases hs
    obtain ⟨rfl, rfl⟩ := hok
    intro hn hz H locs rl h1 h2 h3 h4
    exact lv_ishr hx hb hd (K hn hz H locs rl h1 h2 h3 h4)
  · cases hs
theorem xs_land (F : XF p s m args meth c b base dA D cl Ts ty L xs ta lit ldcs cc own ini) (G : XG Ts cl tf ty) (hd : decode cc pc = .ok (raw, n)) (hok : xok Ts cl own tf nf ty ldcs ini pc raw (.land, n, x1, x2)) (hs : xstep nf L xs lit mc (.land, n, x1, x2) pc ls st h = some (.inl (pc', ls', st', h'))) (K : XK p l e R s m args below meth c Q b base ta dA D cl n0 z0 pc' ls' st' h') : XK p l e R s m args below meth c Q b base ta dA D cl n0 z0 pc ls st h := by
  obtain ⟨hx, hb, hown, hts, hK, hA, hX, hbl, hbs, hini, hTx⟩ := F
  obtain ⟨hcl, ty0, ty1, ty2, ty3, ty5, tyR⟩ := G
  simp only [xstep] at hs
  split at hs
  · cases hs
    obtain ⟨rfl, rfl⟩ := hok
    intro hn hz H locs rl h1 h2 h3 h4
    exact lv_land hx hb hd (K hn hz H locs rl h1 h2 h3 h4)
  · cases hs
theorem xs_lor (F : XF p s m args meth c b base dA D cl Ts ty L xs ta lit ldcs cc own ini) (G : XG Ts cl tf ty) (hd : decode cc pc = .ok (raw, n)) (hok : xok Ts cl own tf nf ty ldcs ini pc raw (.lor, n, x1, x2)) (hs : xstep nf L xs lit mc (.lor, n, x1, x2) pc ls st h = some (.inl (pc', ls', st', h'))) (K : XK p l e R s m args below meth c Q b base ta dA D cl n0 z0 pc' ls' st' h') : XK p l e R s m args below meth c Q b base ta dA D cl n0 z0 pc ls st h := by
  obtain ⟨hx, hb, hown, hts, hK, hA, hX, hbl, hbs, hini, hTx⟩ := F
  obtain ⟨hcl, ty0, ty1, ty2, ty3, ty5, tyR⟩ := G
  simp only [xstep] at hs
  split at hs
  · cases hs
    obtain ⟨rfl, rfl⟩ := hok
    intro hn hz H locs rl h1 h2 h3 h4
    exact lv_lor hx hb hd (K hn hz H locs rl h1 h2 h3 h4)
  · cases hs
theorem xs_lushr (F : XF p s m args meth c b base dA D cl Ts ty L xs ta lit ldcs cc own ini) (G : XG Ts cl tf ty) (hd : decode cc pc = .ok (raw, n)) (hok : xok Ts cl own tf nf ty ldcs ini pc raw (.lushr, n, x1, x2)) (hs : xstep nf L xs lit mc (.lushr, n, x1, x2) pc ls st h = some (.inl (pc', ls', st', h'))) (K : XK p l e R s m args below meth c Q b base ta dA D cl n0 z0 pc' ls' st' h') : XK p l e R s m args below meth c Q b base ta dA D cl n0 z0 pc ls st h := by
  obtain ⟨hx, hb, hown, hts, hK, hA, hX, hbl, hbs, hini, hTx⟩ := F
  obtain ⟨hcl, ty0, ty1, ty2, ty3, ty5, tyR⟩ := G
  simp only [xstep] at hs
  split at hs
  · cases hs
    obtain ⟨rfl, rfl⟩ := hok
    intro hn hz H locs rl h1 h2 h3 h4
    exact lv_lushr hx hb hd rfl (K hn hz H locs rl h1 h2 h3 h4)
  · cases hs
theorem xs_lshl (F : XF p s m args meth c b base dA D cl Ts ty L xs ta lit ldcs cc own ini) (G : XG Ts cl tf ty) (hd : decode cc pc = .ok (raw, n)) (hok : xok Ts cl own tf nf ty ldcs ini pc raw (.lshl, n, x1, x2)) (hs : xstep nf L xs lit mc (.lshl, n, x1, x2) pc ls st h = some (.inl (pc', ls', st', h'))) (K : XK p l e R s m args below meth c Q b base ta dA D cl n0 z0 pc' ls' st' h') : XK p l e R s m args below meth c Q b base ta dA D cl n0 z0 pc ls st h := by
  obtain ⟨hx, hb, hown, hts, hK, hA, hX, hbl, hbs, hini, hTx⟩ := F
  obtain ⟨hcl, ty0, ty1, ty2, ty3, ty5, tyR⟩ := G
  simp only [xstep] at hs
  split at hs
  · cases hs
    obtain ⟨rfl, rfl⟩ := hok
    intro hn hz H locs rl h1 h2 h3 h4
    exact lv_lshl hx hb hd rfl (K hn hz H locs rl h1 h2 h3 h4)
  · cases hs
theorem xs_lshr (F : XF p s m args meth c b base dA D cl Ts ty L xs ta lit ldcs cc own ini) (G : XG Ts cl tf ty) (hd : decode cc pc = .ok (raw, n)) (hok : xok Ts cl own tf nf ty ldcs ini pc raw (.lshr, n, x1, x2)) (hs : xstep nf L xs lit mc (.lshr, n, x1, x2) pc ls st h = some (.inl (pc', ls', st', h'))) (K : XK p l e R s m args below meth c Q b base ta dA D cl n0 z0 pc' ls' st' h') : XK p l e R s m args below meth c Q b base ta dA D cl n0 z0 pc ls st h := by
  obtain ⟨hx, hb, hown, hts, hK, hA, hX, hbl, hbs, hini, hTx⟩ := F
  obtain ⟨hcl, ty0, ty1, ty2, ty3, ty5, tyR⟩ := G
  simp only [xstep] at hs
  split at hs
  · cases hs
    obtain ⟨rfl, rfl⟩ := hok
    intro hn hz H locs rl h1 h2 h3 h4
    exact lv_lshr hx hb hd rfl (K hn hz H locs rl h1 h2 h3 h4)
  · cases hs
theorem xs_ineg (F : XF p s m args meth c b base dA D cl Ts ty L xs ta lit ldcs cc own ini) (G : XG Ts cl tf ty) (hd : decode cc pc = .ok (raw, n)) (hok : xok Ts cl own tf nf ty ldcs ini pc raw (.ineg, n, x1, x2)) (hs : xstep nf L xs lit mc (.ineg, n, x1, x2) pc ls st h = some (.inl (pc', ls', st', h'))) (K : XK p l e R s m args below meth c Q b base ta dA D cl n0 z0 pc' ls' st' h') : XK p l e R s m args below meth c Q b base ta dA D cl n0 z0 pc ls st h := by
  obtain ⟨hx, hb, hown, hts, hK, hA, hX, hbl, hbs, hini, hTx⟩ := F
  obtain ⟨hcl, ty0, ty1, ty2, ty3, ty5, tyR⟩ := G
  simp only [xstep] at hs
  split at hs
  · cases hs
    obtain ⟨rfl, rfl⟩ := hok
    intro hn hz H locs rl h1 h2 h3 h4
    exact lv_ineg hx hb hd (K hn hz H locs rl h1 h2 h3 h4)
  · cases hs
theorem xs_i2l (F : XF p s m args meth c b base dA D cl Ts ty L xs ta lit ldcs cc own ini) (G : XG Ts cl tf ty) (hd : decode cc pc = .ok (raw, n)) (hok : xok Ts cl own tf nf ty ldcs ini pc raw (.i2l, n, x1, x2)) (hs : xstep nf L xs lit mc (.i2l, n, x1, x2) pc ls st h = some (.inl (pc', ls', st', h'))) (K : XK p l e R s m args below meth c Q b base ta dA D cl n0 z0 pc' ls' st' h') : XK p l e R s m args below meth c Q b base ta dA D cl n0 z0 pc ls st h := by
  obtain ⟨hx, hb, hown, hts, hK, hA, hX, hbl, hbs, hini, hTx⟩ := F
  obtain ⟨hcl, ty0, ty1, ty2, ty3, ty5, tyR⟩ := G
  simp only [xstep] at hs
  split at hs
  · cases hs
    obtain ⟨rfl, rfl⟩ := hok
    intro hn hz H locs rl h1 h2 h3 h4
    exact lv_i2l hx hb hd rfl (K hn hz H locs rl h1 h2 h3 h4)
  · cases hs
theorem xs_l2i (F : XF p s m args meth c b base dA D cl Ts ty L xs ta lit ldcs cc own ini) (G : XG Ts cl tf ty) (hd : decode cc pc = .ok (raw, n)) (hok : xok Ts cl own tf nf ty ldcs ini pc raw (.l2i, n, x1, x2)) (hs : xstep nf L xs lit mc (.l2i, n, x1, x2) pc ls st h = some (.inl (pc', ls', st', h'))) (K : XK p l e R s m args below meth c Q b base ta dA D cl n0 z0 pc' ls' st' h') : XK p l e R s m args below meth c Q b base ta dA D cl n0 z0 pc ls st h := by
  obtain ⟨hx, hb, hown, hts, hK, hA, hX, hbl, hbs, hini, hTx⟩ := F
  obtain ⟨hcl, ty0, ty1, ty2, ty3, ty5, tyR⟩ := G
  simp only [xstep] at hs
  split at hs
  · cases hs
    obtain ⟨rfl, rfl⟩ := hok
    intro hn hz H locs rl h1 h2 h3 h4
    exact lv_l2i hx hb hd rfl (K hn hz H locs rl h1 h2 h3 h4)
  · cases hs
theorem xs_i2c (F : XF p s m args meth c b base dA D cl Ts ty L xs ta lit ldcs cc own ini) (G : XG Ts cl tf ty) (hd : decode cc pc = .ok (raw, n)) (hok : xok Ts cl own tf nf ty ldcs ini pc raw (.i2c, n, x1, x2)) (hs : xstep nf L xs lit mc (.i2c, n, x1, x2) pc ls st h = some (.inl (pc', ls', st', h'))) (K : XK p l e R s m args below meth c Q b base ta dA D cl n0 z0 pc' ls' st' h') : XK p l e R s m args below meth c Q b base ta dA D cl n0 z0 pc ls st h := by
  obtain ⟨hx, hb, hown, hts, hK, hA, hX, hbl, hbs, hini, hTx⟩ := F
  obtain ⟨hcl, ty0, ty1, ty2, ty3, ty5, tyR⟩ := G
  simp only [xstep] at hs
  split at hs
  · cases hs
    obtain ⟨rfl, rfl⟩ := hok
    intro hn hz H locs rl h1 h2 h3 h4
    exact lv_i2c hx hb hd rfl (K hn hz H locs rl h1 h2 h3 h4)
  · cases hs
theorem xs_lcmp (F : XF p s m args meth c b base dA D cl Ts ty L xs ta lit ldcs cc own ini) (G : XG Ts cl tf ty) (hd : decode cc pc = .ok (raw, n)) (hok : xok Ts cl own tf nf ty ldcs ini pc raw (.lcmp, n, x1, x2)) (hs : xstep nf L xs lit mc (.lcmp, n, x1, x2) pc ls st h = some (.inl (pc', ls', st', h'))) (K : XK p l e R s m args below meth c Q b base ta dA D cl n0 z0 pc' ls' st' h') : XK p l e R s m args below meth c Q b base ta dA D cl n0 z0 pc ls st h := by
  obtain ⟨hx, hb, hown, hts, hK, hA, hX, hbl, hbs, hini, hTx⟩ := F
  obtain ⟨hcl, ty0, ty1, ty2, ty3, ty5, tyR⟩ := G
  simp only [xstep] at hs
  split at hs
  · cases hs
    obtain ⟨rfl, rfl⟩ := hok
    intro hn hz H locs rl h1 h2 h3 h4
    exact W.lcmp hx hb hd (K hn hz H locs rl h1 h2 h3 h4)
  · cases hs
theorem xs_idiv (F : XF p s m args meth c b base dA D cl Ts ty L xs ta lit ldcs cc own ini) (G : XG Ts cl tf ty) (hd : decode cc pc = .ok (raw, n)) (hok : xok Ts cl own tf nf ty ldcs ini pc raw (.idiv, n, x1, x2)) (hs : xstep nf L xs lit mc (.idiv, n, x1, x2) pc ls st h = some (.inl (pc', ls', st', h'))) (K : XK p l e R s m args below meth c Q b base ta dA D cl n0 z0 pc' ls' st' h') : XK p l e R s m args below meth c Q b base ta dA D cl n0 z0 pc ls st h := by
  obtain ⟨hx, hb, hown, hts, hK, hA, hX, hbl, hbs, hini, hTx⟩ := F
  obtain ⟨hcl, ty0, ty1, ty2, ty3, ty5, tyR⟩ := G
  simp only [xstep] at hs
  split at hs
  · split at hs
    · cases hs
    · rename_i hne
      cases hs
      obtain ⟨rfl, rfl⟩ := hok
      intro hn hz H locs rl h1 h2 h3 h4
      exact lv_idiv hx hb hd hne (K hn hz H locs rl h1 h2 h3 h4)
  · cases hs
theorem xs_irem (F : XF p s m args meth c b base dA D cl Ts ty L xs ta lit ldcs cc own ini) (G : XG Ts cl tf ty) (hd : decode cc pc = .ok (raw, n)) (hok : xok Ts cl own tf nf ty ldcs ini pc raw (.irem, n, x1, x2)) (hs : xstep nf L xs lit mc (.irem, n, x1, x2) pc ls st h = some (.inl (pc', ls', st', h'))) (K : XK p l e R s m args below meth c Q b base ta dA D cl n0 z0 pc' ls' st' h') : XK p l e R s m args below meth c Q b base ta dA D cl n0 z0 pc ls st h := by
  obtain ⟨hx, hb, hown, hts, hK, hA, hX, hbl, hbs, hini, hTx⟩ := F
  obtain ⟨hcl, ty0, ty1, ty2, ty3, ty5, tyR⟩ := G
  simp only [xstep] at hs
  split at hs
  · split at hs
    · cases hs
    · rename_i hne
      cases hs
      obtain ⟨rfl, rfl⟩ := hok
      intro hn hz H locs rl h1 h2 h3 h4
      exact lv_irem hx hb hd hne (K hn hz H locs rl h1 h2 h3 h4)
  · cases hs
theorem xs_dup (F : XF p s m args meth c b base dA D cl Ts ty L xs ta lit ldcs cc own ini) (G : XG Ts cl tf ty) (hd : decode cc pc = .ok (raw, n)) (hok : xok Ts cl own tf nf ty ldcs ini pc raw (.dup, n, x1, x2)) (hs : xstep nf L xs lit mc (.dup, n, x1, x2) pc ls st h = some (.inl (pc', ls', st', h'))) (K : XK p l e R s m args below meth c Q b base ta dA D cl n0 z0 pc' ls' st' h') : XK p l e R s m args below meth c Q b base ta dA D cl n0 z0 pc ls st h := by
  obtain ⟨hx, hb, hown, hts, hK, hA, hX, hbl, hbs, hini, hTx⟩ := F
  obtain ⟨hcl, ty0, ty1, ty2, ty3, ty5, tyR⟩ := G
  simp only [xstep] at hs
  split at hs
  · split at hs
    · rename_i hc
      cases hs
      obtain ⟨rfl, rfl⟩ := hok
      intro hn hz H locs rl h1 h2 h3 h4
      exact lv_dup hx hb hd (xv_cat1 b base ta hc) (K hn hz H locs rl h1 h2 h3 h4)
    · cases hs
  · cases hs
theorem xs_pop (F : XF p s m args meth c b base dA D cl Ts ty L xs ta lit ldcs cc own ini) (G : XG Ts cl tf ty) (hd : decode cc pc = .ok (raw, n)) (hok : xok Ts cl own tf nf ty ldcs ini pc raw (.pop, n, x1, x2)) (hs : xstep nf L xs lit mc (.pop, n, x1, x2) pc ls st h = some (.inl (pc', ls', st', h'))) (K : XK p l e R s m args below meth c Q b base ta dA D cl n0 z0 pc' ls' st' h') : XK p l e R s m args below meth c Q b base ta dA D cl n0 z0 pc ls st h := by
  obtain ⟨hx, hb, hown, hts, hK, hA, hX, hbl, hbs, hini, hTx⟩ := F
  obtain ⟨hcl, ty0, ty1, ty2, ty3, ty5, tyR⟩ := G
  simp only [xstep] at hs
  split at hs
  · split at hs
    · rename_i hc
      cases hs
      obtain ⟨rfl, rfl⟩ := hok
      intro hn hz H locs rl h1 h2 h3 h4
      exact lv_pop hx hb hd (xv_cat1 b base ta hc) (K hn hz H locs rl h1 h2 h3 h4)
    · cases hs
  · cases hs
theorem xs_dup_x1 (F : XF p s m args meth c b base dA D cl Ts ty L xs ta lit ldcs cc own ini) (G : XG Ts cl tf ty) (hd : decode cc pc = .ok (raw, n)) (hok : xok Ts cl own tf nf ty ldcs ini pc raw (.dup_x1, n, x1, x2)) (hs : xstep nf L xs lit mc (.dup_x1, n, x1, x2) pc ls st h = some (.inl (pc', ls', st', h'))) (K : XK p l e R s m args below meth c Q b base ta dA D cl n0 z0 pc' ls' st' h') : XK p l e R s m args below meth c Q b base ta dA D cl n0 z0 pc ls st h := by
  obtain ⟨hx, hb, hown, hts, hK, hA, hX, hbl, hbs, hini, hTx⟩ := F
  obtain ⟨hcl, ty0, ty1, ty2, ty3, ty5, tyR⟩ := G
  simp only [xstep] at hs
  split at hs
  · split at hs
    · rename_i hc
      cases hs
      obtain ⟨rfl, rfl⟩ := hok
      intro hn hz H locs rl h1 h2 h3 h4
      exact lv_dup_x1 hx hb hd (xv_cat1 b base ta hc.1) (xv_cat1 b base ta hc.2) (K hn hz H locs rl h1 h2 h3 h4)
    · cases hs
  · cases hs
theorem xs_dup2 (F : XF p s m args meth c b base dA D cl Ts ty L xs ta lit ldcs cc own ini) (G : XG Ts cl tf ty) (hd : decode cc pc = .ok (raw, n)) (hok : xok Ts cl own tf nf ty ldcs ini pc raw (.dup2, n, x1, x2)) (hs : xstep nf L xs lit mc (.dup2, n, x1, x2) pc ls st h = some (.inl (pc', ls', st', h'))) (K : XK p l e R s m args below meth c Q b base ta dA D cl n0 z0 pc' ls' st' h') : XK p l e R s m args below meth c Q b base ta dA D cl n0 z0 pc ls st h := by
  obtain ⟨hx, hb, hown, hts, hK, hA, hX, hbl, hbs, hini, hTx⟩ := F
  obtain ⟨hcl, ty0, ty1, ty2, ty3, ty5, tyR⟩ := G
  simp only [xstep] at hs
  split at hs
  · split at hs
    · rename_i hc
      cases hs
      obtain ⟨rfl, rfl⟩ := hok
      intro hn hz H locs rl h1 h2 h3 h4
      exact lv_dup2_11 hx hb hd (xv_cat1 b base ta hc.1) (xv_cat1 b base ta hc.2) (K hn hz H locs rl h1 h2 h3 h4)
    · cases hs
  · cases hs
theorem xs_goto {t : Int} (F : XF p s m args meth c b base dA D cl Ts ty L xs ta lit ldcs cc own ini) (G : XG Ts cl tf ty) (hd : decode cc pc = .ok (raw, n)) (hok : xok Ts cl own tf nf ty ldcs ini pc raw (.goto t, n, x1, x2)) (hs : xstep nf L xs lit mc (.goto t, n, x1, x2) pc ls st h = some (.inl (pc', ls', st', h'))) (K : XK p l e R s m args below meth c Q b base ta dA D cl n0 z0 pc' ls' st' h') : XK p l e R s m args below meth c Q b base ta dA D cl n0 z0 pc ls st h := by
  obtain ⟨hx, hb, hown, hts, hK, hA, hX, hbl, hbs, hini, hTx⟩ := F
  obtain ⟨hcl, ty0, ty1, ty2, ty3, ty5, tyR⟩ := G
  cases hs
  obtain ⟨rfl, rfl, ht⟩ := hok
  intro hn hz H locs rl h1 h2 h3 h4
  exact lv_goto hx hb hd (xjump ht) (K hn hz H locs rl h1 h2 h3 h4)
theorem xs_if {cd : ClassFile.Cond} {t : Int} (F : XF p s m args meth c b base dA D cl Ts ty L xs ta lit ldcs cc own ini) (G : XG Ts cl tf ty) (hd : decode cc pc = .ok (raw, n)) (hok : xok Ts cl own tf nf ty ldcs ini pc raw (.ifCond cd t, n, x1, x2)) (hs : xstep nf L xs lit mc (.ifCond cd t, n, x1, x2) pc ls st h = some (.inl (pc', ls', st', h'))) (K : XK p l e R s m args below meth c Q b base ta dA D cl n0 z0 pc' ls' st' h') : XK p l e R s m args below meth c Q b base ta dA D cl n0 z0 pc ls st h := by
  obtain ⟨hx, hb, hown, hts, hK, hA, hX, hbl, hbs, hini, hTx⟩ := F
  obtain ⟨hcl, ty0, ty1, ty2, ty3, ty5, tyR⟩ := G
  simp only [xstep] at hs
  split at hs
  · obtain ⟨rfl, rfl, ht⟩ := hok
    intro hn hz H locs rl h1 h2 h3 h4
    cases cd with
    | eq =>
      simp only [xcmp, decide_eq_true_eq] at hs
      refine lv_if_eq hx hb hd (xjump ht) (fun q => ?_) (fun q => ?_)
      · rw [if_pos q] at hs
        cases hs
        exact K hn hz H locs rl h1 h2 h3 h4
      · rw [if_neg q] at hs
        cases hs
        exact K hn hz H locs rl h1 h2 h3 h4
    | ne =>
      simp only [xcmp, decide_eq_true_eq] at hs
      refine lv_if_ne hx hb hd (xjump ht) (fun q => ?_) (fun q => ?_)
      · rw [if_pos q] at hs
        cases hs
        exact K hn hz H locs rl h1 h2 h3 h4
      · rw [if_neg (fun z => z q)] at hs
        cases hs
        exact K hn hz H locs rl h1 h2 h3 h4
    | lt =>
      simp only [xcmp, decide_eq_true_eq] at hs
      refine lv_if_lt hx hb hd (xjump ht) (fun q => ?_) (fun q => ?_)
      · rw [if_pos q] at hs
        cases hs
        exact K hn hz H locs rl h1 h2 h3 h4
      · rw [if_neg q] at hs
        cases hs
        exact K hn hz H locs rl h1 h2 h3 h4
    | ge =>
      simp only [xcmp, decide_eq_true_eq] at hs
      refine lv_if_ge hx hb hd (xjump ht) (fun q => ?_) (fun q => ?_)
      · rw [if_pos q] at hs
        cases hs
        exact K hn hz H locs rl h1 h2 h3 h4
      · rw [if_neg q] at hs
        cases hs
        exact K hn hz H locs rl h1 h2 h3 h4
    | gt =>
      simp only [xcmp, decide_eq_true_eq] at hs
      refine lv_if_gt hx hb hd (xjump ht) (fun q => ?_) (fun q => ?_)
      · rw [if_pos q] at hs
        cases hs
        exact K hn hz H locs rl h1 h2 h3 h4
      · rw [if_neg q] at hs
        cases hs
        exact K hn hz H locs rl h1 h2 h3 h4
    | le =>
      simp only [xcmp, decide_eq_true_eq] at hs
      refine lv_if_le hx hb hd (xjump ht) (fun q => ?_) (fun q => ?_)
      · rw [if_pos q] at hs
        cases hs
        exact K hn hz H locs rl h1 h2 h3 h4
      · rw [if_neg q] at hs
        cases hs
        exact K hn hz H locs rl h1 h2 h3 h4
  · cases hs
theorem xs_icmp {cd : ClassFile.Cond} {t : Int} (F : XF p s m args meth c b base dA D cl Ts ty L xs ta lit ldcs cc own ini) (G : XG Ts cl tf ty) (hd : decode cc pc = .ok (raw, n)) (hok : xok Ts cl own tf nf ty ldcs ini pc raw (.if_icmp cd t, n, x1, x2)) (hs : xstep nf L xs lit mc (.if_icmp cd t, n, x1, x2) pc ls st h = some (.inl (pc', ls', st', h'))) (K : XK p l e R s m args below meth c Q b base ta dA D cl n0 z0 pc' ls' st' h') : XK p l e R s m args below meth c Q b base ta dA D cl n0 z0 pc ls st h := by
  obtain ⟨hx, hb, hown, hts, hK, hA, hX, hbl, hbs, hini, hTx⟩ := F
  obtain ⟨hcl, ty0, ty1, ty2, ty3, ty5, tyR⟩ := G
  simp only [xstep] at hs
  split at hs
  · obtain ⟨rfl, rfl, ht⟩ := hok
    intro hn hz H locs rl h1 h2 h3 h4
    cases cd with
    | eq =>
      simp only [xcmp, decide_eq_true_eq] at hs
      refine lv_icmp_eq hx hb hd (xjump ht) (fun q => ?_) (fun q => ?_)
      · rw [if_pos q] at hs
        cases hs
        exact K hn hz H locs rl h1 h2 h3 h4
      · rw [if_neg q] at hs
        cases hs
        exact K hn hz H locs rl h1 h2 h3 h4
    | ne =>
      simp only [xcmp, decide_eq_true_eq] at hs
      refine lv_icmp_ne hx hb hd (xjump ht) (fun q => ?_) (fun q => ?_)
      · rw [if_pos q] at hs
        cases hs
        exact K hn hz H locs rl h1 h2 h3 h4
      · rw [if_neg (fun z => z q)] at hs
        cases hs
        exact K hn hz H locs rl h1 h2 h3 h4
    | lt =>
      simp only [xcmp, decide_eq_true_eq] at hs
      refine lv_icmp_lt hx hb hd (xjump ht) (fun q => ?_) (fun q => ?_)
      · rw [if_pos q] at hs
        cases hs
        exact K hn hz H locs rl h1 h2 h3 h4
      · rw [if_neg q] at hs
        cases hs
        exact K hn hz H locs rl h1 h2 h3 h4
    | ge =>
      simp only [xcmp, decide_eq_true_eq] at hs
      refine lv_icmp_ge hx hb hd (xjump ht) (fun q => ?_) (fun q => ?_)
      · rw [if_pos q] at hs
        cases hs
        exact K hn hz H locs rl h1 h2 h3 h4
      · rw [if_neg q] at hs
        cases hs
        exact K hn hz H locs rl h1 h2 h3 h4
    | gt =>
      simp only [xcmp, decide_eq_true_eq] at hs
      refine lv_icmp_gt hx hb hd (xjump ht) (fun q => ?_) (fun q => ?_)
      · rw [if_pos q] at hs
        cases hs
        exact K hn hz H locs rl h1 h2 h3 h4
      · rw [if_neg q] at hs
        cases hs
        exact K hn hz H locs rl h1 h2 h3 h4
    | le =>
      simp only [xcmp, decide_eq_true_eq] at hs
      refine lv_icmp_le hx hb hd (xjump ht) (fun q => ?_) (fun q => ?_)
      · rw [if_pos q] at hs
        cases hs
        exact K hn hz H locs rl h1 h2 h3 h4
      · rw [if_neg q] at hs
        cases hs
        exact K hn hz H locs rl h1 h2 h3 h4
  · cases hs
theorem xs_table {d lo hi : Int} {offs : Array Int} (F : XF p s m args meth c b base dA D cl Ts ty L xs ta lit ldcs cc own ini) (G : XG Ts cl tf ty) (hd : decode cc pc = .ok (raw, n)) (hok : xok Ts cl own tf nf ty ldcs ini pc raw (.tableswitch d lo hi offs, n, x1, x2)) (hs : xstep nf L xs lit mc (.tableswitch d lo hi offs, n, x1, x2) pc ls st h = some (.inl (pc', ls', st', h'))) (K : XK p l e R s m args below meth c Q b base ta dA D cl n0 z0 pc' ls' st' h') : XK p l e R s m args below meth c Q b base ta dA D cl n0 z0 pc ls st h := by
  obtain ⟨hx, hb, hown, hts, hK, hA, hX, hbl, hbs, hini, hTx⟩ := F
  obtain ⟨hcl, ty0, ty1, ty2, ty3, ty5, tyR⟩ := G
  simp only [xstep] at hs
  split at hs
  · obtain ⟨rfl, hd0, ho⟩ := hok
    intro hn hz H locs rl h1 h2 h3 h4
    split at hs
    · rename_i hr
      cases hs
      exact lv_tableOut hx hb hd hr (by omega) (K hn hz H locs rl h1 h2 h3 h4)
    · rename_i hr
      split at hs
      · rename_i q hq
        cases hs
        have hq0 := ho q (by have := Array.mem_of_getElem? hq; simpa using this)
        exact lv_tableIn hx hb hd (fun z => hr (Or.inl z)) (fun z => hr (Or.inr z)) hq (by omega) (K hn hz H locs rl h1 h2 h3 h4)
      · cases hs
  · cases hs
theorem xs_lookup {d : Int} {ps : Array (Int × Int)} (F : XF p s m args meth c b base dA D cl Ts ty L xs ta lit ldcs cc own ini) (G : XG Ts cl tf ty) (hd : decode cc pc = .ok (raw, n)) (hok : xok Ts cl own tf nf ty ldcs ini pc raw (.lookupswitch d ps, n, x1, x2)) (hs : xstep nf L xs lit mc (.lookupswitch d ps, n, x1, x2) pc ls st h = some (.inl (pc', ls', st', h'))) (K : XK p l e R s m args below meth c Q b base ta dA D cl n0 z0 pc' ls' st' h') : XK p l e R s m args below meth c Q b base ta dA D cl n0 z0 pc ls st h := by
  obtain ⟨hx, hb, hown, hts, hK, hA, hX, hbl, hbs, hini, hTx⟩ := F
  obtain ⟨hcl, ty0, ty1, ty2, ty3, ty5, tyR⟩ := G
  simp only [xstep] at hs
  split at hs
  · obtain ⟨rfl, hp, hd0, ho⟩ := hok
    rename_i x st0
    cases hs
    have key : ∀ (qs : List (Int × Int)), (∀ q ∈ qs, 0 ≤ (pc : Int) + q.2) → 0 ≤ (pc : Int) + Op.lookupswitch.offset qs d x.toInt := by
      intro qs
      induction qs with
      | nil => intro _; exact hd0
      | cons q qs ih =>
        intro hq
        obtain ⟨q1, q2⟩ := q
        rw [Op.lookupswitch.offset_cons]
        split
        · exact hq _ List.mem_cons_self
        · exact ih (fun r hr => hq r (List.mem_cons_of_mem _ hr))
    have k0 := key ps.toList ho
    intro hn hz H locs rl h1 h2 h3 h4
    exact lv_lookup hx hb hd hp rfl (by omega) (K hn hz H locs rl h1 h2 h3 h4)
  · cases hs
theorem xs_getf {k : Nat} (F : XF p s m args meth c b base dA D cl Ts ty L xs ta lit ldcs cc own ini) (G : XG Ts cl tf ty) (hd : decode cc pc = .ok (raw, n)) (hok : xok Ts cl own tf nf ty ldcs ini pc raw (.getfield k, n, x1, x2)) (hs : xstep nf L xs lit mc (.getfield k, n, x1, x2) pc ls st h = some (.inl (pc', ls', st', h'))) (K : XK p l e R s m args below meth c Q b base ta dA D cl n0 z0 pc' ls' st' h') : XK p l e R s m args below meth c Q b base ta dA D cl n0 z0 pc ls st h := by
  obtain ⟨hx, hb, hown, hts, hK, hA, hX, hbl, hbs, hini, hTx⟩ := F
  obtain ⟨hcl, ty0, ty1, ty2, ty3, ty5, tyR⟩ := G
  simp only [xstep] at hs
  split at hs
  · split at hs
    · rename_i a st0 _ c0 fs hc
      split at hs
      · rename_i hci
        split at hs
        · rename_i v hv
          cases hs
          subst hci
          obtain ⟨rfl, rfl, r, hr, hk, hw⟩ := hok
          have hr : cl[c0]? = some r := by simpa using hr
          intro hn hz H locs rl h1 h2 h3 h4
          exact va_get hx hb hts (hcl _ _ hr).1 hown hK h3 a (xws_get hc) hr k hk (hts _ hw) (fun _ q => q) (by rw [List.getElem?_map, hv]; rfl) hd (K hn hz H locs rl h1 h2 h3 h4)
        · cases hs
      · cases hs
    · cases hs
  · cases hs
theorem xs_iald (F : XF p s m args meth c b base dA D cl Ts ty L xs ta lit ldcs cc own ini) (G : XG Ts cl tf ty) (hd : decode cc pc = .ok (raw, n)) (hok : xok Ts cl own tf nf ty ldcs ini pc raw (.iaload, n, x1, x2)) (hs : xstep nf L xs lit mc (.iaload, n, x1, x2) pc ls st h = some (.inl (pc', ls', st', h'))) (K : XK p l e R s m args below meth c Q b base ta dA D cl n0 z0 pc' ls' st' h') : XK p l e R s m args below meth c Q b base ta dA D cl n0 z0 pc ls st h := by
  obtain ⟨hx, hb, hown, hts, hK, hA, hX, hbl, hbs, hini, hTx⟩ := F
  obtain ⟨hcl, ty0, ty1, ty2, ty3, ty5, tyR⟩ := G
  simp only [xstep] at hs
  obtain ⟨rfl, hraw⟩ := hok
  split at hs
  · split at hs
    · rename_i i a st0 _ t' n1 f hc
      split at hs
      · rename_i hci
        obtain ⟨rfl, hin⟩ := hci
        cases hs
        intro hn hz H locs rl h1 h2 h3 h4
        have K2 := K hn hz H locs rl h1 h2 h3 h4
        have hcell : H[base + a]? = some (arrV (dA t') n1 (fun j => .int (f j))) := h3 a _ (xws_get hc)
        have harr := (hA t').1 n1 (fun j => .int (f j))
        have hi1 : ¬ (i < 0 ∨ (arrV (dA t') n1 (fun j => .int (f j))).slots.size ≤ i.toNatClampNeg) := by rw [arrV_size]; exact xin_of hin
        have hv := arrV_read (dA t') (fun j => Value.int (f j)) (xin_lt hin)
        rcases hraw with ⟨rfl, rfl⟩ | ⟨rfl, rfl⟩ | ⟨rfl, rfl⟩ | ⟨rfl, rfl⟩
        · rw [ty0] at harr
          exact W.iald hx hb hcell harr (fun q => by cases q) hi1 hv rfl rfl hd K2
        · rw [ty3] at harr
          exact W.cald hx hb hcell harr (fun q => by cases q) hi1 hv rfl rfl hd K2
        · rw [ty1] at harr
          exact W.zald hx hb hcell harr (fun q => by cases q) hi1 hv rfl rfl hd K2
        · rw [ty2] at harr
          exact W.bald hx hb hcell harr (fun q => by cases q) hi1 hv rfl rfl hd K2
      · cases hs
    · cases hs
  · split at hs
    · rename_i hci
      obtain ⟨rfl, hin⟩ := hci
      cases hs
      intro hn hz H locs rl h1 h2 h3 h4
      have K2 := K hn hz H locs rl h1 h2 h3 h4
      rcases hraw with ⟨-, rfl⟩ | ⟨q, -⟩ | ⟨q, -⟩ | ⟨q, -⟩
      · exact va_sld hx hb hX (Nat.lt_of_lt_of_le hbl hbs) (Nat.not_le.mpr hbl) h4 (xin_of hin) hd K2
      · cases q
      · cases q
      · cases q
    · cases hs
  · cases hs
theorem xs_lald (F : XF p s m args meth c b base dA D cl Ts ty L xs ta lit ldcs cc own ini) (G : XG Ts cl tf ty) (hd : decode cc pc = .ok (raw, n)) (hok : xok Ts cl own tf nf ty ldcs ini pc raw (.laload, n, x1, x2)) (hs : xstep nf L xs lit mc (.laload, n, x1, x2) pc ls st h = some (.inl (pc', ls', st', h'))) (K : XK p l e R s m args below meth c Q b base ta dA D cl n0 z0 pc' ls' st' h') : XK p l e R s m args below meth c Q b base ta dA D cl n0 z0 pc ls st h := by
  obtain ⟨hx, hb, hown, hts, hK, hA, hX, hbl, hbs, hini, hTx⟩ := F
  obtain ⟨hcl, ty0, ty1, ty2, ty3, ty5, tyR⟩ := G
  simp only [xstep] at hs
  obtain ⟨rfl, rfl⟩ := hok
  split at hs
  · split at hs
    · rename_i i a st0 _ t' n1 f hc
      split at hs
      · rename_i hci
        obtain ⟨rfl, hin⟩ := hci
        cases hs
        intro hn hz H locs rl h1 h2 h3 h4
        have hcell : H[base + a]? = some (arrV (dA 5) n1 (fun j => .long (f j))) := h3 a _ (xws_get hc)
        have harr := (hA 5).1 n1 (fun j => .long (f j))
        rw [ty5] at harr
        exact W.lald hx hb hcell harr (fun q => by cases q) (by rw [arrV_size]; exact xin_of hin) (arrV_read (dA 5) (fun j => Value.long (f j)) (xin_lt hin)) rfl rfl hd (K hn hz H locs rl h1 h2 h3 h4)
      · cases hs
    · cases hs
  · cases hs
theorem xs_aald (F : XF p s m args meth c b base dA D cl Ts ty L xs ta lit ldcs cc own ini) (G : XG Ts cl tf ty) (hd : decode cc pc = .ok (raw, n)) (hok : xok Ts cl own tf nf ty ldcs ini pc raw (.aaload, n, x1, x2)) (hs : xstep nf L xs lit mc (.aaload, n, x1, x2) pc ls st h = some (.inl (pc', ls', st', h'))) (K : XK p l e R s m args below meth c Q b base ta dA D cl n0 z0 pc' ls' st' h') : XK p l e R s m args below meth c Q b base ta dA D cl n0 z0 pc ls st h := by
  obtain ⟨hx, hb, hown, hts, hK, hA, hX, hbl, hbs, hini, hTx⟩ := F
  obtain ⟨hcl, ty0, ty1, ty2, ty3, ty5, tyR⟩ := G
  simp only [xstep] at hs
  obtain ⟨rfl, rfl⟩ := hok
  split at hs
  · split at hs
    · rename_i i a st0 _ t' n1 f hc
      split at hs
      · rename_i hci
        obtain ⟨h6, h12, hin⟩ := hci
        cases hs
        intro hn hz H locs rl h1 h2 h3 h4
        have hcell : H[base + a]? = some (arrV (dA t') n1 (fun j => va_rf ((f j).map (base + ·)))) := h3 a _ (xws_get hc)
        have harr := (hA t').1 n1 (fun j => va_rf ((f j).map (base + ·)))
        have K2 := K hn hz H locs rl h1 h2 h3 h4
        have e : xv b base ta (va_rf (f i.toNatClampNeg)) = va_rf ((f i.toNatClampNeg).map (base + ·)) := by
          cases f i.toNatClampNeg <;> rfl
        rw [List.map_cons, e] at K2
        exact W.aald hx hb hcell harr (tyR _ h6 h12) (fun q => by cases q) (by rw [arrV_size]; exact xin_of hin) (arrV_read (dA t') (fun j => va_rf ((f j).map (base + ·))) (xin_lt hin)) rfl rfl hd K2
      · cases hs
    · cases hs
  · cases hs
theorem xs_alen (F : XF p s m args meth c b base dA D cl Ts ty L xs ta lit ldcs cc own ini) (G : XG Ts cl tf ty) (hd : decode cc pc = .ok (raw, n)) (hok : xok Ts cl own tf nf ty ldcs ini pc raw (.arraylength, n, x1, x2)) (hs : xstep nf L xs lit mc (.arraylength, n, x1, x2) pc ls st h = some (.inl (pc', ls', st', h'))) (K : XK p l e R s m args below meth c Q b base ta dA D cl n0 z0 pc' ls' st' h') : XK p l e R s m args below meth c Q b base ta dA D cl n0 z0 pc ls st h := by
  obtain ⟨hx, hb, hown, hts, hK, hA, hX, hbl, hbs, hini, hTx⟩ := F
  obtain ⟨hcl, ty0, ty1, ty2, ty3, ty5, tyR⟩ := G
  simp only [xstep] at hs
  obtain ⟨rfl, rfl⟩ := hok
  split at hs
  · split at hs
    · rename_i a st0 _ t' n1 f hc
      cases hs
      intro hn hz H locs rl h1 h2 h3 h4
      have K2 := K hn hz H locs rl h1 h2 h3 h4
      have h5 := h3 a _ (xws_get hc)
      obtain f | f | f | f | f := f
      · exact W.alen (n := Int32.ofNat n1) hx hb h5 ((hA t').1 n1 (fun j => .int (f j))) (by show (arrV _ _ _).slots.size.toInt32 = _; rw [arrV_size] <;> rfl) rfl rfl hd K2
      · exact W.alen (n := Int32.ofNat n1) hx hb h5 ((hA t').1 n1 (fun j => .long (f j))) (by show (arrV _ _ _).slots.size.toInt32 = _; rw [arrV_size] <;> rfl) rfl rfl hd K2
      · exact W.alen (n := Int32.ofNat n1) hx hb h5 ((hA t').1 n1 (fun j => .float (f j))) (by show (arrV _ _ _).slots.size.toInt32 = _; rw [arrV_size] <;> rfl) rfl rfl hd K2
      · exact W.alen (n := Int32.ofNat n1) hx hb h5 ((hA t').1 n1 (fun j => .double (f j))) (by show (arrV _ _ _).slots.size.toInt32 = _; rw [arrV_size] <;> rfl) rfl rfl hd K2
      · exact W.alen (n := Int32.ofNat n1) hx hb h5 ((hA t').1 n1 (fun j => va_rf ((f j).map (base + ·)))) (by show (arrV _ _ _).slots.size.toInt32 = _; rw [arrV_size] <;> rfl) rfl rfl hd K2
    · cases hs
  · cases hs
    intro hn hz H locs rl h1 h2 h3 h4
    exact va_slen hx hb hX (Nat.lt_of_lt_of_le hbl hbs) (Nat.not_le.mpr hbl) h4 hd (K hn hz H locs rl h1 h2 h3 h4)
  · split at hs
    · rename_i j st0 hj
      cases hs
      intro hn hz H locs rl h1 h2 h3 h4
      obtain ⟨i, rfl⟩ : ∃ i, j = 2 * i + 1 := ⟨j / 2, by omega⟩
      have hi : (2 * i + 1) / 2 = i := by omega
      rw [hi] at hj K
      obtain ⟨cell, t1, t2, t3, t4, t5, t6, t7⟩ := ((hTx.1.1 i hj.2).2.2.2).kept h4.2.1
      have e1 : (lit.map List.length).getD i 0 = (lit.getD i []).length := by
        rw [List.getD_eq_getElem?_getD, List.getD_eq_getElem?_getD, List.getElem?_map]
        cases lit[i]? <;> rfl
      rw [e1] at t5
      exact W.alen hx hb t1 t2 t5 rfl rfl hd (K hn hz H locs rl h1 h2 h3 h4)
    · cases hs
  · cases hs
theorem xs_ldc {i : Nat} (F : XF p s m args meth c b base dA D cl Ts ty L xs ta lit ldcs cc own ini) (G : XG Ts cl tf ty) (hd : decode cc pc = .ok (raw, n)) (hok : xok Ts cl own tf nf ty ldcs ini pc raw (.ldc i, n, x1, x2)) (hs : xstep nf L xs lit mc (.ldc i, n, x1, x2) pc ls st h = some (.inl (pc', ls', st', h'))) (K : XK p l e R s m args below meth c Q b base ta dA D cl n0 z0 pc' ls' st' h') : XK p l e R s m args below meth c Q b base ta dA D cl n0 z0 pc ls st h := by
  obtain ⟨hx, hb, hown, hts, hK, hA, hX, hbl, hbs, hini, hTx⟩ := F
  obtain ⟨hcl, ty0, ty1, ty2, ty3, ty5, tyR⟩ := G
  simp only [xstep] at hs
  obtain ⟨rfl, rfl, q, hq, q1, q2, q3⟩ := hok
  split at hs
  · cases hs
    intro hn hz H locs rl h1 h2 h3 h4
    have hZ := hTx.2.1 q hq
    rw [q1, q2, q3] at hZ
    exact va_ldcS hx hb hown hZ hd (K hn hz H locs rl h1 h2 h3 h4)
  · cases hs
theorem xs_gets {i : Nat} (F : XF p s m args meth c b base dA D cl Ts ty L xs ta lit ldcs cc own ini) (G : XG Ts cl tf ty) (hd : decode cc pc = .ok (raw, n)) (hok : xok Ts cl own tf nf ty ldcs ini pc raw (.getstatic i, n, x1, x2)) (hs : xstep nf L xs lit mc (.getstatic i, n, x1, x2) pc ls st h = some (.inl (pc', ls', st', h'))) (K : XK p l e R s m args below meth c Q b base ta dA D cl n0 z0 pc' ls' st' h') : XK p l e R s m args below meth c Q b base ta dA D cl n0 z0 pc ls st h := by
  obtain ⟨hx, hb, hown, hts, hK, hA, hX, hbl, hbs, hini, hTx⟩ := F
  obtain ⟨hcl, ty0, ty1, ty2, ty3, ty5, tyR⟩ := G
  simp only [xstep] at hs
  obtain ⟨rfl, rfl, hw⟩ := hok
  rcases hw with ⟨rfl, hw⟩ | ⟨rfl, hw⟩
  · rw [if_pos rfl] at hs
    cases hs
    intro hn hz H locs rl h1 h2 h3 h4
    exact va_gets hx hb hTx.2.2.1 h4 hown (hts _ hw) (fun _ q => q) hd (K hn hz H locs rl h1 h2 h3 h4)
  · rw [if_neg (by decide)] at hs
    cases hs
    intro hn hz H locs rl h1 h2 h3 h4
    exact va_gets hx hb hTx.2.2.2 h4 hown (hts _ hw) (fun _ q => q) hd (K hn hz H locs rl h1 h2 h3 h4)
theorem xs_tval (F : XF p s m args meth c b base dA D cl Ts ty L xs ta lit ldcs cc own ini) (G : XG Ts cl tf ty) (hd : decode cc pc = .ok (raw, n)) (hok : xok Ts cl own tf nf ty ldcs ini pc raw (.saload, n, x1, x2)) (hs : xstep nf L xs lit mc (.saload, n, x1, x2) pc ls st h = some (.inl (pc', ls', st', h'))) (K : XK p l e R s m args below meth c Q b base ta dA D cl n0 z0 pc' ls' st' h') : XK p l e R s m args below meth c Q b base ta dA D cl n0 z0 pc ls st h := by
  obtain ⟨hx, hb, hown, hts, hK, hA, hX, hbl, hbs, hini, hTx⟩ := F
  obtain ⟨hcl, ty0, ty1, ty2, ty3, ty5, tyR⟩ := G
  simp only [xstep] at hs
  obtain ⟨rfl, rfl, hw⟩ := hok
  split at hs
  · split at hs
    · rename_i j st0 hj
      cases hs
      intro hn hz H locs rl h1 h2 h3 h4
      obtain ⟨i, rfl⟩ : ∃ i, j = 2 * i := ⟨j / 2, by omega⟩
      have hi : 2 * i / 2 = i := by omega
      rw [hi] at hj
      exact vk_getf hx hb (hTx.1.1 i hj.2).2.2.1 h4 hown (hts _ hw) (fun _ q => q) hd (K hn hz H locs rl h1 h2 h3 h4)
    · cases hs
  · cases hs
theorem xs_tcod (F : XF p s m args meth c b base dA D cl Ts ty L xs ta lit ldcs cc own ini) (G : XG Ts cl tf ty) (hd : decode cc pc = .ok (raw, n)) (hok : xok Ts cl own tf nf ty ldcs ini pc raw (.sastore, n, x1, x2)) (hs : xstep nf L xs lit mc (.sastore, n, x1, x2) pc ls st h = some (.inl (pc', ls', st', h'))) (K : XK p l e R s m args below meth c Q b base ta dA D cl n0 z0 pc' ls' st' h') : XK p l e R s m args below meth c Q b base ta dA D cl n0 z0 pc ls st h := by
  obtain ⟨hx, hb, hown, hts, hK, hA, hX, hbl, hbs, hini, hTx⟩ := F
  obtain ⟨hcl, ty0, ty1, ty2, ty3, ty5, tyR⟩ := G
  simp only [xstep] at hs
  obtain ⟨rfl, rfl, hw⟩ := hok
  split at hs
  · split at hs
    · rename_i j st0 hj
      cases hs
      intro hn hz H locs rl h1 h2 h3 h4
      obtain ⟨i, rfl⟩ : ∃ i, j = 2 * i := ⟨j / 2, by omega⟩
      have hi : 2 * i / 2 = i := by omega
      rw [hi] at hj
      exact vk_getf hx hb (hTx.1.1 i hj.2).2.1 h4 hown (hts _ hw) (fun _ q => q) hd (K hn hz H locs rl h1 h2 h3 h4)
    · cases hs
  · cases hs
theorem xs_tbyt (F : XF p s m args meth c b base dA D cl Ts ty L xs ta lit ldcs cc own ini) (G : XG Ts cl tf ty) (hd : decode cc pc = .ok (raw, n)) (hok : xok Ts cl own tf nf ty ldcs ini pc raw (.baload, n, x1, x2)) (hs : xstep nf L xs lit mc (.baload, n, x1, x2) pc ls st h = some (.inl (pc', ls', st', h'))) (K : XK p l e R s m args below meth c Q b base ta dA D cl n0 z0 pc' ls' st' h') : XK p l e R s m args below meth c Q b base ta dA D cl n0 z0 pc ls st h := by
  obtain ⟨hx, hb, hown, hts, hK, hA, hX, hbl, hbs, hini, hTx⟩ := F
  obtain ⟨hcl, ty0, ty1, ty2, ty3, ty5, tyR⟩ := G
  simp only [xstep] at hs
  obtain ⟨rfl, rfl⟩ := hok
  split at hs
  · split at hs
    · rename_i i9 j st0 hj
      cases hs
      intro hn hz H locs rl h1 h2 h3 h4
      obtain ⟨i, rfl⟩ : ∃ i, j = 2 * i + 1 := ⟨j / 2, by omega⟩
      have hi : (2 * i + 1) / 2 = i := by omega
      rw [hi] at hj K
      obtain ⟨cell, t1, t2, t3, t4, t5, t6, t7⟩ := ((hTx.1.1 i hj.2.1).2.2.2).kept h4.2.1
      have e1 : (lit.map List.length).getD i 0 = (lit.getD i []).length := by
        rw [List.getD_eq_getElem?_getD, List.getD_eq_getElem?_getD, List.getElem?_map]
        cases lit[i]? <;> rfl
      rw [e1] at t4 t6
      have h9 := xin_lt hj.2.2
      have h8 := xin_of hj.2.2
      exact W.bald hx hb t1 t2 t3 (fun z => z.elim (fun q => h8 (Or.inl q)) (fun q => absurd (Nat.lt_of_lt_of_le h9 t4) (Nat.not_lt.mpr q))) (t6 _ h9) rfl rfl hd (K hn hz H locs rl h1 h2 h3 h4)
    · cases hs
  · cases hs
theorem xs_oinit {k : Nat} (hsz : ls.length = c.maxLocals) (hfr : 1 ≤ R.frames) (hlo : 120 ≤ R.locals) (F : XF p s m args meth c b base dA D cl Ts ty L xs ta lit ldcs cc own ini) (G : XG Ts cl tf ty) (hd : decode cc pc = .ok (raw, n)) (hok : xok Ts cl own tf nf ty ldcs ini pc raw (.invokespecial k, n, x1, x2)) (hs : xstep nf L xs lit mc (.invokespecial k, n, x1, x2) pc ls st h = some (.inl (pc', ls', st', h'))) (K : XK p l e R s m args below meth c Q b base ta dA D cl n0 z0 pc' ls' st' h') : XK p l e R s m args below meth c Q b base ta dA D cl n0 z0 pc ls st h := by
  obtain ⟨hx, hb, hown, hts, hK, hA, hX, hbl, hbs, hini, hTx⟩ := F
  obtain ⟨hcl, ty0, ty1, ty2, ty3, ty5, tyR⟩ := G
  simp only [xstep] at hs
  obtain ⟨rfl, rfl, hw1, hw2, hw3⟩ := hok
  split at hs
  · split at hs
    rename_i hw8
    cases hs
    intro hn hz H locs rl h1 h2 h3 h4
    refine W.objInit hx hb hown (hts _ hw1) (hts _ hw2) (hts _ hw3) rfl (by show rl.size = _; rw [h1.1, hsz]) rfl hd hfr ?_ (K hn hz H locs rl h1 h2 h3 h4)
    show 2 * 0 + _ + 12 ≤ R.locals
    have e9 : ((st'.map (xv b base ta)).map fun v => v.category).sum = xw st' := by
      unfold xw
      rw [List.map_map]
      congr 1
      apply List.map_congr_left
      intro v _
      exact xv_cat' b base ta v
    omega
    cases hs
  · cases hs
end XPLAIN

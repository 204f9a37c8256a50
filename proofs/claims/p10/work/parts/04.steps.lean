/-! ONE INSTRUCTION: what the pure machine does, the real one does -/
/-- the slots that a cell takes; that a heap's cells take -/
def xcz (c : xC) : Nat := match c with
  | .inl (_, n, _) => n
  | .inr (_, fs) => fs.length
def xsz (h : xH) : Nat := (h.map xcz).sum
theorem xsz_app (h : xH) (c : xC) : xsz (h ++ [c]) = xsz h + xcz c := by simp [xsz]
theorem xsz_set {h : xH} {k : Nat} {c c' : xC} (hk : h[k]? = some c) (e : xcz c' = xcz c) : xsz (h.set k c') = xsz h := by
  unfold xsz
  rw [List.map_set, e]
  congr 1
  apply List.ext_getElem?
  intro j
  rw [List.getElem?_set]
  by_cases hj : k = j
  · subst hj
    have hl : k < h.length := (List.getElem?_eq_some_iff.mp hk).1
    have hg : h[k] = c := (List.getElem?_eq_some_iff.mp hk).2
    simp [hl, hg]
  · simp [hj]
/-- the linked instruction o stands for the instruction raw at pc in a method of the class own: Ts: the tables' words; cl: the classes -/
def xok (Ts : List Cond) (cl : List vw_C) (own : String) (tf : Nat → Nat → Nat) (nf : Nat → List Value) (ty : Nat → FieldType) (ldcs : List (String × Nat × String × Nat)) (ini : Bool) (pc : Nat) (raw : Instr) (o : xI) : Prop := match o with
  | (.iconst v, n, _, _) => (raw = .iconst v ∧ n = 1) ∨ (raw = .bipush v ∧ n = 2 ∧ (Int8.ofInt v).toInt32 = Int32.ofInt v) ∨ (raw = .sipush v ∧ n = 3 ∧ (Int16.ofInt v).toInt32 = Int32.ofInt v)
  | (.goto_w v, n, k, _) => raw = .ldc2_w k ∧ n = 3 ∧ Cond.constantLong own k (Int64.ofInt v) ∈ Ts
  | (.ldc i, n, ix, _) => raw = .ldc ix ∧ n = 2 ∧ ∃ q ∈ ldcs, q.1 = own ∧ q.2.1 = ix ∧ q.2.2.2 = i
  | (.getstatic k, n, ix, _) => raw = .getstatic ix ∧ n = 3 ∧ ((k = 0 ∧ Cond.fieldLink own ix "java/lang/String" "COMPACT_STRINGS" "Z" ∈ Ts) ∨ (k = 1 ∧ Cond.fieldLink own ix "jdk/internal/util/Preconditions" "SIOOBE_FORMATTER" "Ljava/util/function/BiFunction;" ∈ Ts))
  | (.saload, n, ix, _) => raw = .getfield ix ∧ n = 3 ∧ Cond.fieldLink own ix "java/lang/String" "value" "[B" ∈ Ts
  | (.sastore, n, ix, _) => raw = .getfield ix ∧ n = 3 ∧ Cond.fieldLink own ix "java/lang/String" "coder" "B" ∈ Ts
  | (.iload i, n, _, _) => (raw = .iload i ∧ n = 2) ∨ (n = 1 ∧ ∃ k : Fin 4, raw = .iload_n k ∧ (k : Nat) = i)
  | (.lload i, n, _, _) => (raw = .lload i ∧ n = 2) ∨ (n = 1 ∧ ∃ k : Fin 4, raw = .lload_n k ∧ (k : Nat) = i)
  | (.aload i, n, _, _) => (raw = .aload i ∧ n = 2) ∨ (n = 1 ∧ ∃ k : Fin 4, raw = .aload_n k ∧ (k : Nat) = i)
  | (.istore i, n, _, _) => (raw = .istore i ∧ n = 2) ∨ (n = 1 ∧ ∃ k : Fin 4, raw = .istore_n k ∧ (k : Nat) = i)
  | (.astore i, n, _, _) => (raw = .astore i ∧ n = 2) ∨ (n = 1 ∧ ∃ k : Fin 4, raw = .astore_n k ∧ (k : Nat) = i)
  | (.iinc i k, n, _, _) => raw = .iinc i k ∧ n = 3
  | (.goto t, n, _, _) => raw = .goto (t - pc) ∧ n = 3 ∧ 0 ≤ t
  | (.ifCond cd t, n, _, _) => raw = .ifCond cd (t - pc) ∧ n = 3 ∧ 0 ≤ t
  | (.if_icmp cd t, n, _, _) => raw = .if_icmp cd (t - pc) ∧ n = 3 ∧ 0 ≤ t
  | (.tableswitch d lo hi offs, n, _, _) => raw = .tableswitch d lo hi offs ∧ 0 ≤ (pc : Int) + d ∧ ∀ q ∈ offs.toList, 0 ≤ (pc : Int) + q
  | (.lookupswitch d ps, n, _, _) => raw = .lookupswitch d ps ∧ (ps.toList.zip (ps.toList.drop 1)).all (fun (a, next) => a.1 < next.1) = true ∧ 0 ≤ (pc : Int) + d ∧ ∀ q ∈ ps.toList, 0 ≤ (pc : Int) + q.2
  | (.getfield k, n, ci, ix) => raw = .getfield ix ∧ n = 3 ∧ ∃ r ∈ (cl[ci]?).toList, k < r.2.2 ∧ Cond.fieldLink own ix (r.2.1 k).1 (r.2.1 k).2.1 (r.2.1 k).2.2.1 ∈ Ts
  | (.putfield k, n, ci, t) => n = 3 ∧ t = tf ci k ∧ ∃ ix ∈ (match raw with | .putfield ix => [ix] | _ => []), ∃ r ∈ (cl[ci]?).toList, k < r.2.2 ∧ Cond.fieldLink own ix (r.2.1 k).1 (r.2.1 k).2.1 (r.2.1 k).2.2.1 ∈ Ts ∧ ((r.2.1 k).2.2.2 = false ∨ ((r.2.1 k).2.2.2 = true ∧ ini = true ∧ (r.2.1 k).1 = own))
  | (.new ci, n, ix, _) => raw = .new ix ∧ n = 3 ∧ ∃ r ∈ (cl[ci]?).toList, Cond.classLink own ix r.1 ∈ Ts ∧ Cond.instantiable r.1 r.2.2 ∈ Ts ∧ Cond.initialized r.1 ∈ Ts ∧ (nf ci).length = r.2.2 ∧ (∀ j, j < r.2.2 → tf ci j ≠ 99) ∧ ∀ j, j < r.2.2 → (parseFieldDescriptor (r.2.1 j).2.2.1).map defaultValue = some ((nf ci).getD j .null)
  | (.newarray at_, n, t, _) => raw = .newarray at_ ∧ n = 2 ∧ t < 6 ∧ ty t = Op.newarray.typeOf at_ ∧ Cond.arrayClass (Op.newarray.typeOf at_) ∈ Ts
  | (.anewarray t, n, ix, _) => raw = .anewarray ix ∧ n = 3 ∧ (match ty t with | .object C => Cond.classLink own ix C ∈ Ts ∧ Cond.arrayOver (.object C) ∈ Ts | _ => False)
  | (.multianewarray t t', n, ix, _) => raw = .multianewarray ix 2 ∧ n = 4 ∧ t' = 0 ∧ ty t = .array .int ∧ Cond.classLink own ix ("[" ++ (FieldType.array .int).toString) ∈ Ts ∧ Cond.arrayOver (.array .int) ∈ Ts ∧ Cond.arrayClass .int ∈ Ts
  | (.iaload, n, t, _) => n = 1 ∧ ((t = 0 ∧ raw = .iaload) ∨ (t = 3 ∧ raw = .caload) ∨ (t = 1 ∧ raw = .baload) ∨ (t = 2 ∧ raw = .baload))
  | (.iastore, n, t, _) => n = 1 ∧ ((t = 0 ∧ raw = .iastore) ∨ (t = 3 ∧ raw = .castore) ∨ (t = 1 ∧ raw = .bastore) ∨ (t = 2 ∧ raw = .bastore))
  | (.aastore, n, t, ci) => raw = .aastore ∧ n = 1 ∧ (match cl[ci]? with | some r => ty t = .object r.1 | none => False)
  | (.invokespecial ix, n, _, _) => raw = .invokespecial ix ∧ n = 3 ∧ Cond.methodLink own ix Lib.objectInit ∈ Ts ∧ Cond.instanceMethod Lib.objectInit ∈ Ts ∧ Cond.code Lib.objectInit ⟨#[0xb1]⟩ 1 none ∈ Ts
  | (.invokeinterface _ _, n, _, _) => n = 3
  | (o, n, _, _) => raw = o ∧ n = 1
section XSTEPS
variable (p : Program) (l : Launch) (e : Env) (R : Room) (s : State) (m : MethodId) (args : Array Value) (below : List Frame) (meth : Method) (c : Code) (Q : State → Prop)
variable (b base : Nat) (ta : (Nat → Nat) × Option Nat) (dA : Nat → ClassId) (D : va_G) (cl : List vw_C) (n0 z0 : Nat)
/-- from here the real machine comes to Q; n0, z0: the cells and slots that were there at the method's entry -/
def XK (pc : Nat) (ls : xL) (st : List Value) (h : xH) : Prop := n0 ≤ h.length → z0 ≤ xsz h →
  ∀ (H : Heap) (locs : List Loc) (rl : Array Slot), xls b base ta ls rl → H.size = base + h.length → va_P D cl (xws b base ta dA h) H → va_S (fun q => base ≤ q) s.heap H locs →
    W p l e R s m args below meth c H locs (h.length - n0) (xsz h - z0) Q (F0 m pc rl (st.map (xv b base ta)))
end XSTEPS
section XROWS
variable {p : Program} {l : Launch} {e : Env} {R : Room} {s : State} {m : MethodId} {args : Array Value} {below : List Frame} {meth : Method} {c : Code} {Q : State → Prop}
variable {b base : Nat} {ta : (Nat → Nat) × Option Nat} {dA : Nat → ClassId} {D : va_G} {cl : List vw_C} {n0 z0 : Nat} {cc : ByteArray} {pc : Nat} {ls : xL} {st : List Value} {h : xH}
/-- where a jump goes -/
theorem xjump {pc : Nat} {t : Int} (h : 0 ≤ t) : (pc : Int) + (t - pc) = (t.toNat : Int) := by omega
/-- a store of one word into a local, whatever the instruction -/
theorem xs_store {p' : Nat} {i : Nat} {v : Value} {ls' : xL} (hs : xset ls i v = some ls') (K : XK p l e R s m args below meth c Q b base ta dA D cl n0 z0 p' ls' st h)
    (row : ∀ (H : Heap) (locs : List Loc) (cells slots : Nat) (rl : Array Slot), lv_has rl ls.length (xlp b base ta ls) → i < ls.length → (∀ ls1 : Array Slot, lv_has ls1 ls.length ((i, xv b base ta v) :: (xlp b base ta ls).filter (fun q => !(q.1 == i) && !(q.1 + 1 == i && q.2.category == 2))) → W p l e R s m args below meth c H locs cells slots Q (F0 m p' ls1 (st.map (xv b base ta)))) → W p l e R s m args below meth c H locs cells slots Q (F0 m pc rl (xv b base ta v :: st.map (xv b base ta)))) :
    XK p l e R s m args below meth c Q b base ta dA D cl n0 z0 pc ls (v :: st) h := fun hn hz H locs rl h1 h2 h3 h4 =>
  row H locs _ _ rl (xls_has h1) (xset_spec hs).1 (fun ls1 hl => K hn hz H locs ls1 (xls_put hs hl) h2 h3 h4)
end XROWS

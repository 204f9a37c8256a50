section
/-! THE PURE MACHINE: a small interpreter over the program's own bytecode, its instructions linked ahead ("normal" ones). Its heap is a list of cells; an address is a place in it. The real machine's heap holds the same cells from a base on. -/
/-- a cell: an array (code of its type, length, contents), or an object (number of its class, fields) -/
abbrev xC : Type := (Nat × vp_A) ⊕ (Nat × List Value)
abbrev xH : Type := List xC
abbrev xL : Type := List (Option Value)
/-- a linked instruction: the instruction with its operand linked, its length, two numbers more -/
abbrev xI : Type := Instr × Nat × Nat × Nat
/-- an end: returned, or threw an exception of that class number at that place -/
abbrev xO : Type := Option Value ⊕ (Nat × Nat)
/-- what a step does: it goes on; it ends; it calls (method, arguments, where it goes on, the operands below) -/
abbrev xG : Type := (Nat × xL × List Value × xH) ⊕ ((xO × xH) ⊕ (Nat × List Value × Nat × List Value))
def xgo (pc : Nat) (ls : xL) (st : List Value) (h : xH) : Option xG := some (.inl (pc, ls, st, h))
def xend (r : xO) (h : xH) : Option xG := some (.inr (.inl (r, h)))
/-- the value fits a place of the type with this code: 0 int, 1 boolean, 2 byte, 3 char, 4 short, 5 long, 6 a reference -/
def xfit (t : Nat) (v : Value) : Bool := match v with
  | .int x => t == 0 || (t == 1 && (x == 0 || x == 1)) || (t == 2 && (decide (narrow .byte (.int x) = .int x) && fits .byte (.int x))) || (t == 3 && (decide (narrow .char (.int x) = .int x) && fits .char (.int x)))
  | .long _ => t == 5
  | .null => t == 6
  | .ref _ => t == 6
  | _ => false
/-- is it a reference (the script, a text too; not null)? -/
def xref (v : Value) : Bool := match v with
  | .ref _ => true
  | .retAddr _ => true
  | _ => false
/-- a store into a local of one word -/
def xset (ls : xL) (i : Nat) (v : Value) : Option xL :=
  if i < ls.length then
    match (if i = 0 then none else ls[i - 1]?) with
    | some (some (.long _)) => none
    | some (some (.double _)) => none
    | _ => some (ls.set i (some v))
  else none
/-- the locals at a method's entry -/
def xfl (as : List Value) : xL := as.flatMap (fun v : Value => if v.category = 2 then [some v, none] else [some v])
def xent (as : List Value) (n : Nat) : xL := xfl as ++ List.replicate (n - (xfl as).length) none
def xcmp (c : ClassFile.Cond) (x y : Int32) : Bool := match c with
  | .eq => decide (x = y)
  | .ne => decide (¬ x = y)
  | .lt => decide (x < y)
  | .ge => decide (y ≤ x)
  | .gt => decide (y < x)
  | .le => decide (x ≤ y)
/-- is the index in the array? -/
def xin (i : Int32) (n : Nat) : Bool := decide (¬ (i < 0 ∨ n ≤ i.toNatClampNeg))
/-- the words that operands take -/
def xw (st : List Value) : Nat := (st.map fun v => v.category).sum
section XSTEP
variable (nf : Nat → List Value) (L : Nat) (xs : Nat → Int32) (lit : List (List Int32)) (mc : Nat → Option Nat)
/-- one instruction. nf: a new object's fields; L, xs: the script; lit: the texts, as bytes (the text i is .retAddr (2 * i + 1), its bytes .retAddr (2 * i + 2)); mc: the class whose object the method is called on, if it is not static -/
def xstep (o : xI) (pc : Nat) (ls : xL) (st : List Value) (h : xH) : Option xG := match o with
  | (.iconst v, n, _, _) => xgo (pc + n) ls (.int (Int32.ofInt v) :: st) h
  | (.goto_w v, n, _, _) => xgo (pc + n) ls (.long (Int64.ofInt v) :: st) h
  | (.ldc i, n, _, _) => if i < lit.length then xgo (pc + n) ls (.retAddr (2 * i + 1) :: st) h else none
  | (.getstatic k, n, _, _) => if k = 0 then xgo (pc + n) ls (.int 1 :: st) h else xgo (pc + n) ls (.float 0 :: st) h
  | (.saload, n, _, _) => match st with
    | .retAddr (j + 1) :: st => if j % 2 = 0 ∧ j / 2 < lit.length then xgo (pc + n) ls (.retAddr (j + 2) :: st) h else none
    | _ => none
  | (.sastore, n, _, _) => match st with
    | .retAddr (j + 1) :: st => if j % 2 = 0 ∧ j / 2 < lit.length then xgo (pc + n) ls (.int 0 :: st) h else none
    | _ => none
  | (.baload, n, _, _) => match st with
    | .int i :: .retAddr (j + 1) :: st => if j % 2 = 1 ∧ j / 2 < lit.length ∧ xin i (lit.getD (j / 2) []).length = true then xgo (pc + n) ls (.int ((lit.getD (j / 2) []).getD i.toNatClampNeg 0) :: st) h else none
    | _ => none
  | (.iload i, n, _, _) => match ls[i]? with
    | some (some (.int x)) => xgo (pc + n) ls (.int x :: st) h
    | _ => none
  | (.lload i, n, _, _) => match ls[i]? with
    | some (some (.long x)) => xgo (pc + n) ls (.long x :: st) h
    | _ => none
  | (.aload i, n, _, _) => match ls[i]? with
    | some (some v) => if xref v = true then xgo (pc + n) ls (v :: st) h else none
    | _ => none
  | (.istore i, n, _, _) => match st with
    | .int x :: st => match xset ls i (.int x) with
      | some ls' => xgo (pc + n) ls' st h
      | none => none
    | _ => none
  | (.astore i, n, _, _) => match st with
    | v :: st => if xref v = true then (match xset ls i v with
      | some ls' => xgo (pc + n) ls' st h
      | none => none) else none
    | _ => none
  | (.iinc i k, n, _, _) => match ls[i]? with
    | some (some (.int x)) => match xset ls i (.int (x + Int32.ofInt k)) with
      | some ls' => xgo (pc + n) ls' st h
      | none => none
    | _ => none
  | (.iadd, n, _, _) => match st with
    | .int y :: .int x :: st => xgo (pc + n) ls (.int (x + y) :: st) h
    | _ => none
  | (.isub, n, _, _) => match st with
    | .int y :: .int x :: st => xgo (pc + n) ls (.int (x - y) :: st) h
    | _ => none
  | (.imul, n, _, _) => match st with
    | .int y :: .int x :: st => xgo (pc + n) ls (.int (x * y) :: st) h
    | _ => none
  | (.idiv, n, _, _) => match st with
    | .int y :: .int x :: st => if y = 0 then none else xgo (pc + n) ls (.int (x / y) :: st) h
    | _ => none
  | (.irem, n, _, _) => match st with
    | .int y :: .int x :: st => if y = 0 then none else xgo (pc + n) ls (.int (x - x / y * y) :: st) h
    | _ => none
  | (.iand, n, _, _) => match st with
    | .int y :: .int x :: st => xgo (pc + n) ls (.int (x &&& y) :: st) h
    | _ => none
  | (.ior, n, _, _) => match st with
    | .int y :: .int x :: st => xgo (pc + n) ls (.int (x ||| y) :: st) h
    | _ => none
  | (.ishl, n, _, _) => match st with
    | .int y :: .int x :: st => xgo (pc + n) ls (.int (x <<< (y &&& 31)) :: st) h
    | _ => none
  | (.ishr, n, _, _) => match st with
    | .int y :: .int x :: st => xgo (pc + n) ls (.int (x >>> (y &&& 31)) :: st) h
    | _ => none
  | (.ineg, n, _, _) => match st with
    | .int x :: st => xgo (pc + n) ls (.int (-x) :: st) h
    | _ => none
  | (.land, n, _, _) => match st with
    | .long y :: .long x :: st => xgo (pc + n) ls (.long (x &&& y) :: st) h
    | _ => none
  | (.lor, n, _, _) => match st with
    | .long y :: .long x :: st => xgo (pc + n) ls (.long (x ||| y) :: st) h
    | _ => none
  | (.lushr, n, _, _) => match st with
    | .int y :: .long x :: st => xgo (pc + n) ls (.long (x.toUInt64 >>> (y.toInt64.toUInt64 &&& Int64.toUInt64 63)).toInt64 :: st) h
    | _ => none
  | (.lshl, n, _, _) => match st with
    | .int y :: .long x :: st => xgo (pc + n) ls (.long (x <<< (y.toInt64 &&& 63)) :: st) h
    | _ => none
  | (.lshr, n, _, _) => match st with
    | .int y :: .long x :: st => xgo (pc + n) ls (.long (x >>> (y.toInt64 &&& 63)) :: st) h
    | _ => none
  | (.lcmp, n, _, _) => match st with
    | .long y :: .long x :: st => xgo (pc + n) ls (.int (lg_cmp x y) :: st) h
    | _ => none
  | (.i2l, n, _, _) => match st with
    | .int x :: st => xgo (pc + n) ls (.long x.toInt64 :: st) h
    | _ => none
  | (.l2i, n, _, _) => match st with
    | .long x :: st => xgo (pc + n) ls (.int x.toInt32 :: st) h
    | _ => none
  | (.i2c, n, _, _) => match st with
    | .int x :: st => xgo (pc + n) ls (.int (x.toUInt32 % 65536).toInt32 :: st) h
    | _ => none
  | (.dup, n, _, _) => match st with
    | v :: st => if v.category = 1 then xgo (pc + n) ls (v :: v :: st) h else none
    | _ => none
  | (.dup_x1, n, _, _) => match st with
    | v :: w :: st => if v.category = 1 ∧ w.category = 1 then xgo (pc + n) ls (v :: w :: v :: st) h else none
    | _ => none
  | (.dup2, n, _, _) => match st with
    | v :: w :: st => if v.category = 1 ∧ w.category = 1 then xgo (pc + n) ls (v :: w :: v :: w :: st) h else none
    | _ => none
  | (.pop, n, _, _) => match st with
    | v :: st => if v.category = 1 then xgo (pc + n) ls st h else none
    | _ => none
  | (.goto t, _, _, _) => xgo t.toNat ls st h
  | (.ifCond c t, n, _, _) => match st with
    | .int x :: st => if xcmp c x 0 = true then xgo t.toNat ls st h else xgo (pc + n) ls st h
    | _ => none
  | (.if_icmp c t, n, _, _) => match st with
    | .int y :: .int x :: st => if xcmp c x y = true then xgo t.toNat ls st h else xgo (pc + n) ls st h
    | _ => none
  | (.tableswitch d lo hi offs, _, _, _) => match st with
    | .int x :: st => if x.toInt < lo ∨ hi < x.toInt then xgo ((pc : Int) + d).toNat ls st h else (match offs[(x.toInt - lo).toNat]? with
      | some o => xgo ((pc : Int) + o).toNat ls st h
      | none => none)
    | _ => none
  | (.lookupswitch d ps, _, _, _) => match st with
    | .int x :: st => xgo ((pc : Int) + Op.lookupswitch.offset ps.toList d x.toInt).toNat ls st h
    | _ => none
  | (.getfield k, n, ci, _) => match st with
    | .ref a :: st => match h[a]? with
      | some (.inr (c, fs)) => if c = ci then (match fs[k]? with
        | some v => xgo (pc + n) ls (v :: st) h
        | none => none) else none
      | _ => none
    | _ => none
  | (.putfield k, n, ci, t) => match st with
    | v :: .ref a :: st => match h[a]? with
      | some (.inr (c, fs)) => if c = ci ∧ k < fs.length ∧ xfit t v = true then xgo (pc + n) ls st (h.set a (.inr (c, fs.set k v))) else none
      | _ => none
    | _ => none
  | (.iaload, n, t, _) => match st with
    | .int i :: .ref a :: st => match h[a]? with
      | some (.inl (t', m, .inl f)) => if t' = t ∧ xin i m = true then xgo (pc + n) ls (.int (f i.toNatClampNeg) :: st) h else none
      | _ => none
    | .int i :: .retAddr 0 :: st => if t = 0 ∧ xin i L = true then xgo (pc + n) ls (.int (xs i.toNatClampNeg) :: st) h else none
    | _ => none
  | (.iastore, n, t, _) => match st with
    | .int x :: .int i :: .ref a :: st => match h[a]? with
      | some (.inl (t', m, .inl f)) => if t' = t ∧ xin i m = true then xgo (pc + n) ls st (h.set a (.inl (t', m, .inl (upd f i.toNatClampNeg (if t = 3 then vp_nar .char x else if t = 1 then vp_nar .boolean x else if t = 2 then vp_nar .byte x else x))))) else none
      | _ => none
    | _ => none
  | (.laload, n, _, _) => match st with
    | .int i :: .ref a :: st => match h[a]? with
      | some (.inl (t', m, .inr (.inl f))) => if t' = 5 ∧ xin i m = true then xgo (pc + n) ls (.long (f i.toNatClampNeg) :: st) h else none
      | _ => none
    | _ => none
  | (.lastore, n, _, _) => match st with
    | .long x :: .int i :: .ref a :: st => match h[a]? with
      | some (.inl (t', m, .inr (.inl f))) => if t' = 5 ∧ xin i m = true then xgo (pc + n) ls st (h.set a (.inl (t', m, .inr (.inl (vp_updL f i.toNatClampNeg x))))) else none
      | _ => none
    | _ => none
  | (.aaload, n, _, _) => match st with
    | .int i :: .ref a :: st => match h[a]? with
      | some (.inl (t', m, .inr (.inr (.inr (.inr f))))) => if 6 ≤ t' ∧ t' < 12 ∧ xin i m = true then xgo (pc + n) ls (va_rf (f i.toNatClampNeg) :: st) h else none
      | _ => none
    | _ => none
  | (.aastore, n, t, ci) => match st with
    | .ref v :: .int i :: .ref a :: st => match h[a]?, h[v]? with
      | some (.inl (t', m, .inr (.inr (.inr (.inr f))))), some (.inr (c, _)) => if t' = t ∧ 6 ≤ t ∧ t < 12 ∧ c = ci ∧ xin i m = true then xgo (pc + n) ls st (h.set a (.inl (t', m, .inr (.inr (.inr (.inr (va_up f i.toNatClampNeg (some v)))))))) else none
      | _, _ => none
    | _ => none
  | (.arraylength, n, _, _) => match st with
    | .ref a :: st => match h[a]? with
      | some (.inl (_, m, _)) => xgo (pc + n) ls (.int (Int32.ofNat m) :: st) h
      | _ => none
    | .retAddr 0 :: st => xgo (pc + n) ls (.int (Int32.ofNat L) :: st) h
    | .retAddr (j + 1) :: st => if j % 2 = 1 ∧ j / 2 < lit.length then xgo (pc + n) ls (.int (Int32.ofNat (lit.getD (j / 2) []).length) :: st) h else none
    | _ => none
  | (.new ci, n, _, _) => xgo (pc + n) ls (.ref h.length :: st) (h ++ [.inr (ci, nf ci)])
  | (.newarray _, n, t, _) => match st with
    | .int k :: st => if k < 0 ∨ 100000 < k.toNatClampNeg then none else
      if t = 5 then xgo (pc + n) ls (.ref h.length :: st) (h ++ [.inl (t, k.toNatClampNeg, .inr (.inl (fun _ => 0)))])
      else if t < 4 then xgo (pc + n) ls (.ref h.length :: st) (h ++ [.inl (t, k.toNatClampNeg, .inl (fun _ => 0))]) else none
    | _ => none
  | (.anewarray t, n, _, _) => match st with
    | .int k :: st => if k < 0 ∨ 100000 < k.toNatClampNeg then none else xgo (pc + n) ls (.ref h.length :: st) (h ++ [.inl (t, k.toNatClampNeg, .inr (.inr (.inr (.inr (fun _ => none)))))])
    | _ => none
  | (.multianewarray t t', n, _, _) => match st with
    | .int k' :: .int k :: st => if k < 0 ∨ 1000 < k.toNatClampNeg ∨ k' < 0 ∨ 1000 < k'.toNatClampNeg then none else
      xgo (pc + n) ls (.ref h.length :: st) (h ++ (.inl (t, k.toNatClampNeg, .inr (.inr (.inr (.inr (fun i => if i < k.toNatClampNeg then some (h.length + 1 + i) else none))))) :: List.replicate k.toNatClampNeg (.inl (t', k'.toNatClampNeg, .inl (fun _ => 0)))))
    | _ => none
  | (.invokespecial _, n, _, _) => match st with
    | .ref _ :: st => if xw st ≤ 8 then xgo (pc + n) ls st h else none
    | _ => none
  | (.invokeinterface j _, n, k, _) => if k ≤ st.length ∧ xw (st.drop k) ≤ 8 then (match mc j with
      | none => some (.inr (.inr (j, (st.take k).reverse, pc + n, st.drop k)))
      | some ci => match (st.take k).reverse with
        | .ref a :: as => match h[a]? with
          | some (.inr (c, _)) => if c = ci then some (.inr (.inr (j, .ref a :: as, pc + n, st.drop k))) else none
          | _ => none
        | .retAddr (q + 1) :: as => if ci = 1000 ∧ q % 2 = 0 ∧ q / 2 < lit.length then some (.inr (.inr (j, .retAddr (q + 1) :: as, pc + n, st.drop k))) else none
        | _ => none) else none
  | (.athrow, _, e, _) => if xw st ≤ 8 then xend (.inr (e, h.length)) (h ++ [.inr (e, List.replicate 6 .null)]) else none
  | (.ireturn, _, t, _) => match st with
    | [.int x] => if xfit t (.int x) = true then xend (.inl (some (.int x))) h else none
    | _ => none
  | (.areturn, _, _, _) => match st with
    | [v] => if xref v = true then xend (.inl (some v)) h else none
    | _ => none
  | (.return_, _, _, _) => match st with
    | [] => xend (.inl none) h
    | _ => none
  | _ => none
end XSTEP
/-- a run: P the linked code; mx the locals of a method; hd where a method goes on when a call at that place throws an exception of that class (some none: no handler covers the place); d frames may be laid more -/
def xrun (stp : xI → Nat → xL → List Value → xH → Option xG) (P : Nat → Nat → Option xI) (mx : Nat → Nat) (hd : Nat → Nat → Nat → Option (Option Nat)) : Nat → Nat → Nat → Nat → xL → List Value → xH → Option (xO × xH)
  | 0, _, _, _, _, _, _ => none
  | n + 1, d, i, pc, ls, st, h => match P i pc with
    | none => none
    | some o => match stp o pc ls st h with
      | none => none
      | some (.inl (pc', ls', st', h')) => xrun stp P mx hd n d i pc' ls' st' h'
      | some (.inr (.inl r)) => some r
      | some (.inr (.inr (j, as, pc', st'))) => match d with
        | 0 => none
        | d + 1 => if (xent as (mx j)).length = mx j then (match xrun stp P mx hd n d j 0 (xent as (mx j)) [] h with
          | none => none
          | some (.inl v, h') => xrun stp P mx hd n (d + 1) i pc' ls (v.toList ++ st') h'
          | some (.inr (k, a), h') => match hd i pc k with
            | some (some q) => xrun stp P mx hd n (d + 1) i q ls [.ref a] h'
            | some none => some (.inr (k, a), h')
            | none => none) else none
end
section
/-! THE REAL MACHINE'S HEAP AND THE PURE MACHINE'S: the cell k lies at base + k -/
/-- a pure value in the real machine: b: the script; ta: the texts, and one reference or null that is only handed on -/
def xv (b base : Nat) (ta : (Nat → Nat) × Option Nat) (v : Value) : Value := match v with
  | .ref k => .ref (base + k)
  | .retAddr 0 => .ref b
  | .retAddr (k + 1) => .ref (ta.1 k)
  | .float _ => va_rf ta.2
  | v => v
theorem xv_cat1 (b base : Nat) (ta : (Nat → Nat) × Option Nat) {v : Value} (h : v.category = 1) : (xv b base ta v).category = 1 := by
  cases v with
  | retAddr k => cases k <;> rfl
  | float x => show (va_rf ta.2).category = 1; cases ta.2 <;> rfl
  | long x => cases h
  | double x => cases h
  | _ => rfl
theorem xv_cat' (b base : Nat) (ta : (Nat → Nat) × Option Nat) (v : Value) : (xv b base ta v).category = v.category := by
  cases v with
  | retAddr k => cases k <;> rfl
  | float x => show (va_rf ta.2).category = 1; cases ta.2 <;> rfl
  | _ => rfl
theorem xv_ref {b base : Nat} {ta : (Nat → Nat) × Option Nat} {v : Value} (h : xref v = true) : ∃ a, xv b base ta v = .ref a := by
  cases v with
  | ref k => exact ⟨_, rfl⟩
  | retAddr k => cases k <;> exact ⟨_, rfl⟩
  | _ => cases h
/-- a pure cell in the real machine: dA: the class of arrays of a type's code -/
def xtr (b base : Nat) (ta : (Nat → Nat) × Option Nat) (dA : Nat → ClassId) (c : xC) : va_E := match c with
  | .inl (t, n, .inr (.inr (.inr (.inr f)))) => .inl (dA t, n, .inr (.inr (.inr (.inr (fun i => (f i).map (base + ·))))))
  | .inl (t, n, f) => .inl (dA t, n, f)
  | .inr (ci, fs) => .inr (ci, fs.map (xv b base ta))
def xws (b base : Nat) (ta : (Nat → Nat) × Option Nat) (dA : Nat → ClassId) (h : xH) : va_W := h.mapIdx (fun k c => (base + k, xtr b base ta dA c))
section XW
variable {b base : Nat} {ta : (Nat → Nat) × Option Nat} {dA : Nat → ClassId}
theorem xws_len (h : xH) : (xws b base ta dA h).length = h.length := by simp [xws]
theorem xws_at (h : xH) (k : Nat) : (xws b base ta dA h)[k]? = (h[k]?).map (fun c => (base + k, xtr b base ta dA c)) := by simp [xws]
theorem xws_get {h : xH} {k : Nat} {c : xC} (hk : h[k]? = some c) : (xws b base ta dA h)[k]? = some (base + k, xtr b base ta dA c) := by rw [xws_at, hk]; rfl
theorem xws_inv {h : xH} {k : Nat} {q : Nat × va_E} (hk : (xws b base ta dA h)[k]? = some q) : ∃ c, h[k]? = some c ∧ q = (base + k, xtr b base ta dA c) := by
  rw [xws_at] at hk
  cases hc : h[k]? with
  | none => rw [hc] at hk; cases hk
  | some c => rw [hc] at hk; exact ⟨c, rfl, (Option.some.inj hk).symm⟩
theorem xws_set (h : xH) (k : Nat) (c : xC) : xws b base ta dA (h.set k c) = (xws b base ta dA h).set k (base + k, xtr b base ta dA c) := by
  apply List.ext_getElem?
  intro j
  rw [xws_at, List.getElem?_set, List.getElem?_set, xws_len, xws_at]
  by_cases hj : k = j
  · subst hj
    by_cases hl : k < h.length <;> simp [hl]
  · simp [hj]
theorem xws_app (h : xH) (c : xC) : xws b base ta dA (h ++ [c]) = xws b base ta dA h ++ [(base + h.length, xtr b base ta dA c)] := by
  simp [xws, List.mapIdx_append]
theorem xws_D (h : xH) : va_D (fun q => base ≤ q) (xws b base ta dA h) := by
  refine ⟨fun i j p q hi hj e => ?_, fun k q hk => ?_⟩
  · obtain ⟨_, -, rfl⟩ := xws_inv hi
    obtain ⟨_, -, rfl⟩ := xws_inv hj
    have : base + i = base + j := e
    omega
  · obtain ⟨_, -, rfl⟩ := xws_inv hk
    exact Nat.le_add_right _ _
end XW
/-- the locals -/
def xls (b base : Nat) (ta : (Nat → Nat) × Option Nat) (ls : xL) (rl : Array Slot) : Prop := rl.size = ls.length ∧ lv_wf rl ∧ ∀ (i : Nat) (v : Value), ls[i]? = some (some v) → rl[i]? = some (.val (xv b base ta v))
/-- the listed pairs of the locals -/
def xlp (b base : Nat) (ta : (Nat → Nat) × Option Nat) (ls : xL) : List (Nat × Value) := (List.range ls.length).filterMap (fun i => match ls[i]? with
  | some (some v) => some (i, xv b base ta v)
  | _ => none)
theorem xlp_mem {b base : Nat} {ta : (Nat → Nat) × Option Nat} {ls : xL} {q : Nat × Value} : q ∈ xlp b base ta ls ↔ ∃ v, ls[q.1]? = some (some v) ∧ q.2 = xv b base ta v := by
  unfold xlp
  rw [List.mem_filterMap]
  constructor
  · rintro ⟨i, -, h⟩
    split at h
    · rename_i v hv
      cases h
      exact ⟨v, hv, rfl⟩
    · cases h
  · rintro ⟨v, hv, h⟩
    refine ⟨q.1, List.mem_range.mpr (List.getElem?_eq_some_iff.mp hv).1, ?_⟩
    rw [hv]
    show some (q.1, xv b base ta v) = some q
    rw [← h]
theorem xls_has {b base : Nat} {ta : (Nat → Nat) × Option Nat} {ls : xL} {rl : Array Slot} (h : xls b base ta ls rl) : lv_has rl ls.length (xlp b base ta ls) :=
  ⟨h.1, h.2.1, fun q hq => by
    obtain ⟨v, h1, h2⟩ := xlp_mem.mp hq
    rw [h2]
    exact h.2.2 _ _ h1⟩
theorem xset_spec {ls ls' : xL} {i : Nat} {v : Value} (h : xset ls i v = some ls') : i < ls.length ∧ ls' = ls.set i (some v) ∧ ∀ (j : Nat) (w : Value), j + 1 = i → ls[j]? = some (some w) → ¬ w.category = 2 := by
  unfold xset at h
  by_cases hi : i < ls.length
  · rw [if_pos hi] at h
    split at h
    · cases h
    · cases h
    · rename_i h1 h2
      cases h
      refine ⟨hi, rfl, fun j w hj hw => ?_⟩
      subst hj
      have e : (if j + 1 = 0 then none else ls[j + 1 - 1]?) = some (some w) := by
        rw [if_neg (Nat.succ_ne_zero j), Nat.add_sub_cancel]; exact hw
      cases w with
      | long x => exact absurd e (h1 x)
      | double x => exact absurd e (h2 x)
      | _ => intro q; cases q
  · rw [if_neg hi] at h
    cases h
/-- behind a store of one word -/
theorem xls_put {b base : Nat} {ta : (Nat → Nat) × Option Nat} {ls ls' : xL} {i : Nat} {v : Value} {rl : Array Slot} (hs : xset ls i v = some ls') (h : lv_has rl ls.length ((i, xv b base ta v) :: (xlp b base ta ls).filter (fun q => !(q.1 == i) && !(q.1 + 1 == i && q.2.category == 2)))) : xls b base ta ls' rl := by
  obtain ⟨hi, rfl, hj⟩ := xset_spec hs
  refine ⟨by rw [h.1, List.length_set], h.2.1, fun k w hk => ?_⟩
  rw [List.getElem?_set] at hk
  by_cases e : i = k
  · subst e
    rw [if_pos rfl, if_pos hi] at hk
    cases hk
    exact h.2.2 (i, xv b base ta v) List.mem_cons_self
  · rw [if_neg e] at hk
    refine h.2.2 (k, xv b base ta w) (List.mem_cons_of_mem _ (List.mem_filter.mpr ⟨xlp_mem.mpr ⟨w, hk, rfl⟩, ?_⟩))
    have e1 : (k == i) = false := by simp; exact fun q => e q.symm
    have e2 : (k + 1 == i && (xv b base ta w).category == 2) = false := by
      by_cases q : k + 1 = i
      · have := hj k w q hk
        rw [xv_cat']
        simp [this]
      · simp [q]
    simp only [e1, e2, Bool.not_false, Bool.and_self]
end
section
/-! ONE INSTRUCTION: what the pure machine does, the real one does -/
/-- the slots that a cell takes; that a heap's cells take -/
def xcz (c : xC) : Nat := match c with
  | .inl (_, n, _) => n
  | .inr (_, fs) => fs.length
def xsz (h : xH) : Nat := (h.map xcz).sum
theorem xsz_app (h : xH) (c : xC) : xsz (h ++ [c]) = xsz h + xcz c := by simp [xsz]
theorem xsz_set {h : xH} {k : Nat} {c c' : xC} (hk : h[k]? = some c) (e : xcz c' = xcz c) : xsz (h.set k c') = xsz h := by
  unfold xsz
  rw [List.map_set, e]
  congr 1
  apply List.ext_getElem?
  intro j
  rw [List.getElem?_set]
  by_cases hj : k = j
  · subst hj
    have hl : k < h.length := (List.getElem?_eq_some_iff.mp hk).1
    have hg : h[k] = c := (List.getElem?_eq_some_iff.mp hk).2
    simp [hl, hg]
  · simp [hj]
/-- the linked instruction o stands for the instruction raw at pc in a method of the class own: Ts: the tables' words; cl: the classes -/
def xok (Ts : List Cond) (cl : List vw_C) (own : String) (tf : Nat → Nat → Nat) (nf : Nat → List Value) (ty : Nat → FieldType) (ldcs : List (String × Nat × String × Nat)) (ini : Bool) (pc : Nat) (raw : Instr) (o : xI) : Prop := match o with
  | (.iconst v, n, _, _) => (raw = .iconst v ∧ n = 1) ∨ (raw = .bipush v ∧ n = 2 ∧ (Int8.ofInt v).toInt32 = Int32.ofInt v) ∨ (raw = .sipush v ∧ n = 3 ∧ (Int16.ofInt v).toInt32 = Int32.ofInt v)
  | (.goto_w v, n, k, _) => raw = .ldc2_w k ∧ n = 3 ∧ Cond.constantLong own k (Int64.ofInt v) ∈ Ts
  | (.ldc i, n, ix, _) => raw = .ldc ix ∧ n = 2 ∧ ∃ q ∈ ldcs, q.1 = own ∧ q.2.1 = ix ∧ q.2.2.2 = i
  | (.getstatic k, n, ix, _) => raw = .getstatic ix ∧ n = 3 ∧ ((k = 0 ∧ Cond.fieldLink own ix "java/lang/String" "COMPACT_STRINGS" "Z" ∈ Ts) ∨ (k = 1 ∧ Cond.fieldLink own ix "jdk/internal/util/Preconditions" "SIOOBE_FORMATTER" "Ljava/util/function/BiFunction;" ∈ Ts))
  | (.saload, n, ix, _) => raw = .getfield ix ∧ n = 3 ∧ Cond.fieldLink own ix "java/lang/String" "value" "[B" ∈ Ts
  | (.sastore, n, ix, _) => raw = .getfield ix ∧ n = 3 ∧ Cond.fieldLink own ix "java/lang/String" "coder" "B" ∈ Ts
  | (.iload i, n, _, _) => (raw = .iload i ∧ n = 2) ∨ (n = 1 ∧ ∃ k : Fin 4, raw = .iload_n k ∧ (k : Nat) = i)
  | (.lload i, n, _, _) => (raw = .lload i ∧ n = 2) ∨ (n = 1 ∧ ∃ k : Fin 4, raw = .lload_n k ∧ (k : Nat) = i)
  | (.aload i, n, _, _) => (raw = .aload i ∧ n = 2) ∨ (n = 1 ∧ ∃ k : Fin 4, raw = .aload_n k ∧ (k : Nat) = i)
  | (.istore i, n, _, _) => (raw = .istore i ∧ n = 2) ∨ (n = 1 ∧ ∃ k : Fin 4, raw = .istore_n k ∧ (k : Nat) = i)
  | (.astore i, n, _, _) => (raw = .astore i ∧ n = 2) ∨ (n = 1 ∧ ∃ k : Fin 4, raw = .astore_n k ∧ (k : Nat) = i)
  | (.iinc i k, n, _, _) => raw = .iinc i k ∧ n = 3
  | (.goto t, n, _, _) => raw = .goto (t - pc) ∧ n = 3 ∧ 0 ≤ t
  | (.ifCond cd t, n, _, _) => raw = .ifCond cd (t - pc) ∧ n = 3 ∧ 0 ≤ t
  | (.if_icmp cd t, n, _, _) => raw = .if_icmp cd (t - pc) ∧ n = 3 ∧ 0 ≤ t
  | (.tableswitch d lo hi offs, n, _, _) => raw = .tableswitch d lo hi offs ∧ 0 ≤ (pc : Int) + d ∧ ∀ q ∈ offs.toList, 0 ≤ (pc : Int) + q
  | (.lookupswitch d ps, n, _, _) => raw = .lookupswitch d ps ∧ (ps.toList.zip (ps.toList.drop 1)).all (fun (a, next) => a.1 < next.1) = true ∧ 0 ≤ (pc : Int) + d ∧ ∀ q ∈ ps.toList, 0 ≤ (pc : Int) + q.2
  | (.getfield k, n, ci, ix) => raw = .getfield ix ∧ n = 3 ∧ ∃ r ∈ (cl[ci]?).toList, k < r.2.2 ∧ Cond.fieldLink own ix (r.2.1 k).1 (r.2.1 k).2.1 (r.2.1 k).2.2.1 ∈ Ts
  | (.putfield k, n, ci, t) => n = 3 ∧ t = tf ci k ∧ ∃ ix ∈ (match raw with | .putfield ix => [ix] | _ => []), ∃ r ∈ (cl[ci]?).toList, k < r.2.2 ∧ Cond.fieldLink own ix (r.2.1 k).1 (r.2.1 k).2.1 (r.2.1 k).2.2.1 ∈ Ts ∧ ((r.2.1 k).2.2.2 = false ∨ ((r.2.1 k).2.2.2 = true ∧ ini = true ∧ (r.2.1 k).1 = own))
  | (.new ci, n, ix, _) => raw = .new ix ∧ n = 3 ∧ ∃ r ∈ (cl[ci]?).toList, Cond.classLink own ix r.1 ∈ Ts ∧ Cond.instantiable r.1 r.2.2 ∈ Ts ∧ Cond.initialized r.1 ∈ Ts ∧ (nf ci).length = r.2.2 ∧ (∀ j, j < r.2.2 → tf ci j ≠ 99) ∧ ∀ j, j < r.2.2 → (parseFieldDescriptor (r.2.1 j).2.2.1).map defaultValue = some ((nf ci).getD j .null)
  | (.newarray at_, n, t, _) => raw = .newarray at_ ∧ n = 2 ∧ t < 6 ∧ ty t = Op.newarray.typeOf at_ ∧ Cond.arrayClass (Op.newarray.typeOf at_) ∈ Ts
  | (.anewarray t, n, ix, _) => raw = .anewarray ix ∧ n = 3 ∧ (match ty t with | .object C => Cond.classLink own ix C ∈ Ts ∧ Cond.arrayOver (.object C) ∈ Ts | _ => False)
  | (.multianewarray t t', n, ix, _) => raw = .multianewarray ix 2 ∧ n = 4 ∧ t' = 0 ∧ ty t = .array .int ∧ Cond.classLink own ix ("[" ++ (FieldType.array .int).toString) ∈ Ts ∧ Cond.arrayOver (.array .int) ∈ Ts ∧ Cond.arrayClass .int ∈ Ts
  | (.iaload, n, t, _) => n = 1 ∧ ((t = 0 ∧ raw = .iaload) ∨ (t = 3 ∧ raw = .caload) ∨ (t = 1 ∧ raw = .baload) ∨ (t = 2 ∧ raw = .baload))
  | (.iastore, n, t, _) => n = 1 ∧ ((t = 0 ∧ raw = .iastore) ∨ (t = 3 ∧ raw = .castore) ∨ (t = 1 ∧ raw = .bastore) ∨ (t = 2 ∧ raw = .bastore))
  | (.aastore, n, t, ci) => raw = .aastore ∧ n = 1 ∧ (match cl[ci]? with | some r => ty t = .object r.1 | none => False)
  | (.invokespecial ix, n, _, _) => raw = .invokespecial ix ∧ n = 3 ∧ Cond.methodLink own ix Lib.objectInit ∈ Ts ∧ Cond.instanceMethod Lib.objectInit ∈ Ts ∧ Cond.code Lib.objectInit ⟨#[0xb1]⟩ 1 none ∈ Ts
  | (.invokeinterface _ _, n, _, _) => n = 3
  | (o, n, _, _) => raw = o ∧ n = 1
section XSTEPS
variable (p : Program) (l : Launch) (e : Env) (R : Room) (s : State) (m : MethodId) (args : Array Value) (below : List Frame) (meth : Method) (c : Code) (Q : State → Prop)
variable (b base : Nat) (ta : (Nat → Nat) × Option Nat) (dA : Nat → ClassId) (D : va_G) (cl : List vw_C) (n0 z0 : Nat)
/-- from here the real machine comes to Q; n0, z0: the cells and slots that were there at the method's entry -/
def XK (pc : Nat) (ls : xL) (st : List Value) (h : xH) : Prop := n0 ≤ h.length → z0 ≤ xsz h →
  ∀ (H : Heap) (locs : List Loc) (rl : Array Slot), xls b base ta ls rl → H.size = base + h.length → va_P D cl (xws b base ta dA h) H → va_S (fun q => base ≤ q) s.heap H locs →
    W p l e R s m args below meth c H locs (h.length - n0) (xsz h - z0) Q (F0 m pc rl (st.map (xv b base ta)))
end XSTEPS
section XROWS
variable {p : Program} {l : Launch} {e : Env} {R : Room} {s : State} {m : MethodId} {args : Array Value} {below : List Frame} {meth : Method} {c : Code} {Q : State → Prop}
variable {b base : Nat} {ta : (Nat → Nat) × Option Nat} {dA : Nat → ClassId} {D : va_G} {cl : List vw_C} {n0 z0 : Nat} {cc : ByteArray} {pc : Nat} {ls : xL} {st : List Value} {h : xH}
/-- where a jump goes -/
theorem xjump {pc : Nat} {t : Int} (h : 0 ≤ t) : (pc : Int) + (t - pc) = (t.toNat : Int) := by omega
/-- a store of one word into a local, whatever the instruction -/
theorem xs_store {p' : Nat} {i : Nat} {v : Value} {ls' : xL} (hs : xset ls i v = some ls') (K : XK p l e R s m args below meth c Q b base ta dA D cl n0 z0 p' ls' st h)
    (row : ∀ (H : Heap) (locs : List Loc) (cells slots : Nat) (rl : Array Slot), lv_has rl ls.length (xlp b base ta ls) → i < ls.length → (∀ ls1 : Array Slot, lv_has ls1 ls.length ((i, xv b base ta v) :: (xlp b base ta ls).filter (fun q => !(q.1 == i) && !(q.1 + 1 == i && q.2.category == 2))) → W p l e R s m args below meth c H locs cells slots Q (F0 m p' ls1 (st.map (xv b base ta)))) → W p l e R s m args below meth c H locs cells slots Q (F0 m pc rl (xv b base ta v :: st.map (xv b base ta)))) :
    XK p l e R s m args below meth c Q b base ta dA D cl n0 z0 pc ls (v :: st) h := fun hn hz H locs rl h1 h2 h3 h4 =>
  row H locs _ _ rl (xls_has h1) (xset_spec hs).1 (fun ls1 hl => K hn hz H locs ls1 (xls_put hs hl) h2 h3 h4)
end XROWS
end
section
/-! THE INSTRUCTIONS THAT LEAVE THE HEAP AS IT IS -/
/-- the code of a field's type -/
def xtc (t : FieldType) : Nat := match t with
  | .int => 0
  | .boolean => 1
  | .byte => 2
  | .char => 3
  | .short => 4
  | .long => 5
  | .object _ => 6
  | .array _ => 6
  | _ => 99
/-- what holds of a class: the words of its fields, their types, their names -/
def XC (Ts : List Cond) (tf : Nat → Nat → Nat) (ci : Nat) (r : vw_C) : Prop := (∀ w ∈ u_ws r.1 r.2.1 r.2.2, w ∈ Ts) ∧ (∃ ty0 : Nat → FieldType, ∀ k, k < r.2.2 → parseFieldDescriptor (r.2.1 k).2.2.1 = some (ty0 k) ∧ xtc (ty0 k) = tf ci k) ∧ ∀ a, a < r.2.2 → ∀ b, b < r.2.2 → a ≠ b → (r.2.1 a).2.1 ≠ (r.2.1 b).2.1
/-- what holds of the tables, whatever the state: of the classes; ty: the types of the arrays' elements by their codes -/
def XG (Ts : List Cond) (cl : List vw_C) (tf : Nat → Nat → Nat) (ty : Nat → FieldType) : Prop := (∀ (ci : Nat) (r : vw_C), cl[ci]? = some r → XC Ts tf ci r) ∧ ty 0 = .int ∧ ty 1 = .boolean ∧ ty 2 = .byte ∧ ty 3 = .char ∧ ty 5 = .long ∧ ∀ t, 6 ≤ t → t < 12 → (ty t).isReference = true
/-- what holds of the texts: the literals, where they are loaded, and that Strings are compact -/
def XTx (base : Nat) (ta : (Nat → Nat) × Option Nat) (lit : List (List Int32)) (ldcs : List (String × Nat × String × Nat)) (s : State) : Prop :=
  vk_S lit.length (lit.map List.length) lit (fun i => ta.1 (2 * i)) (fun i => ta.1 (2 * i + 1)) (fun q => base ≤ q) s s.heap ∧ (∀ q ∈ ldcs, vk_R q.1 q.2.1 q.2.2.1 (ta.1 (2 * q.2.2.2)) s) ∧ va_Z "java/lang/String" "COMPACT_STRINGS" "Z" (.int 1) (fun q => base ≤ q) s s.heap ∧ va_Z "jdk/internal/util/Preconditions" "SIOOBE_FORMATTER" "Ljava/util/function/BiFunction;" (va_rf ta.2) (fun q => base ≤ q) s s.heap
theorem XTx.go {base : Nat} {ta : (Nat → Nat) × Option Nat} {lit : List (List Int32)} {ldcs : List (String × Nat × String × Nat)} {s U : State} (h : XTx base ta lit ldcs s) (hW : s.WarmedH U.vm) (hq : ∀ q, q < s.heap.size → ¬ base ≤ q → U.heap[q]? = s.heap[q]?) : XTx base ta lit ldcs U :=
  ⟨vk_S.moved hW.alike (h.1.kept hq), fun q hq9 => (h.2.1 q hq9).warm hW, va_Z.moved hW.alike (h.2.2.1.kept hq), va_Z.moved hW.alike (h.2.2.2.kept hq)⟩
/-- what holds at a method's entry -/
def XF (p : Program) (s : State) (m : MethodId) (args : Array Value) (meth : Method) (c : Code) (b base : Nat) (dA : Nat → ClassId) (D : va_G) (cl : List vw_C) (Ts : List Cond) (ty : Nat → FieldType) (L : Nat) (xs : Nat → Int32) (ta : (Nat → Nat) × Option Nat) (lit : List (List Int32)) (ldcs : List (String × Nat × String × Nat)) (cc : ByteArray) (own : String) (ini : Bool) : Prop :=
  p.tables.exec = Jvm.exec ∧ c.code = cc ∧ s.vm.findClass own = some m.cls ∧ (∀ w ∈ Ts, w.before args s = true) ∧ va_K D cl [] s ∧ (∀ t, ArrOfT s (dA t) (ty t) ∧ va_RA s (dA t) (ty t)) ∧ va_X b L xs s s.heap ∧ b < base ∧ base ≤ s.heap.size ∧ (ini = true → meth.name = "<init>") ∧ XTx base ta lit ldcs s
theorem xin_of {i : Int32} {n : Nat} (h : xin i n = true) : ¬ (i < 0 ∨ n ≤ i.toNatClampNeg) := of_decide_eq_true h
theorem xin_lt {i : Int32} {n : Nat} (h : xin i n = true) : i.toNatClampNeg < n := Nat.not_le.mp fun q => xin_of h (Or.inr q)
section XPLAIN
variable {p : Program} {l : Launch} {e : Env} {R : Room} {s : State} {m : MethodId} {args : Array Value} {below : List Frame} {meth : Method} {c : Code} {Q : State → Prop}
variable {b base : Nat} {ta : (Nat → Nat) × Option Nat} {dA : Nat → ClassId} {D : va_G} {cl : List vw_C} {n0 z0 : Nat} {cc : ByteArray} {pc pc' n : Nat} {ls ls' : xL} {st st' : List Value} {h h' : xH} {raw : Instr} {x1 x2 : Nat}
variable {Ts : List Cond} {ty : Nat → FieldType} {own : String} {tf : Nat → Nat → Nat} {ini : Bool}
variable {nf : Nat → List Value} {L : Nat} {xs : Nat → Int32} {mc : Nat → Option Nat} {lit : List (List Int32)} {ldcs : List (String × Nat × String × Nat)}
theorem xs_iconst {v : Int} (F : XF p s m args meth c b base dA D cl Ts ty L xs ta lit ldcs cc own ini) (G : XG Ts cl tf ty) (hd : decode cc pc = .ok (raw, n)) (hok : xok Ts cl own tf nf ty ldcs ini pc raw (.iconst v, n, x1, x2)) (hs : xstep nf L xs lit mc (.iconst v, n, x1, x2) pc ls st h = some (.inl (pc', ls', st', h'))) (K : XK p l e R s m args below meth c Q b base ta dA D cl n0 z0 pc' ls' st' h') : XK p l e R s m args below meth c Q b base ta dA D cl n0 z0 pc ls st h := by
  obtain ⟨hx, hb, hown, hts, hK, hA, hX, hbl, hbs, hini, hTx⟩ := F
  obtain ⟨hcl, ty0, ty1, ty2, ty3, ty5, tyR⟩ := G
  cases hs
  intro hn hz H locs rl h1 h2 h3 h4
  rcases hok with ⟨rfl, rfl⟩ | ⟨rfl, rfl, hv⟩ | ⟨rfl, rfl, hv⟩
  · exact lv_iconst hx hb hd rfl (K hn hz H locs rl h1 h2 h3 h4)
  · exact lv_bipush hx hb hd hv (K hn hz H locs rl h1 h2 h3 h4)
  · exact lv_sipush hx hb hd hv (K hn hz H locs rl h1 h2 h3 h4)
theorem xs_lconst {v : Int} (F : XF p s m args meth c b base dA D cl Ts ty L xs ta lit ldcs cc own ini) (G : XG Ts cl tf ty) (hd : decode cc pc = .ok (raw, n)) (hok : xok Ts cl own tf nf ty ldcs ini pc raw (.goto_w v, n, x1, x2)) (hs : xstep nf L xs lit mc (.goto_w v, n, x1, x2) pc ls st h = some (.inl (pc', ls', st', h'))) (K : XK p l e R s m args below meth c Q b base ta dA D cl n0 z0 pc' ls' st' h') : XK p l e R s m args below meth c Q b base ta dA D cl n0 z0 pc ls st h := by
  obtain ⟨hx, hb, hown, hts, hK, hA, hX, hbl, hbs, hini, hTx⟩ := F
  obtain ⟨hcl, ty0, ty1, ty2, ty3, ty5, tyR⟩ := G
  cases hs
  intro hn hz H locs rl h1 h2 h3 h4
  obtain ⟨rfl, rfl, hv⟩ := hok
  exact lv_ldc2 hx hb hown (hts _ hv) hd (K hn hz H locs rl h1 h2 h3 h4)
theorem xs_iload {i : Nat} (F : XF p s m args meth c b base dA D cl Ts ty L xs ta lit ldcs cc own ini) (G : XG Ts cl tf ty) (hd : decode cc pc = .ok (raw, n)) (hok : xok Ts cl own tf nf ty ldcs ini pc raw (.iload i, n, x1, x2)) (hs : xstep nf L xs lit mc (.iload i, n, x1, x2) pc ls st h = some (.inl (pc', ls', st', h'))) (K : XK p l e R s m args below meth c Q b base ta dA D cl n0 z0 pc' ls' st' h') : XK p l e R s m args below meth c Q b base ta dA D cl n0 z0 pc ls st h := by
  obtain ⟨hx, hb, hown, hts, hK, hA, hX, hbl, hbs, hini, hTx⟩ := F
  obtain ⟨hcl, ty0, ty1, ty2, ty3, ty5, tyR⟩ := G
  simp only [xstep] at hs
  split at hs
  · rename_i x hl
    cases hs
    intro hn hz H locs rl h1 h2 h3 h4
    rcases hok with ⟨rfl, rfl⟩ | ⟨rfl, k, rfl, rfl⟩
    · exact lv_iload hx hb hd (h1.2.2 _ _ hl) (K hn hz H locs rl h1 h2 h3 h4)
    · exact lv_iload_n hx hb hd rfl (h1.2.2 _ _ hl) (K hn hz H locs rl h1 h2 h3 h4)
  · cases hs
theorem xs_lload {i : Nat} (F : XF p s m args meth c b base dA D cl Ts ty L xs ta lit ldcs cc own ini) (G : XG Ts cl tf ty) (hd : decode cc pc = .ok (raw, n)) (hok : xok Ts cl own tf nf ty ldcs ini pc raw (.lload i, n, x1, x2)) (hs : xstep nf L xs lit mc (.lload i, n, x1, x2) pc ls st h = some (.inl (pc', ls', st', h'))) (K : XK p l e R s m args below meth c Q b base ta dA D cl n0 z0 pc' ls' st' h') : XK p l e R s m args below meth c Q b base ta dA D cl n0 z0 pc ls st h := by
  obtain ⟨hx, hb, hown, hts, hK, hA, hX, hbl, hbs, hini, hTx⟩ := F
  obtain ⟨hcl, ty0, ty1, ty2, ty3, ty5, tyR⟩ := G
  simp only [xstep] at hs
  split at hs
  · rename_i x hl
    cases hs
    intro hn hz H locs rl h1 h2 h3 h4
    rcases hok with ⟨rfl, rfl⟩ | ⟨rfl, k, rfl, rfl⟩
    · exact lv_lload hx hb hd (h1.2.2 _ _ hl) (K hn hz H locs rl h1 h2 h3 h4)
    · exact lv_lload_n hx hb hd rfl (h1.2.2 _ _ hl) (K hn hz H locs rl h1 h2 h3 h4)
  · cases hs
theorem xs_aload {i : Nat} (F : XF p s m args meth c b base dA D cl Ts ty L xs ta lit ldcs cc own ini) (G : XG Ts cl tf ty) (hd : decode cc pc = .ok (raw, n)) (hok : xok Ts cl own tf nf ty ldcs ini pc raw (.aload i, n, x1, x2)) (hs : xstep nf L xs lit mc (.aload i, n, x1, x2) pc ls st h = some (.inl (pc', ls', st', h'))) (K : XK p l e R s m args below meth c Q b base ta dA D cl n0 z0 pc' ls' st' h') : XK p l e R s m args below meth c Q b base ta dA D cl n0 z0 pc ls st h := by
  obtain ⟨hx, hb, hown, hts, hK, hA, hX, hbl, hbs, hini, hTx⟩ := F
  obtain ⟨hcl, ty0, ty1, ty2, ty3, ty5, tyR⟩ := G
  simp only [xstep] at hs
  split at hs
  · rename_i v hl
    split at hs
    · rename_i hv
      cases hs
      intro hn hz H locs rl h1 h2 h3 h4
      obtain ⟨a, ha⟩ := xv_ref (b := b) (base := base) (ta := ta) hv
      have hl2 := h1.2.2 _ _ hl
      rw [ha] at hl2
      have K2 := K hn hz H locs rl h1 h2 h3 h4
      rw [List.map_cons, ha] at K2
      rcases hok with ⟨rfl, rfl⟩ | ⟨rfl, k, rfl, rfl⟩
      · exact lv_aload hx hb hd hl2 K2
      · exact lv_aload_n hx hb hd rfl hl2 K2
    · cases hs
  · cases hs
theorem xs_istore {i : Nat} (F : XF p s m args meth c b base dA D cl Ts ty L xs ta lit ldcs cc own ini) (G : XG Ts cl tf ty) (hd : decode cc pc = .ok (raw, n)) (hok : xok Ts cl own tf nf ty ldcs ini pc raw (.istore i, n, x1, x2)) (hs : xstep nf L xs lit mc (.istore i, n, x1, x2) pc ls st h = some (.inl (pc', ls', st', h'))) (K : XK p l e R s m args below meth c Q b base ta dA D cl n0 z0 pc' ls' st' h') : XK p l e R s m args below meth c Q b base ta dA D cl n0 z0 pc ls st h := by
  obtain ⟨hx, hb, hown, hts, hK, hA, hX, hbl, hbs, hini, hTx⟩ := F
  obtain ⟨hcl, ty0, ty1, ty2, ty3, ty5, tyR⟩ := G
  simp only [xstep] at hs
  split at hs
  · rename_i x st0
    split at hs
    · rename_i ls1 he
      cases hs
      refine xs_store he K (fun H locs cells slots rl hl hi kk => ?_)
      rcases hok with ⟨rfl, rfl⟩ | ⟨rfl, k, rfl, rfl⟩
      · exact lv_istore hx hb hd hl hi rfl kk
      · exact lv_istore_n hx hb hd rfl hl hi rfl kk
    · cases hs
  · cases hs
theorem xs_astore {i : Nat} (F : XF p s m args meth c b base dA D cl Ts ty L xs ta lit ldcs cc own ini) (G : XG Ts cl tf ty) (hd : decode cc pc = .ok (raw, n)) (hok : xok Ts cl own tf nf ty ldcs ini pc raw (.astore i, n, x1, x2)) (hs : xstep nf L xs lit mc (.astore i, n, x1, x2) pc ls st h = some (.inl (pc', ls', st', h'))) (K : XK p l e R s m args below meth c Q b base ta dA D cl n0 z0 pc' ls' st' h') : XK p l e R s m args below meth c Q b base ta dA D cl n0 z0 pc ls st h := by
  obtain ⟨hx, hb, hown, hts, hK, hA, hX, hbl, hbs, hini, hTx⟩ := F
  obtain ⟨hcl, ty0, ty1, ty2, ty3, ty5, tyR⟩ := G
  simp only [xstep] at hs
  split at hs
  · rename_i v st0
    split at hs
    · rename_i hv
      split at hs
      · rename_i ls1 he
        cases hs
        refine xs_store he K (fun H locs cells slots rl hl hi kk => ?_)
        obtain ⟨a, ha⟩ := xv_ref (b := b) (base := base) (ta := ta) hv
        rw [ha] at kk ⊢
        rcases hok with ⟨rfl, rfl⟩ | ⟨rfl, k, rfl, rfl⟩
        · exact lv_astore hx hb hd hl hi rfl kk
        · exact lv_astore_n hx hb hd rfl hl hi rfl kk
      · cases hs
    · cases hs
  · cases hs
theorem xs_iinc {i : Nat} {k : Int} (F : XF p s m args meth c b base dA D cl Ts ty L xs ta lit ldcs cc own ini) (G : XG Ts cl tf ty) (hd : decode cc pc = .ok (raw, n)) (hok : xok Ts cl own tf nf ty ldcs ini pc raw (.iinc i k, n, x1, x2)) (hs : xstep nf L xs lit mc (.iinc i k, n, x1, x2) pc ls st h = some (.inl (pc', ls', st', h'))) (K : XK p l e R s m args below meth c Q b base ta dA D cl n0 z0 pc' ls' st' h') : XK p l e R s m args below meth c Q b base ta dA D cl n0 z0 pc ls st h := by
  obtain ⟨hx, hb, hown, hts, hK, hA, hX, hbl, hbs, hini, hTx⟩ := F
  obtain ⟨hcl, ty0, ty1, ty2, ty3, ty5, tyR⟩ := G
  simp only [xstep] at hs
  split at hs
  · rename_i x hl
    split at hs
    · rename_i ls1 he
      cases hs
      obtain ⟨rfl, rfl⟩ := hok
      intro hn hz H locs rl h1 h2 h3 h4
      obtain ⟨j, hj⟩ := List.getElem?_of_mem (xlp_mem.mpr ⟨.int x, hl, rfl⟩ : (i, Value.int x) ∈ xlp b base ta ls)
      exact lv_iinc hx hb hd (xls_has h1) hj rfl (xset_spec he).1 rfl (fun ls1 hl1 => K hn hz H locs ls1 (xls_put he hl1) h2 h3 h4)
    · cases hs
  · cases hs
theorem xs_iadd (F : XF p s m args meth c b base dA D cl Ts ty L xs ta lit ldcs cc own ini) (G : XG Ts cl tf ty) (hd : decode cc pc = .ok (raw, n)) (hok : xok Ts cl own tf nf ty ldcs ini pc raw (.iadd, n, x1, x2)) (hs : xstep nf L xs lit mc (.iadd, n, x1, x2) pc ls st h = some (.inl (pc', ls', st', h'))) (K : XK p l e R s m args below meth c Q b base ta dA D cl n0 z0 pc' ls' st' h') : XK p l e R s m args below meth c Q b base ta dA D cl n0 z0 pc ls st h := by
  obtain ⟨hx, hb, hown, hts, hK, hA, hX, hbl, hbs, hini, hTx⟩ := F
  obtain ⟨hcl, ty0, ty1, ty2, ty3, ty5, tyR⟩ := G
  simp only [xstep] at hs
  split at hs
  · cases hs
    obtain ⟨rfl, rfl⟩ := hok
    intro hn hz H locs rl h1 h2 h3 h4
    exact lv_iadd hx hb hd (K hn hz H locs rl h1 h2 h3 h4)
  · cases hs
theorem xs_isub (F : XF p s m args meth c b base dA D cl Ts ty L xs ta lit ldcs cc own ini) (G : XG Ts cl tf ty) (hd : decode cc pc = .ok (raw, n)) (hok : xok Ts cl own tf nf ty ldcs ini pc raw (.isub, n, x1, x2)) (hs : xstep nf L xs lit mc (.isub, n, x1, x2) pc ls st h = some (.inl (pc', ls', st', h'))) (K : XK p l e R s m args below meth c Q b base ta dA D cl n0 z0 pc' ls' st' h') : XK p l e R s m args below meth c Q b base ta dA D cl n0 z0 pc ls st h := by
  obtain ⟨hx, hb, hown, hts, hK, hA, hX, hbl, hbs, hini, hTx⟩ := F
  obtain ⟨hcl, ty0, ty1, ty2, ty3, ty5, tyR⟩ := G
  simp only [xstep] at hs
  split at hs
  · cases hs
    obtain ⟨rfl, rfl⟩ := hok
    intro hn hz H locs rl h1 h2 h3 h4
    exact lv_isub hx hb hd (K hn hz H locs rl h1 h2 h3 h4)
  · cases hs
theorem xs_imul (F : XF p s m args meth c b base dA D cl Ts ty L xs ta lit ldcs cc own ini) (G : XG Ts cl tf ty) (hd : decode cc pc = .ok (raw, n)) (hok : xok Ts cl own tf nf ty ldcs ini pc raw (.imul, n, x1, x2)) (hs : xstep nf L xs lit mc (.imul, n, x1, x2) pc ls st h = some (.inl (pc', ls', st', h'))) (K : XK p l e R s m args below meth c Q b base ta dA D cl n0 z0 pc' ls' st' h') : XK p l e R s m args below meth c Q b base ta dA D cl n0 z0 pc ls st h := by
  obtain ⟨hx, hb, hown, hts, hK, hA, hX, hbl, hbs, hini, hTx⟩ := F
  obtain ⟨hcl, ty0, ty1, ty2, ty3, ty5, tyR⟩ := G
  simp only [xstep] at hs
  split at hs
  · cases hs
    obtain ⟨rfl, rfl⟩ := hok
    intro hn hz H locs rl h1 h2 h3 h4
    exact lv_imul hx hb hd (K hn hz H locs rl h1 h2 h3 h4)
  · cases hs
theorem xs_iand (F : XF p s m args meth c b base dA D cl Ts ty L xs ta lit ldcs cc own ini) (G : XG Ts cl tf ty) (hd : decode cc pc = .ok (raw, n)) (hok : xok Ts cl own tf nf ty ldcs ini pc raw (.iand, n, x1, x2)) (hs : xstep nf L xs lit mc (.iand, n, x1, x2) pc ls st h = some (.inl (pc', ls', st', h'))) (K : XK p l e R s m args below meth c Q b base ta dA D cl n0 z0 pc' ls' st' h') : XK p l e R s m args below meth c Q b base ta dA D cl n0 z0 pc ls st h := by
  obtain ⟨hx, hb, hown, hts, hK, hA, hX, hbl, hbs, hini, hTx⟩ := F
  obtain ⟨hcl, ty0, ty1, ty2, ty3, ty5, tyR⟩ := G
  simp only [xstep] at hs
  split at hs
  · cases hs
    obtain ⟨rfl, rfl⟩ := hok
    intro hn hz H locs rl h1 h2 h3 h4
    exact lv_iand hx hb hd (K hn hz H locs rl h1 h2 h3 h4)
  · cases hs
theorem xs_ior (F : XF p s m args meth c b base dA D cl Ts ty L xs ta lit ldcs cc own ini) (G : XG Ts cl tf ty) (hd : decode cc pc = .ok (raw, n)) (hok : xok Ts cl own tf nf ty ldcs ini pc raw (.ior, n, x1, x2)) (hs : xstep nf L xs lit mc (.ior, n, x1, x2) pc ls st h = some (.inl (pc', ls', st', h'))) (K : XK p l e R s m args below meth c Q b base ta dA D cl n0 z0 pc' ls' st' h') : XK p l e R s m args below meth c Q b base ta dA D cl n0 z0 pc ls st h := by
  obtain ⟨hx, hb, hown, hts, hK, hA, hX, hbl, hbs, hini, hTx⟩ := F
  obtain ⟨hcl, ty0, ty1, ty2, ty3, ty5, tyR⟩ := G
  simp only [xstep] at hs
  split at hs
  · cases hs
    obtain ⟨rfl, rfl⟩ := hok
    intro hn hz H locs rl h1 h2 h3 h4
    exact lv_ior hx hb hd (K hn hz H locs rl h1 h2 h3 h4)
  · cases hs
theorem xs_ishl (F : XF p s m args meth c b base dA D cl Ts ty L xs ta lit ldcs cc own ini) (G : XG Ts cl tf ty) (hd : decode cc pc = .ok (raw, n)) (hok : xok Ts cl own tf nf ty ldcs ini pc raw (.ishl, n, x1, x2)) (hs : xstep nf L xs lit mc (.ishl, n, x1, x2) pc ls st h = some (.inl (pc', ls', st', h'))) (K : XK p l e R s m args below meth c Q b base ta dA D cl n0 z0 pc' ls' st' h') : XK p l e R s m args below meth c Q b base ta dA D cl n0 z0 pc ls st h := by
  obtain ⟨hx, hb, hown, hts, hK, hA, hX, hbl, hbs, hini, hTx⟩ := F
  obtain ⟨hcl, ty0, ty1, ty2, ty3, ty5, tyR⟩ := G
  simp only [xstep] at hs
  split at hs
  · cases hs
    obtain ⟨rfl, rfl⟩ := hok
    intro hn hz H locs rl h1 h2 h3 h4
    exact lv_ishl hx hb hd (K hn hz H locs rl h1 h2 h3 h4)
  · cases hs
theorem xs_ishr (F : XF p s m args meth c b base dA D cl Ts ty L xs ta lit ldcs cc own ini) (G : XG Ts cl tf ty) (hd : decode cc pc = .ok (raw, n)) (hok : xok Ts cl own tf nf ty ldcs ini pc raw (.ishr, n, x1, x2)) (hs : xstep nf L xs lit mc (.ishr, n, x1, x2) pc ls st h = some (.inl (pc', ls', st', h'))) (K : XK p l e R s m args below meth c Q b base ta dA D cl n0 z0 pc' ls' st' h') : XK p l e R s m args below meth c Q b base ta dA D cl n0 z0 pc ls st h := by
  obtain ⟨hx, hb, hown, hts, hK, hA, hX, hbl, hbs, hini, hTx⟩ := F
  obtain ⟨hcl, ty0, ty1, ty2, ty3, ty5, tyR⟩ := G
  simp only [xstep] at hs
  split at hs
  · cases hs
    obtain ⟨rfl, rfl⟩ := hok
    intro hn hz H locs rl h1 h2 h3 h4
    exact lv_ishr hx hb hd (K hn hz H locs rl h1 h2 h3 h4)
  · cases hs
theorem xs_land (F : XF p s m args meth c b base dA D cl Ts ty L xs ta lit ldcs cc own ini) (G : XG Ts cl tf ty) (hd : decode cc pc = .ok (raw, n)) (hok : xok Ts cl own tf nf ty ldcs ini pc raw (.land, n, x1, x2)) (hs : xstep nf L xs lit mc (.land, n, x1, x2) pc ls st h = some (.inl (pc', ls', st', h'))) (K : XK p l e R s m args below meth c Q b base ta dA D cl n0 z0 pc' ls' st' h') : XK p l e R s m args below meth c Q b base ta dA D cl n0 z0 pc ls st h := by
  obtain ⟨hx, hb, hown, hts, hK, hA, hX, hbl, hbs, hini, hTx⟩ := F
  obtain ⟨hcl, ty0, ty1, ty2, ty3, ty5, tyR⟩ := G
  simp only [xstep] at hs
  split at hs
  · cases hs
    obtain ⟨rfl, rfl⟩ := hok
    intro hn hz H locs rl h1 h2 h3 h4
    exact lv_land hx hb hd (K hn hz H locs rl h1 h2 h3 h4)
  · cases hs
theorem xs_lor (F : XF p s m args meth c b base dA D cl Ts ty L xs ta lit ldcs cc own ini) (G : XG Ts cl tf ty) (hd : decode cc pc = .ok (raw, n)) (hok : xok Ts cl own tf nf ty ldcs ini pc raw (.lor, n, x1, x2)) (hs : xstep nf L xs lit mc (.lor, n, x1, x2) pc ls st h = some (.inl (pc', ls', st', h'))) (K : XK p l e R s m args below meth c Q b base ta dA D cl n0 z0 pc' ls' st' h') : XK p l e R s m args below meth c Q b base ta dA D cl n0 z0 pc ls st h := by
  obtain ⟨hx, hb, hown, hts, hK, hA, hX, hbl, hbs, hini, hTx⟩ := F
  obtain ⟨hcl, ty0, ty1, ty2, ty3, ty5, tyR⟩ := G
  simp only [xstep] at hs
  split at hs
  · cases hs
    obtain ⟨rfl, rfl⟩ := hok
    intro hn hz H locs rl h1 h2 h3 h4
    exact lv_lor hx hb hd (K hn hz H locs rl h1 h2 h3 h4)
  · cases hs
theorem xs_lushr (F : XF p s m args meth c b base dA D cl Ts ty L xs ta lit ldcs cc own ini) (G : XG Ts cl tf ty) (hd : decode cc pc = .ok (raw, n)) (hok : xok Ts cl own tf nf ty ldcs ini pc raw (.lushr, n, x1, x2)) (hs : xstep nf L xs lit mc (.lushr, n, x1, x2) pc ls st h = some (.inl (pc', ls', st', h'))) (K : XK p l e R s m args below meth c Q b base ta dA D cl n0 z0 pc' ls' st' h') : XK p l e R s m args below meth c Q b base ta dA D cl n0 z0 pc ls st h := by
  obtain ⟨hx, hb, hown, hts, hK, hA, hX, hbl, hbs, hini, hTx⟩ := F
  obtain ⟨hcl, ty0, ty1, ty2, ty3, ty5, tyR⟩ := G
  simp only [xstep] at hs
  split at hs
  · cases hs
    obtain ⟨rfl, rfl⟩ := hok
    intro hn hz H locs rl h1 h2 h3 h4
    exact lv_lushr hx hb hd rfl (K hn hz H locs rl h1 h2 h3 h4)
  · cases hs
theorem xs_lshl (F : XF p s m args meth c b base dA D cl Ts ty L xs ta lit ldcs cc own ini) (G : XG Ts cl tf ty) (hd : decode cc pc = .ok (raw, n)) (hok : xok Ts cl own tf nf ty ldcs ini pc raw (.lshl, n, x1, x2)) (hs : xstep nf L xs lit mc (.lshl, n, x1, x2) pc ls st h = some (.inl (pc', ls', st', h'))) (K : XK p l e R s m args below meth c Q b base ta dA D cl n0 z0 pc' ls' st' h') : XK p l e R s m args below meth c Q b base ta dA D cl n0 z0 pc ls st h := by
  obtain ⟨hx, hb, hown, hts, hK, hA, hX, hbl, hbs, hini, hTx⟩ := F
  obtain ⟨hcl, ty0, ty1, ty2, ty3, ty5, tyR⟩ := G
  simp only [xstep] at hs
  split at hs
  · cases hs
    obtain ⟨rfl, rfl⟩ := hok
    intro hn hz H locs rl h1 h2 h3 h4
    exact lv_lshl hx hb hd rfl (K hn hz H locs rl h1 h2 h3 h4)
  · cases hs
theorem xs_lshr (F : XF p s m args meth c b base dA D cl Ts ty L xs ta lit ldcs cc own ini) (G : XG Ts cl tf ty) (hd : decode cc pc = .ok (raw, n)) (hok : xok Ts cl own tf nf ty ldcs ini pc raw (.lshr, n, x1, x2)) (hs : xstep nf L xs lit mc (.lshr, n, x1, x2) pc ls st h = some (.inl (pc', ls', st', h'))) (K : XK p l e R s m args below meth c Q b base ta dA D cl n0 z0 pc' ls' st' h') : XK p l e R s m args below meth c Q b base ta dA D cl n0 z0 pc ls st h := by
  obtain ⟨hx, hb, hown, hts, hK, hA, hX, hbl, hbs, hini, hTx⟩ := F
  obtain ⟨hcl, ty0, ty1, ty2, ty3, ty5, tyR⟩ := G
  simp only [xstep] at hs
  split at hs
  · cases hs
    obtain ⟨rfl, rfl⟩ := hok
    intro hn hz H locs rl h1 h2 h3 h4
    exact lv_lshr hx hb hd rfl (K hn hz H locs rl h1 h2 h3 h4)
  · cases hs
theorem xs_ineg (F : XF p s m args meth c b base dA D cl Ts ty L xs ta lit ldcs cc own ini) (G : XG Ts cl tf ty) (hd : decode cc pc = .ok (raw, n)) (hok : xok Ts cl own tf nf ty ldcs ini pc raw (.ineg, n, x1, x2)) (hs : xstep nf L xs lit mc (.ineg, n, x1, x2) pc ls st h = some (.inl (pc', ls', st', h'))) (K : XK p l e R s m args below meth c Q b base ta dA D cl n0 z0 pc' ls' st' h') : XK p l e R s m args below meth c Q b base ta dA D cl n0 z0 pc ls st h := by
  obtain ⟨hx, hb, hown, hts, hK, hA, hX, hbl, hbs, hini, hTx⟩ := F
  obtain ⟨hcl, ty0, ty1, ty2, ty3, ty5, tyR⟩ := G
  simp only [xstep] at hs
  split at hs
  · cases hs
    obtain ⟨rfl, rfl⟩ := hok
    intro hn hz H locs rl h1 h2 h3 h4
    exact lv_ineg hx hb hd (K hn hz H locs rl h1 h2 h3 h4)
  · cases hs
theorem xs_i2l (F : XF p s m args meth c b base dA D cl Ts ty L xs ta lit ldcs cc own ini) (G : XG Ts cl tf ty) (hd : decode cc pc = .ok (raw, n)) (hok : xok Ts cl own tf nf ty ldcs ini pc raw (.i2l, n, x1, x2)) (hs : xstep nf L xs lit mc (.i2l, n, x1, x2) pc ls st h = some (.inl (pc', ls', st', h'))) (K : XK p l e R s m args below meth c Q b base ta dA D cl n0 z0 pc' ls' st' h') : XK p l e R s m args below meth c Q b base ta dA D cl n0 z0 pc ls st h := by
  obtain ⟨hx, hb, hown, hts, hK, hA, hX, hbl, hbs, hini, hTx⟩ := F
  obtain ⟨hcl, ty0, ty1, ty2, ty3, ty5, tyR⟩ := G
  simp only [xstep] at hs
  split at hs
  · cases hs
    obtain ⟨rfl, rfl⟩ := hok
    intro hn hz H locs rl h1 h2 h3 h4
    exact lv_i2l hx hb hd rfl (K hn hz H locs rl h1 h2 h3 h4)
  · cases hs
theorem xs_l2i (F : XF p s m args meth c b base dA D cl Ts ty L xs ta lit ldcs cc own ini) (G : XG Ts cl tf ty) (hd : decode cc pc = .ok (raw, n)) (hok : xok Ts cl own tf nf ty ldcs ini pc raw (.l2i, n, x1, x2)) (hs : xstep nf L xs lit mc (.l2i, n, x1, x2) pc ls st h = some (.inl (pc', ls', st', h'))) (K : XK p l e R s m args below meth c Q b base ta dA D cl n0 z0 pc' ls' st' h') : XK p l e R s m args below meth c Q b base ta dA D cl n0 z0 pc ls st h := by
  obtain ⟨hx, hb, hown, hts, hK, hA, hX, hbl, hbs, hini, hTx⟩ := F
  obtain ⟨hcl, ty0, ty1, ty2, ty3, ty5, tyR⟩ := G
  simp only [xstep] at hs
  split at hs
  · cases hs
    obtain ⟨rfl, rfl⟩ := hok
    intro hn hz H locs rl h1 h2 h3 h4
    exact lv_l2i hx hb hd rfl (K hn hz H locs rl h1 h2 h3 h4)
  · cases hs
theorem xs_i2c (F : XF p s m args meth c b base dA D cl Ts ty L xs ta lit ldcs cc own ini) (G : XG Ts cl tf ty) (hd : decode cc pc = .ok (raw, n)) (hok : xok Ts cl own tf nf ty ldcs ini pc raw (.i2c, n, x1, x2)) (hs : xstep nf L xs lit mc (.i2c, n, x1, x2) pc ls st h = some (.inl (pc', ls', st', h'))) (K : XK p l e R s m args below meth c Q b base ta dA D cl n0 z0 pc' ls' st' h') : XK p l e R s m args below meth c Q b base ta dA D cl n0 z0 pc ls st h := by
  obtain ⟨hx, hb, hown, hts, hK, hA, hX, hbl, hbs, hini, hTx⟩ := F
  obtain ⟨hcl, ty0, ty1, ty2, ty3, ty5, tyR⟩ := G
  simp only [xstep] at hs
  split at hs
  · cases hs
    obtain ⟨rfl, rfl⟩ := hok
    intro hn hz H locs rl h1 h2 h3 h4
    exact lv_i2c hx hb hd rfl (K hn hz H locs rl h1 h2 h3 h4)
  · cases hs
theorem xs_lcmp (F : XF p s m args meth c b base dA D cl Ts ty L xs ta lit ldcs cc own ini) (G : XG Ts cl tf ty) (hd : decode cc pc = .ok (raw, n)) (hok : xok Ts cl own tf nf ty ldcs ini pc raw (.lcmp, n, x1, x2)) (hs : xstep nf L xs lit mc (.lcmp, n, x1, x2) pc ls st h = some (.inl (pc', ls', st', h'))) (K : XK p l e R s m args below meth c Q b base ta dA D cl n0 z0 pc' ls' st' h') : XK p l e R s m args below meth c Q b base ta dA D cl n0 z0 pc ls st h := by
  obtain ⟨hx, hb, hown, hts, hK, hA, hX, hbl, hbs, hini, hTx⟩ := F
  obtain ⟨hcl, ty0, ty1, ty2, ty3, ty5, tyR⟩ := G
  simp only [xstep] at hs
  split at hs
  · cases hs
    obtain ⟨rfl, rfl⟩ := hok
    intro hn hz H locs rl h1 h2 h3 h4
    exact W.lcmp hx hb hd (K hn hz H locs rl h1 h2 h3 h4)
  · cases hs
theorem xs_idiv (F : XF p s m args meth c b base dA D cl Ts ty L xs ta lit ldcs cc own ini) (G : XG Ts cl tf ty) (hd : decode cc pc = .ok (raw, n)) (hok : xok Ts cl own tf nf ty ldcs ini pc raw (.idiv, n, x1, x2)) (hs : xstep nf L xs lit mc (.idiv, n, x1, x2) pc ls st h = some (.inl (pc', ls', st', h'))) (K : XK p l e R s m args below meth c Q b base ta dA D cl n0 z0 pc' ls' st' h') : XK p l e R s m args below meth c Q b base ta dA D cl n0 z0 pc ls st h := by
  obtain ⟨hx, hb, hown, hts, hK, hA, hX, hbl, hbs, hini, hTx⟩ := F
  obtain ⟨hcl, ty0, ty1, ty2, ty3, ty5, tyR⟩ := G
  simp only [xstep] at hs
  split at hs
  · split at hs
    · cases hs
    · rename_i hne
      cases hs
      obtain ⟨rfl, rfl⟩ := hok
      intro hn hz H locs rl h1 h2 h3 h4
      exact lv_idiv hx hb hd hne (K hn hz H locs rl h1 h2 h3 h4)
  · cases hs
theorem xs_irem (F : XF p s m args meth c b base dA D cl Ts ty L xs ta lit ldcs cc own ini) (G : XG Ts cl tf ty) (hd : decode cc pc = .ok (raw, n)) (hok : xok Ts cl own tf nf ty ldcs ini pc raw (.irem, n, x1, x2)) (hs : xstep nf L xs lit mc (.irem, n, x1, x2) pc ls st h = some (.inl (pc', ls', st', h'))) (K : XK p l e R s m args below meth c Q b base ta dA D cl n0 z0 pc' ls' st' h') : XK p l e R s m args below meth c Q b base ta dA D cl n0 z0 pc ls st h := by
  obtain ⟨hx, hb, hown, hts, hK, hA, hX, hbl, hbs, hini, hTx⟩ := F
  obtain ⟨hcl, ty0, ty1, ty2, ty3, ty5, tyR⟩ := G
  simp only [xstep] at hs
  split at hs
  · split at hs
    · cases hs
    · rename_i hne
      cases hs
      obtain ⟨rfl, rfl⟩ := hok
      intro hn hz H locs rl h1 h2 h3 h4
      exact lv_irem hx hb hd hne (K hn hz H locs rl h1 h2 h3 h4)
  · cases hs
theorem xs_dup (F : XF p s m args meth c b base dA D cl Ts ty L xs ta lit ldcs cc own ini) (G : XG Ts cl tf ty) (hd : decode cc pc = .ok (raw, n)) (hok : xok Ts cl own tf nf ty ldcs ini pc raw (.dup, n, x1, x2)) (hs : xstep nf L xs lit mc (.dup, n, x1, x2) pc ls st h = some (.inl (pc', ls', st', h'))) (K : XK p l e R s m args below meth c Q b base ta dA D cl n0 z0 pc' ls' st' h') : XK p l e R s m args below meth c Q b base ta dA D cl n0 z0 pc ls st h := by
  obtain ⟨hx, hb, hown, hts, hK, hA, hX, hbl, hbs, hini, hTx⟩ := F
  obtain ⟨hcl, ty0, ty1, ty2, ty3, ty5, tyR⟩ := G
  simp only [xstep] at hs
  split at hs
  · split at hs
    · rename_i hc
      cases hs
      obtain ⟨rfl, rfl⟩ := hok
      intro hn hz H locs rl h1 h2 h3 h4
      exact lv_dup hx hb hd (xv_cat1 b base ta hc) (K hn hz H locs rl h1 h2 h3 h4)
    · cases hs
  · cases hs
theorem xs_pop (F : XF p s m args meth c b base dA D cl Ts ty L xs ta lit ldcs cc own ini) (G : XG Ts cl tf ty) (hd : decode cc pc = .ok (raw, n)) (hok : xok Ts cl own tf nf ty ldcs ini pc raw (.pop, n, x1, x2)) (hs : xstep nf L xs lit mc (.pop, n, x1, x2) pc ls st h = some (.inl (pc', ls', st', h'))) (K : XK p l e R s m args below meth c Q b base ta dA D cl n0 z0 pc' ls' st' h') : XK p l e R s m args below meth c Q b base ta dA D cl n0 z0 pc ls st h := by
  obtain ⟨hx, hb, hown, hts, hK, hA, hX, hbl, hbs, hini, hTx⟩ := F
  obtain ⟨hcl, ty0, ty1, ty2, ty3, ty5, tyR⟩ := G
  simp only [xstep] at hs
  split at hs
  · split at hs
    · rename_i hc
      cases hs
      obtain ⟨rfl, rfl⟩ := hok
      intro hn hz H locs rl h1 h2 h3 h4
      exact lv_pop hx hb hd (xv_cat1 b base ta hc) (K hn hz H locs rl h1 h2 h3 h4)
    · cases hs
  · cases hs
theorem xs_dup_x1 (F : XF p s m args meth c b base dA D cl Ts ty L xs ta lit ldcs cc own ini) (G : XG Ts cl tf ty) (hd : decode cc pc = .ok (raw, n)) (hok : xok Ts cl own tf nf ty ldcs ini pc raw (.dup_x1, n, x1, x2)) (hs : xstep nf L xs lit mc (.dup_x1, n, x1, x2) pc ls st h = some (.inl (pc', ls', st', h'))) (K : XK p l e R s m args below meth c Q b base ta dA D cl n0 z0 pc' ls' st' h') : XK p l e R s m args below meth c Q b base ta dA D cl n0 z0 pc ls st h := by
  obtain ⟨hx, hb, hown, hts, hK, hA, hX, hbl, hbs, hini, hTx⟩ := F
  obtain ⟨hcl, ty0, ty1, ty2, ty3, ty5, tyR⟩ := G
  simp only [xstep] at hs
  split at hs
  · split at hs
    · rename_i hc
      cases hs
      obtain ⟨rfl, rfl⟩ := hok
      intro hn hz H locs rl h1 h2 h3 h4
      exact lv_dup_x1 hx hb hd (xv_cat1 b base ta hc.1) (xv_cat1 b base ta hc.2) (K hn hz H locs rl h1 h2 h3 h4)
    · cases hs
  · cases hs
theorem xs_dup2 (F : XF p s m args meth c b base dA D cl Ts ty L xs ta lit ldcs cc own ini) (G : XG Ts cl tf ty) (hd : decode cc pc = .ok (raw, n)) (hok : xok Ts cl own tf nf ty ldcs ini pc raw (.dup2, n, x1, x2)) (hs : xstep nf L xs lit mc (.dup2, n, x1, x2) pc ls st h = some (.inl (pc', ls', st', h'))) (K : XK p l e R s m args below meth c Q b base ta dA D cl n0 z0 pc' ls' st' h') : XK p l e R s m args below meth c Q b base ta dA D cl n0 z0 pc ls st h := by
  obtain ⟨hx, hb, hown, hts, hK, hA, hX, hbl, hbs, hini, hTx⟩ := F
  obtain ⟨hcl, ty0, ty1, ty2, ty3, ty5, tyR⟩ := G
  simp only [xstep] at hs
  split at hs
  · split at hs
    · rename_i hc
      cases hs
      obtain ⟨rfl, rfl⟩ := hok
      intro hn hz H locs rl h1 h2 h3 h4
      exact lv_dup2_11 hx hb hd (xv_cat1 b base ta hc.1) (xv_cat1 b base ta hc.2) (K hn hz H locs rl h1 h2 h3 h4)
    · cases hs
  · cases hs
theorem xs_goto {t : Int} (F : XF p s m args meth c b base dA D cl Ts ty L xs ta lit ldcs cc own ini) (G : XG Ts cl tf ty) (hd : decode cc pc = .ok (raw, n)) (hok : xok Ts cl own tf nf ty ldcs ini pc raw (.goto t, n, x1, x2)) (hs : xstep nf L xs lit mc (.goto t, n, x1, x2) pc ls st h = some (.inl (pc', ls', st', h'))) (K : XK p l e R s m args below meth c Q b base ta dA D cl n0 z0 pc' ls' st' h') : XK p l e R s m args below meth c Q b base ta dA D cl n0 z0 pc ls st h := by
  obtain ⟨hx, hb, hown, hts, hK, hA, hX, hbl, hbs, hini, hTx⟩ := F
  obtain ⟨hcl, ty0, ty1, ty2, ty3, ty5, tyR⟩ := G
  cases hs
  obtain ⟨rfl, rfl, ht⟩ := hok
  intro hn hz H locs rl h1 h2 h3 h4
  exact lv_goto hx hb hd (xjump ht) (K hn hz H locs rl h1 h2 h3 h4)
theorem xs_if {cd : ClassFile.Cond} {t : Int} (F : XF p s m args meth c b base dA D cl Ts ty L xs ta lit ldcs cc own ini) (G : XG Ts cl tf ty) (hd : decode cc pc = .ok (raw, n)) (hok : xok Ts cl own tf nf ty ldcs ini pc raw (.ifCond cd t, n, x1, x2)) (hs : xstep nf L xs lit mc (.ifCond cd t, n, x1, x2) pc ls st h = some (.inl (pc', ls', st', h'))) (K : XK p l e R s m args below meth c Q b base ta dA D cl n0 z0 pc' ls' st' h') : XK p l e R s m args below meth c Q b base ta dA D cl n0 z0 pc ls st h := by
  obtain ⟨hx, hb, hown, hts, hK, hA, hX, hbl, hbs, hini, hTx⟩ := F
  obtain ⟨hcl, ty0, ty1, ty2, ty3, ty5, tyR⟩ := G
  simp only [xstep] at hs
  split at hs
  · obtain ⟨rfl, rfl, ht⟩ := hok
    intro hn hz H locs rl h1 h2 h3 h4
    cases cd with
    | eq =>
      simp only [xcmp, decide_eq_true_eq] at hs
      refine lv_if_eq hx hb hd (xjump ht) (fun q => ?_) (fun q => ?_)
      · rw [if_pos q] at hs
        cases hs
        exact K hn hz H locs rl h1 h2 h3 h4
      · rw [if_neg q] at hs
        cases hs
        exact K hn hz H locs rl h1 h2 h3 h4
    | ne =>
      simp only [xcmp, decide_eq_true_eq] at hs
      refine lv_if_ne hx hb hd (xjump ht) (fun q => ?_) (fun q => ?_)
      · rw [if_pos q] at hs
        cases hs
        exact K hn hz H locs rl h1 h2 h3 h4
      · rw [if_neg (fun z => z q)] at hs
        cases hs
        exact K hn hz H locs rl h1 h2 h3 h4
    | lt =>
      simp only [xcmp, decide_eq_true_eq] at hs
      refine lv_if_lt hx hb hd (xjump ht) (fun q => ?_) (fun q => ?_)
      · rw [if_pos q] at hs
        cases hs
        exact K hn hz H locs rl h1 h2 h3 h4
      · rw [if_neg q] at hs
        cases hs
        exact K hn hz H locs rl h1 h2 h3 h4
    | ge =>
      simp only [xcmp, decide_eq_true_eq] at hs
      refine lv_if_ge hx hb hd (xjump ht) (fun q => ?_) (fun q => ?_)
      · rw [if_pos q] at hs
        cases hs
        exact K hn hz H locs rl h1 h2 h3 h4
      · rw [if_neg q] at hs
        cases hs
        exact K hn hz H locs rl h1 h2 h3 h4
    | gt =>
      simp only [xcmp, decide_eq_true_eq] at hs
      refine lv_if_gt hx hb hd (xjump ht) (fun q => ?_) (fun q => ?_)
      · rw [if_pos q] at hs
        cases hs
        exact K hn hz H locs rl h1 h2 h3 h4
      · rw [if_neg q] at hs
        cases hs
        exact K hn hz H locs rl h1 h2 h3 h4
    | le =>
      simp only [xcmp, decide_eq_true_eq] at hs
      refine lv_if_le hx hb hd (xjump ht) (fun q => ?_) (fun q => ?_)
      · rw [if_pos q] at hs
        cases hs
        exact K hn hz H locs rl h1 h2 h3 h4
      · rw [if_neg q] at hs
        cases hs
        exact K hn hz H locs rl h1 h2 h3 h4
  · cases hs
theorem xs_icmp {cd : ClassFile.Cond} {t : Int} (F : XF p s m args meth c b base dA D cl Ts ty L xs ta lit ldcs cc own ini) (G : XG Ts cl tf ty) (hd : decode cc pc = .ok (raw, n)) (hok : xok Ts cl own tf nf ty ldcs ini pc raw (.if_icmp cd t, n, x1, x2)) (hs : xstep nf L xs lit mc (.if_icmp cd t, n, x1, x2) pc ls st h = some (.inl (pc', ls', st', h'))) (K : XK p l e R s m args below meth c Q b base ta dA D cl n0 z0 pc' ls' st' h') : XK p l e R s m args below meth c Q b base ta dA D cl n0 z0 pc ls st h := by
  obtain ⟨hx, hb, hown, hts, hK, hA, hX, hbl, hbs, hini, hTx⟩ := F
  obtain ⟨hcl, ty0, ty1, ty2, ty3, ty5, tyR⟩ := G
  simp only [xstep] at hs
  split at hs
  · obtain ⟨rfl, rfl, ht⟩ := hok
    intro hn hz H locs rl h1 h2 h3 h4
    cases cd with
    | eq =>
      simp only [xcmp, decide_eq_true_eq] at hs
      refine lv_icmp_eq hx hb hd (xjump ht) (fun q => ?_) (fun q => ?_)
      · rw [if_pos q] at hs
        cases hs
        exact K hn hz H locs rl h1 h2 h3 h4
      · rw [if_neg q] at hs
        cases hs
        exact K hn hz H locs rl h1 h2 h3 h4
    | ne =>
      simp only [xcmp, decide_eq_true_eq] at hs
      refine lv_icmp_ne hx hb hd (xjump ht) (fun q => ?_) (fun q => ?_)
      · rw [if_pos q] at hs
        cases hs
        exact K hn hz H locs rl h1 h2 h3 h4
      · rw [if_neg (fun z => z q)] at hs
        cases hs
        exact K hn hz H locs rl h1 h2 h3 h4
    | lt =>
      simp only [xcmp, decide_eq_true_eq] at hs
      refine lv_icmp_lt hx hb hd (xjump ht) (fun q => ?_) (fun q => ?_)
      · rw [if_pos q] at hs
        cases hs
        exact K hn hz H locs rl h1 h2 h3 h4
      · rw [if_neg q] at hs
        cases hs
        exact K hn hz H locs rl h1 h2 h3 h4
    | ge =>
      simp only [xcmp, decide_eq_true_eq] at hs
      refine lv_icmp_ge hx hb hd (xjump ht) (fun q => ?_) (fun q => ?_)
      · rw [if_pos q] at hs
        cases hs
        exact K hn hz H locs rl h1 h2 h3 h4
      · rw [if_neg q] at hs
        cases hs
        exact K hn hz H locs rl h1 h2 h3 h4
    | gt =>
      simp only [xcmp, decide_eq_true_eq] at hs
      refine lv_icmp_gt hx hb hd (xjump ht) (fun q => ?_) (fun q => ?_)
      · rw [if_pos q] at hs
        cases hs
        exact K hn hz H locs rl h1 h2 h3 h4
      · rw [if_neg q] at hs
        cases hs
        exact K hn hz H locs rl h1 h2 h3 h4
    | le =>
      simp only [xcmp, decide_eq_true_eq] at hs
      refine lv_icmp_le hx hb hd (xjump ht) (fun q => ?_) (fun q => ?_)
      · rw [if_pos q] at hs
        cases hs
        exact K hn hz H locs rl h1 h2 h3 h4
      · rw [if_neg q] at hs
        cases hs
        exact K hn hz H locs rl h1 h2 h3 h4
  · cases hs
theorem xs_table {d lo hi : Int} {offs : Array Int} (F : XF p s m args meth c b base dA D cl Ts ty L xs ta lit ldcs cc own ini) (G : XG Ts cl tf ty) (hd : decode cc pc = .ok (raw, n)) (hok : xok Ts cl own tf nf ty ldcs ini pc raw (.tableswitch d lo hi offs, n, x1, x2)) (hs : xstep nf L xs lit mc (.tableswitch d lo hi offs, n, x1, x2) pc ls st h = some (.inl (pc', ls', st', h'))) (K : XK p l e R s m args below meth c Q b base ta dA D cl n0 z0 pc' ls' st' h') : XK p l e R s m args below meth c Q b base ta dA D cl n0 z0 pc ls st h := by
  obtain ⟨hx, hb, hown, hts, hK, hA, hX, hbl, hbs, hini, hTx⟩ := F
  obtain ⟨hcl, ty0, ty1, ty2, ty3, ty5, tyR⟩ := G
  simp only [xstep] at hs
  split at hs
  · obtain ⟨rfl, hd0, ho⟩ := hok
    intro hn hz H locs rl h1 h2 h3 h4
    split at hs
    · rename_i hr
      cases hs
      exact lv_tableOut hx hb hd hr (by omega) (K hn hz H locs rl h1 h2 h3 h4)
    · rename_i hr
      split at hs
      · rename_i q hq
        cases hs
        have hq0 := ho q (by have := Array.mem_of_getElem? hq; simpa using this)
        exact lv_tableIn hx hb hd (fun z => hr (Or.inl z)) (fun z => hr (Or.inr z)) hq (by omega) (K hn hz H locs rl h1 h2 h3 h4)
      · cases hs
  · cases hs
theorem xs_lookup {d : Int} {ps : Array (Int × Int)} (F : XF p s m args meth c b base dA D cl Ts ty L xs ta lit ldcs cc own ini) (G : XG Ts cl tf ty) (hd : decode cc pc = .ok (raw, n)) (hok : xok Ts cl own tf nf ty ldcs ini pc raw (.lookupswitch d ps, n, x1, x2)) (hs : xstep nf L xs lit mc (.lookupswitch d ps, n, x1, x2) pc ls st h = some (.inl (pc', ls', st', h'))) (K : XK p l e R s m args below meth c Q b base ta dA D cl n0 z0 pc' ls' st' h') : XK p l e R s m args below meth c Q b base ta dA D cl n0 z0 pc ls st h := by
  obtain ⟨hx, hb, hown, hts, hK, hA, hX, hbl, hbs, hini, hTx⟩ := F
  obtain ⟨hcl, ty0, ty1, ty2, ty3, ty5, tyR⟩ := G
  simp only [xstep] at hs
  split at hs
  · obtain ⟨rfl, hp, hd0, ho⟩ := hok
    rename_i x st0
    cases hs
    have key : ∀ (qs : List (Int × Int)), (∀ q ∈ qs, 0 ≤ (pc : Int) + q.2) → 0 ≤ (pc : Int) + Op.lookupswitch.offset qs d x.toInt := by
      intro qs
      induction qs with
      | nil => intro _; exact hd0
      | cons q qs ih =>
        intro hq
        obtain ⟨q1, q2⟩ := q
        rw [Op.lookupswitch.offset_cons]
        split
        · exact hq _ List.mem_cons_self
        · exact ih (fun r hr => hq r (List.mem_cons_of_mem _ hr))
    have k0 := key ps.toList ho
    intro hn hz H locs rl h1 h2 h3 h4
    exact lv_lookup hx hb hd hp rfl (by omega) (K hn hz H locs rl h1 h2 h3 h4)
  · cases hs
theorem xs_getf {k : Nat} (F : XF p s m args meth c b base dA D cl Ts ty L xs ta lit ldcs cc own ini) (G : XG Ts cl tf ty) (hd : decode cc pc = .ok (raw, n)) (hok : xok Ts cl own tf nf ty ldcs ini pc raw (.getfield k, n, x1, x2)) (hs : xstep nf L xs lit mc (.getfield k, n, x1, x2) pc ls st h = some (.inl (pc', ls', st', h'))) (K : XK p l e R s m args below meth c Q b base ta dA D cl n0 z0 pc' ls' st' h') : XK p l e R s m args below meth c Q b base ta dA D cl n0 z0 pc ls st h := by
  obtain ⟨hx, hb, hown, hts, hK, hA, hX, hbl, hbs, hini, hTx⟩ := F
  obtain ⟨hcl, ty0, ty1, ty2, ty3, ty5, tyR⟩ := G
  simp only [xstep] at hs
  split at hs
  · split at hs
    · rename_i a st0 _ c0 fs hc
      split at hs
      · rename_i hci
        split at hs
        · rename_i v hv
          cases hs
          subst hci
          obtain ⟨rfl, rfl, r, hr, hk, hw⟩ := hok
          have hr : cl[c0]? = some r := by simpa using hr
          intro hn hz H locs rl h1 h2 h3 h4
          exact va_get hx hb hts (hcl _ _ hr).1 hown hK h3 a (xws_get hc) hr k hk (hts _ hw) (fun _ q => q) (by rw [List.getElem?_map, hv]; rfl) hd (K hn hz H locs rl h1 h2 h3 h4)
        · cases hs
      · cases hs
    · cases hs
  · cases hs
theorem xs_iald (F : XF p s m args meth c b base dA D cl Ts ty L xs ta lit ldcs cc own ini) (G : XG Ts cl tf ty) (hd : decode cc pc = .ok (raw, n)) (hok : xok Ts cl own tf nf ty ldcs ini pc raw (.iaload, n, x1, x2)) (hs : xstep nf L xs lit mc (.iaload, n, x1, x2) pc ls st h = some (.inl (pc', ls', st', h'))) (K : XK p l e R s m args below meth c Q b base ta dA D cl n0 z0 pc' ls' st' h') : XK p l e R s m args below meth c Q b base ta dA D cl n0 z0 pc ls st h := by
  obtain ⟨hx, hb, hown, hts, hK, hA, hX, hbl, hbs, hini, hTx⟩ := F
  obtain ⟨hcl, ty0, ty1, ty2, ty3, ty5, tyR⟩ := G
  simp only [xstep] at hs
  obtain ⟨rfl, hraw⟩ := hok
  split at hs
  · split at hs
    · rename_i i a st0 _ t' n1 f hc
      split at hs
      · rename_i hci
        obtain ⟨rfl, hin⟩ := hci
        cases hs
        intro hn hz H locs rl h1 h2 h3 h4
        have K2 := K hn hz H locs rl h1 h2 h3 h4
        have hcell : H[base + a]? = some (arrV (dA t') n1 (fun j => .int (f j))) := h3 a _ (xws_get hc)
        have harr := (hA t').1 n1 (fun j => .int (f j))
        have hi1 : ¬ (i < 0 ∨ (arrV (dA t') n1 (fun j => .int (f j))).slots.size ≤ i.toNatClampNeg) := by rw [arrV_size]; exact xin_of hin
        have hv := arrV_read (dA t') (fun j => Value.int (f j)) (xin_lt hin)
        rcases hraw with ⟨rfl, rfl⟩ | ⟨rfl, rfl⟩ | ⟨rfl, rfl⟩ | ⟨rfl, rfl⟩
        · rw [ty0] at harr
          exact W.iald hx hb hcell harr (fun q => by cases q) hi1 hv rfl rfl hd K2
        · rw [ty3] at harr
          exact W.cald hx hb hcell harr (fun q => by cases q) hi1 hv rfl rfl hd K2
        · rw [ty1] at harr
          exact W.zald hx hb hcell harr (fun q => by cases q) hi1 hv rfl rfl hd K2
        · rw [ty2] at harr
          exact W.bald hx hb hcell harr (fun q => by cases q) hi1 hv rfl rfl hd K2
      · cases hs
    · cases hs
  · split at hs
    · rename_i hci
      obtain ⟨rfl, hin⟩ := hci
      cases hs
      intro hn hz H locs rl h1 h2 h3 h4
      have K2 := K hn hz H locs rl h1 h2 h3 h4
      rcases hraw with ⟨-, rfl⟩ | ⟨q, -⟩ | ⟨q, -⟩ | ⟨q, -⟩
      · exact va_sld hx hb hX (Nat.lt_of_lt_of_le hbl hbs) (Nat.not_le.mpr hbl) h4 (xin_of hin) hd K2
      · cases q
      · cases q
      · cases q
    · cases hs
  · cases hs
theorem xs_lald (F : XF p s m args meth c b base dA D cl Ts ty L xs ta lit ldcs cc own ini) (G : XG Ts cl tf ty) (hd : decode cc pc = .ok (raw, n)) (hok : xok Ts cl own tf nf ty ldcs ini pc raw (.laload, n, x1, x2)) (hs : xstep nf L xs lit mc (.laload, n, x1, x2) pc ls st h = some (.inl (pc', ls', st', h'))) (K : XK p l e R s m args below meth c Q b base ta dA D cl n0 z0 pc' ls' st' h') : XK p l e R s m args below meth c Q b base ta dA D cl n0 z0 pc ls st h := by
  obtain ⟨hx, hb, hown, hts, hK, hA, hX, hbl, hbs, hini, hTx⟩ := F
  obtain ⟨hcl, ty0, ty1, ty2, ty3, ty5, tyR⟩ := G
  simp only [xstep] at hs
  obtain ⟨rfl, rfl⟩ := hok
  split at hs
  · split at hs
    · rename_i i a st0 _ t' n1 f hc
      split at hs
      · rename_i hci
        obtain ⟨rfl, hin⟩ := hci
        cases hs
        intro hn hz H locs rl h1 h2 h3 h4
        have hcell : H[base + a]? = some (arrV (dA 5) n1 (fun j => .long (f j))) := h3 a _ (xws_get hc)
        have harr := (hA 5).1 n1 (fun j => .long (f j))
        rw [ty5] at harr
        exact W.lald hx hb hcell harr (fun q => by cases q) (by rw [arrV_size]; exact xin_of hin) (arrV_read (dA 5) (fun j => Value.long (f j)) (xin_lt hin)) rfl rfl hd (K hn hz H locs rl h1 h2 h3 h4)
      · cases hs
    · cases hs
  · cases hs
theorem xs_aald (F : XF p s m args meth c b base dA D cl Ts ty L xs ta lit ldcs cc own ini) (G : XG Ts cl tf ty) (hd : decode cc pc = .ok (raw, n)) (hok : xok Ts cl own tf nf ty ldcs ini pc raw (.aaload, n, x1, x2)) (hs : xstep nf L xs lit mc (.aaload, n, x1, x2) pc ls st h = some (.inl (pc', ls', st', h'))) (K : XK p l e R s m args below meth c Q b base ta dA D cl n0 z0 pc' ls' st' h') : XK p l e R s m args below meth c Q b base ta dA D cl n0 z0 pc ls st h := by
  obtain ⟨hx, hb, hown, hts, hK, hA, hX, hbl, hbs, hini, hTx⟩ := F
  obtain ⟨hcl, ty0, ty1, ty2, ty3, ty5, tyR⟩ := G
  simp only [xstep] at hs
  obtain ⟨rfl, rfl⟩ := hok
  split at hs
  · split at hs
    · rename_i i a st0 _ t' n1 f hc
      split at hs
      · rename_i hci
        obtain ⟨h6, h12, hin⟩ := hci
        cases hs
        intro hn hz H locs rl h1 h2 h3 h4
        have hcell : H[base + a]? = some (arrV (dA t') n1 (fun j => va_rf ((f j).map (base + ·)))) := h3 a _ (xws_get hc)
        have harr := (hA t').1 n1 (fun j => va_rf ((f j).map (base + ·)))
        have K2 := K hn hz H locs rl h1 h2 h3 h4
        have e : xv b base ta (va_rf (f i.toNatClampNeg)) = va_rf ((f i.toNatClampNeg).map (base + ·)) := by
          cases f i.toNatClampNeg <;> rfl
        rw [List.map_cons, e] at K2
        exact W.aald hx hb hcell harr (tyR _ h6 h12) (fun q => by cases q) (by rw [arrV_size]; exact xin_of hin) (arrV_read (dA t') (fun j => va_rf ((f j).map (base + ·))) (xin_lt hin)) rfl rfl hd K2
      · cases hs
    · cases hs
  · cases hs
theorem xs_alen (F : XF p s m args meth c b base dA D cl Ts ty L xs ta lit ldcs cc own ini) (G : XG Ts cl tf ty) (hd : decode cc pc = .ok (raw, n)) (hok : xok Ts cl own tf nf ty ldcs ini pc raw (.arraylength, n, x1, x2)) (hs : xstep nf L xs lit mc (.arraylength, n, x1, x2) pc ls st h = some (.inl (pc', ls', st', h'))) (K : XK p l e R s m args below meth c Q b base ta dA D cl n0 z0 pc' ls' st' h') : XK p l e R s m args below meth c Q b base ta dA D cl n0 z0 pc ls st h := by
  obtain ⟨hx, hb, hown, hts, hK, hA, hX, hbl, hbs, hini, hTx⟩ := F
  obtain ⟨hcl, ty0, ty1, ty2, ty3, ty5, tyR⟩ := G
  simp only [xstep] at hs
  obtain ⟨rfl, rfl⟩ := hok
  split at hs
  · split at hs
    · rename_i a st0 _ t' n1 f hc
      cases hs
      intro hn hz H locs rl h1 h2 h3 h4
      have K2 := K hn hz H locs rl h1 h2 h3 h4
      have h5 := h3 a _ (xws_get hc)
      obtain f | f | f | f | f := f
      · exact W.alen (n := Int32.ofNat n1) hx hb h5 ((hA t').1 n1 (fun j => .int (f j))) (by show (arrV _ _ _).slots.size.toInt32 = _; rw [arrV_size] <;> rfl) rfl rfl hd K2
      · exact W.alen (n := Int32.ofNat n1) hx hb h5 ((hA t').1 n1 (fun j => .long (f j))) (by show (arrV _ _ _).slots.size.toInt32 = _; rw [arrV_size] <;> rfl) rfl rfl hd K2
      · exact W.alen (n := Int32.ofNat n1) hx hb h5 ((hA t').1 n1 (fun j => .float (f j))) (by show (arrV _ _ _).slots.size.toInt32 = _; rw [arrV_size] <;> rfl) rfl rfl hd K2
      · exact W.alen (n := Int32.ofNat n1) hx hb h5 ((hA t').1 n1 (fun j => .double (f j))) (by show (arrV _ _ _).slots.size.toInt32 = _; rw [arrV_size] <;> rfl) rfl rfl hd K2
      · exact W.alen (n := Int32.ofNat n1) hx hb h5 ((hA t').1 n1 (fun j => va_rf ((f j).map (base + ·)))) (by show (arrV _ _ _).slots.size.toInt32 = _; rw [arrV_size] <;> rfl) rfl rfl hd K2
    · cases hs
  · cases hs
    intro hn hz H locs rl h1 h2 h3 h4
    exact va_slen hx hb hX (Nat.lt_of_lt_of_le hbl hbs) (Nat.not_le.mpr hbl) h4 hd (K hn hz H locs rl h1 h2 h3 h4)
  · split at hs
    · rename_i j st0 hj
      cases hs
      intro hn hz H locs rl h1 h2 h3 h4
      obtain ⟨i, rfl⟩ : ∃ i, j = 2 * i + 1 := ⟨j / 2, by omega⟩
      have hi : (2 * i + 1) / 2 = i := by omega
      rw [hi] at hj K
      obtain ⟨cell, t1, t2, t3, t4, t5, t6, t7⟩ := ((hTx.1.1 i hj.2).2.2.2).kept h4.2.1
      have e1 : (lit.map List.length).getD i 0 = (lit.getD i []).length := by
        rw [List.getD_eq_getElem?_getD, List.getD_eq_getElem?_getD, List.getElem?_map]
        cases lit[i]? <;> rfl
      rw [e1] at t5
      exact W.alen hx hb t1 t2 t5 rfl rfl hd (K hn hz H locs rl h1 h2 h3 h4)
    · cases hs
  · cases hs
theorem xs_ldc {i : Nat} (F : XF p s m args meth c b base dA D cl Ts ty L xs ta lit ldcs cc own ini) (G : XG Ts cl tf ty) (hd : decode cc pc = .ok (raw, n)) (hok : xok Ts cl own tf nf ty ldcs ini pc raw (.ldc i, n, x1, x2)) (hs : xstep nf L xs lit mc (.ldc i, n, x1, x2) pc ls st h = some (.inl (pc', ls', st', h'))) (K : XK p l e R s m args below meth c Q b base ta dA D cl n0 z0 pc' ls' st' h') : XK p l e R s m args below meth c Q b base ta dA D cl n0 z0 pc ls st h := by
  obtain ⟨hx, hb, hown, hts, hK, hA, hX, hbl, hbs, hini, hTx⟩ := F
  obtain ⟨hcl, ty0, ty1, ty2, ty3, ty5, tyR⟩ := G
  simp only [xstep] at hs
  obtain ⟨rfl, rfl, q, hq, q1, q2, q3⟩ := hok
  split at hs
  · cases hs
    intro hn hz H locs rl h1 h2 h3 h4
    have hZ := hTx.2.1 q hq
    rw [q1, q2, q3] at hZ
    exact va_ldcS hx hb hown hZ hd (K hn hz H locs rl h1 h2 h3 h4)
  · cases hs
theorem xs_gets {i : Nat} (F : XF p s m args meth c b base dA D cl Ts ty L xs ta lit ldcs cc own ini) (G : XG Ts cl tf ty) (hd : decode cc pc = .ok (raw, n)) (hok : xok Ts cl own tf nf ty ldcs ini pc raw (.getstatic i, n, x1, x2)) (hs : xstep nf L xs lit mc (.getstatic i, n, x1, x2) pc ls st h = some (.inl (pc', ls', st', h'))) (K : XK p l e R s m args below meth c Q b base ta dA D cl n0 z0 pc' ls' st' h') : XK p l e R s m args below meth c Q b base ta dA D cl n0 z0 pc ls st h := by
  obtain ⟨hx, hb, hown, hts, hK, hA, hX, hbl, hbs, hini, hTx⟩ := F
  obtain ⟨hcl, ty0, ty1, ty2, ty3, ty5, tyR⟩ := G
  simp only [xstep] at hs
  obtain ⟨rfl, rfl, hw⟩ := hok
  rcases hw with ⟨rfl, hw⟩ | ⟨rfl, hw⟩
  · rw [if_pos rfl] at hs
    cases hs
    intro hn hz H locs rl h1 h2 h3 h4
    exact va_gets hx hb hTx.2.2.1 h4 hown (hts _ hw) (fun _ q => q) hd (K hn hz H locs rl h1 h2 h3 h4)
  · rw [if_neg (by decide)] at hs
    cases hs
    intro hn hz H locs rl h1 h2 h3 h4
    exact va_gets hx hb hTx.2.2.2 h4 hown (hts _ hw) (fun _ q => q) hd (K hn hz H locs rl h1 h2 h3 h4)
theorem xs_tval (F : XF p s m args meth c b base dA D cl Ts ty L xs ta lit ldcs cc own ini) (G : XG Ts cl tf ty) (hd : decode cc pc = .ok (raw, n)) (hok : xok Ts cl own tf nf ty ldcs ini pc raw (.saload, n, x1, x2)) (hs : xstep nf L xs lit mc (.saload, n, x1, x2) pc ls st h = some (.inl (pc', ls', st', h'))) (K : XK p l e R s m args below meth c Q b base ta dA D cl n0 z0 pc' ls' st' h') : XK p l e R s m args below meth c Q b base ta dA D cl n0 z0 pc ls st h := by
  obtain ⟨hx, hb, hown, hts, hK, hA, hX, hbl, hbs, hini, hTx⟩ := F
  obtain ⟨hcl, ty0, ty1, ty2, ty3, ty5, tyR⟩ := G
  simp only [xstep] at hs
  obtain ⟨rfl, rfl, hw⟩ := hok
  split at hs
  · split at hs
    · rename_i j st0 hj
      cases hs
      intro hn hz H locs rl h1 h2 h3 h4
      obtain ⟨i, rfl⟩ : ∃ i, j = 2 * i := ⟨j / 2, by omega⟩
      have hi : 2 * i / 2 = i := by omega
      rw [hi] at hj
      exact vk_getf hx hb (hTx.1.1 i hj.2).2.2.1 h4 hown (hts _ hw) (fun _ q => q) hd (K hn hz H locs rl h1 h2 h3 h4)
    · cases hs
  · cases hs
theorem xs_tcod (F : XF p s m args meth c b base dA D cl Ts ty L xs ta lit ldcs cc own ini) (G : XG Ts cl tf ty) (hd : decode cc pc = .ok (raw, n)) (hok : xok Ts cl own tf nf ty ldcs ini pc raw (.sastore, n, x1, x2)) (hs : xstep nf L xs lit mc (.sastore, n, x1, x2) pc ls st h = some (.inl (pc', ls', st', h'))) (K : XK p l e R s m args below meth c Q b base ta dA D cl n0 z0 pc' ls' st' h') : XK p l e R s m args below meth c Q b base ta dA D cl n0 z0 pc ls st h := by
  obtain ⟨hx, hb, hown, hts, hK, hA, hX, hbl, hbs, hini, hTx⟩ := F
  obtain ⟨hcl, ty0, ty1, ty2, ty3, ty5, tyR⟩ := G
  simp only [xstep] at hs
  obtain ⟨rfl, rfl, hw⟩ := hok
  split at hs
  · split at hs
    · rename_i j st0 hj
      cases hs
      intro hn hz H locs rl h1 h2 h3 h4
      obtain ⟨i, rfl⟩ : ∃ i, j = 2 * i := ⟨j / 2, by omega⟩
      have hi : 2 * i / 2 = i := by omega
      rw [hi] at hj
      exact vk_getf hx hb (hTx.1.1 i hj.2).2.1 h4 hown (hts _ hw) (fun _ q => q) hd (K hn hz H locs rl h1 h2 h3 h4)
    · cases hs
  · cases hs
theorem xs_tbyt (F : XF p s m args meth c b base dA D cl Ts ty L xs ta lit ldcs cc own ini) (G : XG Ts cl tf ty) (hd : decode cc pc = .ok (raw, n)) (hok : xok Ts cl own tf nf ty ldcs ini pc raw (.baload, n, x1, x2)) (hs : xstep nf L xs lit mc (.baload, n, x1, x2) pc ls st h = some (.inl (pc', ls', st', h'))) (K : XK p l e R s m args below meth c Q b base ta dA D cl n0 z0 pc' ls' st' h') : XK p l e R s m args below meth c Q b base ta dA D cl n0 z0 pc ls st h := by
  obtain ⟨hx, hb, hown, hts, hK, hA, hX, hbl, hbs, hini, hTx⟩ := F
  obtain ⟨hcl, ty0, ty1, ty2, ty3, ty5, tyR⟩ := G
  simp only [xstep] at hs
  obtain ⟨rfl, rfl⟩ := hok
  split at hs
  · split at hs
    · rename_i i9 j st0 hj
      cases hs
      intro hn hz H locs rl h1 h2 h3 h4
      obtain ⟨i, rfl⟩ : ∃ i, j = 2 * i + 1 := ⟨j / 2, by omega⟩
      have hi : (2 * i + 1) / 2 = i := by omega
      rw [hi] at hj K
      obtain ⟨cell, t1, t2, t3, t4, t5, t6, t7⟩ := ((hTx.1.1 i hj.2.1).2.2.2).kept h4.2.1
      have e1 : (lit.map List.length).getD i 0 = (lit.getD i []).length := by
        rw [List.getD_eq_getElem?_getD, List.getD_eq_getElem?_getD, List.getElem?_map]
        cases lit[i]? <;> rfl
      rw [e1] at t4 t6
      have h9 := xin_lt hj.2.2
      have h8 := xin_of hj.2.2
      exact W.bald hx hb t1 t2 t3 (fun z => z.elim (fun q => h8 (Or.inl q)) (fun q => absurd (Nat.lt_of_lt_of_le h9 t4) (Nat.not_lt.mpr q))) (t6 _ h9) rfl rfl hd (K hn hz H locs rl h1 h2 h3 h4)
    · cases hs
  · cases hs
theorem xs_oinit {k : Nat} (hsz : ls.length = c.maxLocals) (hfr : 1 ≤ R.frames) (hlo : 120 ≤ R.locals) (F : XF p s m args meth c b base dA D cl Ts ty L xs ta lit ldcs cc own ini) (G : XG Ts cl tf ty) (hd : decode cc pc = .ok (raw, n)) (hok : xok Ts cl own tf nf ty ldcs ini pc raw (.invokespecial k, n, x1, x2)) (hs : xstep nf L xs lit mc (.invokespecial k, n, x1, x2) pc ls st h = some (.inl (pc', ls', st', h'))) (K : XK p l e R s m args below meth c Q b base ta dA D cl n0 z0 pc' ls' st' h') : XK p l e R s m args below meth c Q b base ta dA D cl n0 z0 pc ls st h := by
  obtain ⟨hx, hb, hown, hts, hK, hA, hX, hbl, hbs, hini, hTx⟩ := F
  obtain ⟨hcl, ty0, ty1, ty2, ty3, ty5, tyR⟩ := G
  simp only [xstep] at hs
  obtain ⟨rfl, rfl, hw1, hw2, hw3⟩ := hok
  split at hs
  · split at hs
    rename_i hw8
    cases hs
    intro hn hz H locs rl h1 h2 h3 h4
    refine W.objInit hx hb hown (hts _ hw1) (hts _ hw2) (hts _ hw3) rfl (by show rl.size = _; rw [h1.1, hsz]) rfl hd hfr ?_ (K hn hz H locs rl h1 h2 h3 h4)
    show 2 * 0 + _ + 12 ≤ R.locals
    have e9 : ((st'.map (xv b base ta)).map fun v => v.category).sum = xw st' := by
      unfold xw
      rw [List.map_map]
      congr 1
      apply List.map_congr_left
      intro v _
      exact xv_cat' b base ta v
    omega
    cases hs
  · cases hs
end XPLAIN
end
section
/-! THE INSTRUCTIONS THAT CHANGE THE HEAP -/
section XHEAP
variable {p : Program} {l : Launch} {e : Env} {R : Room} {s : State} {m : MethodId} {args : Array Value} {below : List Frame} {meth : Method} {c : Code} {Q : State → Prop}
variable {b base : Nat} {ta : (Nat → Nat) × Option Nat} {dA : Nat → ClassId} {D : va_G} {cl : List vw_C} {n0 z0 : Nat} {cc : ByteArray} {pc pc' n : Nat} {ls ls' : xL} {st st' : List Value} {h h' : xH} {raw : Instr} {x1 x2 : Nat}
variable {Ts : List Cond} {ty : Nat → FieldType} {own : String} {tf : Nat → Nat → Nat} {ini : Bool}
variable {nf : Nat → List Value} {L : Nat} {xs : Nat → Int32} {mc : Nat → Option Nat} {lit : List (List Int32)} {ldcs : List (String × Nat × String × Nat)}
/-- a value that fits a field in the pure machine does in the real one -/
theorem xfit_of {t : FieldType} {v : Value} (h : xfit (xtc t) v = true) : narrow t (xv b base ta v) = xv b base ta v ∧ fits t (xv b base ta v) = true := by
  cases v with
  | int x =>
    cases t <;> simp [xfit, xtc] at h
    · exact h
    · exact h
    · exact ⟨rfl, rfl⟩
    · rcases h with rfl | rfl <;> exact ⟨rfl, rfl⟩
  | long x => cases t <;> simp [xfit, xtc] at h; exact ⟨rfl, rfl⟩
  | null => cases t <;> simp [xfit, xtc] at h <;> exact ⟨rfl, rfl⟩
  | ref k => cases t <;> simp [xfit, xtc] at h <;> exact ⟨rfl, rfl⟩
  | _ => cases h
theorem xat_i {t n a : Nat} {f : Nat → Int32} {H1 : Heap} (h : H1[base + a]? = some (arrV (dA t) n (fun j => .int (f j)))) : va_at D cl (base + a, xtr b base ta dA (.inl (t, n, .inl f))) H1 := h
theorem xat_l {t n a : Nat} {f : Nat → Int64} {H1 : Heap} (h : H1[base + a]? = some (arrV (dA t) n (fun j => .long (f j)))) : va_at D cl (base + a, xtr b base ta dA (.inl (t, n, .inr (.inl f)))) H1 := h
theorem xat_q {t n a : Nat} {f : Nat → Option Nat} {H1 : Heap} (h : H1[base + a]? = some (arrV (dA t) n (fun j => va_rf ((f j).map (base + ·))))) : va_at D cl (base + a, xtr b base ta dA (.inl (t, n, .inr (.inr (.inr (.inr f)))))) H1 := h
/-- behind a change of one cell that keeps its size -/
theorem xk_set {a : Nat} {c0 c1 : xC} {H1 : Heap} {locs1 : List Loc} {rl : Array Slot} (hc : h[a]? = some c0) (he : xcz c1 = xcz c0) (K : XK p l e R s m args below meth c Q b base ta dA D cl n0 z0 pc' ls st (h.set a c1)) (hn : n0 ≤ h.length) (hz : z0 ≤ xsz h) (h1 : xls b base ta ls rl) (h2 : H1.size = base + h.length) (h3 : va_P D cl ((xws b base ta dA h).set a (base + a, xtr b base ta dA c1)) H1) (h4 : va_S (fun q => base ≤ q) s.heap H1 locs1) : W p l e R s m args below meth c H1 locs1 (h.length - n0) (xsz h - z0) Q (F0 m pc' rl (st.map (xv b base ta))) := by
  have K2 := K (by rw [List.length_set]; exact hn) (by rw [xsz_set hc he]; exact hz) H1 locs1 rl h1 (by rw [List.length_set]; exact h2) (by rw [xws_set]; exact h3) h4
  rw [List.length_set, xsz_set hc he] at K2
  exact K2
/-- behind a new cell -/
theorem xk_new {c1 : xC} {H H1 : Heap} {locs1 : List Loc} {rl : Array Slot} {N : Nat} (K : XK p l e R s m args below meth c Q b base ta dA D cl n0 z0 pc' ls (.ref h.length :: st) (h ++ [c1])) (hN : xcz c1 = N) (hn : n0 ≤ h.length) (hz : z0 ≤ xsz h) (h1 : xls b base ta ls rl) (h2 : H.size = base + h.length) (h3 : va_P D cl (xws b base ta dA h) H) (e1 : va_at D cl (base + h.length, xtr b base ta dA c1) H1) (z1 : H1.size = H.size + 1) (o1 : ∀ q, q < H.size → H1[q]? = H[q]?) (h4 : va_S (fun q => base ≤ q) s.heap H locs1) : W p l e R s m args below meth c H1 locs1 (h.length - n0 + 1) (xsz h - z0 + N) Q (F0 m pc' rl (.ref H.size :: st.map (xv b base ta))) := by
  have hP : va_P D cl (xws b base ta dA (h ++ [c1])) H1 := by
    rw [xws_app]
    refine (h3.kept (fun k q hk => o1 q.1 ((h3 k q hk).lt))).app (fun k q hk => ?_)
    have hz : k < 1 := (List.getElem?_eq_some_iff.mp hk).1
    rw [show k = 0 by omega] at hk
    cases hk
    exact e1
  have K2 := K (by simp; omega) (by rw [xsz_app]; omega) H1 locs1 rl h1 (by rw [z1, h2]; simp; omega) hP ⟨by rw [z1]; exact Nat.le_succ_of_le h4.1, fun q hq hA => (o1 q (Nat.lt_of_lt_of_le hq h4.1)).trans (h4.2.1 q hq hA), h4.2.2⟩
  rw [xsz_app, hN] at K2
  have e2 : (h ++ [c1]).length - n0 = h.length - n0 + 1 := by simp; omega
  have e3 : xsz h + N - z0 = xsz h - z0 + N := by omega
  rw [e2, e3] at K2
  rw [h2]
  exact K2
theorem xs_putf {k : Nat} (F : XF p s m args meth c b base dA D cl Ts ty L xs ta lit ldcs cc own ini) (G : XG Ts cl tf ty) (hd : decode cc pc = .ok (raw, n)) (hok : xok Ts cl own tf nf ty ldcs ini pc raw (.putfield k, n, x1, x2)) (hs : xstep nf L xs lit mc (.putfield k, n, x1, x2) pc ls st h = some (.inl (pc', ls', st', h'))) (hR : h'.length - n0 ≤ R.cells ∧ xsz h' - z0 ≤ R.slots) (K : XK p l e R s m args below meth c Q b base ta dA D cl n0 z0 pc' ls' st' h') : XK p l e R s m args below meth c Q b base ta dA D cl n0 z0 pc ls st h := by
  obtain ⟨hx, hb, hown, hts, hK, hA, hX, hbl, hbs, hini, hTx⟩ := F
  obtain ⟨hcl, ty0, ty1, ty2, ty3, ty5, tyR⟩ := G
  simp only [xstep] at hs
  split at hs
  · split at hs
    · rename_i v a st0 _ c0 fs hc
      split at hs
      · rename_i hci
        obtain ⟨hci, hkl, hfit⟩ := hci
        cases hs
        subst hci
        obtain ⟨rfl, ht, ix, hix, r, hr, hk, hw, hfin⟩ := hok
        have hr : cl[c0]? = some r := by simpa using hr
        have hraw : raw = .putfield ix := by
          split at hix
          · rw [List.mem_singleton.mp hix]
          · cases hix
        subst hraw
        obtain ⟨hin, ⟨ty0', hty⟩, hnm⟩ := hcl _ _ hr
        obtain ⟨C, T, N⟩ := r
        rw [ht, ← (hty k hk).2] at hfit
        obtain ⟨hna, hfi⟩ := xfit_of (b := b) (base := base) (ta := ta) hfit
        intro hn hz H locs rl h1 h2 h3 h4
        have he := xws_get (b := b) (base := base) (ta := ta) (dA := dA) hc
        have hap := va_apart (own := own) hts hin ty0' (fun k hk => (hty k hk).1) hnm hK hr
        obtain ⟨r, g1, cell, q1, q2, q3, q4⟩ := h3 a _ he
        have e0 : r = (C, T, N) := Option.some.inj (g1.symm.trans hr)
        subst e0
        obtain ⟨hS, hfc, kC, hkC, hkind⟩ := hK.1 c0 _ hr
        obtain ⟨cf, kf, fi, f, hi, hsl⟩ := hS k hk
        have hlay := hts _ (hin _ (u_in_lay hk))
        unfold u_lay at hlay
        have hst := (u_facts hfc hkC (u_lays hts hin hk) hi).1
        have fin : ∀ (H' : Heap), H'[base + a]? = some (cell.setSlot (D.2 c0 k) (xv b base ta v)) → H'.size = H.size → (∀ q, q ≠ base + a → H'[q]? = H[q]?) → W p l e R s m args below meth c H' (locs ++ [⟨base + a, D.2 c0 k⟩]) (h.length - n0) (xsz h - z0) Q (F0 m (pc + 3) rl (st'.map (xv b base ta))) := by
          intro H' e1 e2 e3
          refine xk_set hc ?_ K hn hz h1 (e2.trans h2) ?_ (h4.put e2 e3 (Nat.le_add_right _ _))
          · simp [xcz]
          · have hl : k < (fs.map (xv b base ta)).length := by rw [List.length_map]; exact hkl
            have := h3.set (xws_D h) he (e := .inr (c0, (fs.map (xv b base ta)).set k (xv b base ta v))) ⟨_, hr, t_OB.to (V := updV (vp_V (fs.map (xv b base ta))) k (xv b base ta v)) ⟨_, e1, q2, q3, t_set q4 hap hk _⟩ (fun j _ => vp_updV_set hl _ j)⟩ e3
            rw [← List.map_set] at this
            exact this
        rcases hfin with hf | ⟨hf, hi9, hdecl⟩
        · rw [if_neg (by rw [hf]; decide)] at hlay
          have h6 := u_store hfc hkC hkind hlay hi (hty k hk).1 hna hfi
          refine W.putK hx hb (f := f) ⟨hown, hts _ hw, ⟨_, _, _, hi⟩, hst⟩ (by rw [q2]; exact h6) q1 q3 (by rw [hsl]; exact k2_hasslot (q4 k hk)) rfl rfl hd fun H' e1 e2 e3 => ?_
          rw [hsl] at e1 ⊢
          exact fin H' e1 e2 e3
        · rw [if_pos hf] at hlay
          have hcf : m.cls = cf := by
            obtain ⟨_, _, c', _, _, _, -, -, hf', -, -, -, hown2, -⟩ := Cond.laysFinal_spec hlay
            have e1 : c' = cf := by have := hi.symm.trans hf'; simp at this; exact this.1.symm
            rw [hdecl] at hown2
            rw [← e1]; exact Option.some.inj (hown.symm.trans hown2)
          have h6 := u_fits hfc hkC hkind (Or.inr hlay) hi (hty k hk).1 hna hfi
          refine W.putFinK hx hb hown (hts _ hw) hi hst hcf (hini hi9) (by rw [q2]; exact h6) q1 q3 (by rw [hsl]; exact k2_hasslot (q4 k hk)) rfl rfl hd fun H' e1 e2 e3 => ?_
          rw [hsl] at e1 ⊢
          exact fin H' e1 e2 e3
      · cases hs
    · cases hs
  · cases hs
theorem xs_iast (F : XF p s m args meth c b base dA D cl Ts ty L xs ta lit ldcs cc own ini) (G : XG Ts cl tf ty) (hd : decode cc pc = .ok (raw, n)) (hok : xok Ts cl own tf nf ty ldcs ini pc raw (.iastore, n, x1, x2)) (hs : xstep nf L xs lit mc (.iastore, n, x1, x2) pc ls st h = some (.inl (pc', ls', st', h'))) (hR : h'.length - n0 ≤ R.cells ∧ xsz h' - z0 ≤ R.slots) (K : XK p l e R s m args below meth c Q b base ta dA D cl n0 z0 pc' ls' st' h') : XK p l e R s m args below meth c Q b base ta dA D cl n0 z0 pc ls st h := by
  obtain ⟨hx, hb, hown, hts, hK, hA, hX, hbl, hbs, hini, hTx⟩ := F
  obtain ⟨hcl, ty0, ty1, ty2, ty3, ty5, tyR⟩ := G
  simp only [xstep] at hs
  obtain ⟨rfl, hraw⟩ := hok
  split at hs
  · split at hs
    · rename_i x i a st0 _ t' n1 f hc
      split at hs
      · rename_i hci
        obtain ⟨rfl, hin⟩ := hci
        cases hs
        intro hn hz H locs rl h1 h2 h3 h4
        have hcell : H[base + a]? = some (arrV (dA t') n1 (fun j => .int (f j))) := h3 a _ (xws_get hc)
        have harr := (hA t').1 n1 (fun j => .int (f j))
        have hi1 : ¬ (i < 0 ∨ (arrV (dA t') n1 (fun j => .int (f j))).slots.size ≤ i.toNatClampNeg) := by rw [arrV_size]; exact xin_of hin
        rcases hraw with ⟨rfl, rfl⟩ | ⟨rfl, rfl⟩ | ⟨rfl, rfl⟩ | ⟨rfl, rfl⟩
        · rw [ty0] at harr
          refine W.iast hx hb hcell harr (fun q => by cases q) hi1 rfl rfl hd fun H1 e1 z1 oq => ?_
          refine xk_set hc ?_ K hn hz h1 (z1.trans h2) (h3.set (xws_D h) (xws_get hc) ?_ oq) (h4.put z1 oq (Nat.le_add_right _ _))
          · rfl
          refine xat_i ?_
          rw [e1, arrV_store]
          congr 2
          funext q
          by_cases hq : q = i.toNatClampNeg
          · subst hq
            simp [updV, upd, vp_nar, narrow]
          · simp [updV, upd, hq]
        · rw [ty3] at harr
          refine W.cast hx hb hcell harr (fun q => by cases q) hi1 rfl rfl hd fun H1 e1 z1 oq => ?_
          refine xk_set hc ?_ K hn hz h1 (z1.trans h2) (h3.set (xws_D h) (xws_get hc) ?_ oq) (h4.put z1 oq (Nat.le_add_right _ _))
          · rfl
          refine xat_i ?_
          rw [e1, arrV_store]
          congr 2
          funext q
          by_cases hq : q = i.toNatClampNeg
          · subst hq
            simp [updV, upd, vp_nar, narrow]
          · simp [updV, upd, hq]
        · rw [ty1] at harr
          refine W.zast hx hb hcell harr (fun q => by cases q) hi1 rfl rfl hd fun H1 e1 z1 oq => ?_
          refine xk_set hc ?_ K hn hz h1 (z1.trans h2) (h3.set (xws_D h) (xws_get hc) ?_ oq) (h4.put z1 oq (Nat.le_add_right _ _))
          · rfl
          refine xat_i ?_
          rw [e1, arrV_store]
          congr 2
          funext q
          by_cases hq : q = i.toNatClampNeg
          · subst hq
            simp [updV, upd, vp_nar, narrow]
          · simp [updV, upd, hq]
        · rw [ty2] at harr
          refine W.bast hx hb hcell harr (fun q => by cases q) hi1 rfl rfl hd fun H1 e1 z1 oq => ?_
          refine xk_set hc ?_ K hn hz h1 (z1.trans h2) (h3.set (xws_D h) (xws_get hc) ?_ oq) (h4.put z1 oq (Nat.le_add_right _ _))
          · rfl
          refine xat_i ?_
          rw [e1, arrV_store]
          congr 2
          funext q
          by_cases hq : q = i.toNatClampNeg
          · subst hq
            simp [updV, upd, vp_nar, narrow]
          · simp [updV, upd, hq]
      · cases hs
    · cases hs
  · cases hs
theorem xs_last (F : XF p s m args meth c b base dA D cl Ts ty L xs ta lit ldcs cc own ini) (G : XG Ts cl tf ty) (hd : decode cc pc = .ok (raw, n)) (hok : xok Ts cl own tf nf ty ldcs ini pc raw (.lastore, n, x1, x2)) (hs : xstep nf L xs lit mc (.lastore, n, x1, x2) pc ls st h = some (.inl (pc', ls', st', h'))) (hR : h'.length - n0 ≤ R.cells ∧ xsz h' - z0 ≤ R.slots) (K : XK p l e R s m args below meth c Q b base ta dA D cl n0 z0 pc' ls' st' h') : XK p l e R s m args below meth c Q b base ta dA D cl n0 z0 pc ls st h := by
  obtain ⟨hx, hb, hown, hts, hK, hA, hX, hbl, hbs, hini, hTx⟩ := F
  obtain ⟨hcl, ty0, ty1, ty2, ty3, ty5, tyR⟩ := G
  simp only [xstep] at hs
  obtain ⟨rfl, rfl⟩ := hok
  split at hs
  · split at hs
    · rename_i x i a st0 _ t' n1 f hc
      split at hs
      · rename_i hci
        obtain ⟨rfl, hin⟩ := hci
        cases hs
        intro hn hz H locs rl h1 h2 h3 h4
        have hcell : H[base + a]? = some (arrV (dA 5) n1 (fun j => .long (f j))) := h3 a _ (xws_get hc)
        have harr := (hA 5).1 n1 (fun j => .long (f j))
        rw [ty5] at harr
        refine W.last hx hb hcell harr (fun q => by cases q) (by rw [arrV_size]; exact xin_of hin) rfl rfl hd fun H1 e1 z1 oq => ?_
        refine xk_set hc ?_ K hn hz h1 (z1.trans h2) (h3.set (xws_D h) (xws_get hc) ?_ oq) (h4.put z1 oq (Nat.le_add_right _ _))
        · rfl
        refine xat_l ?_
        rw [e1, arrV_store]
        congr 2
        funext q
        by_cases hq : q = i.toNatClampNeg
        · subst hq
          simp [updV, vp_updL]
        · simp [updV, vp_updL, hq]
      · cases hs
    · cases hs
  · cases hs
theorem xs_new {ci : Nat} (F : XF p s m args meth c b base dA D cl Ts ty L xs ta lit ldcs cc own ini) (G : XG Ts cl tf ty) (hd : decode cc pc = .ok (raw, n)) (hok : xok Ts cl own tf nf ty ldcs ini pc raw (.new ci, n, x1, x2)) (hs : xstep nf L xs lit mc (.new ci, n, x1, x2) pc ls st h = some (.inl (pc', ls', st', h'))) (hR : h'.length - n0 ≤ R.cells ∧ xsz h' - z0 ≤ R.slots) (K : XK p l e R s m args below meth c Q b base ta dA D cl n0 z0 pc' ls' st' h') : XK p l e R s m args below meth c Q b base ta dA D cl n0 z0 pc ls st h := by
  obtain ⟨hx, hb, hown, hts, hK, hA, hX, hbl, hbs, hini, hTx⟩ := F
  obtain ⟨hcl, ty0, ty1, ty2, ty3, ty5, tyR⟩ := G
  cases hs
  obtain ⟨rfl, rfl, r, hr, hcl1, hins, hini1, hlen, hfl, hdf⟩ := hok
  have hr : cl[ci]? = some r := by simpa using hr
  obtain ⟨hin, ⟨ty0', hty⟩, hnm⟩ := hcl _ _ hr
  obtain ⟨C, T, N⟩ := r
  intro hn hz H locs rl h1 h2 h3 h4
  have hKn := hK.1 ci _ hr
  have hN : xcz (.inr (ci, nf ci)) = N := hlen
  have hc9 : h.length - n0 + 1 ≤ R.cells := by have := hR.1; simp at this; omega
  have hs9 : xsz h - z0 + N ≤ R.slots := by have := hR.2; rw [xsz_app, hN] at this; omega
  refine W.newcK hx hb hown (hts _ hcl1) (hts _ hins) (hts _ hini1) rfl hd hc9 hs9 hKn.2.1 rfl fun H1 kC hkC e1 z1 o1 => ?_
  refine xk_new (N := N) K hN hn hz h1 h2 h3 ?_ z1 o1 h4
  refine ⟨_, hr, ?_⟩
  rw [← h2]
  refine (u_born ty0' hts hin hKn hkC e1 (fun k hk => (hty k hk).1)).to (fun j hj => ?_)
  have e2 := hdf j hj
  rw [(hty j hj).1] at e2
  have e3 : defaultValue (ty0' j) = (nf ci).getD j .null := Option.some.inj e2
  show _ = ((nf ci).map (xv b base ta)).getD j .null
  have e4 : ((nf ci).map (xv b base ta)).getD j .null = xv b base ta ((nf ci).getD j .null) := by
    rw [List.getD_eq_getElem?_getD, List.getD_eq_getElem?_getD, List.getElem?_map]
    cases (nf ci)[j]? <;> rfl
  rw [e4, ← e3]
  have e5 := hfl j hj
  rw [← (hty j hj).2] at e5
  cases hq : ty0' j <;> first | rfl | (rw [hq] at e5; exact absurd rfl e5)
theorem xs_newa {at_ : ArrayType} (F : XF p s m args meth c b base dA D cl Ts ty L xs ta lit ldcs cc own ini) (G : XG Ts cl tf ty) (hd : decode cc pc = .ok (raw, n)) (hok : xok Ts cl own tf nf ty ldcs ini pc raw (.newarray at_, n, x1, x2)) (hs : xstep nf L xs lit mc (.newarray at_, n, x1, x2) pc ls st h = some (.inl (pc', ls', st', h'))) (hR : h'.length - n0 ≤ R.cells ∧ xsz h' - z0 ≤ R.slots) (K : XK p l e R s m args below meth c Q b base ta dA D cl n0 z0 pc' ls' st' h') : XK p l e R s m args below meth c Q b base ta dA D cl n0 z0 pc ls st h := by
  obtain ⟨hx, hb, hown, hts, hK, hA, hX, hbl, hbs, hini, hTx⟩ := F
  obtain ⟨hcl, ty0, ty1, ty2, ty3, ty5, tyR⟩ := G
  simp only [xstep] at hs
  obtain ⟨rfl, rfl, ht6, hty, hw⟩ := hok
  split at hs
  · rename_i k st0
    split at hs
    · cases hs
    · rename_i hk
      have hk0 : ¬ k < 0 := fun q => hk (Or.inl q)
      have hk1 : k.toNatClampNeg ≤ 100000 := Nat.not_lt.mp fun q => hk (Or.inr q)
      have hcb : componentBytes (Op.newarray.typeOf at_) ≤ 8 := by cases at_ <;> decide
      have hby : k.toNatClampNeg * componentBytes (Op.newarray.typeOf at_) ≤ 536870912 := Nat.le_trans (Nat.mul_le_mul hk1 hcb) (by decide)
      have fin : ∀ (a0 : vp_A), a0.1 = k.toNatClampNeg → (∀ cA : ClassId, vp_cell cA a0 = arrV cA k.toNatClampNeg (fun _ => defaultValue (Op.newarray.typeOf at_))) → xtr b base ta dA (.inl (x1, a0)) = .inl (dA x1, a0) → (h ++ [(.inl (x1, a0) : xC)]).length - n0 ≤ R.cells ∧ xsz (h ++ [(.inl (x1, a0) : xC)]) - z0 ≤ R.slots → XK p l e R s m args below meth c Q b base ta dA D cl n0 z0 (pc + 2) ls (.ref h.length :: st0) (h ++ [.inl (x1, a0)]) → XK p l e R s m args below meth c Q b base ta dA D cl n0 z0 pc ls (.int k :: st0) h := by
        intro a0 ha1 ha2 ha3 hR K hn hz H locs rl h1 h2 h3 h4
        have hc9 : h.length - n0 + 1 ≤ R.cells := by have := hR.1; simp at this; omega
        have hs9 : xsz h - z0 + k.toNatClampNeg ≤ R.slots := by have := hR.2; rw [xsz_app] at this; have e9 : xcz (.inl (x1, a0)) = k.toNatClampNeg := ha1; omega
        refine va_newaK hx hb (hts _ hw) rfl hd rfl hk0 rfl hby hc9 hs9 rfl fun H1 cA e1 z1 o1 hAr hNm => ?_
        have hcA : cA = dA x1 := by
          have h9 := (hA x1).2
          rw [hty] at h9
          have h8 : s.vm.findClass ("[" ++ (Op.newarray.typeOf at_).toString) = some (dA x1) := by cases at_ <;> exact h9
          exact Option.some.inj (hNm.symm.trans h8)
        subst hcA
        refine xk_new (N := k.toNatClampNeg) K ha1 hn hz h1 h2 h3 ?_ z1 o1 h4
        show va_at D cl (base + h.length, xtr b base ta dA (.inl (x1, a0))) H1
        rw [ha3, ← h2]
        show H1[H.size]? = some (vp_cell (dA x1) a0)
        rw [ha2]
        exact e1
      split at hs
      · rename_i h5
        cases hs
        subst h5
        refine fin (k.toNatClampNeg, .inr (.inl (fun _ => 0))) rfl (fun cA => ?_) rfl hR K
        rw [← hty, ty5]
        rfl
      · rename_i h5
        split at hs
        · cases hs
          refine fin (k.toNatClampNeg, .inl (fun _ => 0)) rfl (fun cA => ?_) rfl hR K
          have : ∀ t, t = Op.newarray.typeOf at_ → t = .int ∨ t = .boolean ∨ t = .byte ∨ t = .char ∨ t = .short → vp_cell cA (k.toNatClampNeg, .inl (fun _ => 0)) = arrV cA k.toNatClampNeg (fun _ => defaultValue (Op.newarray.typeOf at_)) := by
            rintro t rfl ht
            rcases ht with ht | ht | ht | ht | ht <;> rw [ht] <;> rfl
          refine this _ rfl ?_
          rw [← hty]
          rcases (show x1 = 0 ∨ x1 = 1 ∨ x1 = 2 ∨ x1 = 3 by omega) with rfl | rfl | rfl | rfl
          · exact Or.inl ty0
          · exact Or.inr (Or.inl ty1)
          · exact Or.inr (Or.inr (Or.inl ty2))
          · exact Or.inr (Or.inr (Or.inr (Or.inl ty3)))
        · cases hs
  · cases hs
/-- the outer array of new T[n][m], behind i rows -/
theorem xouter (c1 : ClassId) (N h0 : Nat) : ∀ i : Nat, Jvm.Free.Multi.outerC c1 N h0 i = arrV c1 N (fun j => va_rf (if j < i then some (h0 + 1 + j) else none)) := by
  intro i
  induction i with
  | zero =>
    show ({ cls := c1, slots := Array.replicate N .null, vm := .none } : Cell) = _
    rw [arrV_new]
    rfl
  | succ i ih =>
    show (Jvm.Free.Multi.outerC c1 N h0 i).setSlot i (.ref (h0 + 1 + i)) = _
    rw [ih, arrV_store]
    refine congrArg (arrV c1 N) (funext fun j => ?_)
    by_cases e1 : j = i
    · subst e1
      simp [updV, va_rf]
    · have e2 : j < i + 1 ↔ j < i := by omega
      simp [updV, e1, e2]
theorem xs_anewa {t : Nat} (F : XF p s m args meth c b base dA D cl Ts ty L xs ta lit ldcs cc own ini) (G : XG Ts cl tf ty) (hd : decode cc pc = .ok (raw, n)) (hok : xok Ts cl own tf nf ty ldcs ini pc raw (.anewarray t, n, x1, x2)) (hs : xstep nf L xs lit mc (.anewarray t, n, x1, x2) pc ls st h = some (.inl (pc', ls', st', h'))) (hR : h'.length - n0 ≤ R.cells ∧ xsz h' - z0 ≤ R.slots) (K : XK p l e R s m args below meth c Q b base ta dA D cl n0 z0 pc' ls' st' h') : XK p l e R s m args below meth c Q b base ta dA D cl n0 z0 pc ls st h := by
  obtain ⟨hx, hb, hown, hts, hK, hA, hX, hbl, hbs, hini, hTx⟩ := F
  obtain ⟨hcl, ty0, ty1, ty2, ty3, ty5, tyR⟩ := G
  simp only [xstep] at hs
  obtain ⟨rfl, rfl, hm⟩ := hok
  split at hs
  · rename_i k st0
    split at hs
    · cases hs
    · rename_i hk
      have hk0 : ¬ k < 0 := fun q => hk (Or.inl q)
      have hk1 : k.toNatClampNeg ≤ 100000 := Nat.not_lt.mp fun q => hk (Or.inr q)
      cases hs
      split at hm
      · rename_i C hty
        intro hn hz H locs rl h1 h2 h3 h4
        have hc9 : h.length - n0 + 1 ≤ R.cells := by have := hR.1; simp at this; omega
        have hs9 : xsz h - z0 + k.toNatClampNeg ≤ R.slots := by have := hR.2; rw [xsz_app] at this; have e9 : xcz (.inl (t, k.toNatClampNeg, .inr (.inr (.inr (.inr (fun _ => none)))))) = k.toNatClampNeg := rfl; omega
        refine W.anew hx hb hown (hts _ hm.1) (hts _ hm.2) rfl hd rfl hk0 (by omega) hc9 hs9 fun cA kA comp f1 f2 f3 f4 => ?_
        have hcA : cA = dA t := by
          have h9 := (hA t).2
          rw [hty] at h9
          obtain ⟨_, _, -, -, -, h8⟩ := h9
          exact Option.some.inj (f1.symm.trans h8)
        subst hcA
        refine xk_new (N := k.toNatClampNeg) K rfl hn hz h1 h2 h3 ?_ (by simp) (fun q hq => by rw [Array.getElem?_push, if_neg (Nat.ne_of_lt hq)]) h4
        refine xat_q ?_
        rw [← h2, arrV_new]
        simp [va_rf]
      · cases hm
  · cases hs
theorem xs_aast (F : XF p s m args meth c b base dA D cl Ts ty L xs ta lit ldcs cc own ini) (G : XG Ts cl tf ty) (hd : decode cc pc = .ok (raw, n)) (hok : xok Ts cl own tf nf ty ldcs ini pc raw (.aastore, n, x1, x2)) (hs : xstep nf L xs lit mc (.aastore, n, x1, x2) pc ls st h = some (.inl (pc', ls', st', h'))) (hR : h'.length - n0 ≤ R.cells ∧ xsz h' - z0 ≤ R.slots) (K : XK p l e R s m args below meth c Q b base ta dA D cl n0 z0 pc' ls' st' h') : XK p l e R s m args below meth c Q b base ta dA D cl n0 z0 pc ls st h := by
  obtain ⟨hx, hb, hown, hts, hK, hA, hX, hbl, hbs, hini, hTx⟩ := F
  obtain ⟨hcl, ty0, ty1, ty2, ty3, ty5, tyR⟩ := G
  simp only [xstep] at hs
  obtain ⟨rfl, rfl, hty⟩ := hok
  split at hs
  · split at hs
    · rename_i v i a st0 _ _ t' n1 f c0 fs hc hv
      split at hs
      · rename_i hci
        obtain ⟨rfl, h6, h12, rfl, hin⟩ := hci
        cases hs
        split at hty
        · rename_i r hr
          intro hn hz H locs rl h1 h2 h3 h4
          have hcell : H[base + a]? = some (arrV (dA t') n1 (fun j => va_rf ((f j).map (base + ·)))) := h3 a _ (xws_get hc)
          obtain ⟨r', hr', cellV, g1, g2, g3, -⟩ := h3 v _ (xws_get hv)
          have hcls := (hK.1 c0 r hr).2
          have hra := (hA t').2
          rw [hty] at hra
          obtain ⟨kA, comp, k1, k2, k3, -⟩ := hra
          have hcomp : comp = D.1 c0 := Option.some.inj (k3.symm.trans hcls.1)
          subst hcomp
          obtain ⟨kC, hkC, -⟩ := hcls.2
          refine W.aast hx hb hcell (fun q h => by cases h) (fun h => by cases h) k1 k2 rfl hkC ⟨fun q => xin_of hin (Or.inl q), by rw [arrV_size]; exact xin_lt hin⟩ g1 (fun q h => by rw [g3] at h; cases h) (by rw [g2]; exact hkC) (by rw [g2]; exact va_assign hcls) rfl rfl hd fun H1 e1 z1 oq => ?_
          refine xk_set hc ?_ K hn hz h1 (z1.trans h2) (h3.set (xws_D h) (xws_get hc) ?_ oq) (h4.put z1 oq (Nat.le_add_right _ _))
          · rfl
          refine xat_q ?_
          rw [e1, arrV_store]
          congr 2
          funext q
          by_cases hq : q = i.toNatClampNeg
          · subst hq
            simp [updV, va_up, va_rf]
          · simp [updV, va_up, hq]
        · cases hty
      · cases hs
    · cases hs
  · cases hs
theorem xs_manewa {t t' : Nat} (F : XF p s m args meth c b base dA D cl Ts ty L xs ta lit ldcs cc own ini) (G : XG Ts cl tf ty) (hd : decode cc pc = .ok (raw, n)) (hok : xok Ts cl own tf nf ty ldcs ini pc raw (.multianewarray t t', n, x1, x2)) (hs : xstep nf L xs lit mc (.multianewarray t t', n, x1, x2) pc ls st h = some (.inl (pc', ls', st', h'))) (hR : h'.length - n0 ≤ R.cells ∧ xsz h' - z0 ≤ R.slots) (K : XK p l e R s m args below meth c Q b base ta dA D cl n0 z0 pc' ls' st' h') : XK p l e R s m args below meth c Q b base ta dA D cl n0 z0 pc ls st h := by
  obtain ⟨hx, hb, hown, hts, hK, hA, hX, hbl, hbs, hini, hTx⟩ := F
  obtain ⟨hcl, ty0, ty1, ty2, ty3, ty5, tyR⟩ := G
  simp only [xstep] at hs
  obtain ⟨rfl, rfl, rfl, hty, hw1, hw2, hw3⟩ := hok
  split at hs
  · rename_i k' k st0
    split at hs
    · cases hs
    · rename_i hk
      have hk0 : ¬ k < 0 := fun q => hk (Or.inl q)
      have hk1 : k.toNatClampNeg ≤ 1000 := Nat.not_lt.mp fun q => hk (Or.inr (Or.inl q))
      have hk2 : ¬ k' < 0 := fun q => hk (Or.inr (Or.inr (Or.inl q)))
      have hk3 : k'.toNatClampNeg ≤ 1000 := Nat.not_lt.mp fun q => hk (Or.inr (Or.inr (Or.inr q)))
      cases hs
      intro hn hz H locs rl h1 h2 h3 h4 T hT X
      generalize hN : k.toNatClampNeg = N at *
      generalize hM : k'.toNatClampNeg = M at *
      have hsz : xsz (h ++ ((.inl (t, N, .inr (.inr (.inr (.inr (fun i => if i < N then some (h.length + 1 + i) else none))))) : xC) :: List.replicate N (.inl (0, M, .inl (fun _ => 0))))) = xsz h + N + N * M := by
        simp [xsz, xcz, Nat.add_assoc]
      have hln : (h ++ ((.inl (t, N, .inr (.inr (.inr (.inr (fun i => if i < N then some (h.length + 1 + i) else none))))) : xC) :: List.replicate N (.inl (0, M, .inl (fun _ => 0))))).length = h.length + 1 + N := by
        simp; omega
      have hc9 : h.length - n0 + (1 + N) ≤ R.cells := by have := hR.1; rw [hln] at this; omega
      have hs9 : xsz h - z0 + (N + N * M) ≤ R.slots := by have := hR.2; rw [hsz] at this; omega
      obtain ⟨vm₁, cA, comp, -, fA, fC, -, -, X', step⟩ := X.multianewarray2F hx (ty := .int) hown (hts _ hw1) (hts _ hw2) (hts _ hw3) (g := F0 m pc rl (.int k' :: .int k :: st0.map (xv b base ta))) rfl (by rw [hb]; exact hd) rfl hk0 hk2 (by rw [hN]; omega) (by rw [hM]; show M * 4 ≤ _; omega) (by rw [hM]; omega) rfl rfl (by rw [hN]; exact hc9) (by rw [hN, hM]; exact hs9)
      rw [hN, hM] at X' step
      have hcA : cA = dA t := by
        have h9 := (hA t).2
        rw [hty] at h9
        exact Option.some.inj (fA.symm.trans h9)
      have hcC : comp = dA 0 := by
        have h9 := (hA 0).2
        rw [ty0] at h9
        exact Option.some.inj (fC.symm.trans h9)
      subst hcA
      subst hcC
      have hTh : (T.setVm vm₁).heap = H := hT
      obtain ⟨f1, f2, -, -⟩ := Jvm.Free.Multi.fill_facts (T.setVm vm₁) (dA t) (dA 0) N M (defaultValue .int) N
      have hold : ∀ x : Nat, x < H.size → (Jvm.Free.Multi.fill (T.setVm vm₁) (dA t) (dA 0) N M (defaultValue .int) N).heap[x]? = H[x]? := fun x hx => by
        have := Jvm.Free.Multi.fill_old (T.setVm vm₁) (dA t) (dA 0) N M (defaultValue .int) (a := x) (by rw [hTh]; exact hx) N
        rw [hTh] at this
        exact this
      have hrow : ∀ j : Nat, j < N → (Jvm.Free.Multi.fill (T.setVm vm₁) (dA t) (dA 0) N M (defaultValue .int) N).heap[H.size + 1 + j]? = some (arrV (dA 0) M (fun _ => .int 0)) := fun j hj => by
        have := Jvm.Free.Multi.fill_inner (T.setVm vm₁) (dA t) (dA 0) N M (defaultValue .int) N j hj
        rw [hTh] at this
        rw [this]
        show some ({ cls := dA 0, slots := Array.replicate M (.int 0), vm := .none } : Cell) = _
        rw [arrV_new]
      rw [hTh] at f1 f2
      rw [xouter] at f2
      generalize Jvm.Free.Multi.fill (T.setVm vm₁) (dA t) (dA 0) N M (defaultValue .int) N = F at *
      have K2 := K (by rw [hln]; omega) (by rw [hsz]; omega) F.heap locs rl h1 (by rw [f1, hln, h2]; omega) (fun kk q hq => ?_) ⟨by rw [f1]; have := h4.1; omega, fun q hq hA => (hold q (Nat.lt_of_lt_of_le hq h4.1)).trans (h4.2.1 q hq hA), h4.2.2⟩
      · rw [hln, hsz] at K2
        have e1 : h.length + 1 + N - n0 = h.length - n0 + 1 + N := by omega
        have e2 : xsz h + N + N * M - z0 = xsz h - z0 + N + N * M := by omega
        rw [e1, e2] at K2
        obtain ⟨t1, a1, b1⟩ := K2 F rfl X'
        refine ⟨t1, step t1 ?_, b1⟩
        rw [hT, h2]
        exact a1
      · obtain ⟨c1, hc1, rfl⟩ := xws_inv hq
        by_cases hkk : kk < h.length
        · rw [List.getElem?_append_left hkk] at hc1
          exact (h3 kk _ (xws_get hc1)).kept (hold _ (by show base + kk < _; omega))
        · rw [List.getElem?_append_right (Nat.not_lt.mp hkk)] at hc1
          by_cases hk9 : kk - h.length = 0
          · rw [hk9] at hc1
            cases hc1
            have : kk = h.length := by omega
            subst this
            refine xat_q ?_
            rw [← h2, f2]
            refine congrArg some (congrArg (arrV (dA t) N) (funext fun j => ?_))
            by_cases hj : j < N
            · simp [hj, va_rf, h2, Nat.add_assoc]
            · simp [hj]
          · obtain ⟨jj, hjj⟩ : ∃ jj, kk - h.length = jj + 1 := ⟨kk - h.length - 1, by omega⟩
            rw [hjj, List.getElem?_cons_succ] at hc1
            have hlt : jj < N := by
              have := (List.getElem?_eq_some_iff.mp hc1).1
              simpa using this
            rw [List.getElem?_replicate, if_pos hlt] at hc1
            cases hc1
            refine xat_i ?_
            have e9 : base + kk = H.size + 1 + jj := by omega
            rw [e9]
            exact hrow jj hlt
  · cases hs
end XHEAP
end
section
/-! THE ENDS OF A METHOD -/
/-- what has come about when a method, begun in the state s over the frames below, has ended: r: how; h': the pure heap behind it -/
def XQ (below : List Frame) (s : State) (b base : Nat) (ta : (Nat → Nat) × Option Nat) (dA : Nat → ClassId) (D : va_G) (cl : List vw_C) (n0 z0 : Nat) (r : xO) (h' : xH) (t : State) : Prop :=
  ∃ (o : Outcome) (locs : List Loc), t.status = .running ∧ Ended t below o ∧ s.WarmedH t.vm ∧ s.sameButNew ({ t with vm := s.vm } : State) locs (h'.length - n0) (xsz h' - z0) ∧ t.heap.size = base + h'.length ∧ va_P D cl (xws b base ta dA h') t.heap ∧ va_S (fun q => base ≤ q) s.heap t.heap locs ∧
    (match r with | .inl v => o = .returned (v.map (xv b base ta)) | .inr (_, a) => o = .threw (base + a))
/-- the method's type of result fits the instruction that ends it -/
def xokR (ret : Option FieldType) (o : xI) : Prop := match o with
  | (.ireturn, _, t, _) => ∃ ft ∈ ret.toList, xtc ft = t
  | (.areturn, _, _, _) => ∃ ft ∈ ret.toList, xtc ft = 6
  | (.return_, _, _, _) => ret = none
  | _ => True
section XENDS
variable {p : Program} {l : Launch} {e : Env} {R : Room} {s : State} {m : MethodId} {args : Array Value} {below : List Frame} {meth : Method} {c : Code}
variable {b base : Nat} {ta : (Nat → Nat) × Option Nat} {dA : Nat → ClassId} {D : va_G} {cl : List vw_C} {n0 z0 : Nat} {cc : ByteArray} {pc n : Nat} {ls : xL} {st : List Value} {h h' : xH} {raw : Instr} {x1 x2 : Nat} {r : xO}
variable {Ts : List Cond} {ty : Nat → FieldType} {own : String} {tf : Nat → Nat → Nat} {ini : Bool} {ret : Option FieldType}
variable {nf : Nat → List Value} {L : Nat} {xs : Nat → Int32} {mc : Nat → Option Nat} {lit : List (List Int32)} {ldcs : List (String × Nat × String × Nat)}
theorem W.mono {Q Q' : State → Prop} {H : Heap} {locs : List Loc} {cells slots : Nat} {g : JFrame} (hQ : ∀ t, Q t → Q' t) (k : W p l e R s m args below meth c H locs cells slots Q g) : W p l e R s m args below meth c H locs cells slots Q' g := fun T hT X => by
  obtain ⟨t, a1, b1⟩ := k T hT X
  exact ⟨t, a1, hQ t b1⟩
/-- out of the kit's end of a method that returns -/
theorem xq_of {H : Heap} {locs : List Loc} {v : Option Value} (h2 : H.size = base + h.length) (h3 : va_P D cl (xws b base ta dA h) H) (h4 : va_S (fun q => base ≤ q) s.heap H locs) (t : State)
    (hM : MQ below (fun _ _ o t => o = .returned (v.map (xv b base ta)) ∧ t.heap = H) args s (h.length - n0) (xsz h - z0) (fun q => base ≤ q) t) : XQ below s b base ta dA D cl n0 z0 (.inl v) h t := by
  obtain ⟨o, hr, he, ⟨ho, ht⟩, L9, ⟨-, hW, hS⟩, hL⟩ := hM
  refine ⟨o, L9, hr, he, hW, hS, by rw [ht]; exact h2, by rw [ht]; exact h3, ⟨by rw [ht]; exact h4.1, fun q hq hA => by rw [ht]; exact h4.2.1 q hq hA, hL⟩, ho⟩
theorem xs_ends (F : XF p s m args meth c b base dA D cl Ts ty L xs ta lit ldcs cc own ini) (hret : meth.sig.returnType = ret) (hlocks : meth.locks = false) {o : xI} (ho : o.1 = .ireturn ∨ o.1 = .areturn ∨ o.1 = .return_) (hd : decode cc pc = .ok (raw, o.2.1)) (hok : xok Ts cl own tf nf ty ldcs ini pc raw o) (hokR : xokR ret o) (hs : xstep nf L xs lit mc o pc ls st h = some (.inr (.inl (r, h')))) : XK p l e R s m args below meth c (XQ below s b base ta dA D cl n0 z0 r h') b base ta dA D cl n0 z0 pc ls st h := by
  obtain ⟨hx, hb, hown, hts, hK, hA, hX, hbl, hbs, hini, hTx⟩ := F
  obtain ⟨i1, n1, x1, x2⟩ := o
  rcases ho with ho | ho | ho
  · have ho : i1 = .ireturn := ho
    subst ho
    simp only [xstep] at hs
    obtain ⟨rfl, rfl⟩ := hok
    obtain ⟨ft, hft, htc⟩ := hokR
    have hft : ret = some ft := by simpa using hft
    split at hs
    · rename_i x
      split at hs
      · rename_i hfit
        cases hs
        intro hn hz H locs rl h1 h2 h3 h4
        rw [← htc] at hfit
        have hna := (xfit_of (b := b) (base := base) (ta := ta) hfit).1
        exact W.mono (xq_of (v := some (.int x)) h2 h3 h4) (W.zret hx hb (hret.trans hft) hna (fun t ht hW => ⟨rfl, ht⟩) h4.2.2 hd hlocks)
      · cases hs
    · cases hs
  · have ho : i1 = .areturn := ho
    subst ho
    simp only [xstep] at hs
    obtain ⟨rfl, rfl⟩ := hok
    obtain ⟨ft, hft, htc⟩ := hokR
    have hft : ret = some ft := by simpa using hft
    split at hs
    · rename_i v
      split at hs
      · rename_i hv
        cases hs
        intro hn hz H locs rl h1 h2 h3 h4
        have hrt : (∃ n, ft = .object n) ∨ ∃ t, ft = .array t := by
          cases ft <;> simp [xtc] at htc
          · exact Or.inl ⟨_, rfl⟩
          · exact Or.inr ⟨_, rfl⟩
        obtain ⟨a, ha⟩ := xv_ref (b := b) (base := base) (ta := ta) hv
        refine W.mono (xq_of (args := args) (v := some v) h2 h3 h4) ?_
        show W p l e R s m args below meth c H locs _ _ _ (F0 m pc rl [xv b base ta v])
        exact W.aret hx hb (hret.trans hft) hrt (Or.inr ⟨a, ha⟩) (fun t ht hW => ⟨rfl, ht⟩) h4.2.2 hd hlocks
      · cases hs
    · cases hs
  · have ho : i1 = .return_ := ho
    subst ho
    simp only [xstep] at hs
    obtain ⟨rfl, rfl⟩ := hok
    have hokR : ret = none := hokR
    split at hs
    · cases hs
      intro hn hz H locs rl h1 h2 h3 h4
      exact W.mono (xq_of (v := none) h2 h3 h4) (W.vret hx hb (hret.trans hokR) (fun t ht hW => ⟨rfl, ht⟩) h4.2.2 hd hlocks)
    · cases hs
end XENDS
end
section
/-! CALLS -/
/-- a word that stays true when more of the tables has been linked -/
def xgw (w : Cond) : Bool := goodWord w || (match w with | .methodLinkNest .. => true | .declares _ => true | .castable .. => true | .arrayOver (.object _) => true | .arrayOver (.array _) => true | _ => false)
theorem xgw_at {w : Cond} {args a' : Array Value} {s U : State} (hW : s.WarmedH U.vm) (hg : xgw w = true) (h : w.before args s = true) : w.before a' U = true := by
  unfold xgw at hg
  rcases Bool.or_eq_true _ _ |>.mp hg with h1 | h1
  · exact word_at hW (good_of_word h1) h
  · cases w with
    | arrayOver t =>
      cases t with
      | object C => exact va_AO.use (va_AO.moved hW.alike (va_AO.of h))
      | array t => exact over_moved hW.alike h
      | _ => cases h1
    | methodLinkNest a i x h9 => exact va_Nw.use rfl (va_Nw.warmM hW (va_Nw.of rfl h))
    | declares x => exact va_Nw.use rfl (va_Nw.warmD hW (va_Nw.of rfl h))
    | castable C T => exact va_Nw.use rfl (va_Nw.warmC hW (va_Nw.of rfl h))
    | _ => cases h1
/-- a method's code by the tables, with its handlers -/
def XY (Ts : List Cond) (y : MethodName) (bytes : ByteArray) (maxL : Nat) (ret : Option FieldType) (hdl : List (Nat × Nat × Nat × Nat)) : Prop := (hdl = [] ∧ Cond.code y bytes maxL ret ∈ Ts) ∨ Cond.codeWith y bytes maxL ret hdl ∈ Ts
theorem xy_spec {Ts : List Cond} {y : MethodName} {bytes : ByteArray} {maxL : Nat} {ret : Option FieldType} {hdl : List (Nat × Nat × Nat × Nat)} {args : Array Value} {s : State} (h : XY Ts y bytes maxL ret hdl) (hts : ∀ w ∈ Ts, w.before args s = true) :
    ∃ mk meth c, s.methodNamed? y = some mk ∧ s.vm.method? mk = some meth ∧ meth.code = some c ∧ c.code = bytes ∧ c.maxLocals = maxL ∧ c.exceptionTable.toList.map (fun h => (h.startPc, h.endPc, h.handlerPc, h.catchType)) = hdl ∧ meth.sig.returnType = ret ∧ meth.locks = false ∧ parseMethodDescriptor y.desc = some meth.sig := by
  rcases h with ⟨rfl, h⟩ | h
  · have hc := hts _ h
    obtain ⟨mk, hn⟩ := Cond.code_named hc
    obtain ⟨meth, c, h1, h2, h3, h4, h5, h6, h7, h8⟩ := Cond.code_spec hn hc
    refine ⟨mk, meth, c, hn, h1, h2, h3, h4, ?_, h5, h6, h8⟩
    have : c.exceptionTable = #[] := by simpa using h7
    rw [this]
    rfl
  · obtain ⟨mk, meth, c, h0, h1, h2, h3, h4, h5, h6, h7, h8⟩ := Cond.codeWith_spec (hts _ h)
    exact ⟨mk, meth, c, h0, h1, h2, h3, h4, h5, h6, h7, h8⟩
/-- the linked call o stands for the instruction raw in a method of the class own -/
def xokC (Ts : List Cond) (cl : List vw_C) (own host : String) (yM : Nat → MethodName) (mc : Nat → Option Nat) (raw : Instr) (o : xI) : Prop := match o with
  | (.invokeinterface j ix, n, k, kd) => n = 3 ∧ ((yM j).cls ≠ "java/lang/invoke/MethodHandle" ∧ (yM j).cls ≠ "java/lang/invoke/VarHandle") ∧ Cond.initialized (yM j).cls ∈ Ts ∧
    ((kd = 0 ∧ raw = .invokestatic ix ∧ mc j = none ∧ Cond.methodLink own ix (yM j) ∈ Ts ∧ Cond.static (yM j) ∈ Ts ∧ (parseMethodDescriptor (yM j).desc).map (fun d => d.parameters.length) = some k) ∨
     (kd = 1 ∧ raw = .invokevirtual ix ∧ Cond.methodLink own ix (yM j) ∈ Ts ∧ Cond.instanceMethod (yM j) ∈ Ts ∧ Cond.selects (yM j).cls (yM j) (yM j) ∈ Ts ∧ ((∃ ci ∈ (mc j).toList, ci ≠ 1000 ∧ ∃ r ∈ (cl[ci]?).toList, r.1 = (yM j).cls) ∨ (mc j = some 1000 ∧ cl[1000]? = none ∧ (yM j).cls = "java/lang/String")) ∧ (parseMethodDescriptor (yM j).desc).map (fun d => d.parameters.length + 1) = some k) ∨
     (kd = 2 ∧ raw = .invokespecial ix ∧ (yM j).name = "<init>" ∧ (mc j).isSome = true ∧ Cond.methodLink own ix (yM j) ∈ Ts ∧ Cond.instanceMethod (yM j) ∈ Ts ∧ (parseMethodDescriptor (yM j).desc).map (fun d => d.parameters.length + 1) = some k) ∨
     (kd = 3 ∧ raw = .invokespecial ix ∧ (yM j).name = "<init>" ∧ (mc j).isSome = true ∧ Cond.methodLinkNest own ix (yM j) host ∈ Ts ∧ Cond.instanceMethod (yM j) ∈ Ts ∧ (parseMethodDescriptor (yM j).desc).map (fun d => d.parameters.length + 1) = some k))
  | _ => False
section XCALLS
variable {p : Program} {l : Launch} {e : Env} {R : Room} {s : State} {m : MethodId} {args : Array Value} {below : List Frame} {meth : Method} {c : Code} {T : State} {locs : List Loc} {cells slots : Nat}
variable {b base : Nat} {ta : (Nat → Nat) × Option Nat} {dA : Nat → ClassId} {D : va_G} {cl : List vw_C} {Ts : List Cond} {own host : String} {yM : Nat → MethodName} {mc : Nat → Option Nat} {raw : Instr} {j ix n k kd : Nat} {h : xH} {lit : List (List Int32)} {ldcs : List (String × Nat × String × Nat)}
/-- up to the callee's entry -/
theorem xinvoke (X : Stand p l e R s m args below meth c T locs cells slots) (hx : p.tables.exec = Jvm.exec) (hown : s.vm.findClass own = some m.cls) (hts : ∀ w ∈ Ts, w.before args s = true) (hK : va_K D cl [] s) (hP : va_P D cl (xws b base ta dA h) T.heap) (hTx : XTx base ta lit ldcs s) (hS : va_S (fun q => base ≤ q) s.heap T.heap locs)
    {bytes : ByteArray} {maxL : Nat} {ret : Option FieldType} {hdl : List (Nat × Nat × Nat × Nat)} (hY : XY Ts (yM j) bytes maxL ret hdl) (hnl : (yM j).name = "<init>" → ret = none ∧ hdl = [] ∧ Cond.code (yM j) bytes maxL ret ∈ Ts) (hC : xokC Ts cl own host yM mc raw (.invokeinterface j ix, n, k, kd))
    {as rest : List Value} (hk : as.length = k) (hm : ∀ ci, mc j = some ci → (∃ a as' fs, as = .ref a :: as' ∧ h[a]? = some (.inr (ci, fs))) ∨ (ci = 1000 ∧ ∃ i as', i < lit.length ∧ as = .retAddr (2 * i + 1) :: as'))
    {g : JFrame} (hg : g.method = m) (hstack : g.stack = (as.map (xv b base ta)).reverse ++ rest) (hdg : decode c.code g.pc = .ok (raw, 3)) :
    ∃ (mk : MethodId) (vm' : Vm), s.methodNamed? (yM j) = some mk ∧ s.WarmedH vm' ∧ Stand p l e R s m args below meth c (T.setVm vm') locs cells slots ∧
      ∀ target, (∀ acts, Steps p.tables e below (doInvoke e ((T.setVm vm').setTop { g with stack := rest }) acts mk (as.map (xv b base ta)).toArray).1 target) → Steps p.tables e below (T.setTop g) target := by
  obtain ⟨rfl, hy, hini, hC⟩ := hC
  obtain ⟨mk, methM, cM, hnamed, hmethM, -, -, -, -, -, -, hsigM⟩ := xy_spec hY hts
  have hlen : ∀ z, (parseMethodDescriptor (yM j).desc).map (fun d => d.parameters.length + z) = some k → methM.sig.parameters.length + z = k := fun z hz => by
    rw [hsigM] at hz
    exact Option.some.inj hz
  have hrecv : ∀ ci, mc j = some ci → ∃ (a : Nat) (as' : List Value), as.map (xv b base ta) = .ref a :: as'.map (xv b base ta) ∧ as.length = as'.length + 1 := by
    intro ci hci
    rcases hm ci hci with ⟨a, as', fs, rfl, -⟩ | ⟨-, i, as', -, rfl⟩
    · exact ⟨base + a, as', rfl, rfl⟩
    · exact ⟨ta.1 (2 * i), as', rfl, rfl⟩
  rcases hC with ⟨-, rfl, hmc, hl, hst, hp⟩ | ⟨-, rfl, hl, hin, hse, hcc, hp⟩ | ⟨-, rfl, hnm, hmc, hl, hin, hp⟩ | ⟨-, rfl, hnm, hmc, hl, hin, hp⟩
  · have hstatic : methM.isStatic = true := Cond.static_spec hnamed hmethM (hts _ hst)
    obtain ⟨kP, hkP, -⟩ := className_of_methodNamed hnamed
    have hinitP : kP.init = .initialized := Cond.initialized_spec (findClass_of_methodNamed hnamed) hkP (hts _ hini)
    obtain ⟨vm₁, X₁, hstep₁⟩ := X.invokestatic hx hown (hts _ hl) hnamed hmethM hstatic hkP hinitP hy (g := g) hg (argsL := as.map (xv b base ta)) (rest := rest) (by rw [List.length_map, hk]; exact (hlen 0 hp).symm) hstack hdg
    exact ⟨mk, vm₁, hnamed, X₁.warmed, X₁, hstep₁⟩
  · obtain ⟨a, as', e1, e2, cellB, hcB, hoB, hclB⟩ : ∃ (a : Nat) (as' : List Value), as.map (xv b base ta) = .ref a :: as'.map (xv b base ta) ∧ as.length = as'.length + 1 ∧ ∃ cellB : Cell, T.heap[a]? = some cellB ∧ cellB.vm.isStatics = false ∧ s.vm.findClass (yM j).cls = some cellB.cls := by
      rcases hcc with ⟨ci, hci, hne, r, hr, hrC⟩ | ⟨hci, h1000, hS9⟩
      · have hci : mc j = some ci := by simpa using hci
        have hr : cl[ci]? = some r := by simpa using hr
        rcases hm ci hci with ⟨a, as', fs, rfl, ha⟩ | ⟨h9, -⟩
        · obtain ⟨cellB, hcB, hoB, hclB⟩ := va_recv hK hP hr (xws_get ha)
          rw [hrC] at hclB
          exact ⟨base + a, as', rfl, rfl, cellB, hcB, hoB, hclB⟩
        · exact absurd h9 hne
      · rcases hm 1000 hci with ⟨a, as', fs, rfl, ha⟩ | ⟨-, i, as', hi, rfl⟩
        · obtain ⟨r9, hr9, -⟩ := hP a _ (xws_get ha)
          rw [h1000] at hr9
          cases hr9
        · obtain ⟨cellB, hcB, hoB, hclB⟩ := vk_recv hTx.1 hi hS
          exact ⟨ta.1 (2 * i), as', rfl, rfl, cellB, hcB, hoB, by rw [hS9]; exact hclB⟩
    obtain ⟨mk', methM', hnamed', hmethM', hstM, habM⟩ := Cond.instanceMethod_spec (hts _ hin)
    cases hnamed.symm.trans hnamed'
    cases hmethM.symm.trans hmethM'
    obtain ⟨c2, r2, m2, q1, q2, q3, q4, kP, hkP, hkPi⟩ := Cond.selects_spec (hts _ hse)
    cases hclB.symm.trans q1
    cases (State.methodFound?_of_named hnamed hy).symm.trans q2
    cases hnamed.symm.trans q3
    have hselP : selectMethod e.platform s.vm cellB.cls mk = .method mk := by rw [Launch.admits_selectMethod X.admits]; exact q4
    rw [e1] at hstack ⊢
    obtain ⟨vm₁, X₁, hstep₁⟩ := X.invokevirtual hx hown (hts _ hl) hnamed hmethM hstM hkP hkPi hy (a := a) (cell := cellB) hcB
      (fun z h => by rw [h] at hoB; cases hoB) hselP hmethM habM hkP hkPi (g := g) hg (argsL := as'.map (xv b base ta)) (rest := rest) (by have := hlen 1 hp; rw [List.length_map]; omega) (by rw [hstack]; simp) hdg
    exact ⟨mk, vm₁, hnamed, X₁.warmed, X₁, hstep₁⟩
  · obtain ⟨ci, hci⟩ := Option.isSome_iff_exists.mp hmc
    obtain ⟨a, as', e1, e2⟩ := hrecv ci hci
    obtain ⟨rfl, rfl, hcode⟩ := hnl hnm
    subst hg
    rw [e1] at hstack ⊢
    have hpl : e.platform.magicAccessors = ({} : Platform).magicAccessors := by rw [X.admits.platform]
    obtain ⟨mk', methM', cM', kP, vm₁, hnamed', -, -, -, -, -, -, -, hW₁, hstep₁⟩ := Steps.initColdArgs (e := e) X.here hx X.warmed hpl hown hnm hy (hts _ hl) (hts _ hin) (hts _ hcode) (f := g) rfl (a := a) (argsL := as'.map (xv b base ta)) (rest := rest) (fun sig h => by rw [hsigM] at h; cases h; have := hlen 1 hp; rw [List.length_map]; omega) (by rw [hstack]; simp) hdg
    exact ⟨mk', vm₁, hnamed', hW₁, X.noted hW₁, hstep₁⟩
  · obtain ⟨ci, hci⟩ := Option.isSome_iff_exists.mp hmc
    obtain ⟨a, as', e1, e2⟩ := hrecv ci hci
    obtain ⟨rfl, rfl, hcode⟩ := hnl hnm
    subst hg
    rw [e1] at hstack ⊢
    have hpl : e.platform.magicAccessors = ({} : Platform).magicAccessors := by rw [X.admits.platform]
    obtain ⟨mk', methM', cM', kP, vm₁, hnamed', -, -, -, -, -, -, -, hW₁, hstep₁⟩ := Steps.initColdArgsNest (e := e) X.here hx X.warmed hpl hown hnm hy (hts _ hl) (hts _ hin) (hts _ hcode) (f := g) rfl (a := a) (argsL := as'.map (xv b base ta)) (rest := rest) (fun sig h => by rw [hsigM] at h; cases h; have := hlen 1 hp; rw [List.length_map]; omega) (by rw [hstack]; simp) hdg
    exact ⟨mk', vm₁, hnamed', hW₁, X.noted hW₁, hstep₁⟩
end XCALLS
end
section
/-! A CALL AS A WHOLE: into the callee by its own run, and out of it, returned or thrown -/
theorem xsteps_down {tb : Tables} {e : Env} {g : Frame} {below : List Frame} {s t : State} (h : Steps tb e (g :: below) s t) : Steps tb e below s t := by
  obtain ⟨n, h1, h2⟩ := h
  exact ⟨n, h1, fun k hk => Within.weaken (mid := [g]) (h2 k hk)⟩
/-- what a throw asks of Throwable's two statics -/
def xU4 : List Cond := [.isRef (.static Bundle.tN "UNASSIGNED_STACK" Bundle.steD), .isRef (.static Bundle.tN "SUPPRESSED_SENTINEL" Bundle.listD), .laysStatic Bundle.tN "UNASSIGNED_STACK" Bundle.steD, .laysStatic Bundle.tN "SUPPRESSED_SENTINEL" Bundle.listD]
/-- it holds now, and in every later state that keeps what lies below base -/
def XU (base : Nat) (s : State) : Prop := ∀ (a' : Array Value) (U : State), s.WarmedH U.vm → (∀ q, q < base → U.heap[q]? = s.heap[q]?) → ∀ c ∈ xU4, c.before a' U = true
theorem XU.go {base : Nat} {s U : State} (h : XU base s) (hW : s.WarmedH U.vm) (hq : ∀ q, q < base → U.heap[q]? = s.heap[q]?) : XU base U := fun a' V hV hv => h a' V (State.WarmedH.trans hW hV) (fun q hl => (hv q hl).trans (hq q hl))
/-- pairs of classes of which the first can't be cast to the second: now, and in every later state -/
def XV (nc : List (String × String)) (s : State) : Prop := ∀ q ∈ nc, ∀ (a' : Array Value) (U : State), s.WarmedH U.vm → (Cond.not (.castable q.1 q.2)).before a' U = true
theorem XV.go {nc : List (String × String)} {s U : State} (h : XV nc s) (hW : s.WarmedH U.vm) : XV nc U := fun q hq a' V hV => h q hq a' V (State.WarmedH.trans hW hV)
section XENTRY
variable (p : Program) (l : Launch) (e : Env) (b base : Nat) (ta : (Nat → Nat) × Option Nat) (lit : List (List Int32)) (ldcs : List (String × Nat × String × Nat)) (dA : Nat → ClassId) (D : va_G) (cl : List vw_C) (Ts : List Cond) (ty : Nat → FieldType) (L : Nat) (xs : Nat → Int32)
variable (yM : Nat → MethodName) (cM : Nat → ByteArray) (mx : Nat → Nat) (rM : Nat → Option FieldType) (hM : Nat → List (Nat × Nat × Nat × Nat)) (nc : List (String × String))
/-- what holds at the entry of the method j -/
def XE (s : State) (m : MethodId) (args : Array Value) (meth : Method) (c : Code) (j : Nat) : Prop :=
  XF p s m args meth c b base dA D cl Ts ty L xs ta lit ldcs (cM j) (yM j).cls (decide ((yM j).name = "<init>")) ∧ meth.sig.returnType = rM j ∧ meth.locks = false ∧ c.maxLocals = mx j ∧ c.exceptionTable.toList.map (fun h => (h.startPc, h.endPc, h.handlerPc, h.catchType)) = hM j ∧ XU base s ∧ XV nc s
/-- the method j, called with the arguments as on the heap h, ends so: r, h'; d: the frames that it may lay -/
def XGood (d j : Nat) (as : List Value) (h : xH) (r : xO) (h' : xH) : Prop :=
  ∀ (R : Room) (s : State) (m : MethodId) (below : List Frame) (meth : Method) (c : Code), XE p b base ta lit ldcs dA D cl Ts ty L xs yM cM mx rM hM nc s m (as.map (xv b base ta)).toArray meth c j → d + 8 ≤ R.frames → 64 * d + 200 ≤ R.locals → h'.length - h.length ≤ R.cells → xsz h' - xsz h ≤ R.slots → s.heap.size = base + h.length → va_P D cl (xws b base ta dA h) s.heap →
    W p l e R s m (as.map (xv b base ta)).toArray below meth c s.heap [] 0 0 (XQ below s b base ta dA D cl h.length (xsz h) r h') (entryFrame m (as.map (xv b base ta)).toArray (mx j))
/-- what holds of the methods' tables: their code is the tables' -/
def XMt : Prop := (∀ w ∈ Ts, xgw w = true) ∧ (∀ j, Cond.static (yM j) ∈ Ts ∨ Cond.instanceMethod (yM j) ∈ Ts → XY Ts (yM j) (cM j) (mx j) (rM j) (hM j) ∧ ((yM j).name = "<init>" → rM j = none ∧ hM j = [] ∧ Cond.code (yM j) (cM j) (mx j) (rM j) ∈ Ts) ∧ plainName (yM j).cls = true ∧ mx j ≤ 40)
end XENTRY
section XCALL
variable {p : Program} {l : Launch} {e : Env} {R : Room} {s : State} {m : MethodId} {args : Array Value} {below : List Frame} {meth : Method} {c : Code} {Q : State → Prop}
variable {b base : Nat} {ta : (Nat → Nat) × Option Nat} {dA : Nat → ClassId} {D : va_G} {cl : List vw_C} {n0 z0 : Nat} {pc pc' : Nat} {ls : xL} {st st' : List Value} {h h1 : xH} {raw : Instr}
variable {Ts : List Cond} {ty : Nat → FieldType} {host : String}
variable {nf : Nat → List Value} {L : Nat} {xs : Nat → Int32} {mc : Nat → Option Nat} {lit : List (List Int32)} {ldcs : List (String × Nat × String × Nat)}
variable {yM : Nat → MethodName} {cM : Nat → ByteArray} {mx : Nat → Nat} {rM : Nat → Option FieldType} {hM : Nat → List (Nat × Nat × Nat × Nat)} {nc : List (String × String)}
/-- an exception at the place a has come out of the callee, over the caller's frame at pc -/
def XT (p : Program) (l : Launch) (e : Env) (R : Room) (s : State) (m : MethodId) (args : Array Value) (below : List Frame) (meth : Method) (c : Code) (Q : State → Prop) (b base : Nat) (ta : (Nat → Nat) × Option Nat) (dA : Nat → ClassId) (D : va_G) (cl : List vw_C) (n0 z0 : Nat) (pc : Nat) (ls : xL) (st : List Value) (h : xH) (a : Nat) : Prop :=
  ∀ (H : Heap) (locs : List Loc) (rl : Array Slot), xls b base ta ls rl → H.size = base + h.length → va_P D cl (xws b base ta dA h) H → va_S (fun q => base ≤ q) s.heap H locs →
    ∀ T : State, T.heap = H → Stand p l e R s m args below meth c T locs (h.length - n0) (xsz h - z0) → ∃ t, Steps p.tables e below ((T.setTop (F0 m pc rl (st.map (xv b base ta)))).pushFrame (.throwing (base + a))) t ∧ Q t
/-- what a call in the pure machine says of its operands -/
theorem xcall_spec {j ix n k kd j' : Nat} {as : List Value} (hs : xstep nf L xs lit mc (.invokeinterface j ix, n, k, kd) pc ls st h = some (.inr (.inr (j', as, pc', st')))) : j' = j ∧ pc' = pc + n ∧ st = as.reverse ++ st' ∧ as.length = k ∧ xw st' ≤ 8 ∧ ∀ ci, mc j = some ci → (∃ a as' fs, as = .ref a :: as' ∧ h[a]? = some (.inr (ci, fs))) ∨ (ci = 1000 ∧ ∃ i as', i < lit.length ∧ as = .retAddr (2 * i + 1) :: as') := by
  simp only [xstep] at hs
  split at hs
  · rename_i hk
    have hst : st = st.take k ++ st.drop k := (List.take_append_drop k st).symm
    have hl : (st.take k).length = k := by rw [List.length_take]; omega
    split at hs
    · rename_i hmc
      cases hs
      refine ⟨rfl, rfl, by rw [List.reverse_reverse]; exact hst, by rw [List.length_reverse]; exact hl, hk.2, fun ci hci => by rw [hmc] at hci; cases hci⟩
    · rename_i ci hmc
      split at hs
      · rename_i a as0 he
        split at hs
        · rename_i c0 fs hc
          split at hs
          · rename_i hcc
            subst hcc
            cases hs
            refine ⟨rfl, rfl, ?_, ?_, hk.2, fun ci2 hci => ?_⟩
            · rw [← he, List.reverse_reverse]
              exact hst
            · rw [← he, List.length_reverse]
              exact hl
            · rw [hmc] at hci
              cases hci
              exact Or.inl ⟨a, as0, fs, rfl, hc⟩
          · cases hs
        · cases hs
      · rename_i q as0 he
        split at hs
        · rename_i hq
          cases hs
          refine ⟨rfl, rfl, ?_, ?_, hk.2, fun ci2 hci => ?_⟩
          · rw [← he, List.reverse_reverse]
            exact hst
          · rw [← he, List.length_reverse]
            exact hl
          · rw [hmc] at hci
            cases hci
            refine Or.inr ⟨hq.1, q / 2, as0, hq.2.2, ?_⟩
            rw [show 2 * (q / 2) = q by omega]
        · cases hs
      · cases hs
  · cases hs
theorem xw_map (b base : Nat) (ta : (Nat → Nat) × Option Nat) (st : List Value) : ((st.map (xv b base ta)).map fun v => v.category).sum = xw st := by
  unfold xw
  rw [List.map_map]
  congr 1
  apply List.map_congr_left
  intro v _
  exact xv_cat' b base ta v
set_option maxHeartbeats 1000000 in
theorem xs_call {i d j ix n k kd : Nat} {as : List Value} {rc : xO} (E : XE p b base ta lit ldcs dA D cl Ts ty L xs yM cM mx rM hM nc s m args meth c i) (M : XMt Ts yM cM mx rM hM) (hd : decode (cM i) pc = .ok (raw, n)) (hC : xokC Ts cl (yM i).cls host yM mc raw (.invokeinterface j ix, n, k, kd))
    (hs : xstep nf L xs lit mc (.invokeinterface j ix, n, k, kd) pc ls st h = some (.inr (.inr (j, as, pc', st')))) (IH : XGood p l e b base ta lit ldcs dA D cl Ts ty L xs yM cM mx rM hM nc d j as h rc h1)
    (hfr : d + 9 ≤ R.frames) (hlo : 64 * (d + 1) + 200 ≤ R.locals) (hm1 : h.length ≤ h1.length) (hm2 : xsz h ≤ xsz h1) (hR : h1.length - n0 ≤ R.cells ∧ xsz h1 - z0 ≤ R.slots) (hsz : ls.length = mx i)
    (kr : ∀ v, rc = .inl v → XK p l e R s m args below meth c Q b base ta dA D cl n0 z0 pc' ls (v.toList ++ st') h1) (kt : ∀ q a, rc = .inr (q, a) → XT p l e R s m args below meth c Q b base ta dA D cl n0 z0 pc ls st' h1 a) :
    XK p l e R s m args below meth c Q b base ta dA D cl n0 z0 pc ls st h := by
  obtain ⟨⟨hx, hb, hown, hts, hK, hA, hX, hbl, hbs, -, hTx⟩, -, -, hml, -, hU, hV⟩ := E
  obtain ⟨hG, hM9⟩ := M
  have hcal : Cond.static (yM j) ∈ Ts ∨ Cond.instanceMethod (yM j) ∈ Ts := by
    rcases hC.2.2.2 with ⟨-, -, -, -, q, -⟩ | ⟨-, -, -, q, -⟩ | ⟨-, -, -, -, -, q, -⟩ | ⟨-, -, -, -, -, q, -⟩
    · exact Or.inl q
    · exact Or.inr q
    · exact Or.inr q
    · exact Or.inr q
  obtain ⟨hY, hnl, hpl, hmx⟩ := hM9 j hcal
  obtain ⟨-, rfl, hst, hk, hw8, hmc⟩ := xcall_spec hs
  intro hn hz H locs rl g1 g2 g3 g4 T hT X
  have hn3 : n = 3 := hC.1
  subst hn3
  rw [← hb] at hd
  obtain ⟨mk, vm', hnamed, hW', X₁, step⟩ := xinvoke X hx hown hts hK (by rw [hT]; exact g3) hTx (by rw [hT]; exact g4) hY hnl hC hk hmc (g := F0 m pc rl (st.map (xv b base ta))) (rest := st'.map (xv b base ta)) rfl (by show st.map _ = _; rw [hst, List.map_append, List.map_reverse]) hd
  have hts' : ∀ (a' : Array Value) (U : State), s.WarmedH U.vm → ∀ w ∈ Ts, w.before a' U = true := fun a' U hU w hw => xgw_at hU (hG w hw) (hts w hw)
  have hnamed1 : (T.setVm vm').methodNamed? (yM j) = some mk := X₁.named hnamed
  obtain ⟨mk2, methk, ck, hnk, hmk, hck, hcb, hcl, hch, hrk, hlk, hsg⟩ := xy_spec hY (hts' #[] (T.setVm vm') hW')
  cases hnamed1.symm.trans hnk
  have hpk : (T.setVm vm').plainMethod mk := by
    intro kk hkk
    obtain ⟨k2, hk2, hk3⟩ := className_of_methodNamed hnamed1
    cases hkk.symm.trans hk2
    exact plain_of_name (by rw [hk3]; exact hpl)
  have hc9 : h.length - n0 ≤ R.cells := by have := hR.1; omega
  have hs9 : xsz h - z0 ≤ R.slots := by have := hR.2; omega
  obtain ⟨Y, hinto⟩ := X₁.into (g := F0 m pc rl (st'.map (xv b base ta))) rfl (by show rl.size = _; rw [g1.1, hsz, hml]) hd (as.map (xv b base ta)).toArray (R' := { frames := R.frames - 1, cells := R.cells - (h.length - n0), slots := R.slots - (xsz h - z0), locals := R.locals - (8 + (mx j + 11)) }) hmk hck hlk hpk
    (by show R.frames - 1 + 1 ≤ _; omega) (by show 2 * 0 + _ + (ck.maxLocals + 11) + (R.locals - (8 + (mx j + 11))) ≤ _; rw [xw_map, hcl]; omega) (by show _ + (R.cells - _) ≤ _; omega) (by show _ + (R.slots - _) ≤ _; omega)
  generalize hs' : (T.setVm vm').calling (F0 m pc rl (st'.map (xv b base ta))) mk (as.map (xv b base ta)).toArray = s' at Y
  have hvm : s'.vm = vm' := by rw [← hs']; rfl
  have hhp : s'.heap = H := by rw [← hs']; exact hT
  have hWs : s.WarmedH s'.vm := by rw [hvm]; exact hW'
  have hWT : (T.setVm vm').vm.Alike s'.vm := by rw [hvm]; exact Vm.Alike.refl _
  have hnm' : s'.methodNamed? (yM j) = some mk := by
    rw [← hnamed1]
    show State.methodNamed? s' _ = State.methodNamed? (T.setVm vm') _
    unfold State.methodNamed?
    rw [hvm]
    rfl
  have hXE : XE p b base ta lit ldcs dA D cl Ts ty L xs yM cM mx rM hM nc s' mk (as.map (xv b base ta)).toArray methk ck j := by
    refine ⟨⟨hx, hcb, findClass_of_methodNamed hnm', hts' _ s' hWs, va_K.moved hWs.alike hK, fun t => ⟨arrOfT_moved hWs.alike (hA t).1, (hA t).2.moved hWs.alike⟩, ?_, hbl, by rw [hhp, g2]; omega, fun hq => ?_, hTx.go hWs (fun q hq hA9 => by rw [hhp]; exact g4.2.1 q hq hA9)⟩, hrk, hlk, hcl, hch, hU.go hWs (fun q hq => by rw [hhp]; exact g4.2.1 q (Nat.lt_of_lt_of_le hq hbs) (Nat.not_le.mpr hq)), hV.go hWs⟩
    · rw [hhp]
      exact va_X.moved hWs.alike (hX.kept (g4.2.1 b (Nat.lt_of_lt_of_le hbl hbs) (Nat.not_le.mpr hbl)))
    · rw [(name_of_methodNamed hnamed1 hmk).1]
      exact of_decide_eq_true hq
  have WI := IH { frames := R.frames - 1, cells := R.cells - (h.length - n0), slots := R.slots - (xsz h - z0), locals := R.locals - (8 + (mx j + 11)) } s' mk (.java (F0 m pc rl (st'.map (xv b base ta))) :: below) methk ck hXE (by show d + 8 ≤ R.frames - 1; omega) (by show 64 * d + 200 ≤ R.locals - (8 + (mx j + 11)); omega) (by show _ ≤ R.cells - _; have := hR.1; omega) (by show _ ≤ R.slots - _; have := hR.2; omega) (by rw [hhp]; exact g2) (by rw [hhp]; exact g3)
  obtain ⟨t, st1, o, L9, hrun, hend, hWt, hsame, t2, t3, t4, ho⟩ := WI _ (by rw [hhp]; exact hT) Y
  rw [← hcl, ← hinto []] at st1
  have st2 := xsteps_down st1
  have hS : va_S (fun q => base ≤ q) s.heap t.heap (locs ++ L9) := by
    rw [hhp] at t4
    refine ⟨Nat.le_trans g4.1 t4.1, fun q hq hA9 => (t4.2.1 q (Nat.lt_of_lt_of_le hq g4.1) hA9).trans (g4.2.1 q hq hA9), fun q hq => ?_⟩
    rcases List.mem_append.mp hq with hq | hq
    · exact g4.2.2 q hq
    · exact t4.2.2 q hq
  have ec : h.length - n0 + (h1.length - h.length) = h1.length - n0 := by omega
  have es : xsz h - z0 + (xsz h1 - xsz h) = xsz h1 - z0 := by omega
  rw [← hs'] at hWt hsame
  cases rc with
  | inl v =>
    have ho : o = .returned (v.map (xv b base ta)) := ho
    subst ho
    obtain ⟨T2, X2, -, -, ht⟩ := X₁.outOf (g := F0 m pc rl (st'.map (xv b base ta))) rfl hd hend hWt hsame
    rw [ec, es] at X2
    have hh : T2.heap = t.heap := by rw [ht]; rfl
    have K := kr v rfl (by omega) (by omega) t.heap (locs ++ L9) rl g1 t2 t3 hS T2 hh X2
    obtain ⟨t5, a5, b5⟩ := K
    refine ⟨t5, step t5 (fun acts => ?_), b5⟩
    rw [doInvoke_state]
    refine st2.trans ?_
    rw [ht]
    have e9 : (v.map (xv b base ta)).toList ++ st'.map (xv b base ta) = (v.toList ++ st').map (xv b base ta) := by cases v <;> simp
    show Steps p.tables e below (T2.setTop (F0 m (pc + 3) rl ((v.map (xv b base ta)).toList ++ st'.map (xv b base ta)))) t5
    rw [e9]
    exact a5
  | inr qa =>
    obtain ⟨q, a⟩ := qa
    have ho : o = .threw (base + a) := ho
    subst ho
    obtain ⟨T2, X2, -, -, ht⟩ := X₁.outOfThrown (g := F0 m pc rl (st'.map (xv b base ta))) rfl hend hWt hsame
    rw [ec, es] at X2
    have hh : T2.heap = t.heap := by rw [ht]; rfl
    obtain ⟨t5, a5, b5⟩ := kt q a rfl t.heap (locs ++ L9) rl g1 t2 t3 hS T2 hh X2
    refine ⟨t5, step t5 (fun acts => ?_), b5⟩
    rw [doInvoke_state]
    refine st2.trans ?_
    rw [ht]
    exact a5
end XCALL
end
section
/-! A THROW -/
section XREBASE
variable {p : Program} {l : Launch} {e : Env} {R : Room} {s : State} {m : MethodId} {args : Array Value} {below : List Frame} {meth : Method} {c : Code} {T : State} {locs : List Loc} {cells slots : Nat}
/-- the same walk, as if the invocation had begun in its present state -/
theorem xrebase (X : Stand p l e R s m args below meth c T locs cells slots) (hc : cells ≤ R.cells) (hs : slots ≤ R.slots) : Stand p l e { frames := R.frames, cells := R.cells - cells, slots := R.slots - slots, locals := R.locals } (T.setFrames (.invoking m args :: below)) m args below meth c T [] 0 0 := by
  obtain ⟨g₀, hfr⟩ := X.frames_eq
  have hcur : T.cur < T.threads.size := State.cur_lt_of_frames hfr
  have hf : (T.setFrames (.invoking m args :: below)).frames = .invoking m args :: below := State.frames_setFrames _ hcur
  have hm : T.vm.method? m = some meth := X.method'
  have hr := X.room
  simp only [State.hasRoom, Bool.and_eq_true, decide_eq_true_eq] at hr
  obtain ⟨⟨⟨⟨r1, r2, r3, r4, r5, r6⟩, r7⟩, r8⟩, r9⟩ := hr
  rw [State.localsInUse_invoking X.frames X.method X.code] at r1 r4 r5
  rw [X.frames] at r2 r3
  refine ⟨X.admits, X.cas, X.clock, hf, ?_, ?_, hm, X.code, X.here, X.tail, State.WarmedH.refl _, (State.stackLimits_setFrames _ _ _).symm, (State.stackBytes_setFrames _ _).symm, ?_⟩
  · simp only [State.hasRoom, Bool.and_eq_true, decide_eq_true_eq]
    rw [State.localsInUse_invoking hf hm X.code, hf, State.stackLimits_setFrames, State.stackBytes_setFrames, X.limits, X.bytes]
    have h1 := X.heapSize
    have h2 := X.used
    refine ⟨⟨⟨⟨r1, r2, r3, r4, r5, r6⟩, ?_⟩, ?_⟩, X.book⟩
    · show T.heap.size + (R.cells - cells) ≤ _
      omega
    · show T.slotsUsed + (R.slots - slots) ≤ _
      omega
  · have hh := X.hears
    cases below with
    | nil =>
      simp only [State.hears] at hh ⊢
      show (T.vm.method? m).any _ = true
      rw [X.warmed.alike.method?]
      exact hh
    | cons f r =>
      cases f with
      | java g =>
        simp only [State.hears] at hh ⊢
        have e1 : (T.setFrames (.invoking m args :: .java g :: r)).code? g.method = s.code? g.method := by
          rw [State.code?_eq, State.code?_eq]
          show (T.vm.method? g.method).bind _ = _
          rw [X.warmed.alike.method?]
        rw [e1]
        exact hh
      | native g => rfl
      | proc g => rfl
      | _ =>
        simp only [State.hears] at hh ⊢
        show (T.vm.method? m).any _ = true
        rw [X.warmed.alike.method?]
        exact hh
  · obtain ⟨th, hth, -⟩ := State.frames_cons hf
    obtain ⟨th0, hth0, -⟩ := State.frames_cons hfr
    have h := (State.sameButNew.refl (T.setFrames (.invoking m args :: below)) hth).setFrames T.frames (State.cur_lt_of_frames hf)
    rw [State.setFrames_setFrames, State.setFrames_self hth0] at h
    exact h
end XREBASE
/-- the linked throw o stands for 'throw new E()' at pc: its first number: the constructor's entry; then E's class; then the entry of 'new' -/
def xokT (Ts : List Cond) (cl : List vw_C) (own : String) (cc : ByteArray) (pc : Nat) (o : xI) : Prop := match o with
  | (.athrow, ic, ei, ix) => decode cc pc = .ok (.new ix, 3) ∧ decode cc (pc + 3) = .ok (.dup, 1) ∧ decode cc (pc + 3 + 1) = .ok (.invokespecial ic, 3) ∧ decode cc (pc + 3 + 1 + 3) = .ok (.athrow, 1) ∧
    ∃ r ∈ (cl[ei]?).toList, r.2.2 = 0 ∧ Cond.classLink own ix r.1 ∈ Ts ∧ Cond.initialized r.1 ∈ Ts ∧ Cond.instantiable r.1 6 ∈ Ts ∧ Bundle.fit r.1 = true ∧ ∀ w ∈ Bundle.ownAtoms0 own ic r.1 ["java/lang/RuntimeException", "java/lang/Exception"], w ∈ Ts ∨ w ∈ xU4
  | _ => False
section XTHROW
variable {p : Program} {l : Launch} {e : Env} {R : Room} {s : State} {m : MethodId} {args : Array Value} {below : List Frame} {meth : Method} {c : Code}
variable {b base : Nat} {ta : (Nat → Nat) × Option Nat} {dA : Nat → ClassId} {D : va_G} {cl : List vw_C} {n0 z0 : Nat} {cc : ByteArray} {pc : Nat} {ls : xL} {st : List Value} {h h' : xH} {r : xO}
variable {Ts : List Cond} {ty : Nat → FieldType} {own : String} {ini : Bool}
variable {nf : Nat → List Value} {L : Nat} {xs : Nat → Int32} {mc : Nat → Option Nat} {lit : List (List Int32)} {ldcs : List (String × Nat × String × Nat)}
set_option maxHeartbeats 1000000 in
theorem xs_throw {ic ei ix : Nat} (F : XF p s m args meth c b base dA D cl Ts ty L xs ta lit ldcs cc own ini) (hG : ∀ w ∈ Ts, xgw w = true) (hU : XU base s) (htr : e.platform.stackTraces = false) (hlocks : meth.locks = false) (hno : c.exceptionTable.toList = []) (hsz : ls.length = c.maxLocals)
    (hok : xokT Ts cl own cc pc (.athrow, ic, ei, ix)) (hs : xstep nf L xs lit mc (.athrow, ic, ei, ix) pc ls st h = some (.inr (.inl (r, h')))) (hfr : 8 ≤ R.frames) (hlo : 200 ≤ R.locals) (hR : h'.length - n0 ≤ R.cells ∧ xsz h' - z0 ≤ R.slots) :
    XK p l e R s m args below meth c (XQ below s b base ta dA D cl n0 z0 r h') b base ta dA D cl n0 z0 pc ls st h := by
  obtain ⟨hx, hb, hown, hts, hK, hA, hX, hbl, hbs, hini, hTx⟩ := F
  obtain ⟨d0, d3, d4, d7, q, hq, hq0, w1, w2, w3, hfit, hat⟩ := hok
  have hq : cl[ei]? = some q := by simpa using hq
  simp only [xstep] at hs
  split at hs
  · rename_i hw8
    cases hs
    intro hn hz H locs rl g1 g2 g3 g4 T hT X
    have hl1 : (h ++ [(.inr (ei, List.replicate 6 .null) : xC)]).length = h.length + 1 := by simp
    have hz1 : xsz (h ++ [(.inr (ei, List.replicate 6 .null) : xC)]) = xsz h + 6 := by rw [xsz_app]; rfl
    rw [hl1, hz1] at hR
    have hW2 : s.WarmedH (T.setFrames (.invoking m args :: below)).vm := X.warmed
    have X2 := xrebase X (by omega) (by omega)
    generalize hs2 : T.setFrames (.invoking m args :: below) = s2 at X2 hW2
    have hh2 : s2.heap = H := by rw [← hs2]; exact hT
    have hts2 : ∀ w ∈ Ts, w.before args s2 = true := fun w hw => xgw_at hW2 (hG w hw) (hts w hw)
    have hU2 : XU base s2 := hU.go hW2 (fun q hq => by rw [hh2]; exact g4.2.1 q (Nat.lt_of_lt_of_le hq hbs) (Nat.not_le.mpr hq))
    have hown2 : s2.vm.findClass own = some m.cls := by rw [hW2.alike.findClass]; exact hown
    rw [← hb] at d0 d3 d4 d7
    obtain ⟨vm1, cC, kC, f1, f2, f3, f4, X3, st3⟩ := X2.newCold hx hown2 (hts2 _ w1) (hts2 _ w3) (hts2 _ w2) (g := F0 m pc rl (st.map (xv b base ta))) rfl d0 (by show 0 + 1 ≤ R.cells - _; omega) (by show 0 + 6 ≤ R.slots - _; omega)
    have hWd : W p l e { frames := R.frames, cells := R.cells - (h.length - n0), slots := R.slots - (xsz h - z0), locals := R.locals } s2 m args below meth c ((T.setVm vm1).pushCell { cls := cC, slots := kC.instanceTypes.map defaultValue, vm := .none }).heap [] (0 + 1) (0 + 6)
        (fun U => U.status = .running ∧ Ended U below (.threw H.size) ∧ s2.WarmedH U.vm ∧ s2.sameButNew ({ U with vm := s2.vm } : State) [] (0 + 1) (0 + 6) ∧ ∃ ce, U.heap[H.size]? = some ce ∧ Bundle.OwnCell args s2 q.1 H.size .null ce) (F0 m (pc + 3) rl (.ref H.size :: st.map (xv b base ta))) := by
      refine lv_dup hx rfl d3 rfl ?_
      intro T4 hT4 X4
      obtain ⟨U, a1, a2, a3, a4, a5, a6⟩ := X4.ctorThrow0 hx htr (own := own) (cls := q.1) (names := ["java/lang/RuntimeException", "java/lang/Exception"]) (ic := ic) hown2 hfit (by decide +kernel) (fun w hw => by
          rcases hat w hw with h9 | h9
          · exact hts2 w h9
          · exact hU2 args s2 (State.WarmedH.refl _) (fun _ _ => rfl) w h9) (fun x hx9 => by cases hx9) (a := H.size) f1 f2 (by rw [hT4, ← hT]; simp [State.pushCell, State.setVm]) (by rw [hh2]; exact Nat.le_refl _)
        (g := F0 m (pc + 3 + 1) rl (.ref H.size :: .ref H.size :: st.map (xv b base ta))) rfl (by show rl.size = _; rw [g1.1, hsz]) rfl rfl rfl d4 d7 (by rw [hno]; exact fun x hx9 => by cases hx9) (by show 2 + 3 < R.frames; omega) (by
          show 2 * 0 + _ + (13 * (2 + 1) + 41) ≤ R.locals
          rw [List.map_cons, List.sum_cons, xw_map]
          show 2 * 0 + (1 + xw st) + _ ≤ _
          omega) hlocks
      exact ⟨U, a1, a2, a3, a4, a5, a6⟩
    obtain ⟨U, st4, a2, a3, a4, a5, ce, a6, a7⟩ := hWd _ rfl X3
    have hsz2 : U.heap.size = H.size + 1 := by
      have e1 : U.heap.size ≤ s2.heap.size + (0 + 1) := a5.2.2.1
      have e2 := (Array.getElem?_eq_some_iff.mp a6).1
      rw [hh2] at e1
      omega
    have hold : ∀ x, x < H.size → U.heap[x]? = H[x]? := by
      intro x hx9
      obtain ⟨c9, hc9⟩ : ∃ c9, H[x]? = some c9 := ⟨_, Array.getElem?_eq_getElem hx9⟩
      obtain ⟨c8, q1, q2, q3, q4⟩ := a5.2.2.2.2.2 x c9 (by rw [hh2]; exact hc9)
      have q1 : U.heap[x]? = some c8 := q1
      rw [q1, hc9]
      have e3 : c8.slots = c9.slots := by
        apply Array.ext_getElem?
        intro i
        exact q4 i (by simp)
      rw [q2, e3]
    have hWU : s.WarmedH U.vm := State.WarmedH.trans hW2 a4
    have hP : va_P D cl (xws b base ta dA (h ++ [.inr (ei, List.replicate 6 .null)])) U.heap := by
      rw [xws_app]
      refine (g3.kept (fun k q hk => hold q.1 ((g3 k q hk).lt))).app (fun k q9 hk => ?_)
      have hz9 : k < 1 := (List.getElem?_eq_some_iff.mp hk).1
      rw [show k = 0 by omega] at hk
      cases hk
      refine ⟨q, hq, ce, by rw [← g2]; exact a6, ?_, a7.vm, fun k hk => ?_⟩
      · have e4 := a7.cls
        rw [hW2.alike.findClass, (hK.1 ei q hq).2.1] at e4
        exact (Option.some.inj e4).symm
      · rw [hq0] at hk
        exact absurd hk (Nat.not_lt_zero _)
    have hTU : T.sameButNew ({ U with vm := T.vm } : State) [] (0 + 1) (0 + 6) := by
      rw [← hs2] at a5
      obtain ⟨b1, b2⟩ := a5
      refine ⟨?_, b2⟩
      rw [State.setFrames_setFrames] at b1
      exact b1
    refine ⟨U, st3 U (by rw [hT]; exact st4), .threw (base + h.length), locs ++ [], a2, by rw [← g2]; exact a3, hWU, ?_, by rw [hsz2, g2, hl1]; omega, hP, ⟨by rw [hsz2]; have := g4.1; omega, fun x hx9 hA9 => (hold x (Nat.lt_of_lt_of_le hx9 g4.1)).trans (g4.2.1 x hx9 hA9), fun x hx9 => g4.2.2 x (by simpa using hx9)⟩, rfl⟩
    have e5 := X.same.trans (hTU.setVm s.vm)
    rw [hl1, hz1, show h.length + 1 - n0 = h.length - n0 + (0 + 1) by omega, show xsz h + 6 - z0 = xsz h - z0 + (0 + 6) by omega]
    exact e5
  · cases hs
end XTHROW
end
section
/-! AN EXCEPTION OUT OF A CALL: through the caller, or caught in it -/
/-- by these rows of handlers an exception of the class X that comes out of the call at pc is caught, and the method goes on at q -/
def xokH (Ts : List Cond) (own : String) (nc : List (String × String)) (ns : List String) (pc : Nat) (X : String) (q : Nat) : List (Nat × Nat × Nat × Nat) → Prop
  | [] => False
  | y :: t => (¬ (y.1 ≤ pc ∧ pc < y.2.1) ∧ xokH Ts own nc ns pc X q t) ∨ ((y.1 ≤ pc ∧ pc < y.2.1) ∧ y.2.2.2 ≠ 0 ∧ ((y.2.2.1 = q ∧ Cond.classLink own y.2.2.2 X ∈ Ts) ∨ ((∃ nm ∈ ns, Cond.classLink own y.2.2.2 nm ∈ Ts ∧ (X, nm) ∈ nc) ∧ xokH Ts own nc ns pc X q t)))
section XCATCH
variable {p : Program} {l : Launch} {e : Env} {R : Room} {s : State} {m : MethodId} {args : Array Value} {below : List Frame} {meth : Method} {c : Code} {Q : State → Prop}
variable {b base : Nat} {ta : (Nat → Nat) × Option Nat} {dA : Nat → ClassId} {D : va_G} {cl : List vw_C} {n0 z0 : Nat} {cc : ByteArray} {pc q : Nat} {ls : xL} {st : List Value} {h : xH}
variable {Ts : List Cond} {ty : Nat → FieldType} {own : String} {ini : Bool} {L : Nat} {xs : Nat → Int32} {nc : List (String × String)} {ns : List String} {lit : List (List Int32)} {ldcs : List (String × Nat × String × Nat)}
/-- no handler covers the call: the exception leaves the caller too -/
theorem xt_out {ei a : Nat} (hlocks : meth.locks = false) (hno : ∀ x ∈ c.exceptionTable.toList, covers x pc = false) : XT p l e R s m args below meth c (XQ below s b base ta dA D cl n0 z0 (.inr (ei, a)) h) b base ta dA D cl n0 z0 pc ls st h a := by
  intro H locs rl g1 g2 g3 g4 T hT X
  obtain ⟨a1, a2, a3, a4, a5⟩ := X.leaveThrown (base + a) (g := F0 m pc rl (st.map (xv b base ta))) rfl rfl rfl hno hlocks
  refine ⟨_, a1, .threw (base + a), locs, a2, a3, a4, a5, ?_, ?_, ?_, rfl⟩
  · show T.heap.size = _
    rw [hT]; exact g2
  · show va_P D cl _ T.heap
    rw [hT]; exact g3
  · show va_S _ s.heap T.heap locs
    rw [hT]; exact g4
theorem xokH_split {X : String} (hpl : e.platform.magicAccessors = ({} : Platform).magicAccessors) (hown : s.vm.findClass own = some m.cls) (hts : ∀ w ∈ Ts, w.before args s = true) (hV : XV nc s) {cX : ClassId} (hX : s.vm.findClass X = some cX) :
    ∀ (es : List ExceptionTableEntry), xokH Ts own nc ns pc X q (es.map (fun h => (h.startPc, h.endPc, h.handlerPc, h.catchType))) → ∃ pre x rest, es = pre ++ x :: rest ∧ (∀ y ∈ pre, RowPassed e.platform s m.cls pc cX y) ∧ covers x pc = true ∧ x.handlerPc = q ∧ x.catchType ≠ 0 ∧ (Cond.classLink own x.catchType X).before args s = true := by
  intro es
  induction es with
  | nil => intro h; cases h
  | cons y t ih =>
    intro h
    rcases h with ⟨h1, h2⟩ | ⟨h1, h2, h3⟩
    · obtain ⟨pre, x, rest, e1, e2, e3⟩ := ih h2
      refine ⟨y :: pre, x, rest, by rw [e1]; rfl, fun z hz => ?_, e3⟩
      rcases List.mem_cons.mp hz with rfl | hz
      · refine Or.inl ?_
        unfold covers
        have h1 : ¬ (z.startPc ≤ pc ∧ pc < z.endPc) := h1
        simp only [Bool.and_eq_false_imp, decide_eq_true_eq, decide_eq_false_iff_not]
        exact fun h9 h8 => h1 ⟨h9, h8⟩
      · exact e2 z hz
    · have hcov : covers y pc = true := by
        have h1 : y.startPc ≤ pc ∧ pc < y.endPc := h1
        unfold covers
        simp [h1.1, h1.2]
      rcases h3 with ⟨h4, h5⟩ | ⟨⟨nm, -, h5, h6⟩, h7⟩
      · exact ⟨[], y, t, rfl, (fun z hz => by cases hz), hcov, h4, h2, hts _ h5⟩
      · obtain ⟨pre, x, rest, e1, e2, e3⟩ := ih h7
        refine ⟨y :: pre, x, rest, by rw [e1]; rfl, fun z hz => ?_, e3⟩
        rcases List.mem_cons.mp hz with rfl | hz
        · exact RowPassed.of_words hpl hown h2 (hts _ h5) hX (hV _ h6 args s (State.WarmedH.refl s))
        · exact e2 z hz
/-- a handler takes it -/
theorem xt_catch {ei a : Nat} {fs : List Value} {r : vw_C} (F : XF p s m args meth c b base dA D cl Ts ty L xs ta lit ldcs cc own ini) (hV : XV nc s) (hr : cl[ei]? = some r) (ha : h[a]? = some (.inr (ei, fs))) {hdl : List (Nat × Nat × Nat × Nat)} (hh : c.exceptionTable.toList.map (fun h => (h.startPc, h.endPc, h.handlerPc, h.catchType)) = hdl) (hok : xokH Ts own nc ns pc r.1 q hdl)
    (hn : n0 ≤ h.length) (hz : z0 ≤ xsz h) (K : XK p l e R s m args below meth c Q b base ta dA D cl n0 z0 q ls [.ref a] h) : XT p l e R s m args below meth c Q b base ta dA D cl n0 z0 pc ls st h a := by
  obtain ⟨hx, hb, hown, hts, hK, hA, hX, hbl, hbs, hini, hTx⟩ := F
  intro H locs rl g1 g2 g3 g4 T hT X
  have hpl : e.platform.magicAccessors = ({} : Platform).magicAccessors := by rw [X.admits.platform]
  have hcls := (hK.1 ei r hr).2
  subst hh
  obtain ⟨pre, x, rest, e1, e2, e3, e4, e5, e6⟩ := xokH_split (args := args) (m := m) hpl hown hts hV hcls.1 _ hok
  obtain ⟨r', hr', cell, c1, c2, c3, -⟩ := g3 a _ (xws_get ha)
  have hcat := X.catches_of_link hown e5 e6 hcls.1 (va_assign hcls)
  rw [← c2] at hcat e2
  obtain ⟨vm', X', st'⟩ := X.caughtThrough (base + a) (g := F0 m pc rl (st.map (xv b base ta))) rfl (by rw [hT]; exact c1) (by rw [c3]; rfl) hcat.2 pre x rest e1 e2 e3 hcat.1
  obtain ⟨t, a1, b1⟩ := K hn hz H locs rl g1 g2 g3 g4 (T.setVm vm') hT X'
  refine ⟨t, ?_, b1⟩
  rw [X.pushThrowing_eq]
  refine st' t ?_
  rw [e4]
  exact a1
end XCATCH
end
section
/-! A METHOD'S ENTRY, AND WHAT EVERY STEP KEEPS -/
section XENT
variable {b base : Nat} {ta : (Nat → Nat) × Option Nat}
theorem xent_sl (as : List Value) : lg_sl (as.map (xv b base ta)) = (xfl as).map (fun o => match o with | some v => Slot.val (xv b base ta v) | none => Slot.second) := by
  unfold lg_sl xfl
  induction as with
  | nil => rfl
  | cons v t ih =>
    rw [List.map_cons, List.flatMap_cons, List.flatMap_cons, List.map_append, ih, xv_cat']
    congr 1
    by_cases hc : v.category = 2 <;> simp [hc]
theorem xls_entry (as : List Value) (n : Nat) (hn : (xent as n).length = n) : xls b base ta (xent as n) (lg_sl (as.map (xv b base ta)) ++ List.replicate (n - (lg_sl (as.map (xv b base ta))).length) Slot.unset).toArray := by
  have hlen : (lg_sl (as.map (xv b base ta))).length = (xfl as).length := by rw [xent_sl, List.length_map]
  have hle : (lg_sl (as.map (xv b base ta))).length ≤ n := by
    rw [hlen]
    simp only [xent, List.length_append, List.length_replicate] at hn
    omega
  obtain ⟨h1, h2, -⟩ := lv_entry (as.map (xv b base ta)) (n := n) hle
  refine ⟨by rw [h1, hn], h2, fun i v hi => ?_⟩
  simp only [xent] at hi
  rw [List.getElem?_toArray]
  have hl : i < (xfl as).length := by
    rcases Nat.lt_or_ge i (xfl as).length with q | q
    · exact q
    · rw [List.getElem?_append_right q, List.getElem?_replicate] at hi
      split at hi <;> cases hi
  rw [List.getElem?_append_left hl] at hi
  rw [List.getElem?_append_left (by rw [hlen]; exact hl), xent_sl, List.getElem?_map, hi]
  rfl
end XENT
section XKEEP
variable {nf : Nat → List Value} {L : Nat} {xs : Nat → Int32} {mc : Nat → Option Nat} {lit : List (List Int32)} {ldcs : List (String × Nat × String × Nat)}
theorem xset_len {ls ls' : xL} {i : Nat} {v : Value} (h : xset ls i v = some ls') : ls'.length = ls.length := by
  rw [(xset_spec h).2.1, List.length_set]
set_option maxHeartbeats 2000000 in
/-- a step that goes on keeps the number of locals, and the heap doesn't shrink -/
theorem xstep_keep {o : xI} {pc pc' : Nat} {ls ls' : xL} {st st' : List Value} {h h' : xH} (hs : xstep nf L xs lit mc o pc ls st h = some (.inl (pc', ls', st', h'))) : ls'.length = ls.length ∧ h.length ≤ h'.length ∧ xsz h ≤ xsz h' := by
  have hset : ∀ {a : Nat} {c0 c1 : xC}, h[a]? = some c0 → xcz c1 = xcz c0 → h.length ≤ (h.set a c1).length ∧ xsz h ≤ xsz (h.set a c1) := fun h1 h2 => ⟨by rw [List.length_set]; exact Nat.le_refl _, by rw [xsz_set h1 h2]; exact Nat.le_refl _⟩
  have happ : ∀ (cs : List xC), h.length ≤ (h ++ cs).length ∧ xsz h ≤ xsz (h ++ cs) := fun cs => ⟨by rw [List.length_append]; omega, by unfold xsz; rw [List.map_append, List.sum_append]; omega⟩
  obtain ⟨i1, n1, x1, x2⟩ := o
  unfold xstep at hs
  split at hs <;> (try (cases hs; done)) <;> (try (cases hs; exact ⟨rfl, Nat.le_refl _, Nat.le_refl _⟩)) <;>
    (repeat' (split at hs)) <;> (try (cases hs; done)) <;> (try (cases hs; exact ⟨rfl, Nat.le_refl _, Nat.le_refl _⟩)) <;> (try (cases hs; exact ⟨rfl, happ _⟩)) <;> (try (cases hs; exact ⟨xset_len (by assumption), Nat.le_refl _, Nat.le_refl _⟩)) <;> (try (cases hs; exact ⟨rfl, hset (by assumption) (by simp [xcz])⟩))
end XKEEP
end
section
/-! WHAT THE PURE MACHINE DOES, THE REAL ONE DOES -/
section XALL
variable {nf : Nat → List Value} {L : Nat} {xs : Nat → Int32} {mc : Nat → Option Nat} {lit : List (List Int32)} {ldcs : List (String × Nat × String × Nat)}
set_option maxHeartbeats 2000000 in
theorem xstep_end {o : xI} {pc : Nat} {ls : xL} {st : List Value} {h h' : xH} {r : xO} (hs : xstep nf L xs lit mc o pc ls st h = some (.inr (.inl (r, h')))) : (h.length ≤ h'.length ∧ xsz h ≤ xsz h') ∧ (∀ k a, r = .inr (k, a) → ∃ fs, h'[a]? = some (.inr (k, fs))) ∧ (o.1 = .ireturn ∨ o.1 = .areturn ∨ o.1 = .return_ ∨ o.1 = .athrow) := by
  have happ : ∀ (cs : List xC), h.length ≤ (h ++ cs).length ∧ xsz h ≤ xsz (h ++ cs) := fun cs => ⟨by rw [List.length_append]; omega, by unfold xsz; rw [List.map_append, List.sum_append]; omega⟩
  obtain ⟨i1, n1, x1, x2⟩ := o
  cases i1 <;> (try (cases hs; done)) <;> simp only [xstep] at hs <;> (try (cases hs; done)) <;> (repeat' (split at hs)) <;> (try (cases hs; done))
  · cases hs
    exact ⟨⟨Nat.le_refl _, Nat.le_refl _⟩, (fun k a h9 => by cases h9), Or.inr (Or.inl rfl)⟩
  · cases hs
    exact ⟨happ _, (fun k a h9 => by cases h9; exact ⟨_, by rw [List.getElem?_append_right (Nat.le_refl _), Nat.sub_self]; rfl⟩), Or.inr (Or.inr (Or.inr rfl))⟩
  · cases hs
    exact ⟨⟨Nat.le_refl _, Nat.le_refl _⟩, (fun k a h9 => by cases h9), Or.inl rfl⟩
  · cases hs
    exact ⟨⟨Nat.le_refl _, Nat.le_refl _⟩, (fun k a h9 => by cases h9), Or.inr (Or.inr (Or.inl rfl))⟩
set_option maxHeartbeats 2000000 in
theorem xstep_call {o : xI} {pc : Nat} {ls : xL} {st : List Value} {h : xH} {q : Nat × List Value × Nat × List Value} (hs : xstep nf L xs lit mc o pc ls st h = some (.inr (.inr q))) : ∃ ix n k kd, o = (.invokeinterface q.1 ix, n, k, kd) := by
  obtain ⟨i1, n1, x1, x2⟩ := o
  cases i1 <;> (try (cases hs; done)) <;> simp only [xstep] at hs <;> (try (cases hs; done)) <;> (repeat' (split at hs)) <;> (try (cases hs; done)) <;> (cases hs; exact ⟨_, _, _, _, rfl⟩)
variable {P : Nat → Nat → Option xI} {mx : Nat → Nat} {hd : Nat → Nat → Nat → Option (Option Nat)}
theorem xrun_keep : ∀ (n d i pc : Nat) (ls : xL) (st : List Value) (h : xH) (r : xO) (h' : xH), xrun (xstep nf L xs lit mc) P mx hd n d i pc ls st h = some (r, h') → (h.length ≤ h'.length ∧ xsz h ≤ xsz h') ∧ ∀ k a, r = .inr (k, a) → ∃ fs, h'[a]? = some (.inr (k, fs)) := by
  intro n
  induction n with
  | zero => intro d i pc ls st h r h' hr; cases hr
  | succ n ih =>
    intro d i pc ls st h r h' hr
    simp only [xrun] at hr
    split at hr
    · cases hr
    · rename_i o ho
      split at hr
      · cases hr
      · rename_i pc' ls' st' h1 hs
        obtain ⟨-, k1, k2⟩ := xstep_keep hs
        obtain ⟨⟨j1, j2⟩, j3⟩ := ih _ _ _ _ _ _ _ _ hr
        exact ⟨⟨Nat.le_trans k1 j1, Nat.le_trans k2 j2⟩, j3⟩
      · rename_i r1 hs
        cases hr
        obtain ⟨k1, k2, -⟩ := xstep_end hs
        exact ⟨k1, k2⟩
      · rename_i j as pc' st' hs
        split at hr
        · cases hr
        · rename_i d
          split at hr
          · split at hr
            · cases hr
            · rename_i v h1 hc
              obtain ⟨⟨j1, j2⟩, -⟩ := ih _ _ _ _ _ _ _ _ hc
              obtain ⟨⟨l1, l2⟩, l3⟩ := ih _ _ _ _ _ _ _ _ hr
              exact ⟨⟨Nat.le_trans j1 l1, Nat.le_trans j2 l2⟩, l3⟩
            · rename_i k a h1 hc
              obtain ⟨⟨j1, j2⟩, j3⟩ := ih _ _ _ _ _ _ _ _ hc
              split at hr
              · obtain ⟨⟨l1, l2⟩, l3⟩ := ih _ _ _ _ _ _ _ _ hr
                exact ⟨⟨Nat.le_trans j1 l1, Nat.le_trans j2 l2⟩, l3⟩
              · cases hr
                exact ⟨⟨j1, j2⟩, j3⟩
              · cases hr
          · cases hr
end XALL
section XGO
variable {p : Program} {l : Launch} {e : Env} {R : Room} {s : State} {m : MethodId} {args : Array Value} {below : List Frame} {meth : Method} {c : Code} {Q : State → Prop}
variable {b base : Nat} {ta : (Nat → Nat) × Option Nat} {dA : Nat → ClassId} {D : va_G} {cl : List vw_C} {n0 z0 : Nat} {cc : ByteArray} {pc pc' : Nat} {ls ls' : xL} {st st' : List Value} {h h' : xH} {raw : Instr} {o : xI}
variable {Ts : List Cond} {ty : Nat → FieldType} {own : String} {tf : Nat → Nat → Nat} {ini : Bool}
variable {nf : Nat → List Value} {L : Nat} {xs : Nat → Int32} {mc : Nat → Option Nat} {lit : List (List Int32)} {ldcs : List (String × Nat × String × Nat)}
set_option maxHeartbeats 4000000 in
/-- every instruction that goes on -/
theorem xs_go (F : XF p s m args meth c b base dA D cl Ts ty L xs ta lit ldcs cc own ini) (G : XG Ts cl tf ty) (hd : decode cc pc = .ok (raw, o.2.1)) (hok : xok Ts cl own tf nf ty ldcs ini pc raw o) (hs : xstep nf L xs lit mc o pc ls st h = some (.inl (pc', ls', st', h'))) (hR : h'.length - n0 ≤ R.cells ∧ xsz h' - z0 ≤ R.slots) (hsz : ls.length = c.maxLocals) (hfr : 1 ≤ R.frames) (hlo : 120 ≤ R.locals)
    (K : XK p l e R s m args below meth c Q b base ta dA D cl n0 z0 pc' ls' st' h') : XK p l e R s m args below meth c Q b base ta dA D cl n0 z0 pc ls st h := by
  obtain ⟨i1, n1, x1, x2⟩ := o
  have hd : decode cc pc = .ok (raw, n1) := hd
  cases i1 with
  | iconst v => exact xs_iconst F G hd hok hs K
  | goto_w v => exact xs_lconst F G hd hok hs K
  | ldc i => exact xs_ldc F G hd hok hs K
  | getstatic i => exact xs_gets F G hd hok hs K
  | saload => exact xs_tval F G hd hok hs K
  | sastore => exact xs_tcod F G hd hok hs K
  | baload => exact xs_tbyt F G hd hok hs K
  | iload i => exact xs_iload F G hd hok hs K
  | lload i => exact xs_lload F G hd hok hs K
  | aload i => exact xs_aload F G hd hok hs K
  | istore i => exact xs_istore F G hd hok hs K
  | astore i => exact xs_astore F G hd hok hs K
  | iinc i k => exact xs_iinc F G hd hok hs K
  | iadd => exact xs_iadd F G hd hok hs K
  | isub => exact xs_isub F G hd hok hs K
  | imul => exact xs_imul F G hd hok hs K
  | idiv => exact xs_idiv F G hd hok hs K
  | irem => exact xs_irem F G hd hok hs K
  | iand => exact xs_iand F G hd hok hs K
  | ior => exact xs_ior F G hd hok hs K
  | ishl => exact xs_ishl F G hd hok hs K
  | ishr => exact xs_ishr F G hd hok hs K
  | ineg => exact xs_ineg F G hd hok hs K
  | land => exact xs_land F G hd hok hs K
  | lor => exact xs_lor F G hd hok hs K
  | lushr => exact xs_lushr F G hd hok hs K
  | lshl => exact xs_lshl F G hd hok hs K
  | lshr => exact xs_lshr F G hd hok hs K
  | lcmp => exact xs_lcmp F G hd hok hs K
  | i2l => exact xs_i2l F G hd hok hs K
  | l2i => exact xs_l2i F G hd hok hs K
  | i2c => exact xs_i2c F G hd hok hs K
  | dup => exact xs_dup F G hd hok hs K
  | dup_x1 => exact xs_dup_x1 F G hd hok hs K
  | dup2 => exact xs_dup2 F G hd hok hs K
  | pop => exact xs_pop F G hd hok hs K
  | goto t => exact xs_goto F G hd hok hs K
  | ifCond cd t => exact xs_if F G hd hok hs K
  | if_icmp cd t => exact xs_icmp F G hd hok hs K
  | tableswitch d lo hi offs => exact xs_table F G hd hok hs K
  | lookupswitch d ps => exact xs_lookup F G hd hok hs K
  | getfield k => exact xs_getf F G hd hok hs K
  | putfield k => exact xs_putf F G hd hok hs hR K
  | iaload => exact xs_iald F G hd hok hs K
  | iastore => exact xs_iast F G hd hok hs hR K
  | laload => exact xs_lald F G hd hok hs K
  | lastore => exact xs_last F G hd hok hs hR K
  | aaload => exact xs_aald F G hd hok hs K
  | aastore => exact xs_aast F G hd hok hs hR K
  | arraylength => exact xs_alen F G hd hok hs K
  | new ci => exact xs_new F G hd hok hs hR K
  | newarray a => exact xs_newa F G hd hok hs hR K
  | anewarray t => exact xs_anewa F G hd hok hs hR K
  | multianewarray t t' => exact xs_manewa F G hd hok hs hR K
  | invokespecial k => exact xs_oinit hsz hfr hlo F G hd hok hs K
  | invokeinterface j ix =>
    exfalso
    simp only [xstep] at hs
    (repeat' (split at hs)) <;> cases hs
  | athrow =>
    exfalso
    simp only [xstep] at hs
    split at hs <;> cases hs
  | ireturn =>
    exfalso
    simp only [xstep] at hs
    (repeat' (split at hs)) <;> cases hs
  | areturn =>
    exfalso
    simp only [xstep] at hs
    (repeat' (split at hs)) <;> cases hs
  | return_ =>
    exfalso
    simp only [xstep] at hs
    (repeat' (split at hs)) <;> cases hs
  | _ => cases hs
end XGO
end
section
/-! THE THEOREM -/
section XSOUND
variable {p : Program} {l : Launch} {e : Env} {b base : Nat} {ta : (Nat → Nat) × Option Nat} {dA : Nat → ClassId} {D : va_G} {cl : List vw_C} {Ts : List Cond} {ty : Nat → FieldType} {L : Nat} {xs : Nat → Int32} {tf : Nat → Nat → Nat} {nf : Nat → List Value} {mc : Nat → Option Nat} {lit : List (List Int32)} {ldcs : List (String × Nat × String × Nat)} {host : String} {nc : List (String × String)} {ns : List String}
variable {yM : Nat → MethodName} {cM : Nat → ByteArray} {mx : Nat → Nat} {rM : Nat → Option FieldType} {hM : Nat → List (Nat × Nat × Nat × Nat)} {P : Nat → Nat → Option xI} {hd : Nat → Nat → Nat → Option (Option Nat)}
/-- the linked code is the bytecode -/
def XP (cl : List vw_C) (Ts : List Cond) (ty : Nat → FieldType) (tf : Nat → Nat → Nat) (nf : Nat → List Value) (mc : Nat → Option Nat) (host : String) (yM : Nat → MethodName) (cM : Nat → ByteArray) (rM : Nat → Option FieldType) (hM : Nat → List (Nat × Nat × Nat × Nat)) (ldcs : List (String × Nat × String × Nat)) (P : Nat → Nat → Option xI) : Prop :=
  ∀ (i pc : Nat) (o : xI), P i pc = some o → (o.1 = .athrow ∧ xokT Ts cl (yM i).cls (cM i) pc o ∧ hM i = []) ∨ (o.1 ≠ .athrow ∧ ∃ raw, decode (cM i) pc = .ok (raw, o.2.1) ∧ xok Ts cl (yM i).cls tf nf ty ldcs (decide ((yM i).name = "<init>")) pc raw o ∧ xokR (rM i) o ∧ ((∃ j ix, o.1 = .invokeinterface j ix) → xokC Ts cl (yM i).cls host yM mc raw o))
/-- the handlers -/
def XHd (cl : List vw_C) (Ts : List Cond) (nc : List (String × String)) (ns : List String) (yM : Nat → MethodName) (hM : Nat → List (Nat × Nat × Nat × Nat)) (hd : Nat → Nat → Nat → Option (Option Nat)) : Prop :=
  ∀ (i pc k : Nat), (∀ q, hd i pc k = some (some q) → ∃ r, cl[k]? = some r ∧ xokH Ts (yM i).cls nc ns pc r.1 q (hM i)) ∧ (hd i pc k = some none → ∀ y ∈ hM i, ¬ (y.1 ≤ pc ∧ pc < y.2.1))
set_option maxHeartbeats 1000000 in
theorem xsound (hP : XP cl Ts ty tf nf mc host yM cM rM hM ldcs P) (hH : XHd cl Ts nc ns yM hM hd) (G : XG Ts cl tf ty) (M : XMt Ts yM cM mx rM hM) (htr : e.platform.stackTraces = false) :
    ∀ (n d i pc : Nat) (ls : xL) (st : List Value) (h : xH) (r : xO) (h' : xH), xrun (xstep nf L xs lit mc) P mx hd n d i pc ls st h = some (r, h') →
      ∀ (R : Room) (s : State) (m : MethodId) (args : Array Value) (below : List Frame) (meth : Method) (c : Code) (n0 z0 : Nat), XE p b base ta lit ldcs dA D cl Ts ty L xs yM cM mx rM hM nc s m args meth c i → d + 8 ≤ R.frames → 64 * d + 200 ≤ R.locals → h'.length - n0 ≤ R.cells → xsz h' - z0 ≤ R.slots → ls.length = mx i →
        XK p l e R s m args below meth c (XQ below s b base ta dA D cl n0 z0 r h') b base ta dA D cl n0 z0 pc ls st h := by
  intro n
  induction n with
  | zero => intro d i pc ls st h r h' hr; cases hr
  | succ n ih =>
    intro d i pc ls st h r h' hr R s m args below meth c n0 z0 E hfr hlo hRc hRs hsz
    have E' := E
    obtain ⟨F, hret, hlocks, hml, hch, hU, hV⟩ := E'
    simp only [xrun] at hr
    split at hr
    · cases hr
    · rename_i o ho
      rcases hP i pc o ho with ⟨hat, hokT, hno⟩ | ⟨hnt, raw, hdec, hok, hokR, hokC⟩
      · obtain ⟨i1, ic, ei, ix⟩ := o
        have hat : i1 = .athrow := hat
        subst hat
        split at hr
        · cases hr
        · rename_i pc' ls' st' h1 hs
          exfalso
          simp only [xstep] at hs
          split at hs <;> cases hs
        · rename_i r1 hs
          cases hr
          refine xs_throw F M.1 hU htr hlocks ?_ (hsz.trans hml.symm) hokT hs (by omega) (by omega) ⟨hRc, hRs⟩
          rw [hno] at hch
          simpa using hch
        · rename_i j as pc' st' hs
          exfalso
          simp only [xstep] at hs
          split at hs <;> cases hs
      · split at hr
        · cases hr
        · rename_i pc' ls' st' h1 hs
          obtain ⟨k0, k1, k2⟩ := xstep_keep hs
          obtain ⟨⟨j1, j2⟩, -⟩ := xrun_keep _ _ _ _ _ _ _ _ _ hr
          exact xs_go F G hdec hok hs ⟨by omega, by omega⟩ (hsz.trans hml.symm) (by omega) (by omega) (ih _ _ _ _ _ _ _ _ hr R s m args below meth c n0 z0 E hfr hlo hRc hRs (k0.trans hsz))
        · rename_i r1 hs
          cases hr
          obtain ⟨-, -, hend⟩ := xstep_end hs
          have hend : o.1 = .ireturn ∨ o.1 = .areturn ∨ o.1 = .return_ := by
            rcases hend with q | q | q | q
            · exact Or.inl q
            · exact Or.inr (Or.inl q)
            · exact Or.inr (Or.inr q)
            · exact absurd q hnt
          exact xs_ends F hret hlocks hend hdec hok hokR hs
        · rename_i j as pc' st' hs
          obtain ⟨ix, n1, k, kd, rfl⟩ := xstep_call hs
          have hC := hokC ⟨_, _, rfl⟩
          split at hr
          · cases hr
          · rename_i d
            split at hr
            · rename_i hent
              have IH : ∀ (rc : xO) (h1 : xH), xrun (xstep nf L xs lit mc) P mx hd n d j 0 (xent as (mx j)) [] h = some (rc, h1) → XGood p l e b base ta lit ldcs dA D cl Ts ty L xs yM cM mx rM hM nc d j as h rc h1 := by
                intro rc h1 hc R' s' m' below' meth' c' E9 f1 f2 f3 f4 f5 f6
                have K := ih _ _ _ _ _ _ _ _ hc R' s' m' (as.map (xv b base ta)).toArray below' meth' c' h.length (xsz h) E9 f1 f2 f3 f4 hent (Nat.le_refl _) (Nat.le_refl _) s'.heap [] _ (xls_entry as (mx j) hent) f5 f6 va_S.rf
                rw [Nat.sub_self, Nat.sub_self] at K
                rw [lg_entry_eq]
                exact K
              split at hr
              · cases hr
              · rename_i v h1 hc
                obtain ⟨⟨j1, j2⟩, -⟩ := xrun_keep _ _ _ _ _ _ _ _ _ hc
                obtain ⟨⟨l1, l2⟩, -⟩ := xrun_keep _ _ _ _ _ _ _ _ _ hr
                refine xs_call E M hdec hC hs (IH _ _ hc) (by omega) (by omega) j1 j2 ⟨by omega, by omega⟩ hsz (fun v9 hv => ?_) (fun q a hv => by cases hv)
                cases hv
                exact ih _ _ _ _ _ _ _ _ hr R s m args below meth c n0 z0 E hfr hlo hRc hRs hsz
              · rename_i k9 a h1 hc
                obtain ⟨⟨j1, j2⟩, j3⟩ := xrun_keep _ _ _ _ _ _ _ _ _ hc
                obtain ⟨fs, hfs⟩ := j3 k9 a rfl
                split at hr
                · rename_i q hq
                  obtain ⟨⟨l1, l2⟩, -⟩ := xrun_keep _ _ _ _ _ _ _ _ _ hr
                  obtain ⟨r9, hr9, hokH⟩ := (hH i pc k9).1 q hq
                  intro hn hz
                  refine xs_call E M hdec hC hs (IH _ _ hc) (by omega) (by omega) j1 j2 ⟨by omega, by omega⟩ hsz (fun v9 hv => by cases hv) (fun q2 a2 hv => ?_) hn hz
                  cases hv
                  exact xt_catch F hV hr9 hfs hch hokH (by omega) (by omega) (ih _ _ _ _ _ _ _ _ hr R s m args below meth c n0 z0 E hfr hlo hRc hRs hsz)
                · rename_i hq
                  cases hr
                  refine xs_call E M hdec hC hs (IH _ _ hc) (by omega) (by omega) j1 j2 ⟨by omega, by omega⟩ hsz (fun v9 hv => by cases hv) (fun q2 a2 hv => ?_)
                  cases hv
                  refine xt_out hlocks (fun x hx => ?_)
                  have h9 := (hH i pc k9).2 hq (x.startPc, x.endPc, x.handlerPc, x.catchType) (by rw [← hch]; exact List.mem_map.mpr ⟨x, hx, rfl⟩)
                  unfold covers
                  simp only [Bool.and_eq_false_imp, decide_eq_true_eq, decide_eq_false_iff_not]
                  exact fun h8 h7 => h9 ⟨h8, h7⟩
                · cases hr
            · cases hr
end XSOUND
end
section
/-! CHECKING THE TABLES: each row by the kernel -/
/-- a row of a method's table: its place, the instruction, the linked one -/
def xrow (Ts : List Cond) (cl : List vw_C) (ty : Nat → FieldType) (tf : Nat → Nat → Nat) (nf : Nat → List Value) (mc : Nat → Option Nat) (host : String) (yM : Nat → MethodName) (ldcs : List (String × Nat × String × Nat)) (y : MethodName) (cc : ByteArray) (ret : Option FieldType) (hdl : List (Nat × Nat × Nat × Nat)) (r : Nat × Instr × xI) : Prop :=
  (r.2.2.1 = .athrow ∧ xokT Ts cl y.cls cc r.1 r.2.2 ∧ hdl = []) ∨ (r.2.2.1 ≠ .athrow ∧ decode cc r.1 = .ok (r.2.1, r.2.2.2.1) ∧ xok Ts cl y.cls tf nf ty ldcs (decide (y.name = "<init>")) r.1 r.2.1 r.2.2 ∧ xokR ret r.2.2 ∧ (match r.2.2.1 with | .invokeinterface _ _ => xokC Ts cl y.cls host yM mc r.2.1 r.2.2 | _ => True))
def xokD (Ts : List Cond) (cl : List vw_C) (own : String) (tf : Nat → Nat → Nat) (nf : Nat → List Value) (ty : Nat → FieldType) (ldcs : List (String × Nat × String × Nat)) (ini : Bool) (pc : Nat) (raw : Instr) (o : xI) : Decidable (xok Ts cl own tf nf ty ldcs ini pc raw o) := by
  unfold xok
  split <;> first | infer_instance | (refine @instDecidableAnd _ _ ?_ ?_ <;> first | infer_instance | (refine @instDecidableAnd _ _ ?_ ?_ <;> first | infer_instance | (split <;> infer_instance)))
def xokRD (ret : Option FieldType) (o : xI) : Decidable (xokR ret o) := by
  unfold xokR
  split <;> infer_instance
def xokCD (Ts : List Cond) (cl : List vw_C) (own host : String) (yM : Nat → MethodName) (mc : Nat → Option Nat) (raw : Instr) (o : xI) : Decidable (xokC Ts cl own host yM mc raw o) := by
  unfold xokC
  split <;> first | infer_instance | skip
def xokTD (Ts : List Cond) (cl : List vw_C) (own : String) (cc : ByteArray) (pc : Nat) (o : xI) : Decidable (xokT Ts cl own cc pc o) := by
  unfold xokT
  split <;> infer_instance
def xrowD (Ts : List Cond) (cl : List vw_C) (ty : Nat → FieldType) (tf : Nat → Nat → Nat) (nf : Nat → List Value) (mc : Nat → Option Nat) (host : String) (yM : Nat → MethodName) (ldcs : List (String × Nat × String × Nat)) (y : MethodName) (cc : ByteArray) (ret : Option FieldType) (hdl : List (Nat × Nat × Nat × Nat)) (r : Nat × Instr × xI) : Decidable (xrow Ts cl ty tf nf mc host yM ldcs y cc ret hdl r) := by
  unfold xrow
  have d1 := xokTD Ts cl y.cls cc r.1 r.2.2
  have d2 := xokD Ts cl y.cls tf nf ty ldcs (decide (y.name = "<init>")) r.1 r.2.1 r.2.2
  have d3 := xokRD ret r.2.2
  have d4 : Decidable (match r.2.2.1 with | .invokeinterface _ _ => xokC Ts cl y.cls host yM mc r.2.1 r.2.2 | _ => True) := by
    have d5 := xokCD Ts cl y.cls host yM mc r.2.1 r.2.2
    split <;> infer_instance
  infer_instance
section XMONO
variable {Ts Ts' : List Cond} {cl : List vw_C} {own host : String} {tf : Nat → Nat → Nat} {nf : Nat → List Value} {ty : Nat → FieldType} {ldcs : List (String × Nat × String × Nat)} {ini : Bool} {pc : Nat} {raw : Instr} {o : xI} {yM : Nat → MethodName} {mc : Nat → Option Nat} {cc : ByteArray}
theorem xok_mono (hT : ∀ w ∈ Ts', w ∈ Ts) (h : xok Ts' cl own tf nf ty ldcs ini pc raw o) : xok Ts cl own tf nf ty ldcs ini pc raw o := by
  unfold xok at h ⊢
  split at h <;> try exact h
  · exact ⟨h.1, h.2.1, hT _ h.2.2⟩
  · refine ⟨h.1, h.2.1, ?_⟩
    rcases h.2.2 with ⟨a, q⟩ | ⟨a, q⟩
    · exact Or.inl ⟨a, hT _ q⟩
    · exact Or.inr ⟨a, hT _ q⟩
  · exact ⟨h.1, h.2.1, hT _ h.2.2⟩
  · exact ⟨h.1, h.2.1, hT _ h.2.2⟩
  · obtain ⟨h1, h2, r, hr, h3, h4⟩ := h
    exact ⟨h1, h2, r, hr, h3, hT _ h4⟩
  · obtain ⟨h1, h2, ix, hix, r, hr, h3, h4, h5⟩ := h
    exact ⟨h1, h2, ix, hix, r, hr, h3, hT _ h4, h5⟩
  · obtain ⟨h1, h2, r, hr, h3, h4, h5, h6⟩ := h
    exact ⟨h1, h2, r, hr, hT _ h3, hT _ h4, hT _ h5, h6⟩
  · exact ⟨h.1, h.2.1, h.2.2.1, h.2.2.2.1, hT _ h.2.2.2.2⟩
  · obtain ⟨h1, h2, h3⟩ := h
    refine ⟨h1, h2, ?_⟩
    split at h3
    · exact ⟨hT _ h3.1, hT _ h3.2⟩
    · exact h3
  · obtain ⟨h1, h2, h3, h4, h5, h6, h7⟩ := h
    exact ⟨h1, h2, h3, h4, hT _ h5, hT _ h6, hT _ h7⟩
  · exact ⟨h.1, h.2.1, hT _ h.2.2.1, hT _ h.2.2.2.1, hT _ h.2.2.2.2⟩
theorem xokC_mono (hT : ∀ w ∈ Ts', w ∈ Ts) (h : xokC Ts' cl own host yM mc raw o) : xokC Ts cl own host yM mc raw o := by
  unfold xokC at h ⊢
  split at h <;> try exact h
  obtain ⟨h1, h2, h3, h4⟩ := h
  refine ⟨h1, h2, hT _ h3, ?_⟩
  rcases h4 with ⟨a1, a2, a3, a4, a5, a6⟩ | ⟨a1, a2, a3, a4, a5, a6⟩ | ⟨a1, a2, a3, a4, a5, a6, a7⟩ | ⟨a1, a2, a3, a4, a5, a6, a7⟩
  · exact Or.inl ⟨a1, a2, a3, hT _ a4, hT _ a5, a6⟩
  · exact Or.inr (Or.inl ⟨a1, a2, hT _ a3, hT _ a4, hT _ a5, a6⟩)
  · exact Or.inr (Or.inr (Or.inl ⟨a1, a2, a3, a4, hT _ a5, hT _ a6, a7⟩))
  · exact Or.inr (Or.inr (Or.inr ⟨a1, a2, a3, a4, hT _ a5, hT _ a6, a7⟩))
theorem xokT_mono (hT : ∀ w ∈ Ts', w ∈ Ts) (h : xokT Ts' cl own cc pc o) : xokT Ts cl own cc pc o := by
  unfold xokT at h ⊢
  split at h <;> try exact h
  obtain ⟨h1, h2, h3, h4, r, hr, h5, h6, h7, h8, h9, h10⟩ := h
  exact ⟨h1, h2, h3, h4, r, hr, h5, hT _ h6, hT _ h7, hT _ h8, h9, fun w hw => (h10 w hw).elim (fun q => Or.inl (hT _ q)) Or.inr⟩
/-- a checked table gives what the theorem asks of the code -/
theorem xp_row {y : MethodName} {ret : Option FieldType} {hdl : List (Nat × Nat × Nat × Nat)} {r : Nat × Instr × xI} (hT : ∀ w ∈ Ts', w ∈ Ts) (h : xrow Ts' cl ty tf nf mc host yM ldcs y cc ret hdl r) :
    (r.2.2.1 = .athrow ∧ xokT Ts cl y.cls cc r.1 r.2.2 ∧ hdl = []) ∨ (r.2.2.1 ≠ .athrow ∧ ∃ raw, decode cc r.1 = .ok (raw, r.2.2.2.1) ∧ xok Ts cl y.cls tf nf ty ldcs (decide (y.name = "<init>")) r.1 raw r.2.2 ∧ xokR ret r.2.2 ∧ ((∃ j ix, r.2.2.1 = .invokeinterface j ix) → xokC Ts cl y.cls host yM mc raw r.2.2)) := by
  rcases h with ⟨h1, h2, h3⟩ | ⟨h1, h2, h3, h4, h5⟩
  · exact Or.inl ⟨h1, xokT_mono hT h2, h3⟩
  · refine Or.inr ⟨h1, _, h2, xok_mono hT h3, h4, fun hj => ?_⟩
    obtain ⟨j, ix, hj⟩ := hj
    rw [hj] at h5
    exact xokC_mono hT h5
end XMONO
/-- where a method goes on: ct: the classes of its catch types -/
def xhd (ct : List (Nat × Nat)) (pc k : Nat) : List (Nat × Nat × Nat × Nat) → Option (Option Nat)
  | [] => some none
  | y :: t => if y.1 ≤ pc ∧ pc < y.2.1 then (if ct.lookup y.2.2.2 = some k then some (some y.2.2.1) else (match xhd ct pc k t with | some (some q) => some (some q) | _ => none)) else xhd ct pc k t
theorem xhd_none {ct : List (Nat × Nat)} {pc k : Nat} : ∀ {hdl : List (Nat × Nat × Nat × Nat)}, xhd ct pc k hdl = some none → ∀ y ∈ hdl, ¬ (y.1 ≤ pc ∧ pc < y.2.1) := by
  intro hdl
  induction hdl with
  | nil => intro _ y hy; cases hy
  | cons z t ih =>
    intro h y hy
    unfold xhd at h
    split at h
    · split at h
      · cases h
      · split at h <;> cases h
    · rename_i hz
      rcases List.mem_cons.mp hy with rfl | hy
      · exact hz
      · exact ih h y hy
theorem xhd_some {Ts : List Cond} {own : String} {nc : List (String × String)} {ns : List String} {ct : List (Nat × Nat)} {pc k q : Nat} {X : String} (nm : Nat → String) (hX : nm k = X) (hct : ∀ x ∈ ct, x.1 ≠ 0 ∧ Cond.classLink own x.1 (nm x.2) ∈ Ts ∧ nm x.2 ∈ ns ∧ (x.2 ≠ k → (X, nm x.2) ∈ nc)) :
    ∀ {hdl : List (Nat × Nat × Nat × Nat)}, (∀ y ∈ hdl, ∃ c, ct.lookup y.2.2.2 = some c) → xhd ct pc k hdl = some (some q) → xokH Ts own nc ns pc X q hdl := by
  have hmem : ∀ (ct : List (Nat × Nat)) (a c : Nat), ct.lookup a = some c → (a, c) ∈ ct := by
    intro ct a c
    induction ct with
    | nil => intro h; cases h
    | cons x t ih =>
      intro h
      obtain ⟨x1, x2⟩ := x
      rw [List.lookup_cons] at h
      split at h
      · rename_i hb
        cases h
        have : a = x1 := by simpa using hb
        rw [this]
        exact List.mem_cons_self
      · exact List.mem_cons_of_mem _ (ih h)
  intro hdl
  induction hdl with
  | nil => intro _ h; cases h
  | cons y t ih =>
    intro hl h
    unfold xhd at h
    obtain ⟨c, hc⟩ := hl y List.mem_cons_self
    obtain ⟨c0, c1, c2, c3⟩ := hct _ (hmem _ _ _ hc)
    split at h
    · rename_i hcov
      split at h
      · rename_i hk
        cases h
        rw [hc] at hk
        cases hk
        exact Or.inr ⟨hcov, c0, Or.inl ⟨rfl, by rw [← hX]; exact c1⟩⟩
      · rename_i hk
        split at h
        · rename_i q2 hq
          cases h
          have hne : c ≠ k := fun e => hk (by rw [hc, e])
          exact Or.inr ⟨hcov, c0, Or.inr ⟨⟨nm c, c2, c1, c3 hne⟩, ih (fun z hz => hl z (List.mem_cons_of_mem _ hz)) hq⟩⟩
        · cases h
    · rename_i hcov
      exact Or.inl ⟨hcov, ih (fun z hz => hl z (List.mem_cons_of_mem _ hz)) h⟩
/-- places of words -/
theorem xplaces {big : List Cond} {ws : List Cond} {ps : List Nat} (h : ws.map some = ps.map (fun i => big[i]?)) : ∀ w ∈ ws, w ∈ big := by
  intro w hw
  have h1 : some w ∈ ws.map some := List.mem_map.mpr ⟨w, hw, rfl⟩
  rw [h] at h1
  obtain ⟨i, -, hi⟩ := List.mem_map.mp h1
  exact List.mem_of_getElem? hi
end
section
/-! RUNS OF THE PURE MACHINE, without their fuel -/
section XPURE
variable {stp : xI → Nat → xL → List Value → xH → Option xG} {P : Nat → Nat → Option xI} {mx : Nat → Nat} {hd : Nat → Nat → Nat → Option (Option Nat)}
theorem xrun_more : ∀ (n k d i pc : Nat) (ls : xL) (st : List Value) (h : xH) (r : xO × xH), xrun stp P mx hd n d i pc ls st h = some r → xrun stp P mx hd (n + k) d i pc ls st h = some r := by
  intro n
  induction n with
  | zero => intro k d i pc ls st h r hr; cases hr
  | succ n ih =>
    intro k d i pc ls st h r hr
    rw [show n + 1 + k = (n + k) + 1 by omega]
    simp only [xrun] at hr ⊢
    split at hr
    · cases hr
    · rename_i o ho
      split at hr
      · cases hr
      · rename_i pc' ls' st' h1 hs
        exact ih k _ _ _ _ _ _ _ hr
      · exact hr
      · rename_i j as pc' st' hs
        split at hr
        · cases hr
        · rename_i d
          split at hr
          · rename_i hent
            rw [if_pos hent]
            split at hr
            · cases hr
            · rename_i v h1 hc
              rw [ih k _ _ _ _ _ _ _ hc]
              exact ih k _ _ _ _ _ _ _ hr
            · rename_i q a h1 hc
              rw [ih k _ _ _ _ _ _ _ hc]
              split at hr
              · rename_i pq hq
                simp only [hq]
                exact ih k _ _ _ _ _ _ _ hr
              · rename_i hq
                simp only [hq]
                exact hr
              · cases hr
          · cases hr
/-- from here the run of the method i ends so -/
def XR (stp : xI → Nat → xL → List Value → xH → Option xG) (P : Nat → Nat → Option xI) (mx : Nat → Nat) (hd : Nat → Nat → Nat → Option (Option Nat)) (d i pc : Nat) (ls : xL) (st : List Value) (h : xH) (r : xO × xH) : Prop := ∃ n, xrun stp P mx hd n d i pc ls st h = some r
/-- the method j, called with as on h, ends so -/
def XCl (stp : xI → Nat → xL → List Value → xH → Option xG) (P : Nat → Nat → Option xI) (mx : Nat → Nat) (hd : Nat → Nat → Nat → Option (Option Nat)) (d j : Nat) (as : List Value) (h : xH) (r : xO × xH) : Prop := (xent as (mx j)).length = mx j ∧ XR stp P mx hd d j 0 (xent as (mx j)) [] h r
variable {d i j pc pc' : Nat} {ls ls' : xL} {st st' : List Value} {h h' h1 : xH} {r : xO × xH} {o : xI} {as : List Value}
theorem XR.go (ho : P i pc = some o) (hs : stp o pc ls st h = some (.inl (pc', ls', st', h'))) (k : XR stp P mx hd d i pc' ls' st' h' r) : XR stp P mx hd d i pc ls st h r := by
  obtain ⟨n, hn⟩ := k
  refine ⟨n + 1, ?_⟩
  simp only [xrun, ho, hs]
  exact hn
theorem XR.fin (ho : P i pc = some o) (hs : stp o pc ls st h = some (.inr (.inl r))) : XR stp P mx hd d i pc ls st h r := ⟨1, by simp only [xrun, ho, hs]⟩
theorem XR.call (ho : P i pc = some o) (hs : stp o pc ls st h = some (.inr (.inr (j, as, pc', st')))) {v : Option Value} (hc : XCl stp P mx hd d j as h (.inl v, h1)) (k : XR stp P mx hd (d + 1) i pc' ls (v.toList ++ st') h1 r) : XR stp P mx hd (d + 1) i pc ls st h r := by
  obtain ⟨he, n, hn⟩ := hc
  obtain ⟨m, hm⟩ := k
  refine ⟨n + m + 1, ?_⟩
  simp only [xrun, ho, hs]
  rw [if_pos he, xrun_more n m _ _ _ _ _ _ _ hn]
  rw [Nat.add_comm n m]
  exact xrun_more m n _ _ _ _ _ _ _ hm
theorem XR.caught (ho : P i pc = some o) (hs : stp o pc ls st h = some (.inr (.inr (j, as, pc', st')))) {q a pq : Nat} (hc : XCl stp P mx hd d j as h (.inr (q, a), h1)) (hq : hd i pc q = some (some pq)) (k : XR stp P mx hd (d + 1) i pq ls [.ref a] h1 r) : XR stp P mx hd (d + 1) i pc ls st h r := by
  obtain ⟨he, n, hn⟩ := hc
  obtain ⟨m, hm⟩ := k
  refine ⟨n + m + 1, ?_⟩
  simp only [xrun, ho, hs]
  rw [if_pos he, xrun_more n m _ _ _ _ _ _ _ hn]
  simp only [hq]
  rw [Nat.add_comm n m]
  exact xrun_more m n _ _ _ _ _ _ _ hm
theorem XR.out (ho : P i pc = some o) (hs : stp o pc ls st h = some (.inr (.inr (j, as, pc', st')))) {q a : Nat} (hc : XCl stp P mx hd d j as h (.inr (q, a), h1)) (hq : hd i pc q = some none) : XR stp P mx hd (d + 1) i pc ls st h (.inr (q, a), h1) := by
  obtain ⟨he, n, hn⟩ := hc
  refine ⟨n + 1, ?_⟩
  simp only [xrun, ho, hs]
  rw [if_pos he, hn]
  simp only [hq]
end XPURE
end
section
/-! THE Y LAYER: runs of the pure machine over a heap whose cells stand still. A memory m gives the Int in the place k of the cell a; what a cell is, is told by a table of shapes. -/
/-- a place of an object: an int (with its type's number), a reference that stands, one of some references -/
abbrev ySl : Type := Nat ⊕ (Nat ⊕ List Nat)
/-- what a cell is: ints (type, length); longs (length); references one behind another (type, length, the first); an object (number, places) -/
abbrev ySh : Type := (Nat × Nat) ⊕ (Nat ⊕ ((Nat × Nat × Nat) ⊕ (Nat × List ySl)))
abbrev yM : Type := Nat → Nat → Int
/-- the machine, the shapes, how many cells stand, their slots -/
abbrev yZ : Type := ((Nat → List Value) × Nat × (Nat → Int32) × List (List Int32) × (Nat → Option Nat)) × (Nat → Nat → Option xI) × (Nat → Nat) × (Nat → Nat → Nat → Option (Option Nat)) × (Nat → ySh) × Nat × Nat
def zStp (Z : yZ) : xI → Nat → xL → List Value → xH → Option xG := xstep Z.1.1 Z.1.2.1 Z.1.2.2.1 Z.1.2.2.2.1 Z.1.2.2.2.2
def zLn (Z : yZ) : Nat := Z.1.2.1
def zXs (Z : yZ) : Nat → Int32 := Z.1.2.2.1
def zLit (Z : yZ) : List (List Int32) := Z.1.2.2.2.1
def zMc (Z : yZ) : Nat → Option Nat := Z.1.2.2.2.2
def zP (Z : yZ) : Nat → Nat → Option xI := Z.2.1
def zMx (Z : yZ) : Nat → Nat := Z.2.2.1
def zHd (Z : yZ) : Nat → Nat → Nat → Option (Option Nat) := Z.2.2.2.1
def zSh (Z : yZ) : Nat → ySh := Z.2.2.2.2.1
def zN (Z : yZ) : Nat := Z.2.2.2.2.2.1
def zC (Z : yZ) : Nat := Z.2.2.2.2.2.2
def yI (x : Int) : Value := .int (Int32.ofInt x)
def yup (m : yM) (a k : Nat) (v : Int) : yM := fun b j => if b = a ∧ j = k then v else m b j
theorem yup_eq (m : yM) (a k : Nat) (v : Int) : yup m a k v a k = v := by simp [yup]
theorem yup_ne {m : yM} {a k b j : Nat} {v : Int} (h : ¬ (b = a ∧ j = k)) : yup m a k v b j = m b j := by simp [yup, h]
theorem yup_na {m : yM} {a k b j : Nat} {v : Int} (h : b ≠ a) : yup m a k v b j = m b j := by simp [yup, h]
theorem yup_nk {m : yM} {a k b j : Nat} {v : Int} (h : j ≠ k) : yup m a k v b j = m b j := by simp [yup, h]
/-- one of some references: the x-th, else null -/
def ysv (l : List Nat) (x : Int) : Value := if x < 0 then .null else match l[x.toNat]? with
  | some a => .ref a
  | none => .null
def yslv (s : ySl) (x : Int) : Value := match s with
  | .inl _ => yI x
  | .inr (.inl a) => .ref a
  | .inr (.inr l) => ysv l x
def yCell (s : ySh) (f : Nat → Int) (c : xC) : Prop := match s with
  | .inl (t, k) => ∃ g : Nat → Int32, c = .inl (t, k, .inl g) ∧ ∀ j, j < k → g j = Int32.ofInt (f j)
  | .inr (.inl k) => ∃ g : Nat → Int64, c = .inl (5, k, .inr (.inl g)) ∧ ∀ j, j < k → g j = Int64.ofInt (f j)
  | .inr (.inr (.inl (t, k, b))) => ∃ g : Nat → Option Nat, c = .inl (t, k, .inr (.inr (.inr (.inr g)))) ∧ ∀ j, j < k → g j = some (b + j)
  | .inr (.inr (.inr (ci, sl))) => ∃ vs : List Value, c = .inr (ci, vs) ∧ vs.length = sl.length ∧ ∀ (j : Nat) (x : ySl), sl[j]? = some x → vs[j]? = some (yslv x (f j))
/-- the heap h holds the memory m; it has n cells -/
def yLay (Z : yZ) (m : yM) (n : Nat) (h : xH) : Prop := h.length = n ∧ zN Z ≤ n ∧ xsz h ≤ zC Z + 6 * n ∧ ∀ a, a < zN Z → ∃ c, h[a]? = some c ∧ yCell (zSh Z a) (m a) c
theorem yLay.set {Z : yZ} {m : yM} {n : Nat} {h : xH} (hl : yLay Z m n h) {a k : Nat} {v : Int} {c c' : xC} (hc : h[a]? = some c) (e : xcz c' = xcz c) (hc' : yCell (zSh Z a) (yup m a k v a) c') : yLay Z (yup m a k v) n (h.set a c') := by
  obtain ⟨h1, h2, h3, h4⟩ := hl
  have hal : a < h.length := (List.getElem?_eq_some_iff.mp hc).1
  refine ⟨by simpa using h1, h2, by rw [xsz_set hc e]; exact h3, fun b hb => ?_⟩
  by_cases hab : a = b
  · subst hab
    exact ⟨c', by rw [List.getElem?_set_self hal], hc'⟩
  · obtain ⟨c2, e2, k2⟩ := h4 b hb
    refine ⟨c2, by rw [List.getElem?_set_ne hab]; exact e2, ?_⟩
    have : yup m a k v b = m b := funext fun j => yup_na (fun q => hab q.symm)
    rw [this]
    exact k2
theorem yLay.app {Z : yZ} {m : yM} {n : Nat} {h : xH} (hl : yLay Z m n h) (e : Nat) : yLay Z m (n + 1) (h ++ [.inr (e, List.replicate 6 .null)]) := by
  obtain ⟨h1, h2, h3, h4⟩ := hl
  refine ⟨by simp [h1], by omega, ?_, fun b hb => ?_⟩
  · rw [xsz_app]
    have : xcz (.inr (e, List.replicate 6 Value.null)) = 6 := rfl
    omega
  · obtain ⟨c2, e2, k2⟩ := h4 b hb
    refine ⟨c2, ?_, k2⟩
    rw [List.getElem?_append_left (by omega)]
    exact e2
/-- from here the run of the method i ends so that Q holds -/
def YW (Z : yZ) (i d pc : Nat) (ls : xL) (st : List Value) (m : yM) (n : Nat) (Q : xO → yM → Nat → Prop) : Prop := ∀ h, yLay Z m n h → ∃ r h' m' n', XR (zStp Z) (zP Z) (zMx Z) (zHd Z) d i pc ls st h (r, h') ∧ yLay Z m' n' h' ∧ Q r m' n'
/-- a call of the method j ends so that Q holds -/
def YC (Z : yZ) (d j : Nat) (as : List Value) (m : yM) (n : Nat) (Q : xO → yM → Nat → Prop) : Prop := ∀ h, yLay Z m n h → ∃ r h' m' n', XCl (zStp Z) (zP Z) (zMx Z) (zHd Z) d j as h (r, h') ∧ yLay Z m' n' h' ∧ Q r m' n'
/-- what a place of an object is -/
def yfld (sh : Nat → ySh) (N : Nat) (a q ci : Nat) : Option ySl := if a < N then (match sh a with
  | .inr (.inr (.inr (c, sl))) => if c = ci then sl[q]? else none
  | _ => none) else none
/-- an array of ints: its type, its length -/
def yarr (sh : Nat → ySh) (N : Nat) (a : Nat) : Option (Nat × Nat) := if a < N then (match sh a with
  | .inl (t, k) => if k ≤ 100000 then some (t, k) else none
  | _ => none) else none
def ylar (sh : Nat → ySh) (N : Nat) (a : Nat) : Option Nat := if a < N then (match sh a with
  | .inr (.inl k) => if k ≤ 100000 then some k else none
  | _ => none) else none
/-- an array of references: its length, the first one -/
def yrow (sh : Nat → ySh) (N : Nat) (a : Nat) : Option (Nat × Nat) := if a < N then (match sh a with
  | .inr (.inr (.inl (t, k, b))) => if 6 ≤ t ∧ t < 12 ∧ k ≤ 100000 then some (k, b) else none
  | _ => none) else none
/-- an object: its number -/
def yobj (sh : Nat → ySh) (N : Nat) (a : Nat) : Option Nat := if a < N then (match sh a with
  | .inr (.inr (.inr (c, _))) => some c
  | _ => none) else none
section YB
variable {Z : yZ} {m : yM} {n : Nat} {h : xH}
theorem yLay.fld (hl : yLay Z m n h) {a q ci : Nat} {s : ySl} (hf : yfld (zSh Z) (zN Z) a q ci = some s) : ∃ vs : List Value, h[a]? = some (.inr (ci, vs)) ∧ vs[q]? = some (yslv s (m a q)) ∧ ∃ sl : List ySl, zSh Z a = .inr (.inr (.inr (ci, sl))) ∧ sl[q]? = some s ∧ vs.length = sl.length ∧ (∀ (j : Nat) (x : ySl), sl[j]? = some x → vs[j]? = some (yslv x (m a j))) := by
  unfold yfld at hf
  split at hf
  · rename_i ha
    obtain ⟨c, hc, kc⟩ := hl.2.2.2 a ha
    split at hf
    · rename_i c0 sl hs
      split at hf
      · rename_i hci
        subst hci
        rw [hs] at kc
        obtain ⟨vs, rfl, k1, k2⟩ := kc
        exact ⟨vs, hc, k2 q s hf, sl, hs, hf, k1, k2⟩
      · cases hf
    · cases hf
  · cases hf
theorem yLay.arr (hl : yLay Z m n h) {a t k : Nat} (hf : yarr (zSh Z) (zN Z) a = some (t, k)) : k ≤ 100000 ∧ zSh Z a = .inl (t, k) ∧ ∃ g : Nat → Int32, h[a]? = some (.inl (t, k, .inl g)) ∧ ∀ j, j < k → g j = Int32.ofInt (m a j) := by
  unfold yarr at hf
  split at hf
  · rename_i ha
    obtain ⟨c, hc, kc⟩ := hl.2.2.2 a ha
    split at hf
    · rename_i t0 k0 hs
      split at hf
      · rename_i hk
        cases hf
        rw [hs] at kc
        obtain ⟨g, rfl, k2⟩ := kc
        exact ⟨hk, hs, g, hc, k2⟩
      · cases hf
    · cases hf
  · cases hf
theorem yLay.lar (hl : yLay Z m n h) {a k : Nat} (hf : ylar (zSh Z) (zN Z) a = some k) : k ≤ 100000 ∧ zSh Z a = .inr (.inl k) ∧ ∃ g : Nat → Int64, h[a]? = some (.inl (5, k, .inr (.inl g))) ∧ ∀ j, j < k → g j = Int64.ofInt (m a j) := by
  unfold ylar at hf
  split at hf
  · rename_i ha
    obtain ⟨c, hc, kc⟩ := hl.2.2.2 a ha
    split at hf
    · rename_i k0 hs
      split at hf
      · rename_i hk
        cases hf
        rw [hs] at kc
        obtain ⟨g, rfl, k2⟩ := kc
        exact ⟨hk, hs, g, hc, k2⟩
      · cases hf
    · cases hf
  · cases hf
theorem yLay.row (hl : yLay Z m n h) {a b k : Nat} (hf : yrow (zSh Z) (zN Z) a = some (k, b)) : k ≤ 100000 ∧ ∃ (t : Nat) (g : Nat → Option Nat), 6 ≤ t ∧ t < 12 ∧ h[a]? = some (.inl (t, k, .inr (.inr (.inr (.inr g))))) ∧ ∀ j, j < k → g j = some (b + j) := by
  unfold yrow at hf
  split at hf
  · rename_i ha
    obtain ⟨c, hc, kc⟩ := hl.2.2.2 a ha
    split at hf
    · rename_i t0 k0 b0 hs
      split at hf
      · rename_i hk
        cases hf
        rw [hs] at kc
        obtain ⟨g, rfl, k2⟩ := kc
        exact ⟨hk.2.2, t0, g, hk.1, hk.2.1, hc, k2⟩
      · cases hf
    · cases hf
  · cases hf
theorem yLay.obj (hl : yLay Z m n h) {a ci : Nat} (hf : yobj (zSh Z) (zN Z) a = some ci) : ∃ vs : List Value, h[a]? = some (.inr (ci, vs)) := by
  unfold yobj at hf
  split at hf
  · rename_i ha
    obtain ⟨c, hc, kc⟩ := hl.2.2.2 a ha
    split at hf
    · rename_i c0 sl hs
      cases hf
      rw [hs] at kc
      obtain ⟨vs, rfl, -⟩ := kc
      exact ⟨vs, hc⟩
    · cases hf
  · cases hf
theorem y_in {x : Int} {k : Nat} (hk : k ≤ 100000) (h0 : 0 ≤ x) (h1 : x < k) : xin (Int32.ofInt x) k = true ∧ (Int32.ofInt x).toNatClampNeg = x.toNat := by
  have e : (Int32.ofInt x).toNatClampNeg = x.toNat := Int32.toNatClampNeg_ofInt_of_le (by omega) (by omega)
  refine ⟨?_, e⟩
  unfold xin
  rw [e]
  have h2 : ¬ (Int32.ofInt x < 0) := by
    rw [Int32.lt_iff_toInt_lt, Int32.toInt_ofInt_of_le (by omega) (by omega)]
    simp
    exact h0
  simp only [decide_eq_true_eq]
  rintro (q | q)
  · exact h2 q
  · omega
end YB
end
section
/-! THE RULES: an instruction each -/
section YR1
variable {Z : yZ} {i d pc pc' w a b : Nat} {ls ls' : xL} {st st' : List Value} {m m' : yM} {n n' : Nat} {Q : xO → yM → Nat → Prop} {o : xI}
theorem YW.go (ho : zP Z i pc = some o) (hs : ∀ h, yLay Z m n h → ∃ h', zStp Z o pc ls st h = some (.inl (pc', ls', st', h')) ∧ yLay Z m' n' h') (k : YW Z i d pc' ls' st' m' n' Q) : YW Z i d pc ls st m n Q := by
  intro h hL
  obtain ⟨h', hs', hL'⟩ := hs h hL
  obtain ⟨r, h'', m'', n'', hx, hl, hq⟩ := k h' hL'
  exact ⟨r, h'', m'', n'', XR.go ho hs' hx, hl, hq⟩
theorem YW.gp (ho : zP Z i pc = some o) (hs : ∀ h, zStp Z o pc ls st h = some (.inl (pc', ls', st', h))) (k : YW Z i d pc' ls' st' m n Q) : YW Z i d pc ls st m n Q := YW.go ho (fun h hL => ⟨h, hs h, hL⟩) k
theorem YW.mono {Q' : xO → yM → Nat → Prop} (k : YW Z i d pc ls st m n Q) (hq : ∀ r m' n', Q r m' n' → Q' r m' n') : YW Z i d pc ls st m n Q' := by
  intro h hL
  obtain ⟨r, h', m', n', hx, hl, q⟩ := k h hL
  exact ⟨r, h', m', n', hx, hl, hq _ _ _ q⟩
theorem YC.mono {j : Nat} {as : List Value} {Q' : xO → yM → Nat → Prop} (k : YC Z d j as m n Q) (hq : ∀ r m' n', Q r m' n' → Q' r m' n') : YC Z d j as m n Q' := by
  intro h hL
  obtain ⟨r, h', m', n', hx, hl, q⟩ := k h hL
  exact ⟨r, h', m', n', hx, hl, hq _ _ _ q⟩
theorem YC.mk {j : Nat} {as : List Value} {ls0 : xL} (he : xent as (zMx Z j) = ls0) (hn : ls0.length = zMx Z j) (k : YW Z j d 0 ls0 [] m n Q) : YC Z d j as m n Q := by
  intro h hL
  obtain ⟨r, h', m', n', hx, hl, q⟩ := k h hL
  subst he
  exact ⟨r, h', m', n', ⟨hn, hx⟩, hl, q⟩
theorem y_iconst (pc' : Nat) {v : Int} (ho : zP Z i pc = some (.iconst v, w, a, b)) (hp : pc + w = pc') (k : YW Z i d pc' ls (yI v :: st) m n Q) : YW Z i d pc ls st m n Q := YW.gp ho (fun _ => by subst hp; rfl) k
theorem y_lconst (pc' : Nat) {v : Int} (ho : zP Z i pc = some (.goto_w v, w, a, b)) (hp : pc + w = pc') (k : YW Z i d pc' ls (.long (Int64.ofInt v) :: st) m n Q) : YW Z i d pc ls st m n Q := YW.gp ho (fun _ => by subst hp; rfl) k
theorem y_ldc (pc' : Nat) {v : Nat} (ho : zP Z i pc = some (.ldc v, w, a, b)) (hp : pc + w = pc') (hv : v < (zLit Z).length) (k : YW Z i d pc' ls (.retAddr (2 * v + 1) :: st) m n Q) : YW Z i d pc ls st m n Q := YW.gp ho (fun _ => by subst hp; exact if_pos hv) k
theorem y_static0 (pc' : Nat) (ho : zP Z i pc = some (.getstatic 0, w, a, b)) (hp : pc + w = pc') (k : YW Z i d pc' ls (yI 1 :: st) m n Q) : YW Z i d pc ls st m n Q := YW.gp ho (fun _ => by subst hp; rfl) k
theorem y_static1 (pc' : Nat) (ho : zP Z i pc = some (.getstatic 1, w, a, b)) (hp : pc + w = pc') (k : YW Z i d pc' ls (.float 0 :: st) m n Q) : YW Z i d pc ls st m n Q := YW.gp ho (fun _ => by subst hp; rfl) k
theorem y_text (pc' : Nat) {j : Nat} (ho : zP Z i pc = some (.saload, w, a, b)) (hp : pc + w = pc') (hj : j % 2 = 0 ∧ j / 2 < (zLit Z).length) (k : YW Z i d pc' ls (.retAddr (j + 2) :: st) m n Q) : YW Z i d pc ls (.retAddr (j + 1) :: st) m n Q := YW.gp ho (fun _ => by subst hp; exact if_pos hj) k
theorem y_coder (pc' : Nat) {j : Nat} (ho : zP Z i pc = some (.sastore, w, a, b)) (hp : pc + w = pc') (hj : j % 2 = 0 ∧ j / 2 < (zLit Z).length) (k : YW Z i d pc' ls (yI 0 :: st) m n Q) : YW Z i d pc ls (.retAddr (j + 1) :: st) m n Q := YW.gp ho (fun _ => by subst hp; exact if_pos hj) k
theorem y_iload (pc' : Nat) {q : Nat} {x : Int} (ho : zP Z i pc = some (.iload q, w, a, b)) (hp : pc + w = pc') (hl : ls[q]? = some (some (yI x))) (k : YW Z i d pc' ls (yI x :: st) m n Q) : YW Z i d pc ls st m n Q := YW.gp ho (fun _ => by subst hp; simp only [zStp, xstep, hl, yI]; rfl) k
theorem y_lload (pc' : Nat) {q : Nat} {x : Int64} (ho : zP Z i pc = some (.lload q, w, a, b)) (hp : pc + w = pc') (hl : ls[q]? = some (some (.long x))) (k : YW Z i d pc' ls (.long x :: st) m n Q) : YW Z i d pc ls st m n Q := YW.gp ho (fun _ => by subst hp; simp only [zStp, xstep, hl]; rfl) k
theorem y_aload (pc' : Nat) {q : Nat} {v : Value} (ho : zP Z i pc = some (.aload q, w, a, b)) (hp : pc + w = pc') (hl : ls[q]? = some (some v)) (hv : xref v = true) (k : YW Z i d pc' ls (v :: st) m n Q) : YW Z i d pc ls st m n Q := YW.gp ho (fun _ => by subst hp; simp only [zStp, xstep, hl, hv]; rfl) k
theorem y_istore (pc' : Nat) {q : Nat} {x : Int} (ho : zP Z i pc = some (.istore q, w, a, b)) (hp : pc + w = pc') (hl : xset ls q (yI x) = some ls') (k : YW Z i d pc' ls' st m n Q) : YW Z i d pc ls (yI x :: st) m n Q := YW.gp ho (fun _ => by subst hp; simp only [zStp, xstep, yI] at hl ⊢; simp only [hl]; rfl) k
theorem y_astore (pc' : Nat) {q : Nat} {v : Value} (ho : zP Z i pc = some (.astore q, w, a, b)) (hp : pc + w = pc') (hv : xref v = true) (hl : xset ls q v = some ls') (k : YW Z i d pc' ls' st m n Q) : YW Z i d pc ls (v :: st) m n Q := YW.gp ho (fun _ => by subst hp; simp only [zStp, xstep, hv, hl]; rfl) k
theorem y_iinc (pc' : Nat) {q : Nat} {x c : Int} (ho : zP Z i pc = some (.iinc q c, w, a, b)) (hp : pc + w = pc') (hl : ls[q]? = some (some (yI x))) (hs : xset ls q (yI (x + c)) = some ls') (k : YW Z i d pc' ls' st m n Q) : YW Z i d pc ls st m n Q := YW.gp ho (fun _ => by subst hp; simp only [yI, Int32.ofInt_add] at hs; simp only [zStp, xstep, hl, yI, hs]; rfl) k
theorem yI_add (x y : Int) : yI (x + y) = .int (Int32.ofInt x + Int32.ofInt y) := by simp [yI]
theorem yI_sub (x y : Int) : yI (x - y) = .int (Int32.ofInt x - Int32.ofInt y) := by simp [yI]
theorem yI_mul (x y : Int) : yI (x * y) = .int (Int32.ofInt x * Int32.ofInt y) := by simp [yI]
theorem y_iadd (pc' : Nat) {x y : Int} (ho : zP Z i pc = some (.iadd, w, a, b)) (hp : pc + w = pc') (k : YW Z i d pc' ls (yI (x + y) :: st) m n Q) : YW Z i d pc ls (yI y :: yI x :: st) m n Q := YW.gp ho (fun _ => by subst hp; rw [yI_add]; rfl) k
theorem y_isub (pc' : Nat) {x y : Int} (ho : zP Z i pc = some (.isub, w, a, b)) (hp : pc + w = pc') (k : YW Z i d pc' ls (yI (x - y) :: st) m n Q) : YW Z i d pc ls (yI y :: yI x :: st) m n Q := YW.gp ho (fun _ => by subst hp; rw [yI_sub]; rfl) k
theorem y_imul (pc' : Nat) {x y : Int} (ho : zP Z i pc = some (.imul, w, a, b)) (hp : pc + w = pc') (k : YW Z i d pc' ls (yI (x * y) :: st) m n Q) : YW Z i d pc ls (yI y :: yI x :: st) m n Q := YW.gp ho (fun _ => by subst hp; rw [yI_mul]; rfl) k
theorem y_back (x : Int32) : yI x.toInt = .int x := by simp [yI]
theorem y_iand (pc' : Nat) {x y : Int} (ho : zP Z i pc = some (.iand, w, a, b)) (hp : pc + w = pc') (k : YW Z i d pc' ls (yI (Int32.ofInt x &&& Int32.ofInt y).toInt :: st) m n Q) : YW Z i d pc ls (yI y :: yI x :: st) m n Q := YW.gp ho (fun _ => by subst hp; rw [y_back]; rfl) k
theorem y_ior (pc' : Nat) {x y : Int} (ho : zP Z i pc = some (.ior, w, a, b)) (hp : pc + w = pc') (k : YW Z i d pc' ls (yI (Int32.ofInt x ||| Int32.ofInt y).toInt :: st) m n Q) : YW Z i d pc ls (yI y :: yI x :: st) m n Q := YW.gp ho (fun _ => by subst hp; rw [y_back]; rfl) k
theorem y_ishl (pc' : Nat) {x y : Int} (ho : zP Z i pc = some (.ishl, w, a, b)) (hp : pc + w = pc') (k : YW Z i d pc' ls (yI (Int32.ofInt x <<< (Int32.ofInt y &&& 31)).toInt :: st) m n Q) : YW Z i d pc ls (yI y :: yI x :: st) m n Q := YW.gp ho (fun _ => by subst hp; rw [y_back]; rfl) k
theorem y_ishr (pc' : Nat) {x y : Int} (ho : zP Z i pc = some (.ishr, w, a, b)) (hp : pc + w = pc') (k : YW Z i d pc' ls (yI (Int32.ofInt x >>> (Int32.ofInt y &&& 31)).toInt :: st) m n Q) : YW Z i d pc ls (yI y :: yI x :: st) m n Q := YW.gp ho (fun _ => by subst hp; rw [y_back]; rfl) k
theorem y_land (pc' : Nat) {x y : Int64} (ho : zP Z i pc = some (.land, w, a, b)) (hp : pc + w = pc') (k : YW Z i d pc' ls (.long (x &&& y) :: st) m n Q) : YW Z i d pc ls (.long y :: .long x :: st) m n Q := YW.gp ho (fun _ => by subst hp; rfl) k
theorem y_lor (pc' : Nat) {x y : Int64} (ho : zP Z i pc = some (.lor, w, a, b)) (hp : pc + w = pc') (k : YW Z i d pc' ls (.long (x ||| y) :: st) m n Q) : YW Z i d pc ls (.long y :: .long x :: st) m n Q := YW.gp ho (fun _ => by subst hp; rfl) k
theorem y_lushr (pc' : Nat) {x : Int64} {y : Int} (ho : zP Z i pc = some (.lushr, w, a, b)) (hp : pc + w = pc') (k : YW Z i d pc' ls (.long (x.toUInt64 >>> ((Int32.ofInt y).toInt64.toUInt64 &&& Int64.toUInt64 63)).toInt64 :: st) m n Q) : YW Z i d pc ls (yI y :: .long x :: st) m n Q := YW.gp ho (fun _ => by subst hp; rfl) k
theorem y_lshl (pc' : Nat) {x : Int64} {y : Int} (ho : zP Z i pc = some (.lshl, w, a, b)) (hp : pc + w = pc') (k : YW Z i d pc' ls (.long (x <<< ((Int32.ofInt y).toInt64 &&& 63)) :: st) m n Q) : YW Z i d pc ls (yI y :: .long x :: st) m n Q := YW.gp ho (fun _ => by subst hp; rfl) k
theorem y_lshr (pc' : Nat) {x : Int64} {y : Int} (ho : zP Z i pc = some (.lshr, w, a, b)) (hp : pc + w = pc') (k : YW Z i d pc' ls (.long (x >>> ((Int32.ofInt y).toInt64 &&& 63)) :: st) m n Q) : YW Z i d pc ls (yI y :: .long x :: st) m n Q := YW.gp ho (fun _ => by subst hp; rfl) k
theorem y_lcmp (pc' : Nat) {x y : Int64} (ho : zP Z i pc = some (.lcmp, w, a, b)) (hp : pc + w = pc') (k : YW Z i d pc' ls (yI (lg_cmp x y).toInt :: st) m n Q) : YW Z i d pc ls (.long y :: .long x :: st) m n Q := YW.gp ho (fun _ => by subst hp; rw [y_back]; rfl) k
theorem y_i2l (pc' : Nat) {x : Int} (ho : zP Z i pc = some (.i2l, w, a, b)) (hp : pc + w = pc') (k : YW Z i d pc' ls (.long (Int32.ofInt x).toInt64 :: st) m n Q) : YW Z i d pc ls (yI x :: st) m n Q := YW.gp ho (fun _ => by subst hp; rfl) k
theorem y_l2i (pc' : Nat) {x : Int64} (ho : zP Z i pc = some (.l2i, w, a, b)) (hp : pc + w = pc') (k : YW Z i d pc' ls (yI x.toInt32.toInt :: st) m n Q) : YW Z i d pc ls (.long x :: st) m n Q := YW.gp ho (fun _ => by subst hp; rw [y_back]; rfl) k
theorem y_i2c (pc' : Nat) {x : Int} (ho : zP Z i pc = some (.i2c, w, a, b)) (hp : pc + w = pc') (k : YW Z i d pc' ls (yI ((Int32.ofInt x).toUInt32 % 65536).toInt32.toInt :: st) m n Q) : YW Z i d pc ls (yI x :: st) m n Q := YW.gp ho (fun _ => by subst hp; rw [y_back]; rfl) k
theorem y_dup (pc' : Nat) {v : Value} (ho : zP Z i pc = some (.dup, w, a, b)) (hp : pc + w = pc') (hv : v.category = 1) (k : YW Z i d pc' ls (v :: v :: st) m n Q) : YW Z i d pc ls (v :: st) m n Q := YW.gp ho (fun _ => by subst hp; exact if_pos hv) k
theorem y_dup2 (pc' : Nat) {v u : Value} (ho : zP Z i pc = some (.dup2, w, a, b)) (hp : pc + w = pc') (hv : v.category = 1 ∧ u.category = 1) (k : YW Z i d pc' ls (v :: u :: v :: u :: st) m n Q) : YW Z i d pc ls (v :: u :: st) m n Q := YW.gp ho (fun _ => by subst hp; exact if_pos hv) k
theorem y_pop (pc' : Nat) {v : Value} (ho : zP Z i pc = some (.pop, w, a, b)) (hp : pc + w = pc') (hv : v.category = 1) (k : YW Z i d pc' ls st m n Q) : YW Z i d pc ls (v :: st) m n Q := YW.gp ho (fun _ => by subst hp; exact if_pos hv) k
theorem y_goto (pc' : Nat) {t : Int} (ho : zP Z i pc = some (.goto t, w, a, b)) (hp : t.toNat = pc') (k : YW Z i d pc' ls st m n Q) : YW Z i d pc ls st m n Q := YW.gp ho (fun _ => by subst hp; rfl) k
theorem y_if (pt pc' : Nat) {c : ClassFile.Cond} {t x : Int} {φ : Prop} (ho : zP Z i pc = some (.ifCond c t, w, a, b)) (ht : t.toNat = pt) (hp : pc + w = pc') (hφ : xcmp c (Int32.ofInt x) 0 = true ↔ φ) (k1 : φ → YW Z i d pt ls st m n Q) (k2 : ¬ φ → YW Z i d pc' ls st m n Q) : YW Z i d pc ls (yI x :: st) m n Q := by
  subst ht
  subst hp
  by_cases hc : φ
  · exact YW.gp ho (fun _ => if_pos (hφ.mpr hc)) (k1 hc)
  · exact YW.gp ho (fun _ => if_neg (fun q => hc (hφ.mp q))) (k2 hc)
theorem y_icmp (pt pc' : Nat) {c : ClassFile.Cond} {t x y : Int} {φ : Prop} (ho : zP Z i pc = some (.if_icmp c t, w, a, b)) (ht : t.toNat = pt) (hp : pc + w = pc') (hφ : xcmp c (Int32.ofInt x) (Int32.ofInt y) = true ↔ φ) (k1 : φ → YW Z i d pt ls st m n Q) (k2 : ¬ φ → YW Z i d pc' ls st m n Q) : YW Z i d pc ls (yI y :: yI x :: st) m n Q := by
  subst ht
  subst hp
  by_cases hc : φ
  · exact YW.gp ho (fun _ => if_pos (hφ.mpr hc)) (k1 hc)
  · exact YW.gp ho (fun _ => if_neg (fun q => hc (hφ.mp q))) (k2 hc)
theorem y_rng {x : Int} (hx : -2147483648 ≤ x ∧ x < 2147483648) : (Int32.ofInt x).toInt = x := Int32.toInt_ofInt_of_le (by omega) (by omega)
theorem yc_eq {x y : Int} (hx : -2147483648 ≤ x ∧ x < 2147483648) (hy : -2147483648 ≤ y ∧ y < 2147483648) : xcmp .eq (Int32.ofInt x) (Int32.ofInt y) = true ↔ x = y := by
  unfold xcmp
  rw [decide_eq_true_iff, ← Int32.toInt_inj, y_rng hx, y_rng hy]
theorem yc_ne {x y : Int} (hx : -2147483648 ≤ x ∧ x < 2147483648) (hy : -2147483648 ≤ y ∧ y < 2147483648) : xcmp .ne (Int32.ofInt x) (Int32.ofInt y) = true ↔ ¬ x = y := by
  unfold xcmp
  rw [decide_eq_true_iff, ← Int32.toInt_inj, y_rng hx, y_rng hy]
theorem yc_lt {x y : Int} (hx : -2147483648 ≤ x ∧ x < 2147483648) (hy : -2147483648 ≤ y ∧ y < 2147483648) : xcmp .lt (Int32.ofInt x) (Int32.ofInt y) = true ↔ x < y := by
  unfold xcmp
  rw [decide_eq_true_iff, Int32.lt_iff_toInt_lt, y_rng hx, y_rng hy]
theorem yc_ge {x y : Int} (hx : -2147483648 ≤ x ∧ x < 2147483648) (hy : -2147483648 ≤ y ∧ y < 2147483648) : xcmp .ge (Int32.ofInt x) (Int32.ofInt y) = true ↔ y ≤ x := by
  unfold xcmp
  rw [decide_eq_true_iff, Int32.le_iff_toInt_le, y_rng hx, y_rng hy]
theorem yc_gt {x y : Int} (hx : -2147483648 ≤ x ∧ x < 2147483648) (hy : -2147483648 ≤ y ∧ y < 2147483648) : xcmp .gt (Int32.ofInt x) (Int32.ofInt y) = true ↔ y < x := by
  unfold xcmp
  rw [decide_eq_true_iff, Int32.lt_iff_toInt_lt, y_rng hx, y_rng hy]
theorem yc_le {x y : Int} (hx : -2147483648 ≤ x ∧ x < 2147483648) (hy : -2147483648 ≤ y ∧ y < 2147483648) : xcmp .le (Int32.ofInt x) (Int32.ofInt y) = true ↔ x ≤ y := by
  unfold xcmp
  rw [decide_eq_true_iff, Int32.le_iff_toInt_le, y_rng hx, y_rng hy]
theorem yz_eq {x : Int} (hx : -2147483648 ≤ x ∧ x < 2147483648) : xcmp .eq (Int32.ofInt x) 0 = true ↔ x = 0 := yc_eq hx (y := 0) (by omega)
theorem yz_ne {x : Int} (hx : -2147483648 ≤ x ∧ x < 2147483648) : xcmp .ne (Int32.ofInt x) 0 = true ↔ ¬ x = 0 := yc_ne hx (y := 0) (by omega)
theorem yz_lt {x : Int} (hx : -2147483648 ≤ x ∧ x < 2147483648) : xcmp .lt (Int32.ofInt x) 0 = true ↔ x < 0 := yc_lt hx (y := 0) (by omega)
theorem yz_ge {x : Int} (hx : -2147483648 ≤ x ∧ x < 2147483648) : xcmp .ge (Int32.ofInt x) 0 = true ↔ 0 ≤ x := yc_ge hx (y := 0) (by omega)
theorem yz_gt {x : Int} (hx : -2147483648 ≤ x ∧ x < 2147483648) : xcmp .gt (Int32.ofInt x) 0 = true ↔ 0 < x := yc_gt hx (y := 0) (by omega)
theorem yz_le {x : Int} (hx : -2147483648 ≤ x ∧ x < 2147483648) : xcmp .le (Int32.ofInt x) 0 = true ↔ x ≤ 0 := yc_le hx (y := 0) (by omega)
theorem y_idiv (pc' : Nat) {x y : Int} (ho : zP Z i pc = some (.idiv, w, a, b)) (hp : pc + w = pc') (hx : 0 ≤ x ∧ x < 2147483648) (hy : 0 < y ∧ y < 2147483648) (k : YW Z i d pc' ls (yI (x / y) :: st) m n Q) : YW Z i d pc ls (yI y :: yI x :: st) m n Q := by
  subst hp
  refine YW.gp ho (fun _ => ?_) k
  have h0 : ¬ (Int32.ofInt y = 0) := fun q => by
    have := congrArg Int32.toInt q
    rw [y_rng (by omega)] at this
    simp at this
    omega
  have e : Int32.ofInt x / Int32.ofInt y = Int32.ofInt (x / y) := by
    rw [← Int.tdiv_eq_ediv_of_nonneg hx.1]
    exact (Int32.ofInt_tdiv (by have : Int32.minValue.toInt = -2147483648 := rfl; omega) (by have : Int32.maxValue.toInt = 2147483647 := rfl; omega) (by have : Int32.minValue.toInt = -2147483648 := rfl; omega) (by have : Int32.maxValue.toInt = 2147483647 := rfl; omega)).symm
  show (if Int32.ofInt y = 0 then none else _) = _
  rw [if_neg h0, e]
  rfl
theorem y_irem (pc' : Nat) {x y : Int} (ho : zP Z i pc = some (.irem, w, a, b)) (hp : pc + w = pc') (hx : 0 ≤ x ∧ x < 2147483648) (hy : 0 < y ∧ y < 2147483648) (k : YW Z i d pc' ls (yI (x % y) :: st) m n Q) : YW Z i d pc ls (yI y :: yI x :: st) m n Q := by
  subst hp
  refine YW.gp ho (fun _ => ?_) k
  have h0 : ¬ (Int32.ofInt y = 0) := fun q => by
    have := congrArg Int32.toInt q
    rw [y_rng (by omega)] at this
    simp at this
    omega
  have e : Int32.ofInt x - Int32.ofInt x / Int32.ofInt y * Int32.ofInt y = Int32.ofInt (x % y) := by
    have e1 : Int32.ofInt x / Int32.ofInt y = Int32.ofInt (x / y) := by
      rw [← Int.tdiv_eq_ediv_of_nonneg hx.1]
      exact (Int32.ofInt_tdiv (by have : Int32.minValue.toInt = -2147483648 := rfl; omega) (by have : Int32.maxValue.toInt = 2147483647 := rfl; omega) (by have : Int32.minValue.toInt = -2147483648 := rfl; omega) (by have : Int32.maxValue.toInt = 2147483647 := rfl; omega)).symm
    rw [e1, ← Int32.ofInt_mul, ← Int32.ofInt_sub]
    congr 1
    have := Int.mul_ediv_add_emod x y
    rw [Int.mul_comm] at this
    omega
  show (if Int32.ofInt y = 0 then none else _) = _
  rw [if_neg h0, e]
  rfl
end YR1
end
section
/-! THE RULES: cells, calls, ends -/
section YR2
variable {Z : yZ} {i d pc pc' w a b : Nat} {ls ls' : xL} {st st' st0 : List Value} {m m' : yM} {n n' : Nat} {Q Qs : xO → yM → Nat → Prop} {o : xI}
theorem y_getI (pc' : Nat) {q ci t A : Nat} (ho : zP Z i pc = some (.getfield q, w, ci, b)) (hp : pc + w = pc') (hf : yfld (zSh Z) (zN Z) A q ci = some (.inl t)) (k : YW Z i d pc' ls (yI (m A q) :: st) m n Q) : YW Z i d pc ls (.ref A :: st) m n Q := by
  subst hp
  refine YW.go ho (fun h hL => ⟨h, ?_, hL⟩) k
  obtain ⟨vs, h1, h2, -⟩ := hL.fld hf
  simp [zStp, xstep, h1, h2, xgo, yslv]
theorem y_getR (pc' : Nat) {q ci A B : Nat} (ho : zP Z i pc = some (.getfield q, w, ci, b)) (hp : pc + w = pc') (hf : yfld (zSh Z) (zN Z) A q ci = some (.inr (.inl B))) (k : YW Z i d pc' ls (.ref B :: st) m n Q) : YW Z i d pc ls (.ref A :: st) m n Q := by
  subst hp
  refine YW.go ho (fun h hL => ⟨h, ?_, hL⟩) k
  obtain ⟨vs, h1, h2, -⟩ := hL.fld hf
  simp [zStp, xstep, h1, h2, xgo, yslv]
theorem y_getS (pc' : Nat) {q ci A B : Nat} {l : List Nat} (ho : zP Z i pc = some (.getfield q, w, ci, b)) (hp : pc + w = pc') (hf : yfld (zSh Z) (zN Z) A q ci = some (.inr (.inr l))) (hx : ysv l (m A q) = .ref B) (k : YW Z i d pc' ls (.ref B :: st) m n Q) : YW Z i d pc ls (.ref A :: st) m n Q := by
  subst hp
  refine YW.go ho (fun h hL => ⟨h, ?_, hL⟩) k
  obtain ⟨vs, h1, h2, -⟩ := hL.fld hf
  simp [zStp, xstep, h1, h2, xgo, yslv, hx]
theorem y_put (pc' : Nat) {q ci t A : Nat} {s : ySl} {v : Value} {x : Int} (ho : zP Z i pc = some (.putfield q, w, ci, t)) (hp : pc + w = pc') (hf : yfld (zSh Z) (zN Z) A q ci = some s) (hv : xfit t v = true) (hs : yslv s x = v) (k : YW Z i d pc' ls st (yup m A q x) n Q) : YW Z i d pc ls (v :: .ref A :: st) m n Q := by
  subst hp
  refine YW.go ho (fun h hL => ?_) k
  obtain ⟨vs, h1, h2, sl, h3, h4, h5, h6⟩ := hL.fld hf
  have hq : q < vs.length := (List.getElem?_eq_some_iff.mp h2).1
  refine ⟨h.set A (.inr (ci, vs.set q v)), ?_, hL.set h1 (by simp [xcz]) ?_⟩
  · simp [zStp, xstep, h1, hq, hv, xgo]
  · rw [h3]
    simp only [yCell]
    refine ⟨_, rfl, by simp [h5], fun j s' hj => ?_⟩
    by_cases e : j = q
    · subst e
      rw [hj] at h4
      cases h4
      rw [List.getElem?_set_self hq, yup_eq, hs]
    · rw [List.getElem?_set_ne (fun q => e q.symm), yup_nk e]
      exact h6 j s' hj
theorem y_putI (pc' : Nat) {q ci t t0 A : Nat} {x : Int} (ho : zP Z i pc = some (.putfield q, w, ci, t)) (hp : pc + w = pc') (hf : yfld (zSh Z) (zN Z) A q ci = some (.inl t0)) (hv : xfit t (yI x) = true) (k : YW Z i d pc' ls st (yup m A q x) n Q) : YW Z i d pc ls (yI x :: .ref A :: st) m n Q := y_put pc' ho hp hf hv rfl k
theorem y_putS (pc' : Nat) (j : Nat) {q ci A B : Nat} {l : List Nat} (ho : zP Z i pc = some (.putfield q, w, ci, 6)) (hp : pc + w = pc') (hf : yfld (zSh Z) (zN Z) A q ci = some (.inr (.inr l))) (hj : l[j]? = some B) (k : YW Z i d pc' ls st (yup m A q j) n Q) : YW Z i d pc ls (.ref B :: .ref A :: st) m n Q := y_put pc' ho hp hf rfl (by
  have h0 : ¬ ((j : Int) < 0) := by omega
  simp [yslv, ysv, h0, hj]) k
theorem y_iaload (pc' : Nat) {t A e : Nat} {x : Int} (ho : zP Z i pc = some (.iaload, w, t, b)) (hp : pc + w = pc') (hf : yarr (zSh Z) (zN Z) A = some (t, e)) (hx : 0 ≤ x ∧ x < e) (k : YW Z i d pc' ls (yI (m A x.toNat) :: st) m n Q) : YW Z i d pc ls (yI x :: .ref A :: st) m n Q := by
  subst hp
  refine YW.go ho (fun h hL => ⟨h, ?_, hL⟩) k
  obtain ⟨hk, -, g, h1, h2⟩ := hL.arr hf
  obtain ⟨e1, e2⟩ := y_in hk hx.1 hx.2
  have e3 := h2 x.toNat (by omega)
  simp [zStp, xstep, yI, h1, e1, e2, xgo, e3]
theorem y_script (pc' : Nat) {x : Int} (ho : zP Z i pc = some (.iaload, w, 0, b)) (hp : pc + w = pc') (hl : zLn Z ≤ 100000) (hx : 0 ≤ x ∧ x < zLn Z) (k : YW Z i d pc' ls (yI (zXs Z x.toNat).toInt :: st) m n Q) : YW Z i d pc ls (yI x :: .retAddr 0 :: st) m n Q := by
  subst hp
  refine YW.gp ho (fun h => ?_) k
  obtain ⟨e1, e2⟩ := y_in hl hx.1 hx.2
  rw [y_back]
  have e1 : xin (Int32.ofInt x) Z.1.2.1 = true := e1
  simp [zStp, xstep, yI, e1, e2, xgo, zXs]
theorem y_iastore (pc' : Nat) {t A e : Nat} {x v : Int} (ho : zP Z i pc = some (.iastore, w, t, b)) (hp : pc + w = pc') (hf : yarr (zSh Z) (zN Z) A = some (t, e)) (hx : 0 ≤ x ∧ x < e) (hv : (if t = 3 then vp_nar .char (Int32.ofInt v) else if t = 1 then vp_nar .boolean (Int32.ofInt v) else if t = 2 then vp_nar .byte (Int32.ofInt v) else Int32.ofInt v) = Int32.ofInt v) (k : YW Z i d pc' ls st (yup m A x.toNat v) n Q) : YW Z i d pc ls (yI v :: yI x :: .ref A :: st) m n Q := by
  subst hp
  refine YW.go ho (fun h hL => ?_) k
  obtain ⟨hk, hs, g, h1, h2⟩ := hL.arr hf
  obtain ⟨e1, e2⟩ := y_in hk hx.1 hx.2
  refine ⟨h.set A (.inl (t, e, .inl (upd g x.toNat (Int32.ofInt v)))), ?_, hL.set h1 rfl ?_⟩
  · simp only [zStp, xstep, yI, h1, e1, e2, xgo, hv, and_self, if_true]
  · rw [hs]
    simp only [yCell]
    refine ⟨_, rfl, fun j hj => ?_⟩
    by_cases q : j = x.toNat
    · subst q
      rw [yup_eq]
      simp [upd]
    · rw [yup_nk q, ← h2 j hj]
      simp [upd, q]
theorem y_laload (pc' : Nat) {A e : Nat} {x : Int} (ho : zP Z i pc = some (.laload, w, a, b)) (hp : pc + w = pc') (hf : ylar (zSh Z) (zN Z) A = some e) (hx : 0 ≤ x ∧ x < e) (k : YW Z i d pc' ls (.long (Int64.ofInt (m A x.toNat)) :: st) m n Q) : YW Z i d pc ls (yI x :: .ref A :: st) m n Q := by
  subst hp
  refine YW.go ho (fun h hL => ⟨h, ?_, hL⟩) k
  obtain ⟨hk, -, g, h1, h2⟩ := hL.lar hf
  obtain ⟨e1, e2⟩ := y_in hk hx.1 hx.2
  have e3 := h2 x.toNat (by omega)
  simp [zStp, xstep, yI, h1, e1, e2, xgo, e3]
theorem y_lastore (pc' : Nat) {A e : Nat} {x : Int} {v : Int64} (ho : zP Z i pc = some (.lastore, w, a, b)) (hp : pc + w = pc') (hf : ylar (zSh Z) (zN Z) A = some e) (hx : 0 ≤ x ∧ x < e) (k : YW Z i d pc' ls st (yup m A x.toNat v.toInt) n Q) : YW Z i d pc ls (.long v :: yI x :: .ref A :: st) m n Q := by
  subst hp
  refine YW.go ho (fun h hL => ?_) k
  obtain ⟨hk, hs, g, h1, h2⟩ := hL.lar hf
  obtain ⟨e1, e2⟩ := y_in hk hx.1 hx.2
  refine ⟨h.set A (.inl (5, e, .inr (.inl (vp_updL g x.toNat v)))), ?_, hL.set h1 rfl ?_⟩
  · simp only [zStp, xstep, yI, h1, e1, e2, xgo, and_self, if_true]
  · rw [hs]
    simp only [yCell]
    refine ⟨_, rfl, fun j hj => ?_⟩
    by_cases q : j = x.toNat
    · subst q
      rw [yup_eq]
      simp [vp_updL]
    · rw [yup_nk q, ← h2 j hj]
      simp [vp_updL, q]
theorem y_aaload (pc' : Nat) {A e B : Nat} {x : Int} (ho : zP Z i pc = some (.aaload, w, a, b)) (hp : pc + w = pc') (hf : yrow (zSh Z) (zN Z) A = some (e, B)) (hx : 0 ≤ x ∧ x < e) (k : YW Z i d pc' ls (.ref (B + x.toNat) :: st) m n Q) : YW Z i d pc ls (yI x :: .ref A :: st) m n Q := by
  subst hp
  refine YW.go ho (fun h hL => ⟨h, ?_, hL⟩) k
  obtain ⟨hk, t, g, t1, t2, h1, h2⟩ := hL.row hf
  obtain ⟨e1, e2⟩ := y_in hk hx.1 hx.2
  have e3 := h2 x.toNat (by omega)
  simp [zStp, xstep, yI, h1, e1, e2, xgo, e3, t1, t2, va_rf]
theorem y_alen (pc' : Nat) {t A e : Nat} (ho : zP Z i pc = some (.arraylength, w, a, b)) (hp : pc + w = pc') (hf : yarr (zSh Z) (zN Z) A = some (t, e)) (k : YW Z i d pc' ls (yI e :: st) m n Q) : YW Z i d pc ls (.ref A :: st) m n Q := by
  subst hp
  refine YW.go ho (fun h hL => ⟨h, ?_, hL⟩) k
  obtain ⟨hk, -, g, h1, h2⟩ := hL.arr hf
  simp [zStp, xstep, yI, h1, xgo, Int32.ofInt_eq_ofNat]
theorem y_rlen (pc' : Nat) {A e B : Nat} (ho : zP Z i pc = some (.arraylength, w, a, b)) (hp : pc + w = pc') (hf : yrow (zSh Z) (zN Z) A = some (e, B)) (k : YW Z i d pc' ls (yI e :: st) m n Q) : YW Z i d pc ls (.ref A :: st) m n Q := by
  subst hp
  refine YW.go ho (fun h hL => ⟨h, ?_, hL⟩) k
  obtain ⟨hk, t, g, t1, t2, h1, h2⟩ := hL.row hf
  simp [zStp, xstep, yI, h1, xgo, Int32.ofInt_eq_ofNat]
theorem y_slen (pc' : Nat) (ho : zP Z i pc = some (.arraylength, w, a, b)) (hp : pc + w = pc') (k : YW Z i d pc' ls (yI (zLn Z) :: st) m n Q) : YW Z i d pc ls (.retAddr 0 :: st) m n Q := by
  subst hp
  refine YW.gp ho (fun h => ?_) k
  simp [zStp, xstep, yI, xgo, Int32.ofInt_eq_ofNat, zLn]
theorem y_blen (pc' : Nat) {j : Nat} (ho : zP Z i pc = some (.arraylength, w, a, b)) (hp : pc + w = pc') (hj : j % 2 = 1 ∧ j / 2 < (zLit Z).length) (k : YW Z i d pc' ls (yI ((zLit Z).getD (j / 2) []).length :: st) m n Q) : YW Z i d pc ls (.retAddr (j + 1) :: st) m n Q := by
  subst hp
  refine YW.gp ho (fun h => ?_) k
  have hj : j % 2 = 1 ∧ j / 2 < Z.1.2.2.2.1.length := hj
  simp only [zStp, xstep, yI, xgo, zLit, if_pos hj, Int32.ofInt_eq_ofNat]
theorem y_byte (pc' : Nat) {j : Nat} {x : Int} (ho : zP Z i pc = some (.baload, w, a, b)) (hp : pc + w = pc') (hj : j % 2 = 1 ∧ j / 2 < (zLit Z).length) (hb : ((zLit Z).getD (j / 2) []).length ≤ 100000) (hx : 0 ≤ x ∧ x < ((zLit Z).getD (j / 2) []).length) (k : YW Z i d pc' ls (yI (((zLit Z).getD (j / 2) []).getD x.toNat 0).toInt :: st) m n Q) : YW Z i d pc ls (yI x :: .retAddr (j + 1) :: st) m n Q := by
  subst hp
  refine YW.gp ho (fun h => ?_) k
  obtain ⟨e1, e2⟩ := y_in hb hx.1 hx.2
  rw [y_back]
  have hq : j % 2 = 1 ∧ j / 2 < Z.1.2.2.2.1.length ∧ xin (Int32.ofInt x) (Z.1.2.2.2.1.getD (j / 2) []).length = true := ⟨hj.1, hj.2, e1⟩
  simp only [zStp, xstep, yI, xgo, zLit, if_pos hq, e2]
/-- the receiver of a call is what the method asks -/
def ycan (Z : yZ) (j : Nat) (as : List Value) : Prop := match zMc Z j with
  | none => True
  | some ci => match as with
    | .ref a :: _ => yobj (zSh Z) (zN Z) a = some ci
    | .retAddr (q + 1) :: _ => ci = 1000 ∧ q % 2 = 0 ∧ q / 2 < (zLit Z).length
    | _ => False
theorem y_calls {j ix kk kd : Nat} {as : List Value} {h : xH} (hL : yLay Z m n h) (ha : (st.take kk).reverse = as) (hr : st.drop kk = st0) (hk : kk ≤ st.length) (hw : xw st0 ≤ 8) (hm : ycan Z j as) : zStp Z (.invokeinterface j ix, w, kk, kd) pc ls st h = some (.inr (.inr (j, as, pc + w, st0))) := by
  subst ha
  subst hr
  unfold zStp
  simp only [xstep]
  rw [if_pos ⟨hk, hw⟩]
  unfold ycan zMc at hm
  cases hmc : Z.1.2.2.2.2 j with
  | none => rfl
  | some ci =>
    rw [hmc] at hm
    simp only at hm ⊢
    split at hm
    · rename_i a0 as0 he
      obtain ⟨vs, hv⟩ := hL.obj hm
      simp only [he, hv, if_true]
    · rename_i q0 as0 he
      simp only [he]
      exact if_pos hm
    · exact hm.elim
theorem y_call (pc' : Nat) {j ix kk kd : Nat} {as : List Value} (ho : zP Z i pc = some (.invokeinterface j ix, w, kk, kd)) (hp : pc + w = pc') (ha : (st.take kk).reverse = as) (hr : st.drop kk = st0) (hk : kk ≤ st.length) (hw : xw st0 ≤ 8) (hm : ycan Z j as) (hc : YC Z d j as m n Qs) (k1 : ∀ v m' n', Qs (.inl v) m' n' → YW Z i (d + 1) pc' ls (v.toList ++ st0) m' n' Q) (k2 : ∀ q x m' n', Qs (.inr (q, x)) m' n' → (∃ pq, zHd Z i pc q = some (some pq) ∧ YW Z i (d + 1) pq ls [.ref x] m' n' Q) ∨ (zHd Z i pc q = some none ∧ Q (.inr (q, x)) m' n')) : YW Z i (d + 1) pc ls st m n Q := by
  subst hp
  intro h hL
  have hs := y_calls (w := w) (pc := pc) (ls := ls) (ix := ix) (kd := kd) hL ha hr hk hw hm
  obtain ⟨r, h', m', n', hx, hl, hq⟩ := hc h hL
  cases r with
  | inl v =>
    obtain ⟨r2, h2, m2, n2, x2, l2, q2⟩ := k1 v m' n' hq h' hl
    exact ⟨r2, h2, m2, n2, XR.call ho hs hx x2, l2, q2⟩
  | inr qx =>
    obtain ⟨q, x⟩ := qx
    rcases k2 q x m' n' hq with ⟨pq, e1, k3⟩ | ⟨e1, k3⟩
    · obtain ⟨r2, h2, m2, n2, x2, l2, q2⟩ := k3 h' hl
      exact ⟨r2, h2, m2, n2, XR.caught ho hs hx e1 x2, l2, q2⟩
    · exact ⟨_, h', m', n', XR.out ho hs hx e1, hl, k3⟩
/-- what a call gives: an int, nothing, a reference; nothing is thrown -/
def qI (R : Int → yM → Nat → Prop) : xO → yM → Nat → Prop := fun o m n => ∃ x, o = .inl (some (yI x)) ∧ R x m n
def qU (R : yM → Nat → Prop) : xO → yM → Nat → Prop := fun o m n => o = .inl none ∧ R m n
def qA (R : Nat → yM → Nat → Prop) : xO → yM → Nat → Prop := fun o m n => ∃ A, o = .inl (some (.ref A)) ∧ R A m n
/-- an int, or something is thrown -/
def qT (R : Int → yM → Nat → Prop) (T : Nat → yM → Nat → Prop) : xO → yM → Nat → Prop := fun o m n => (∃ x, o = .inl (some (yI x)) ∧ R x m n) ∨ (∃ q x, o = .inr (q, x) ∧ T q m n)
theorem y_callI (pc' : Nat) {j ix kk kd : Nat} {as : List Value} {R : Int → yM → Nat → Prop} (ho : zP Z i pc = some (.invokeinterface j ix, w, kk, kd)) (hp : pc + w = pc') (ha : (st.take kk).reverse = as) (hr : st.drop kk = st0) (hk : kk ≤ st.length) (hw : xw st0 ≤ 8) (hm : ycan Z j as) (hc : YC Z d j as m n (qI R)) (k1 : ∀ x m' n', R x m' n' → YW Z i (d + 1) pc' ls (yI x :: st0) m' n' Q) : YW Z i (d + 1) pc ls st m n Q :=
  y_call pc' ho hp ha hr hk hw hm hc (fun v m' n' hq => by
    obtain ⟨x, e, hR⟩ := hq
    cases e
    exact k1 x m' n' hR) (fun q x m' n' hq => by
    obtain ⟨x, e, hR⟩ := hq
    cases e)
theorem y_callU (pc' : Nat) {j ix kk kd : Nat} {as : List Value} {R : yM → Nat → Prop} (ho : zP Z i pc = some (.invokeinterface j ix, w, kk, kd)) (hp : pc + w = pc') (ha : (st.take kk).reverse = as) (hr : st.drop kk = st0) (hk : kk ≤ st.length) (hw : xw st0 ≤ 8) (hm : ycan Z j as) (hc : YC Z d j as m n (qU R)) (k1 : ∀ m' n', R m' n' → YW Z i (d + 1) pc' ls st0 m' n' Q) : YW Z i (d + 1) pc ls st m n Q :=
  y_call pc' ho hp ha hr hk hw hm hc (fun v m' n' hq => by
    obtain ⟨e, hR⟩ := hq
    cases e
    exact k1 m' n' hR) (fun q x m' n' hq => by
    obtain ⟨e, hR⟩ := hq
    cases e)
theorem y_callA (pc' : Nat) {j ix kk kd : Nat} {as : List Value} {R : Nat → yM → Nat → Prop} (ho : zP Z i pc = some (.invokeinterface j ix, w, kk, kd)) (hp : pc + w = pc') (ha : (st.take kk).reverse = as) (hr : st.drop kk = st0) (hk : kk ≤ st.length) (hw : xw st0 ≤ 8) (hm : ycan Z j as) (hc : YC Z d j as m n (qA R)) (k1 : ∀ A m' n', R A m' n' → YW Z i (d + 1) pc' ls (.ref A :: st0) m' n' Q) : YW Z i (d + 1) pc ls st m n Q :=
  y_call pc' ho hp ha hr hk hw hm hc (fun v m' n' hq => by
    obtain ⟨x, e, hR⟩ := hq
    cases e
    exact k1 x m' n' hR) (fun q x m' n' hq => by
    obtain ⟨x, e, hR⟩ := hq
    cases e)
theorem y_callT (pc' : Nat) {j ix kk kd : Nat} {as : List Value} {R : Int → yM → Nat → Prop} {T : Nat → yM → Nat → Prop} (ho : zP Z i pc = some (.invokeinterface j ix, w, kk, kd)) (hp : pc + w = pc') (ha : (st.take kk).reverse = as) (hr : st.drop kk = st0) (hk : kk ≤ st.length) (hw : xw st0 ≤ 8) (hm : ycan Z j as) (hc : YC Z d j as m n (qT R T)) (k1 : ∀ x m' n', R x m' n' → YW Z i (d + 1) pc' ls (yI x :: st0) m' n' Q) (k2 : ∀ q x m' n', T q m' n' → (∃ pq, zHd Z i pc q = some (some pq) ∧ YW Z i (d + 1) pq ls [.ref x] m' n' Q) ∨ (zHd Z i pc q = some none ∧ Q (.inr (q, x)) m' n')) : YW Z i (d + 1) pc ls st m n Q :=
  y_call pc' ho hp ha hr hk hw hm hc (fun v m' n' hq => by
    rcases hq with ⟨x, e, hR⟩ | ⟨q, x, e, hR⟩
    · cases e
      exact k1 x m' n' hR
    · cases e) (fun q x m' n' hq => by
    rcases hq with ⟨x, e, hR⟩ | ⟨q, x, e, hR⟩
    · cases e
    · cases e
      exact k2 q x m' n' hR)
theorem y_throw {e : Nat} (ho : zP Z i pc = some (.athrow, w, e, b)) (hw : xw st ≤ 8) (hq : Q (.inr (e, n)) m (n + 1)) : YW Z i d pc ls st m n Q := by
  intro h hL
  refine ⟨_, _, m, n + 1, XR.fin ho (r := (.inr (e, h.length), h ++ [.inr (e, List.replicate 6 .null)])) ?_, hL.app e, ?_⟩
  · exact if_pos hw
  · rw [hL.1]
    exact hq
theorem y_ireturn {t : Nat} {x : Int} (ho : zP Z i pc = some (.ireturn, w, t, b)) (hv : xfit t (yI x) = true) (hq : Q (.inl (some (yI x))) m n) : YW Z i d pc ls [yI x] m n Q := by
  intro h hL
  exact ⟨_, _, m, n, XR.fin ho (r := (.inl (some (yI x)), h)) (if_pos hv), hL, hq⟩
theorem y_areturn {v : Value} (ho : zP Z i pc = some (.areturn, w, a, b)) (hv : xref v = true) (hq : Q (.inl (some v)) m n) : YW Z i d pc ls [v] m n Q := by
  intro h hL
  exact ⟨_, _, m, n, XR.fin ho (r := (.inl (some v), h)) (if_pos hv), hL, hq⟩
theorem y_return (ho : zP Z i pc = some (.return_, w, a, b)) (hq : Q (.inl none) m n) : YW Z i d pc ls [] m n Q := by
  intro h hL
  exact ⟨_, _, m, n, XR.fin ho (r := (.inl none, h)) rfl, hL, hq⟩
theorem y_tsw (pt : Nat) {df lo hi c o : Int} {offs : Array Int} (ho : zP Z i pc = some (.tableswitch df lo hi offs, w, a, b)) (hr : -2147483648 ≤ c ∧ c < 2147483648) (hc : ¬ (c < lo ∨ hi < c)) (hoff : offs[(c - lo).toNat]? = some o) (ht : ((pc : Int) + o).toNat = pt) (k : YW Z i d pt ls st m n Q) : YW Z i d pc ls (yI c :: st) m n Q := by
  subst ht
  refine YW.gp ho (fun h => ?_) k
  simp only [zStp, xstep, yI, y_rng hr]
  rw [if_neg hc]
  simp only [hoff]
  rfl
theorem y_tswd (pt : Nat) {df lo hi x : Int} {offs : Array Int} (ho : zP Z i pc = some (.tableswitch df lo hi offs, w, a, b)) (hr : -2147483648 ≤ x ∧ x < 2147483648) (hc : x < lo ∨ hi < x) (ht : ((pc : Int) + df).toNat = pt) (k : YW Z i d pt ls st m n Q) : YW Z i d pc ls (yI x :: st) m n Q := by
  subst ht
  refine YW.gp ho (fun h => ?_) k
  simp only [zStp, xstep, yI, y_rng hr]
  rw [if_pos hc]
  rfl
theorem y_lsw (pt : Nat) {df x o : Int} {ps : Array (Int × Int)} (ho : zP Z i pc = some (.lookupswitch df ps, w, a, b)) (hr : -2147483648 ≤ x ∧ x < 2147483648) (hoff : Op.lookupswitch.offset ps.toList df x = o) (ht : ((pc : Int) + o).toNat = pt) (k : YW Z i d pt ls st m n Q) : YW Z i d pc ls (yI x :: st) m n Q := by
  subst ht
  refine YW.gp ho (fun h => ?_) k
  simp only [zStp, xstep, yI, y_rng hr, hoff]
  rfl
theorem y_fit0 (x : Int) : xfit 0 (yI x) = true := rfl
theorem y_fit1 {x : Int} (h : x = 0 ∨ x = 1) : xfit 1 (yI x) = true := by rcases h with rfl | rfl <;> decide
theorem y_nar0 (v : Int) : (if (0 : Nat) = 3 then vp_nar .char (Int32.ofInt v) else if (0 : Nat) = 1 then vp_nar .boolean (Int32.ofInt v) else if (0 : Nat) = 2 then vp_nar .byte (Int32.ofInt v) else Int32.ofInt v) = Int32.ofInt v := rfl
theorem y_nar1 {v : Int} (h : v = 0 ∨ v = 1) : (if (1 : Nat) = 3 then vp_nar .char (Int32.ofInt v) else if (1 : Nat) = 1 then vp_nar .boolean (Int32.ofInt v) else if (1 : Nat) = 2 then vp_nar .byte (Int32.ofInt v) else Int32.ofInt v) = Int32.ofInt v := by rcases h with rfl | rfl <;> decide
end YR2
end
section
/-! CALLS WALKED IN PLACE -/
section YK1
variable {Z : yZ} {i j d pc pc' w a b : Nat} {ls ls' : xL} {st st' st0 : List Value} {m m' : yM} {n n' : Nat} {Q Qs : xO → yM → Nat → Prop} {o : xI} {as : List Value}
/-- what is left of the caller when the call at pc ends with r -/
def yK (Z : yZ) (i d pc pc' : Nat) (ls : xL) (st0 : List Value) (Q : xO → yM → Nat → Prop) (r : xO) (m : yM) (n : Nat) : Prop := match r with
  | .inl v => YW Z i (d + 1) pc' ls (v.toList ++ st0) m n Q
  | .inr (q, x) => (∃ pq, zHd Z i pc q = some (some pq) ∧ YW Z i (d + 1) pq ls [.ref x] m n Q) ∨ (zHd Z i pc q = some none ∧ Q (.inr (q, x)) m n)
theorem ycanS (h : zMc Z j = none) : ycan Z j as := by
  unfold ycan
  rw [h]
  trivial
theorem ycanO {A ci : Nat} (h : zMc Z j = some ci) (h2 : yobj (zSh Z) (zN Z) A = some ci) : ycan Z j (.ref A :: as) := by
  unfold ycan
  rw [h]
  exact h2
theorem ycanT {q : Nat} (h : zMc Z j = some 1000) (h2 : q % 2 = 0 ∧ q / 2 < (zLit Z).length) : ycan Z j (.retAddr (q + 1) :: as) := by
  unfold ycan
  rw [h]
  exact ⟨rfl, h2⟩
theorem y_inl (pc' : Nat) {ix kk kd kx : Nat} {ls0 : xL} (ho : zP Z i pc = some (.invokeinterface j ix, w, kk, kd)) (hp : pc + w = pc') (ha : (st.take kk).reverse = as) (hr : st.drop kk = st0) (hk : kk ≤ st.length) (hw : xw st0 ≤ 8) (hm : ycan Z j as) (hx : zMx Z j = kx) (he : xent as kx = ls0) (hn : ls0.length = kx) (k : YW Z j d 0 ls0 [] m n (yK Z i d pc pc' ls st0 Q)) : YW Z i (d + 1) pc ls st m n Q :=
  y_call pc' ho hp ha hr hk hw hm (YC.mk (by rw [hx]; exact he) (by rw [hx]; exact hn) k) (fun v m' n' h => h) (fun q x m' n' h => h)
theorem y_ireturnK {i0 d0 pc0 t : Nat} {x : Int} (ho : zP Z i pc = some (.ireturn, w, t, b)) (hv : xfit t (yI x) = true) (k : YW Z i0 (d0 + 1) pc' ls' (yI x :: st0) m n Q) : YW Z i d pc ls [yI x] m n (yK Z i0 d0 pc0 pc' ls' st0 Q) := y_ireturn ho hv k
theorem y_areturnK {i0 d0 pc0 : Nat} {v : Value} (ho : zP Z i pc = some (.areturn, w, a, b)) (hv : xref v = true) (k : YW Z i0 (d0 + 1) pc' ls' (v :: st0) m n Q) : YW Z i d pc ls [v] m n (yK Z i0 d0 pc0 pc' ls' st0 Q) := y_areturn ho hv k
theorem y_returnK {i0 d0 pc0 : Nat} (ho : zP Z i pc = some (.return_, w, a, b)) (k : YW Z i0 (d0 + 1) pc' ls' st0 m n Q) : YW Z i d pc ls [] m n (yK Z i0 d0 pc0 pc' ls' st0 Q) := y_return ho k
theorem yK_in {q x pq : Nat} (h : zHd Z i pc q = some (some pq)) (k : YW Z i (d + 1) pq ls [.ref x] m n Q) : yK Z i d pc pc' ls st0 Q (.inr (q, x)) m n := Or.inl ⟨pq, h, k⟩
theorem yK_out {q x : Nat} (h : zHd Z i pc q = some none) (k : Q (.inr (q, x)) m n) : yK Z i d pc pc' ls st0 Q (.inr (q, x)) m n := Or.inr ⟨h, k⟩
end YK1
section YK2
variable {Z : yZ} {i j d pc pc' w a b : Nat} {ls ls' : xL} {st st' st0 : List Value} {m m' : yM} {n n' : Nat} {Q Qs : xO → yM → Nat → Prop} {o : xI} {as : List Value}
/-- the top of the stack by another name -/
theorem y_top {x : Int} (y : Int) (h : x = y) (k : YW Z i d pc ls (yI y :: st) m n Q) : YW Z i d pc ls (yI x :: st) m n Q := h ▸ k
theorem y_iincN (pc' : Nat) {q : Nat} {x c : Int} (y : Int) (ho : zP Z i pc = some (.iinc q c, w, a, b)) (hp : pc + w = pc') (hl : ls[q]? = some (some (yI x))) (hy : x + c = y) (hs : xset ls q (yI y) = some ls') (k : YW Z i d pc' ls' st m n Q) : YW Z i d pc ls st m n Q := by
  subst hy
  exact y_iinc pc' ho hp hl hs k
theorem y_getX (pc' : Nat) {q ci t A : Nat} (x : Int) (ho : zP Z i pc = some (.getfield q, w, ci, b)) (hp : pc + w = pc') (hf : yfld (zSh Z) (zN Z) A q ci = some (.inl t)) (hx : m A q = x) (k : YW Z i d pc' ls (yI x :: st) m n Q) : YW Z i d pc ls (.ref A :: st) m n Q := by
  subst hx
  exact y_getI pc' ho hp hf k
theorem y_iaX (pc' : Nat) {t A e : Nat} {x : Int} (v : Int) (ho : zP Z i pc = some (.iaload, w, t, b)) (hp : pc + w = pc') (hf : yarr (zSh Z) (zN Z) A = some (t, e)) (hx : 0 ≤ x ∧ x < e) (hv : m A x.toNat = v) (k : YW Z i d pc' ls (yI v :: st) m n Q) : YW Z i d pc ls (yI x :: .ref A :: st) m n Q := by
  subst hv
  exact y_iaload pc' ho hp hf hx k
theorem lg_self (x : Int64) : lg_cmp x x = 0 := by simp [lg_cmp]
theorem y_lcmp0 (pc' : Nat) {x y : Int64} (ho : zP Z i pc = some (.lcmp, w, a, b)) (hp : pc + w = pc') (h : x = y) (k : YW Z i d pc' ls (yI 0 :: st) m n Q) : YW Z i d pc ls (.long y :: .long x :: st) m n Q := by
  subst h
  refine y_lcmp pc' ho hp ?_
  rw [lg_self]
  exact k
theorem y_inlB (pc' : Nat) (as : List Value) (st0 : List Value) (ls0 : xL) {ix kk kd kx : Nat} (ho : zP Z i pc = some (.invokeinterface j ix, w, kk, kd)) (hp : pc + w = pc') (ha : (st.take kk).reverse = as) (hr : st.drop kk = st0) (hk : Nat.ble kk st.length = true) (hw : Nat.ble (xw st0) 8 = true) (hm : ycan Z j as) (hx : zMx Z j = kx) (he : xent as kx = ls0) (hn : ls0.length = kx) (k : YW Z j d 0 ls0 [] m n (yK Z i d pc pc' ls st0 Q)) : YW Z i (d + 1) pc ls st m n Q := y_inl pc' ho hp ha hr (Nat.le_of_ble_eq_true hk) (Nat.le_of_ble_eq_true hw) hm hx he hn k
theorem y_throwB {e : Nat} (ho : zP Z i pc = some (.athrow, w, e, b)) (hw : Nat.ble (xw st) 8 = true) (hq : Q (.inr (e, n)) m (n + 1)) : YW Z i d pc ls st m n Q := y_throw ho (Nat.le_of_ble_eq_true hw) hq
end YK2
section YK3
variable {Z : yZ} {i j d pc pc' w a b : Nat} {ls ls' : xL} {st st' st0 : List Value} {m m' : yM} {n n' : Nat} {Q Qs : xO → yM → Nat → Prop} {o : xI} {as : List Value}
theorem YC.mkB (ls0 : xL) {kx : Nat} (hx : zMx Z j = kx) (he : xent as kx = ls0) (hn : ls0.length = kx) (k : YW Z j d 0 ls0 [] m n Q) : YC Z d j as m n Q := YC.mk (by rw [hx]; exact he) (by rw [hx]; exact hn) k
/-- an int, and nothing is changed -/
def qP (m : yM) (n : Nat) (R : Int → Prop) : xO → yM → Nat → Prop := fun o m' n' => ∃ x, o = .inl (some (yI x)) ∧ R x ∧ m' = m ∧ n' = n
theorem y_callP (pc' : Nat) (as : List Value) (st0 : List Value) {ix kk kd : Nat} {R : Int → Prop} (ho : zP Z i pc = some (.invokeinterface j ix, w, kk, kd)) (hp : pc + w = pc') (ha : (st.take kk).reverse = as) (hr : st.drop kk = st0) (hk : Nat.ble kk st.length = true) (hw : Nat.ble (xw st0) 8 = true) (hm : ycan Z j as) (hc : YC Z d j as m n (qP m n R)) (k1 : ∀ x, R x → YW Z i (d + 1) pc' ls (yI x :: st0) m n Q) : YW Z i (d + 1) pc ls st m n Q :=
  y_call pc' ho hp ha hr (Nat.le_of_ble_eq_true hk) (Nat.le_of_ble_eq_true hw) hm hc (fun v m' n' hq => by
    obtain ⟨x, e, hR, rfl, rfl⟩ := hq
    cases e
    exact k1 x hR) (fun q x m' n' hq => by
    obtain ⟨x, e, hR⟩ := hq
    cases e)
theorem y_retP {t : Nat} {x : Int} {R : Int → Prop} (ho : zP Z i pc = some (.ireturn, w, t, b)) (hv : xfit t (yI x) = true) (hq : R x) : YW Z i d pc ls [yI x] m n (qP m n R) := y_ireturn ho hv ⟨x, rfl, hq, rfl, rfl⟩
theorem y_retI {t : Nat} {x : Int} {R : Int → yM → Nat → Prop} (ho : zP Z i pc = some (.ireturn, w, t, b)) (hv : xfit t (yI x) = true) (hq : R x m n) : YW Z i d pc ls [yI x] m n (qI R) := y_ireturn ho hv ⟨x, rfl, hq⟩
theorem y_retU {R : yM → Nat → Prop} (ho : zP Z i pc = some (.return_, w, a, b)) (hq : R m n) : YW Z i d pc ls [] m n (qU R) := y_return ho ⟨rfl, hq⟩
theorem y_retT {t : Nat} {x : Int} {R : Int → yM → Nat → Prop} {T : Nat → yM → Nat → Prop} (ho : zP Z i pc = some (.ireturn, w, t, b)) (hv : xfit t (yI x) = true) (hq : R x m n) : YW Z i d pc ls [yI x] m n (qT R T) := y_ireturn ho hv (Or.inl ⟨x, rfl, hq⟩)
theorem y_thrT {e : Nat} {R : Int → yM → Nat → Prop} {T : Nat → yM → Nat → Prop} (ho : zP Z i pc = some (.athrow, w, e, b)) (hw : Nat.ble (xw st) 8 = true) (hq : T e m (n + 1)) : YW Z i d pc ls st m n (qT R T) := y_throwB ho hw (Or.inr ⟨e, n, rfl, hq⟩)
theorem y_i2cN (pc' : Nat) {x : Int} (ho : zP Z i pc = some (.i2c, w, a, b)) (hp : pc + w = pc') (hx : 0 ≤ x ∧ x ≤ 65535) (k : YW Z i d pc' ls (yI x :: st) m n Q) : YW Z i d pc ls (yI x :: st) m n Q := by
  refine y_i2c pc' ho hp ?_
  have e : ((Int32.ofInt x).toUInt32 % 65536).toInt32 = Int32.ofInt x := by
    apply Int32.toBitVec_inj.mp
    apply BitVec.eq_of_toNat_eq
    have h1 : (Int32.ofInt x).toUInt32.toNat = x.toNat := by
      obtain ⟨k, rfl⟩ := Int.eq_ofNat_of_zero_le hx.1
      simp [Int32.ofInt_eq_ofNat]
      omega
    simp [h1]
    omega
  rw [e, y_rng (by omega)]
  exact k
theorem y_nar3 {v : Int} (h : 0 ≤ v ∧ v ≤ 65535) : (if (3 : Nat) = 3 then vp_nar .char (Int32.ofInt v) else if (3 : Nat) = 1 then vp_nar .boolean (Int32.ofInt v) else if (3 : Nat) = 2 then vp_nar .byte (Int32.ofInt v) else Int32.ofInt v) = Int32.ofInt v := by
  rw [if_pos rfl]
  unfold vp_nar narrow
  simp only
  apply Int32.toBitVec_inj.mp
  apply BitVec.eq_of_toNat_eq
  obtain ⟨k, rfl⟩ := Int.eq_ofNat_of_zero_le h.1
  simp [Int32.ofInt_eq_ofNat]
  omega
end YK3
section YK4
variable {Z : yZ} {i j d pc pc' w a b : Nat} {ls ls' : xL} {st st' : List Value} {m m' : yM} {n n' : Nat} {Q Qs : xO → yM → Nat → Prop} {o : xI}
theorem y_callIB (pc' : Nat) (as : List Value) (st0 : List Value) {ix kk kd : Nat} {R : Int → yM → Nat → Prop} (ho : zP Z i pc = some (.invokeinterface j ix, w, kk, kd)) (hp : pc + w = pc') (ha : (st.take kk).reverse = as) (hr : st.drop kk = st0) (hk : Nat.ble kk st.length = true) (hw : Nat.ble (xw st0) 8 = true) (hm : ycan Z j as) (hc : YC Z d j as m n (qI R)) (k1 : ∀ x m' n', R x m' n' → YW Z i (d + 1) pc' ls (yI x :: st0) m' n' Q) : YW Z i (d + 1) pc ls st m n Q := y_callI pc' ho hp ha hr (Nat.le_of_ble_eq_true hk) (Nat.le_of_ble_eq_true hw) hm hc k1
theorem y_callUB (pc' : Nat) (as : List Value) (st0 : List Value) {ix kk kd : Nat} {R : yM → Nat → Prop} (ho : zP Z i pc = some (.invokeinterface j ix, w, kk, kd)) (hp : pc + w = pc') (ha : (st.take kk).reverse = as) (hr : st.drop kk = st0) (hk : Nat.ble kk st.length = true) (hw : Nat.ble (xw st0) 8 = true) (hm : ycan Z j as) (hc : YC Z d j as m n (qU R)) (k1 : ∀ m' n', R m' n' → YW Z i (d + 1) pc' ls st0 m' n' Q) : YW Z i (d + 1) pc ls st m n Q := y_callU pc' ho hp ha hr (Nat.le_of_ble_eq_true hk) (Nat.le_of_ble_eq_true hw) hm hc k1
theorem y_callTB (pc' : Nat) (as : List Value) (st0 : List Value) {ix kk kd : Nat} {R : Int → yM → Nat → Prop} {T : Nat → yM → Nat → Prop} (ho : zP Z i pc = some (.invokeinterface j ix, w, kk, kd)) (hp : pc + w = pc') (ha : (st.take kk).reverse = as) (hr : st.drop kk = st0) (hk : Nat.ble kk st.length = true) (hw : Nat.ble (xw st0) 8 = true) (hm : ycan Z j as) (hc : YC Z d j as m n (qT R T)) (k1 : ∀ x m' n', R x m' n' → YW Z i (d + 1) pc' ls (yI x :: st0) m' n' Q) (k2 : ∀ q x m' n', T q m' n' → (∃ pq, zHd Z i pc q = some (some pq) ∧ YW Z i (d + 1) pq ls [.ref x] m' n' Q) ∨ (zHd Z i pc q = some none ∧ Q (.inr (q, x)) m' n')) : YW Z i (d + 1) pc ls st m n Q := y_callT pc' ho hp ha hr (Nat.le_of_ble_eq_true hk) (Nat.le_of_ble_eq_true hw) hm hc k1 k2
theorem y_lastoreN (pc' : Nat) (y : Int) {A e : Nat} {x : Int} {v : Int64} (ho : zP Z i pc = some (.lastore, w, a, b)) (hp : pc + w = pc') (hf : ylar (zSh Z) (zN Z) A = some e) (hx : 0 ≤ x ∧ x < e) (hv : v.toInt = y) (k : YW Z i d pc' ls st (yup m A x.toNat y) n Q) : YW Z i d pc ls (.long v :: yI x :: .ref A :: st) m n Q := by
  subst hv
  exact y_lastore pc' ho hp hf hx k
theorem y_laX (pc' : Nat) (y : Int) {A e : Nat} {x : Int} (ho : zP Z i pc = some (.laload, w, a, b)) (hp : pc + w = pc') (hf : ylar (zSh Z) (zN Z) A = some e) (hx : 0 ≤ x ∧ x < e) (hy : m A x.toNat = y) (k : YW Z i d pc' ls (.long (Int64.ofInt y) :: st) m n Q) : YW Z i d pc ls (yI x :: .ref A :: st) m n Q := by
  subst hy
  exact y_laload pc' ho hp hf hx k
/-- an int's long -/
theorem y_long {x : Int} (hx : -2147483648 ≤ x ∧ x < 2147483648) : Int64.ofInt x = (Int32.ofInt x).toInt64 := by
  apply Int64.toInt_inj.mp
  rw [Int32.toInt_toInt64, y_rng hx]
  exact Int64.toInt_ofInt_of_le (by omega) (by omega)
end YK4
end
section
/-! RUNS THAT DON'T LOOK AT THE SCRIPT; a heap held against a memory by the kernel -/
def xnoS (o : xI) (st : List Value) : Bool := match o.1, st with
  | .iaload, _ :: .retAddr 0 :: _ => false
  | .arraylength, .retAddr 0 :: _ => false
  | _, _ => true
def xstepN (nf : Nat → List Value) (lit : List (List Int32)) (mc : Nat → Option Nat) (o : xI) (pc : Nat) (ls : xL) (st : List Value) (h : xH) : Option xG := if xnoS o st = true then xstep nf 0 (fun _ => 0) lit mc o pc ls st h else none
set_option maxHeartbeats 2000000 in
theorem xstepN_imp {nf : Nat → List Value} {L : Nat} {xs : Nat → Int32} {lit : List (List Int32)} {mc : Nat → Option Nat} {o : xI} {pc : Nat} {ls : xL} {st : List Value} {h : xH} {g : xG} (hs : xstepN nf lit mc o pc ls st h = some g) : xstep nf L xs lit mc o pc ls st h = some g := by
  unfold xstepN at hs
  split at hs
  · rename_i hn
    obtain ⟨ins, w, a, b⟩ := o
    cases ins
    case iaload =>
      rcases st with _ | ⟨v1, _ | ⟨v2, st⟩⟩
      · exact hs
      · cases v1 <;> exact hs
      · cases v1 <;> cases v2 <;> first | exact hs | (rename_i k; cases k <;> first | exact hs | cases hn)
    case arraylength =>
      rcases st with _ | ⟨v1, st⟩
      · exact hs
      · cases v1 <;> first | exact hs | (rename_i k; cases k <;> first | exact hs | cases hn)
    all_goals exact hs
  · cases hs
theorem xrun_stp {stp1 stp2 : xI → Nat → xL → List Value → xH → Option xG} {P : Nat → Nat → Option xI} {mx : Nat → Nat} {hd : Nat → Nat → Nat → Option (Option Nat)} (H : ∀ o pc ls st h g, stp1 o pc ls st h = some g → stp2 o pc ls st h = some g) : ∀ (n d i pc : Nat) (ls : xL) (st : List Value) (h : xH) (r : xO × xH), xrun stp1 P mx hd n d i pc ls st h = some r → xrun stp2 P mx hd n d i pc ls st h = some r := by
  intro n
  induction n with
  | zero => intro d i pc ls st h r hr; cases hr
  | succ n ih =>
    intro d i pc ls st h r hr
    simp only [xrun] at hr ⊢
    split at hr
    · cases hr
    · rename_i o ho
      split at hr
      · cases hr
      · rename_i pc' ls' st' h1 hs
        simp only [H _ _ _ _ _ _ hs]
        exact ih _ _ _ _ _ _ _ hr
      · rename_i r1 hs
        simp only [H _ _ _ _ _ _ hs]
        exact hr
      · rename_i j as pc' st' hs
        simp only [H _ _ _ _ _ _ hs]
        split at hr
        · cases hr
        · rename_i d
          split at hr
          · rename_i hent
            rw [if_pos hent]
            split at hr
            · cases hr
            · rename_i v h1 hc
              rw [ih _ _ _ _ _ _ _ hc]
              exact ih _ _ _ _ _ _ _ hr
            · rename_i q a h1 hc
              rw [ih _ _ _ _ _ _ _ hc]
              split at hr
              · rename_i pq hq
                simp only [hq]
                exact ih _ _ _ _ _ _ _ hr
              · rename_i hq
                simp only [hq]
                exact hr
              · cases hr
          · cases hr
def yCellB (s : ySh) (f : Nat → Int) (c : xC) : Bool := match s, c with
  | .inl (t, k), .inl (t', k', .inl g) => t' == t && k' == k && (List.range k).all (fun j => g j == Int32.ofInt (f j))
  | .inr (.inl k), .inl (t', k', .inr (.inl g)) => t' == 5 && k' == k && (List.range k).all (fun j => g j == Int64.ofInt (f j))
  | .inr (.inr (.inl (t, k, b))), .inl (t', k', .inr (.inr (.inr (.inr g)))) => t' == t && k' == k && (List.range k).all (fun j => g j == some (b + j))
  | .inr (.inr (.inr (ci, sl))), .inr (c', vs) => c' == ci && vs == sl.zipIdx.map (fun p => yslv p.1 (f p.2))
  | _, _ => false
theorem yCellB_sound {s : ySh} {f : Nat → Int} {c : xC} (hc : yCellB s f c = true) : yCell s f c := by
  unfold yCellB at hc
  split at hc
  · simp only [Bool.and_eq_true, beq_iff_eq, List.all_eq_true, List.mem_range] at hc
    obtain ⟨⟨rfl, rfl⟩, h3⟩ := hc
    exact ⟨_, rfl, h3⟩
  · simp only [Bool.and_eq_true, beq_iff_eq, List.all_eq_true, List.mem_range] at hc
    obtain ⟨⟨rfl, rfl⟩, h3⟩ := hc
    exact ⟨_, rfl, h3⟩
  · simp only [Bool.and_eq_true, beq_iff_eq, List.all_eq_true, List.mem_range] at hc
    obtain ⟨⟨rfl, rfl⟩, h3⟩ := hc
    exact ⟨_, rfl, h3⟩
  · simp only [Bool.and_eq_true, beq_iff_eq] at hc
    obtain ⟨rfl, rfl⟩ := hc
    refine ⟨_, rfl, by simp, fun j x hj => ?_⟩
    simp [hj]
  · cases hc
def yLayB (sh : Nat → ySh) (m : yM) : Nat → xH → Bool
  | _, [] => true
  | a, c :: h => yCellB (sh a) (m a) c && yLayB sh m (a + 1) h
theorem yLayB_sound {sh : Nat → ySh} {m : yM} : ∀ (h : xH) (a : Nat), yLayB sh m a h = true → ∀ (k : Nat) (c : xC), h[k]? = some c → yCell (sh (a + k)) (m (a + k)) c := by
  intro h
  induction h with
  | nil => intro a _ k c hk; simp at hk
  | cons c0 h ih =>
    intro a hb k c hk
    simp only [yLayB, Bool.and_eq_true] at hb
    cases k with
    | zero =>
      simp at hk
      subst hk
      exact yCellB_sound hb.1
    | succ k =>
      have := ih (a + 1) hb.2 k c (by simpa using hk)
      rw [show a + (k + 1) = a + 1 + k by omega]
      exact this
end

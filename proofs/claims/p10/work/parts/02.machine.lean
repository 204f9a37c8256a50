/-! THE PURE MACHINE: a small interpreter over the program's own bytecode, its instructions linked ahead ("normal" ones). Its heap is a list of cells; an address is a place in it. The real machine's heap holds the same cells from a base on. -/
/-- a cell: an array (code of its type, length, contents), or an object (number of its class, fields) -/
abbrev xC : Type := (Nat × vp_A) ⊕ (Nat × List Value)
abbrev xH : Type := List xC
abbrev xL : Type := List (Option Value)
/-- a linked instruction: the instruction with its operand linked, its length, two numbers more -/
abbrev xI : Type := Instr × Nat × Nat × Nat
/-- an end: returned, or threw an exception of that class number at that place -/
abbrev xO : Type := Option Value ⊕ (Nat × Nat)
/-- what a step does: it goes on; it ends; it calls (method, arguments, where it goes on, the operands below) -/
abbrev xG : Type := (Nat × xL × List Value × xH) ⊕ ((xO × xH) ⊕ (Nat × List Value × Nat × List Value))
def xgo (pc : Nat) (ls : xL) (st : List Value) (h : xH) : Option xG := some (.inl (pc, ls, st, h))
def xend (r : xO) (h : xH) : Option xG := some (.inr (.inl (r, h)))
/-- the value fits a place of the type with this code: 0 int, 1 boolean, 2 byte, 3 char, 4 short, 5 long, 6 a reference -/
def xfit (t : Nat) (v : Value) : Bool := match v with
  | .int x => t == 0 || (t == 1 && (x == 0 || x == 1)) || (t == 2 && (decide (narrow .byte (.int x) = .int x) && fits .byte (.int x))) || (t == 3 && (decide (narrow .char (.int x) = .int x) && fits .char (.int x)))
  | .long _ => t == 5
  | .null => t == 6
  | .ref _ => t == 6
  | _ => false
/-- is it a reference (the script, a text too; not null)? -/
def xref (v : Value) : Bool := match v with
  | .ref _ => true
  | .retAddr _ => true
  | _ => false
/-- a store into a local of one word -/
def xset (ls : xL) (i : Nat) (v : Value) : Option xL :=
  if i < ls.length then
    match (if i = 0 then none else ls[i - 1]?) with
    | some (some (.long _)) => none
    | some (some (.double _)) => none
    | _ => some (ls.set i (some v))
  else none
/-- the locals at a method's entry -/
def xfl (as : List Value) : xL := as.flatMap (fun v : Value => if v.category = 2 then [some v, none] else [some v])
def xent (as : List Value) (n : Nat) : xL := xfl as ++ List.replicate (n - (xfl as).length) none
def xcmp (c : ClassFile.Cond) (x y : Int32) : Bool := match c with
  | .eq => decide (x = y)
  | .ne => decide (¬ x = y)
  | .lt => decide (x < y)
  | .ge => decide (y ≤ x)
  | .gt => decide (y < x)
  | .le => decide (x ≤ y)
/-- is the index in the array? -/
def xin (i : Int32) (n : Nat) : Bool := decide (¬ (i < 0 ∨ n ≤ i.toNatClampNeg))
/-- the words that operands take -/
def xw (st : List Value) : Nat := (st.map fun v => v.category).sum
section XSTEP
variable (nf : Nat → List Value) (L : Nat) (xs : Nat → Int32) (lit : List (List Int32)) (mc : Nat → Option Nat)
/-- one instruction. nf: a new object's fields; L, xs: the script; lit: the texts, as bytes (the text i is .retAddr (2 * i + 1), its bytes .retAddr (2 * i + 2)); mc: the class whose object the method is called on, if it is not static -/
def xstep (o : xI) (pc : Nat) (ls : xL) (st : List Value) (h : xH) : Option xG := match o with
  | (.iconst v, n, _, _) => xgo (pc + n) ls (.int (Int32.ofInt v) :: st) h
  | (.goto_w v, n, _, _) => xgo (pc + n) ls (.long (Int64.ofInt v) :: st) h
  | (.ldc i, n, _, _) => if i < lit.length then xgo (pc + n) ls (.retAddr (2 * i + 1) :: st) h else none
  | (.getstatic k, n, _, _) => if k = 0 then xgo (pc + n) ls (.int 1 :: st) h else xgo (pc + n) ls (.float 0 :: st) h
  | (.saload, n, _, _) => match st with
    | .retAddr (j + 1) :: st => if j % 2 = 0 ∧ j / 2 < lit.length then xgo (pc + n) ls (.retAddr (j + 2) :: st) h else none
    | _ => none
  | (.sastore, n, _, _) => match st with
    | .retAddr (j + 1) :: st => if j % 2 = 0 ∧ j / 2 < lit.length then xgo (pc + n) ls (.int 0 :: st) h else none
    | _ => none
  | (.baload, n, _, _) => match st with
    | .int i :: .retAddr (j + 1) :: st => if j % 2 = 1 ∧ j / 2 < lit.length ∧ xin i (lit.getD (j / 2) []).length = true then xgo (pc + n) ls (.int ((lit.getD (j / 2) []).getD i.toNatClampNeg 0) :: st) h else none
    | _ => none
  | (.iload i, n, _, _) => match ls[i]? with
    | some (some (.int x)) => xgo (pc + n) ls (.int x :: st) h
    | _ => none
  | (.lload i, n, _, _) => match ls[i]? with
    | some (some (.long x)) => xgo (pc + n) ls (.long x :: st) h
    | _ => none
  | (.aload i, n, _, _) => match ls[i]? with
    | some (some v) => if xref v = true then xgo (pc + n) ls (v :: st) h else none
    | _ => none
  | (.istore i, n, _, _) => match st with
    | .int x :: st => match xset ls i (.int x) with
      | some ls' => xgo (pc + n) ls' st h
      | none => none
    | _ => none
  | (.astore i, n, _, _) => match st with
    | v :: st => if xref v = true then (match xset ls i v with
      | some ls' => xgo (pc + n) ls' st h
      | none => none) else none
    | _ => none
  | (.iinc i k, n, _, _) => match ls[i]? with
    | some (some (.int x)) => match xset ls i (.int (x + Int32.ofInt k)) with
      | some ls' => xgo (pc + n) ls' st h
      | none => none
    | _ => none
  | (.iadd, n, _, _) => match st with
    | .int y :: .int x :: st => xgo (pc + n) ls (.int (x + y) :: st) h
    | _ => none
  | (.isub, n, _, _) => match st with
    | .int y :: .int x :: st => xgo (pc + n) ls (.int (x - y) :: st) h
    | _ => none
  | (.imul, n, _, _) => match st with
    | .int y :: .int x :: st => xgo (pc + n) ls (.int (x * y) :: st) h
    | _ => none
  | (.idiv, n, _, _) => match st with
    | .int y :: .int x :: st => if y = 0 then none else xgo (pc + n) ls (.int (x / y) :: st) h
    | _ => none
  | (.irem, n, _, _) => match st with
    | .int y :: .int x :: st => if y = 0 then none else xgo (pc + n) ls (.int (x - x / y * y) :: st) h
    | _ => none
  | (.iand, n, _, _) => match st with
    | .int y :: .int x :: st => xgo (pc + n) ls (.int (x &&& y) :: st) h
    | _ => none
  | (.ior, n, _, _) => match st with
    | .int y :: .int x :: st => xgo (pc + n) ls (.int (x ||| y) :: st) h
    | _ => none
  | (.ishl, n, _, _) => match st with
    | .int y :: .int x :: st => xgo (pc + n) ls (.int (x <<< (y &&& 31)) :: st) h
    | _ => none
  | (.ishr, n, _, _) => match st with
    | .int y :: .int x :: st => xgo (pc + n) ls (.int (x >>> (y &&& 31)) :: st) h
    | _ => none
  | (.ineg, n, _, _) => match st with
    | .int x :: st => xgo (pc + n) ls (.int (-x) :: st) h
    | _ => none
  | (.land, n, _, _) => match st with
    | .long y :: .long x :: st => xgo (pc + n) ls (.long (x &&& y) :: st) h
    | _ => none
  | (.lor, n, _, _) => match st with
    | .long y :: .long x :: st => xgo (pc + n) ls (.long (x ||| y) :: st) h
    | _ => none
  | (.lushr, n, _, _) => match st with
    | .int y :: .long x :: st => xgo (pc + n) ls (.long (x.toUInt64 >>> (y.toInt64.toUInt64 &&& Int64.toUInt64 63)).toInt64 :: st) h
    | _ => none
  | (.lshl, n, _, _) => match st with
    | .int y :: .long x :: st => xgo (pc + n) ls (.long (x <<< (y.toInt64 &&& 63)) :: st) h
    | _ => none
  | (.lshr, n, _, _) => match st with
    | .int y :: .long x :: st => xgo (pc + n) ls (.long (x >>> (y.toInt64 &&& 63)) :: st) h
    | _ => none
  | (.lcmp, n, _, _) => match st with
    | .long y :: .long x :: st => xgo (pc + n) ls (.int (lg_cmp x y) :: st) h
    | _ => none
  | (.i2l, n, _, _) => match st with
    | .int x :: st => xgo (pc + n) ls (.long x.toInt64 :: st) h
    | _ => none
  | (.l2i, n, _, _) => match st with
    | .long x :: st => xgo (pc + n) ls (.int x.toInt32 :: st) h
    | _ => none
  | (.i2c, n, _, _) => match st with
    | .int x :: st => xgo (pc + n) ls (.int (x.toUInt32 % 65536).toInt32 :: st) h
    | _ => none
  | (.dup, n, _, _) => match st with
    | v :: st => if v.category = 1 then xgo (pc + n) ls (v :: v :: st) h else none
    | _ => none
  | (.dup_x1, n, _, _) => match st with
    | v :: w :: st => if v.category = 1 ∧ w.category = 1 then xgo (pc + n) ls (v :: w :: v :: st) h else none
    | _ => none
  | (.dup2, n, _, _) => match st with
    | v :: w :: st => if v.category = 1 ∧ w.category = 1 then xgo (pc + n) ls (v :: w :: v :: w :: st) h else none
    | _ => none
  | (.pop, n, _, _) => match st with
    | v :: st => if v.category = 1 then xgo (pc + n) ls st h else none
    | _ => none
  | (.goto t, _, _, _) => xgo t.toNat ls st h
  | (.ifCond c t, n, _, _) => match st with
    | .int x :: st => if xcmp c x 0 = true then xgo t.toNat ls st h else xgo (pc + n) ls st h
    | _ => none
  | (.if_icmp c t, n, _, _) => match st with
    | .int y :: .int x :: st => if xcmp c x y = true then xgo t.toNat ls st h else xgo (pc + n) ls st h
    | _ => none
  | (.tableswitch d lo hi offs, _, _, _) => match st with
    | .int x :: st => if x.toInt < lo ∨ hi < x.toInt then xgo ((pc : Int) + d).toNat ls st h else (match offs[(x.toInt - lo).toNat]? with
      | some o => xgo ((pc : Int) + o).toNat ls st h
      | none => none)
    | _ => none
  | (.lookupswitch d ps, _, _, _) => match st with
    | .int x :: st => xgo ((pc : Int) + Op.lookupswitch.offset ps.toList d x.toInt).toNat ls st h
    | _ => none
  | (.getfield k, n, ci, _) => match st with
    | .ref a :: st => match h[a]? with
      | some (.inr (c, fs)) => if c = ci then (match fs[k]? with
        | some v => xgo (pc + n) ls (v :: st) h
        | none => none) else none
      | _ => none
    | _ => none
  | (.putfield k, n, ci, t) => match st with
    | v :: .ref a :: st => match h[a]? with
      | some (.inr (c, fs)) => if c = ci ∧ k < fs.length ∧ xfit t v = true then xgo (pc + n) ls st (h.set a (.inr (c, fs.set k v))) else none
      | _ => none
    | _ => none
  | (.iaload, n, t, _) => match st with
    | .int i :: .ref a :: st => match h[a]? with
      | some (.inl (t', m, .inl f)) => if t' = t ∧ xin i m = true then xgo (pc + n) ls (.int (f i.toNatClampNeg) :: st) h else none
      | _ => none
    | .int i :: .retAddr 0 :: st => if t = 0 ∧ xin i L = true then xgo (pc + n) ls (.int (xs i.toNatClampNeg) :: st) h else none
    | _ => none
  | (.iastore, n, t, _) => match st with
    | .int x :: .int i :: .ref a :: st => match h[a]? with
      | some (.inl (t', m, .inl f)) => if t' = t ∧ xin i m = true then xgo (pc + n) ls st (h.set a (.inl (t', m, .inl (upd f i.toNatClampNeg (if t = 3 then vp_nar .char x else if t = 1 then vp_nar .boolean x else if t = 2 then vp_nar .byte x else x))))) else none
      | _ => none
    | _ => none
  | (.laload, n, _, _) => match st with
    | .int i :: .ref a :: st => match h[a]? with
      | some (.inl (t', m, .inr (.inl f))) => if t' = 5 ∧ xin i m = true then xgo (pc + n) ls (.long (f i.toNatClampNeg) :: st) h else none
      | _ => none
    | _ => none
  | (.lastore, n, _, _) => match st with
    | .long x :: .int i :: .ref a :: st => match h[a]? with
      | some (.inl (t', m, .inr (.inl f))) => if t' = 5 ∧ xin i m = true then xgo (pc + n) ls st (h.set a (.inl (t', m, .inr (.inl (vp_updL f i.toNatClampNeg x))))) else none
      | _ => none
    | _ => none
  | (.aaload, n, _, _) => match st with
    | .int i :: .ref a :: st => match h[a]? with
      | some (.inl (t', m, .inr (.inr (.inr (.inr f))))) => if 6 ≤ t' ∧ t' < 12 ∧ xin i m = true then xgo (pc + n) ls (va_rf (f i.toNatClampNeg) :: st) h else none
      | _ => none
    | _ => none
  | (.aastore, n, t, ci) => match st with
    | .ref v :: .int i :: .ref a :: st => match h[a]?, h[v]? with
      | some (.inl (t', m, .inr (.inr (.inr (.inr f))))), some (.inr (c, _)) => if t' = t ∧ 6 ≤ t ∧ t < 12 ∧ c = ci ∧ xin i m = true then xgo (pc + n) ls st (h.set a (.inl (t', m, .inr (.inr (.inr (.inr (va_up f i.toNatClampNeg (some v)))))))) else none
      | _, _ => none
    | _ => none
  | (.arraylength, n, _, _) => match st with
    | .ref a :: st => match h[a]? with
      | some (.inl (_, m, _)) => xgo (pc + n) ls (.int (Int32.ofNat m) :: st) h
      | _ => none
    | .retAddr 0 :: st => xgo (pc + n) ls (.int (Int32.ofNat L) :: st) h
    | .retAddr (j + 1) :: st => if j % 2 = 1 ∧ j / 2 < lit.length then xgo (pc + n) ls (.int (Int32.ofNat (lit.getD (j / 2) []).length) :: st) h else none
    | _ => none
  | (.new ci, n, _, _) => xgo (pc + n) ls (.ref h.length :: st) (h ++ [.inr (ci, nf ci)])
  | (.newarray _, n, t, _) => match st with
    | .int k :: st => if k < 0 ∨ 100000 < k.toNatClampNeg then none else
      if t = 5 then xgo (pc + n) ls (.ref h.length :: st) (h ++ [.inl (t, k.toNatClampNeg, .inr (.inl (fun _ => 0)))])
      else if t < 4 then xgo (pc + n) ls (.ref h.length :: st) (h ++ [.inl (t, k.toNatClampNeg, .inl (fun _ => 0))]) else none
    | _ => none
  | (.anewarray t, n, _, _) => match st with
    | .int k :: st => if k < 0 ∨ 100000 < k.toNatClampNeg then none else xgo (pc + n) ls (.ref h.length :: st) (h ++ [.inl (t, k.toNatClampNeg, .inr (.inr (.inr (.inr (fun _ => none)))))])
    | _ => none
  | (.multianewarray t t', n, _, _) => match st with
    | .int k' :: .int k :: st => if k < 0 ∨ 1000 < k.toNatClampNeg ∨ k' < 0 ∨ 1000 < k'.toNatClampNeg then none else
      xgo (pc + n) ls (.ref h.length :: st) (h ++ (.inl (t, k.toNatClampNeg, .inr (.inr (.inr (.inr (fun i => if i < k.toNatClampNeg then some (h.length + 1 + i) else none))))) :: List.replicate k.toNatClampNeg (.inl (t', k'.toNatClampNeg, .inl (fun _ => 0)))))
    | _ => none
  | (.invokespecial _, n, _, _) => match st with
    | .ref _ :: st => if xw st ≤ 8 then xgo (pc + n) ls st h else none
    | _ => none
  | (.invokeinterface j _, n, k, _) => if k ≤ st.length ∧ xw (st.drop k) ≤ 8 then (match mc j with
      | none => some (.inr (.inr (j, (st.take k).reverse, pc + n, st.drop k)))
      | some ci => match (st.take k).reverse with
        | .ref a :: as => match h[a]? with
          | some (.inr (c, _)) => if c = ci then some (.inr (.inr (j, .ref a :: as, pc + n, st.drop k))) else none
          | _ => none
        | .retAddr (q + 1) :: as => if ci = 1000 ∧ q % 2 = 0 ∧ q / 2 < lit.length then some (.inr (.inr (j, .retAddr (q + 1) :: as, pc + n, st.drop k))) else none
        | _ => none) else none
  | (.athrow, _, e, _) => if xw st ≤ 8 then xend (.inr (e, h.length)) (h ++ [.inr (e, List.replicate 6 .null)]) else none
  | (.ireturn, _, t, _) => match st with
    | [.int x] => if xfit t (.int x) = true then xend (.inl (some (.int x))) h else none
    | _ => none
  | (.areturn, _, _, _) => match st with
    | [v] => if xref v = true then xend (.inl (some v)) h else none
    | _ => none
  | (.return_, _, _, _) => match st with
    | [] => xend (.inl none) h
    | _ => none
  | _ => none
end XSTEP
/-- a run: P the linked code; mx the locals of a method; hd where a method goes on when a call at that place throws an exception of that class (some none: no handler covers the place); d frames may be laid more -/
def xrun (stp : xI → Nat → xL → List Value → xH → Option xG) (P : Nat → Nat → Option xI) (mx : Nat → Nat) (hd : Nat → Nat → Nat → Option (Option Nat)) : Nat → Nat → Nat → Nat → xL → List Value → xH → Option (xO × xH)
  | 0, _, _, _, _, _, _ => none
  | n + 1, d, i, pc, ls, st, h => match P i pc with
    | none => none
    | some o => match stp o pc ls st h with
      | none => none
      | some (.inl (pc', ls', st', h')) => xrun stp P mx hd n d i pc' ls' st' h'
      | some (.inr (.inl r)) => some r
      | some (.inr (.inr (j, as, pc', st'))) => match d with
        | 0 => none
        | d + 1 => if (xent as (mx j)).length = mx j then (match xrun stp P mx hd n d j 0 (xent as (mx j)) [] h with
          | none => none
          | some (.inl v, h') => xrun stp P mx hd n (d + 1) i pc' ls (v.toList ++ st') h'
          | some (.inr (k, a), h') => match hd i pc k with
            | some (some q) => xrun stp P mx hd n (d + 1) i q ls [.ref a] h'
            | some none => some (.inr (k, a), h')
            | none => none) else none

/-! BOUNDS OF THE PLACES; cells that stand in rows. Printed by wip/whole/gen68.py -/
def gT (a q : Nat) : Int × Int := if a < 336 then (if a < 252 then (if a < 8 then (if a < 3 then (if a < 1 then ([((-2147483648), 2147483647), ((-2147483648), 2147483647), ((-2147483648), 2147483647), ((-2147483648), 2147483647), (0, 1), (0, 1), (0, 320), ((-2147483648), 2147483647)].getD q (-2147483648, 2147483647)) else (if a < 2 then ((0, 65535)) else ([((-2147483648), 2147483647), ((-1), 1), (0, 320), (0, 1), (0, 320)].getD q (-2147483648, 2147483647)))) else (if a < 6 then (if a < 4 then ([((-2147483648), 2147483647), ((-2147483648), 2147483647), ((-2147483648), 2147483647), ((-2147483648), 2147483647), (0, 321)].getD q (-2147483648, 2147483647)) else (((-2147483648), 2147483647))) else (if a < 7 then ((0, 320)) else (((-2147483648), 2147483647))))) else (if a < 219 then (if a < 169 then (if a < 9 then ([((-2147483648), 2147483647), ((-2147483648), 2147483647), ((-2147483648), 2147483647), ((-2147483648), 2147483647), ((-1), 1), (0, 2000), (0, 2001)].getD q (-2147483648, 2147483647)) else (((-2147483648), 2147483647))) else (if a < 170 then ([((-2147483648), 2147483647), ((-2147483648), 2147483647), ((-2147483648), 2147483647), ((-2147483648), 2147483647), ((-1), 1), (0, 30), (0, 200)].getD q (-2147483648, 2147483647)) else (((-2147483648), 2147483647)))) else (if a < 221 then (if a < 220 then ((0, 11)) else (((-2147483648), 2147483647))) else (if a < 251 then (((-1), 29)) else (((-2147483648), 2147483647)))))) else (if a < 276 then (if a < 259 then (if a < 257 then (if a < 256 then (((-1), 29)) else ([((-2147483648), 2147483647), ((-2147483648), 2147483647), ((-2147483648), 2147483647), ((-2147483648), 2147483647), ((-2147483648), 2147483647), ((-2147483648), 2147483647), ((-2147483648), 2147483647), ((-2147483648), 2147483647), ((-2147483648), 2147483647), (0, 6), (0, 10), (0, 8), (0, 12), (0, 8), (0, 12), (0, 48), (0, 40), ((-1), 9)].getD q (-2147483648, 2147483647))) else (if a < 258 then (((-2147483648), 2147483647)) else (((-1), 5)))) else (if a < 265 then (if a < 264 then (((-2147483648), 2147483647)) else ((0, 5))) else (if a < 266 then ((0, 39)) else ([((-2147483648), 2147483647), (0, 5), (0, 46), (0, 2), (0, 40), (0, 40)].getD q (-2147483648, 2147483647))))) else (if a < 319 then (if a < 317 then (if a < 316 then ([(0, 9), (0, 9), ((-1), 47), ((-1), 47), ((-2147483648), 2147483647), (0, 320), ((-1), 11), ((-1), 5), (0, 2), ((-1), 47), ((-1), 47), (0, 40), (0, 40)].getD q (-2147483648, 2147483647)) else ([((-2147483648), 2147483647), ((-2147483648), 2147483647), ((-2147483648), 2147483647), ((-2147483648), 2147483647), ((-2147483648), 2147483647), ((-2147483648), 2147483647), ((-2147483648), 2147483647), ((-2147483648), 2147483647), ((-2147483648), 2147483647), (0, 6), (0, 10), (0, 8), (0, 12), (0, 8), (0, 12), (0, 48), (0, 40), ((-1), 9)].getD q (-2147483648, 2147483647))) else (if a < 318 then (((-2147483648), 2147483647)) else (((-1), 5)))) else (if a < 325 then (if a < 324 then (((-2147483648), 2147483647)) else ((0, 5))) else (if a < 326 then ((0, 39)) else ([((-2147483648), 2147483647), (0, 5), (0, 46), (0, 2), (0, 40), (0, 40)].getD q (-2147483648, 2147483647))))))) else (if a < 391 then (if a < 383 then (if a < 378 then (if a < 376 then ([(0, 9), (0, 9), ((-1), 47), ((-1), 47), ((-2147483648), 2147483647), (0, 320), ((-1), 11), ((-1), 5), (0, 2), ((-1), 47), ((-1), 47), (0, 40), (0, 40)].getD q (-2147483648, 2147483647)) else (if a < 377 then ([((-2147483648), 2147483647), (0, 320), ((-2147483648), 2147483647), (0, 3), ((-2147483648), 2147483647), (0, 320), (0, 320), (0, 320), ((-1), 320), (0, 40), (0, 3), ((-2147483648), 2147483647), ((-2147483648), 2147483647), ((-2147483648), 2147483647), (0, 46), ((-2147483648), 2147483647), ((-2147483648), 2147483647), (0, 20), (0, 1), (0, 1), ((-2147483648), 2147483647), ((-2147483648), 2147483647), ((-2147483648), 2147483647), ((-2147483648), 2147483647), ((-2147483648), 2147483647), ((-2147483648), 2147483647), ((-2147483648), 2147483647), ((-2147483648), 2147483647), ((-2147483648), 2147483647), ((-2147483648), 2147483647), ((-2147483648), 2147483647), ((-2147483648), 2147483647), ((-2147483648), 2147483647), ((-2147483648), 2147483647), ((-2147483648), 2147483647), ((-2147483648), 2147483647), ((-2147483648), 2147483647), ((-2147483648), 2147483647), ((-2147483648), 2147483647), ((-2147483648), 2147483647), ((-2147483648), 2147483647), ((-2147483648), 2147483647), ((-2147483648), 2147483647), ((-2147483648), 2147483647), ((-2147483648), 2147483647), ((-2147483648), 2147483647), (0, 1), ((-2147483648), 2147483647), ((-2147483648), 2147483647), ((-2147483648), 2147483647), ((-2147483648), 2147483647), (0, 30), ((-2147483648), 2147483647), ((-2147483648), 2147483647), (0, 4), (0, 124), (0, 201), (0, 4)].getD q (-2147483648, 2147483647)) else ((0, 255)))) else (if a < 380 then (if a < 379 then ((0, 3)) else ((0, 124))) else (if a < 382 then (((-2147483648), 2147483647)) else ((0, 320))))) else (if a < 387 then (if a < 385 then (if a < 384 then ((0, 6)) else ((0, 10))) else (if a < 386 then ((0, 8)) else ((0, 12)))) else (if a < 389 then (if a < 388 then ((0, 8)) else ((0, 12))) else (if a < 390 then ((0, 48)) else ((0, 125)))))) else (if a < 400 then (if a < 396 then (if a < 393 then (if a < 392 then (((-2147483648), 2147483647)) else (((-1), 5))) else (if a < 394 then ((0, 1)) else (((-2147483648), 2147483647)))) else (if a < 398 then (if a < 397 then ((0, 5)) else ((0, 2))) else (if a < 399 then ((0, 46)) else ((0, 125))))) else (if a < 409 then (if a < 402 then (if a < 401 then (((-2147483648), 2147483647)) else (((-1), 47))) else (if a < 408 then (((-2147483648), 2147483647)) else ((0, 1)))) else (if a < 412 then (if a < 410 then ((0, 11)) else ((0, 30))) else (if a < 413 then ((0, 124)) else (((-2147483648), 2147483647)))))))
def gTyB (m : yM) : Bool := (List.range 414).all (fun a => (List.range 60).all (fun q => decide ((gT a q).1 ≤ m a q ∧ m a q ≤ (gT a q).2)))
theorem fa10 : ∀ {k : Nat}, k < 48 → yarr gSh 414 (10 + k) = some (0, 12) := by decide +kernel
theorem fz10 {q : Nat} : ∀ {k : Nat}, k < 48 → gT (10 + k) q = ((-2147483648), 2147483647) := by
  intro k hk
  have e : ∀ k, k < 48 → ∀ q, gT (10 + k) q = ((-2147483648), 2147483647) := by
    intro k hk q
    unfold gT
    repeat (first | rw [if_pos (by omega)] | rw [if_neg (by omega)])
  exact e k hk q
theorem fa59 : ∀ {k : Nat}, k < 12 → yarr gSh 414 (59 + k) = some (0, 10) := by decide +kernel
theorem fz59 {q : Nat} : ∀ {k : Nat}, k < 12 → gT (59 + k) q = ((-2147483648), 2147483647) := by
  intro k hk
  have e : ∀ k, k < 12 → ∀ q, gT (59 + k) q = ((-2147483648), 2147483647) := by
    intro k hk q
    unfold gT
    repeat (first | rw [if_pos (by omega)] | rw [if_neg (by omega)])
  exact e k hk q
theorem fa73 : ∀ {k : Nat}, k < 96 → yarr gSh 414 (73 + k) = some (0, 12) := by decide +kernel
theorem fz73 {q : Nat} : ∀ {k : Nat}, k < 96 → gT (73 + k) q = ((-2147483648), 2147483647) := by
  intro k hk
  have e : ∀ k, k < 96 → ∀ q, gT (73 + k) q = ((-2147483648), 2147483647) := by
    intro k hk q
    unfold gT
    repeat (first | rw [if_pos (by omega)] | rw [if_neg (by omega)])
  exact e k hk q
theorem fa171 : ∀ {k : Nat}, k < 48 → yarr gSh 414 (171 + k) = some (0, 12) := by decide +kernel
theorem fz171 {q : Nat} : ∀ {k : Nat}, k < 48 → gT (171 + k) q = ((-2147483648), 2147483647) := by
  intro k hk
  have e : ∀ k, k < 48 → ∀ q, gT (171 + k) q = ((-2147483648), 2147483647) := by
    intro k hk q
    unfold gT
    repeat (first | rw [if_pos (by omega)] | rw [if_neg (by omega)])
  exact e k hk q
theorem fa221 : ∀ {k : Nat}, k < 30 → yarr gSh 414 (221 + k) = some (0, 8) := by decide +kernel
theorem fz221 {q : Nat} : ∀ {k : Nat}, k < 30 → gT (221 + k) q = ((-1), 29) := by
  intro k hk
  have e : ∀ k, k < 30 → ∀ q, gT (221 + k) q = ((-1), 29) := by
    intro k hk q
    unfold gT
    repeat (first | rw [if_pos (by omega)] | rw [if_neg (by omega)])
  exact e k hk q
theorem fa252 : ∀ {k : Nat}, k < 4 → yarr gSh 414 (252 + k) = some (0, 48) := by decide +kernel
theorem fz252 {q : Nat} : ∀ {k : Nat}, k < 4 → gT (252 + k) q = ((-1), 29) := by
  intro k hk
  have e : ∀ k, k < 4 → ∀ q, gT (252 + k) q = ((-1), 29) := by
    intro k hk q
    unfold gT
    repeat (first | rw [if_pos (by omega)] | rw [if_neg (by omega)])
  exact e k hk q
theorem fo266 : ∀ {k : Nat}, k < 10 → yobj gSh 414 (266 + k) = some 4 := by decide +kernel
theorem ff266_0 : ∀ {k : Nat}, k < 10 → yfld gSh 414 (266 + k) 0 4 = some (.inl 0) := by decide +kernel
theorem ft266_0 : ∀ {k : Nat}, k < 10 → gT (266 + k) 0 = ((-2147483648), 2147483647) := by decide +kernel
theorem ff266_1 : ∀ {k : Nat}, k < 10 → yfld gSh 414 (266 + k) 1 4 = some (.inl 0) := by decide +kernel
theorem ft266_1 : ∀ {k : Nat}, k < 10 → gT (266 + k) 1 = (0, 5) := by decide +kernel
theorem ff266_2 : ∀ {k : Nat}, k < 10 → yfld gSh 414 (266 + k) 2 4 = some (.inl 0) := by decide +kernel
theorem ft266_2 : ∀ {k : Nat}, k < 10 → gT (266 + k) 2 = (0, 46) := by decide +kernel
theorem ff266_3 : ∀ {k : Nat}, k < 10 → yfld gSh 414 (266 + k) 3 4 = some (.inl 0) := by decide +kernel
theorem ft266_3 : ∀ {k : Nat}, k < 10 → gT (266 + k) 3 = (0, 2) := by decide +kernel
theorem ff266_4 : ∀ {k : Nat}, k < 10 → yfld gSh 414 (266 + k) 4 4 = some (.inl 0) := by decide +kernel
theorem ft266_4 : ∀ {k : Nat}, k < 10 → gT (266 + k) 4 = (0, 40) := by decide +kernel
theorem ff266_5 : ∀ {k : Nat}, k < 10 → yfld gSh 414 (266 + k) 5 4 = some (.inl 0) := by decide +kernel
theorem ft266_5 : ∀ {k : Nat}, k < 10 → gT (266 + k) 5 = (0, 40) := by decide +kernel
theorem fo276 : ∀ {k : Nat}, k < 40 → yobj gSh 414 (276 + k) = some 5 := by decide +kernel
theorem ff276_0 : ∀ {k : Nat}, k < 40 → yfld gSh 414 (276 + k) 0 5 = some (.inl 0) := by decide +kernel
theorem ft276_0 : ∀ {k : Nat}, k < 40 → gT (276 + k) 0 = (0, 9) := by decide +kernel
theorem ff276_1 : ∀ {k : Nat}, k < 40 → yfld gSh 414 (276 + k) 1 5 = some (.inl 0) := by decide +kernel
theorem ft276_1 : ∀ {k : Nat}, k < 40 → gT (276 + k) 1 = (0, 9) := by decide +kernel
theorem ff276_2 : ∀ {k : Nat}, k < 40 → yfld gSh 414 (276 + k) 2 5 = some (.inl 0) := by decide +kernel
theorem ft276_2 : ∀ {k : Nat}, k < 40 → gT (276 + k) 2 = ((-1), 47) := by decide +kernel
theorem ff276_3 : ∀ {k : Nat}, k < 40 → yfld gSh 414 (276 + k) 3 5 = some (.inl 0) := by decide +kernel
theorem ft276_3 : ∀ {k : Nat}, k < 40 → gT (276 + k) 3 = ((-1), 47) := by decide +kernel
theorem ff276_4 : ∀ {k : Nat}, k < 40 → yfld gSh 414 (276 + k) 4 5 = some (.inl 0) := by decide +kernel
theorem ft276_4 : ∀ {k : Nat}, k < 40 → gT (276 + k) 4 = ((-2147483648), 2147483647) := by decide +kernel
theorem ff276_5 : ∀ {k : Nat}, k < 40 → yfld gSh 414 (276 + k) 5 5 = some (.inl 0) := by decide +kernel
theorem ft276_5 : ∀ {k : Nat}, k < 40 → gT (276 + k) 5 = (0, 320) := by decide +kernel
theorem ff276_6 : ∀ {k : Nat}, k < 40 → yfld gSh 414 (276 + k) 6 5 = some (.inl 0) := by decide +kernel
theorem ft276_6 : ∀ {k : Nat}, k < 40 → gT (276 + k) 6 = ((-1), 11) := by decide +kernel
theorem ff276_7 : ∀ {k : Nat}, k < 40 → yfld gSh 414 (276 + k) 7 5 = some (.inl 0) := by decide +kernel
theorem ft276_7 : ∀ {k : Nat}, k < 40 → gT (276 + k) 7 = ((-1), 5) := by decide +kernel
theorem ff276_8 : ∀ {k : Nat}, k < 40 → yfld gSh 414 (276 + k) 8 5 = some (.inl 0) := by decide +kernel
theorem ft276_8 : ∀ {k : Nat}, k < 40 → gT (276 + k) 8 = (0, 2) := by decide +kernel
theorem ff276_9 : ∀ {k : Nat}, k < 40 → yfld gSh 414 (276 + k) 9 5 = some (.inl 0) := by decide +kernel
theorem ft276_9 : ∀ {k : Nat}, k < 40 → gT (276 + k) 9 = ((-1), 47) := by decide +kernel
theorem ff276_10 : ∀ {k : Nat}, k < 40 → yfld gSh 414 (276 + k) 10 5 = some (.inl 0) := by decide +kernel
theorem ft276_10 : ∀ {k : Nat}, k < 40 → gT (276 + k) 10 = ((-1), 47) := by decide +kernel
theorem ff276_11 : ∀ {k : Nat}, k < 40 → yfld gSh 414 (276 + k) 11 5 = some (.inl 0) := by decide +kernel
theorem ft276_11 : ∀ {k : Nat}, k < 40 → gT (276 + k) 11 = (0, 40) := by decide +kernel
theorem ff276_12 : ∀ {k : Nat}, k < 40 → yfld gSh 414 (276 + k) 12 5 = some (.inl 0) := by decide +kernel
theorem ft276_12 : ∀ {k : Nat}, k < 40 → gT (276 + k) 12 = (0, 40) := by decide +kernel
theorem fo326 : ∀ {k : Nat}, k < 10 → yobj gSh 414 (326 + k) = some 4 := by decide +kernel
theorem ff326_0 : ∀ {k : Nat}, k < 10 → yfld gSh 414 (326 + k) 0 4 = some (.inl 0) := by decide +kernel
theorem ft326_0 : ∀ {k : Nat}, k < 10 → gT (326 + k) 0 = ((-2147483648), 2147483647) := by decide +kernel
theorem ff326_1 : ∀ {k : Nat}, k < 10 → yfld gSh 414 (326 + k) 1 4 = some (.inl 0) := by decide +kernel
theorem ft326_1 : ∀ {k : Nat}, k < 10 → gT (326 + k) 1 = (0, 5) := by decide +kernel
theorem ff326_2 : ∀ {k : Nat}, k < 10 → yfld gSh 414 (326 + k) 2 4 = some (.inl 0) := by decide +kernel
theorem ft326_2 : ∀ {k : Nat}, k < 10 → gT (326 + k) 2 = (0, 46) := by decide +kernel
theorem ff326_3 : ∀ {k : Nat}, k < 10 → yfld gSh 414 (326 + k) 3 4 = some (.inl 0) := by decide +kernel
theorem ft326_3 : ∀ {k : Nat}, k < 10 → gT (326 + k) 3 = (0, 2) := by decide +kernel
theorem ff326_4 : ∀ {k : Nat}, k < 10 → yfld gSh 414 (326 + k) 4 4 = some (.inl 0) := by decide +kernel
theorem ft326_4 : ∀ {k : Nat}, k < 10 → gT (326 + k) 4 = (0, 40) := by decide +kernel
theorem ff326_5 : ∀ {k : Nat}, k < 10 → yfld gSh 414 (326 + k) 5 4 = some (.inl 0) := by decide +kernel
theorem ft326_5 : ∀ {k : Nat}, k < 10 → gT (326 + k) 5 = (0, 40) := by decide +kernel
theorem fo336 : ∀ {k : Nat}, k < 40 → yobj gSh 414 (336 + k) = some 5 := by decide +kernel
theorem ff336_0 : ∀ {k : Nat}, k < 40 → yfld gSh 414 (336 + k) 0 5 = some (.inl 0) := by decide +kernel
theorem ft336_0 : ∀ {k : Nat}, k < 40 → gT (336 + k) 0 = (0, 9) := by decide +kernel
theorem ff336_1 : ∀ {k : Nat}, k < 40 → yfld gSh 414 (336 + k) 1 5 = some (.inl 0) := by decide +kernel
theorem ft336_1 : ∀ {k : Nat}, k < 40 → gT (336 + k) 1 = (0, 9) := by decide +kernel
theorem ff336_2 : ∀ {k : Nat}, k < 40 → yfld gSh 414 (336 + k) 2 5 = some (.inl 0) := by decide +kernel
theorem ft336_2 : ∀ {k : Nat}, k < 40 → gT (336 + k) 2 = ((-1), 47) := by decide +kernel
theorem ff336_3 : ∀ {k : Nat}, k < 40 → yfld gSh 414 (336 + k) 3 5 = some (.inl 0) := by decide +kernel
theorem ft336_3 : ∀ {k : Nat}, k < 40 → gT (336 + k) 3 = ((-1), 47) := by decide +kernel
theorem ff336_4 : ∀ {k : Nat}, k < 40 → yfld gSh 414 (336 + k) 4 5 = some (.inl 0) := by decide +kernel
theorem ft336_4 : ∀ {k : Nat}, k < 40 → gT (336 + k) 4 = ((-2147483648), 2147483647) := by decide +kernel
theorem ff336_5 : ∀ {k : Nat}, k < 40 → yfld gSh 414 (336 + k) 5 5 = some (.inl 0) := by decide +kernel
theorem ft336_5 : ∀ {k : Nat}, k < 40 → gT (336 + k) 5 = (0, 320) := by decide +kernel
theorem ff336_6 : ∀ {k : Nat}, k < 40 → yfld gSh 414 (336 + k) 6 5 = some (.inl 0) := by decide +kernel
theorem ft336_6 : ∀ {k : Nat}, k < 40 → gT (336 + k) 6 = ((-1), 11) := by decide +kernel
theorem ff336_7 : ∀ {k : Nat}, k < 40 → yfld gSh 414 (336 + k) 7 5 = some (.inl 0) := by decide +kernel
theorem ft336_7 : ∀ {k : Nat}, k < 40 → gT (336 + k) 7 = ((-1), 5) := by decide +kernel
theorem ff336_8 : ∀ {k : Nat}, k < 40 → yfld gSh 414 (336 + k) 8 5 = some (.inl 0) := by decide +kernel
theorem ft336_8 : ∀ {k : Nat}, k < 40 → gT (336 + k) 8 = (0, 2) := by decide +kernel
theorem ff336_9 : ∀ {k : Nat}, k < 40 → yfld gSh 414 (336 + k) 9 5 = some (.inl 0) := by decide +kernel
theorem ft336_9 : ∀ {k : Nat}, k < 40 → gT (336 + k) 9 = ((-1), 47) := by decide +kernel
theorem ff336_10 : ∀ {k : Nat}, k < 40 → yfld gSh 414 (336 + k) 10 5 = some (.inl 0) := by decide +kernel
theorem ft336_10 : ∀ {k : Nat}, k < 40 → gT (336 + k) 10 = ((-1), 47) := by decide +kernel
theorem ff336_11 : ∀ {k : Nat}, k < 40 → yfld gSh 414 (336 + k) 11 5 = some (.inl 0) := by decide +kernel
theorem ft336_11 : ∀ {k : Nat}, k < 40 → gT (336 + k) 11 = (0, 40) := by decide +kernel
theorem ff336_12 : ∀ {k : Nat}, k < 40 → yfld gSh 414 (336 + k) 12 5 = some (.inl 0) := by decide +kernel
theorem ft336_12 : ∀ {k : Nat}, k < 40 → gT (336 + k) 12 = (0, 40) := by decide +kernel

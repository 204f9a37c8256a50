section
/-! THE CELLS OF THE PROGRAM: printed by wip/whole/gen70.py -/
def gSh (a : Nat) : ySh := if a < 317 then (if a < 219 then (if a < 10 then (if a < 4 then (if a < 2 then (if a < 1 then (.inr (.inr (.inr (7, [.inr (.inl 1), .inr (.inl 2), .inr (.inl 8), .inr (.inl 169), .inr (.inr [256, 316]), .inr (.inr [256, 316]), .inl 0, .inl 0])))) else (.inl (3, 320))) else (if a < 3 then (.inr (.inr (.inr (1, [.inr (.inl 3), .inr (.inr [256, 316]), .inl 0, .inl 1, .inl 0])))) else (.inr (.inr (.inr (0, [.inr (.inl 4), .inr (.inl 5), .inr (.inl 6), .inr (.inl 7), .inl 0])))))) else (if a < 8 then (if a < 5 then (.inl (0, 11)) else (.inl (0, 321))) else (if a < 9 then (.inr (.inr (.inr (2, [.inr (.inl 9), .inr (.inl 58), .inr (.inl 71), .inr (.inl 72), .inr (.inr [256, 316]), .inl 0, .inl 0])))) else (.inr (.inr (.inl (6, 48, 10))))))) else (if a < 73 then (if a < 59 then (if a < 58 then (.inl (0, 12)) else (.inr (.inr (.inl (6, 12, 59))))) else (if a < 72 then (.inl (0, 10)) else (.inr (.inr (.inl (6, 96, 73)))))) else (if a < 170 then (if a < 169 then (.inl (0, 12)) else (.inr (.inr (.inr (3, [.inr (.inl 170), .inr (.inl 219), .inr (.inl 220), .inr (.inl 251), .inr (.inr [256, 316]), .inl 0, .inl 0]))))) else (if a < 171 then (.inr (.inr (.inl (6, 48, 171)))) else (.inl (0, 12)))))) else (if a < 261 then (if a < 252 then (if a < 221 then (if a < 220 then (.inl (0, 30)) else (.inr (.inr (.inl (6, 30, 221))))) else (if a < 251 then (.inl (0, 8)) else (.inr (.inr (.inl (6, 4, 252)))))) else (if a < 257 then (if a < 256 then (.inl (0, 48)) else (.inr (.inr (.inr (6, [.inr (.inl 257), .inr (.inl 258), .inr (.inl 259), .inr (.inl 260), .inr (.inl 261), .inr (.inl 262), .inr (.inl 263), .inr (.inl 264), .inr (.inl 265), .inl 0, .inl 0, .inl 0, .inl 0, .inl 0, .inl 0, .inl 0, .inl 0, .inl 0]))))) else (if a < 260 then (.inl (0, 6)) else (.inl (0, 8))))) else (if a < 265 then (if a < 263 then (if a < 262 then (.inl (0, 48)) else (.inr (.inr (.inl (7, 10, 266))))) else (if a < 264 then (.inr (.inr (.inl (8, 40, 276)))) else (.inl (0, 12)))) else (if a < 276 then (if a < 266 then (.inl (0, 8)) else (.inr (.inr (.inr (4, [.inl 0, .inl 0, .inl 0, .inl 0, .inl 0, .inl 0]))))) else (if a < 316 then (.inr (.inr (.inr (5, [.inl 0, .inl 0, .inl 0, .inl 0, .inl 0, .inl 0, .inl 0, .inl 0, .inl 0, .inl 0, .inl 0, .inl 0, .inl 0])))) else (.inr (.inr (.inr (6, [.inr (.inl 317), .inr (.inl 318), .inr (.inl 319), .inr (.inl 320), .inr (.inl 321), .inr (.inl 322), .inr (.inl 323), .inr (.inl 324), .inr (.inl 325), .inl 0, .inl 0, .inl 0, .inl 0, .inl 0, .inl 0, .inl 0, .inl 0, .inl 0]))))))))) else (if a < 393 then (if a < 336 then (if a < 323 then (if a < 321 then (if a < 320 then (.inl (0, 6)) else (.inl (0, 8))) else (if a < 322 then (.inl (0, 48)) else (.inr (.inr (.inl (7, 10, 326)))))) else (if a < 325 then (if a < 324 then (.inr (.inr (.inl (8, 40, 336)))) else (.inl (0, 12))) else (if a < 326 then (.inl (0, 8)) else (.inr (.inr (.inr (4, [.inl 0, .inl 0, .inl 0, .inl 0, .inl 0, .inl 0]))))))) else (if a < 380 then (if a < 377 then (if a < 376 then (.inr (.inr (.inr (5, [.inl 0, .inl 0, .inl 0, .inl 0, .inl 0, .inl 0, .inl 0, .inl 0, .inl 0, .inl 0, .inl 0, .inl 0, .inl 0])))) else (.inr (.inr (.inr (8, [.inr (.inl 377), .inl 0, .inl 0, .inl 0, .inl 0, .inl 0, .inl 0, .inl 0, .inl 0, .inl 0, .inl 0, .inr (.inl 378), .inr (.inl 379), .inr (.inl 380), .inl 0, .inr (.inl 381), .inr (.inl 382), .inl 0, .inl 0, .inl 1, .inr (.inl 383), .inr (.inl 384), .inr (.inl 385), .inr (.inl 386), .inr (.inl 387), .inr (.inl 388), .inr (.inl 389), .inr (.inl 390), .inr (.inl 391), .inr (.inl 392), .inr (.inl 393), .inr (.inl 394), .inr (.inl 395), .inr (.inl 396), .inr (.inl 397), .inr (.inl 398), .inr (.inl 399), .inr (.inl 400), .inr (.inl 401), .inr (.inl 402), .inr (.inl 403), .inr (.inl 404), .inr (.inl 405), .inr (.inl 406), .inr (.inl 407), .inl 0, .inl 1, .inl 0, .inr (.inl 408), .inr (.inl 409), .inr (.inl 410), .inl 0, .inr (.inl 411), .inr (.inl 412), .inl 0, .inl 0, .inl 0, .inl 0]))))) else (if a < 378 then (.inl (0, 320)) else (.inl (0, 4)))) else (if a < 383 then (if a < 381 then (.inl (0, 48)) else (.inl (0, 20))) else (if a < 391 then (.inl (0, 2)) else (.inl (0, 12)))))) else (if a < 406 then (if a < 401 then (if a < 395 then (if a < 394 then (.inl (1, 96)) else (.inl (0, 16))) else (if a < 400 then (.inl (0, 20)) else (.inl (0, 24)))) else (if a < 404 then (if a < 403 then (.inl (0, 16)) else (.inl (0, 2000))) else (if a < 405 then (.inl (0, 576)) else (.inl (0, 1152))))) else (if a < 410 then (if a < 408 then (if a < 407 then (.inl (0, 120)) else (.inl (0, 10))) else (if a < 409 then (.inl (1, 576)) else (.inl (0, 30)))) else (if a < 412 then (if a < 411 then (.inl (0, 240)) else (.inl (0, 192))) else (if a < 413 then (.inl (0, 4)) else (.inr (.inl 1)))))))
/-- the memory behind the constructors -/
def gMem : yM := fun a k => if a = 0 then (if k = 5 then 1 else if k = 7 then -1 else 0) else (if a = 2 then (if k = 1 then -1 else 0) else (if a = 4 then ([-1, 3540595, 6591876, 4262, 14519, 480652, 294, 176741, 24388997, 609900110, 663859].getD k 0) else (if a = 8 then (if k = 4 then -1 else 0) else (if a = 169 then (if k = 4 then -1 else 0) else (if a = 256 then (if k = 17 then -1 else 0) else (if a = 316 then (if k = 17 then -1 else 0) else (if a = 376 then (if k = 2 then -1 else 0) else (0))))))))
def gZ (L : Nat) (xs : Nat → Int32) : yZ := ((gNf, L, xs, gLit, gMc), gP, gMx, gHd, gSh, 414, 11627)
def gPre : Option xH := match xrun (xstepN gNf gLit gMc) gP gMx gHd 4000 59 16 0 (xent [.ref 0] (gMx 16)) [] [.inr (7, gNf 7)] with
  | some (.inl none, h1) => if h1.length = 376 then (match xrun (xstepN gNf gLit gMc) gP gMx gHd 4000 59 17 0 (xent [.ref 376] (gMx 17)) [] (h1 ++ [.inr (8, gNf 8)]) with
    | some (.inl none, h2) => if h2.length = 413 then some (h2 ++ [.inl (5, 1, .inr (.inl (fun _ => 0)))]) else none
    | _ => none) else none
  | _ => none
def gPreB : Bool := match gPre with
  | some h => h.length == 414 && (yLayB gSh gMem 0 h && decide (xsz h ≤ 14111))
  | none => false
set_option maxRecDepth 1000000 in
theorem gPreB_ok : gPreB = true := by decide +kernel
end
section
/-! ROWS OF THE CODE, places of the cells: printed by wip/whole/gen71.py; the kernel looks each up -/
theorem c18_0 : gP 18 0 = some (.lload 0, 1, 0, 0) := by decide +kernel
theorem c18_1 : gP 18 1 = some (.iconst 8, 2, 0, 0) := by decide +kernel
theorem c18_3 : gP 18 3 = some (.iload 2, 1, 0, 0) := by decide +kernel
theorem c18_4 : gP 18 4 = some (.imul, 1, 0, 0) := by decide +kernel
theorem c18_5 : gP 18 5 = some (.lushr, 1, 0, 0) := by decide +kernel
theorem c18_6 : gP 18 6 = some (.l2i, 1, 0, 0) := by decide +kernel
theorem c18_7 : gP 18 7 = some (.iconst 255, 3, 0, 0) := by decide +kernel
theorem c18_10 : gP 18 10 = some (.iand, 1, 0, 0) := by decide +kernel
theorem c18_11 : gP 18 11 = some (.ireturn, 1, 0, 0) := by decide +kernel
theorem c19_0 : gP 19 0 = some (.iconst 0, 1, 0, 0) := by decide +kernel
theorem c19_1 : gP 19 1 = some (.istore 3, 1, 0, 0) := by decide +kernel
theorem c19_2 : gP 19 2 = some (.iload 3, 1, 0, 0) := by decide +kernel
theorem c19_3 : gP 19 3 = some (.iload 2, 1, 0, 0) := by decide +kernel
theorem c19_4 : gP 19 4 = some (.if_icmp .ge 36, 3, 0, 0) := by decide +kernel
theorem c19_7 : gP 19 7 = some (.lload 0, 1, 0, 0) := by decide +kernel
theorem c19_8 : gP 19 8 = some (.iload 3, 1, 0, 0) := by decide +kernel
theorem c19_9 : gP 19 9 = some (.invokeinterface 18 61, 3, 2, 0) := by decide +kernel
theorem c19_12 : gP 19 12 = some (.istore 4, 2, 0, 0) := by decide +kernel
theorem c19_14 : gP 19 14 = some (.iload 4, 2, 0, 0) := by decide +kernel
theorem c19_16 : gP 19 16 = some (.iconst 32, 2, 0, 0) := by decide +kernel
theorem c19_18 : gP 19 18 = some (.if_icmp .lt 28, 3, 0, 0) := by decide +kernel
theorem c19_21 : gP 19 21 = some (.iload 4, 2, 0, 0) := by decide +kernel
theorem c19_23 : gP 19 23 = some (.iconst 126, 2, 0, 0) := by decide +kernel
theorem c19_25 : gP 19 25 = some (.if_icmp .le 30, 3, 0, 0) := by decide +kernel
theorem c19_28 : gP 19 28 = some (.iconst 0, 1, 0, 0) := by decide +kernel
theorem c19_29 : gP 19 29 = some (.ireturn, 1, 1, 0) := by decide +kernel
theorem c19_30 : gP 19 30 = some (.iinc 3 1, 3, 0, 0) := by decide +kernel
theorem c19_33 : gP 19 33 = some (.goto 2, 3, 0, 0) := by decide +kernel
theorem c19_36 : gP 19 36 = some (.iconst 1, 1, 0, 0) := by decide +kernel
theorem c19_37 : gP 19 37 = some (.ireturn, 1, 1, 0) := by decide +kernel
theorem c20_0 : gP 20 0 = some (.iload 3, 1, 0, 0) := by decide +kernel
theorem c20_1 : gP 20 1 = some (.iconst 1, 1, 0, 0) := by decide +kernel
theorem c20_2 : gP 20 2 = some (.if_icmp .lt 19, 3, 0, 0) := by decide +kernel
theorem c20_5 : gP 20 5 = some (.iload 3, 1, 0, 0) := by decide +kernel
theorem c20_6 : gP 20 6 = some (.iconst 8, 2, 0, 0) := by decide +kernel
theorem c20_8 : gP 20 8 = some (.if_icmp .gt 19, 3, 0, 0) := by decide +kernel
theorem c20_11 : gP 20 11 = some (.lload 1, 1, 0, 0) := by decide +kernel
theorem c20_12 : gP 20 12 = some (.iload 3, 1, 0, 0) := by decide +kernel
theorem c20_13 : gP 20 13 = some (.invokeinterface 19 48, 3, 2, 0) := by decide +kernel
theorem c20_16 : gP 20 16 = some (.ifCond .ne 27, 3, 0, 0) := by decide +kernel
theorem c20_19 : gP 20 19 = some (.athrow, 54, 9, 52) := by decide +kernel
theorem c20_27 : gP 20 27 = some (.aload 0, 1, 0, 0) := by decide +kernel
theorem c20_28 : gP 20 28 = some (.getfield 6, 3, 7, 55) := by decide +kernel
theorem c20_31 : gP 20 31 = some (.iload 3, 1, 0, 0) := by decide +kernel
theorem c20_32 : gP 20 32 = some (.iadd, 1, 0, 0) := by decide +kernel
theorem c20_33 : gP 20 33 = some (.iconst 320, 3, 0, 0) := by decide +kernel
theorem c20_36 : gP 20 36 = some (.if_icmp .le 47, 3, 0, 0) := by decide +kernel
theorem c20_39 : gP 20 39 = some (.athrow, 60, 10, 58) := by decide +kernel
theorem c20_47 : gP 20 47 = some (.iconst 1, 1, 0, 0) := by decide +kernel
theorem c20_48 : gP 20 48 = some (.istore 4, 2, 0, 0) := by decide +kernel
theorem c20_50 : gP 20 50 = some (.iload 4, 2, 0, 0) := by decide +kernel
theorem c20_52 : gP 20 52 = some (.iload 3, 1, 0, 0) := by decide +kernel
theorem c20_53 : gP 20 53 = some (.if_icmp .gt 90, 3, 0, 0) := by decide +kernel
theorem c20_56 : gP 20 56 = some (.aload 0, 1, 0, 0) := by decide +kernel
theorem c20_57 : gP 20 57 = some (.getfield 0, 3, 7, 9) := by decide +kernel
theorem c20_60 : gP 20 60 = some (.aload 0, 1, 0, 0) := by decide +kernel
theorem c20_61 : gP 20 61 = some (.getfield 6, 3, 7, 55) := by decide +kernel
theorem c20_64 : gP 20 64 = some (.lload 1, 1, 0, 0) := by decide +kernel
theorem c20_65 : gP 20 65 = some (.iload 3, 1, 0, 0) := by decide +kernel
theorem c20_66 : gP 20 66 = some (.iload 4, 2, 0, 0) := by decide +kernel
theorem c20_68 : gP 20 68 = some (.isub, 1, 0, 0) := by decide +kernel
theorem c20_69 : gP 20 69 = some (.invokeinterface 18 61, 3, 2, 0) := by decide +kernel
theorem c20_72 : gP 20 72 = some (.i2c, 1, 0, 0) := by decide +kernel
theorem c20_73 : gP 20 73 = some (.iastore, 1, 3, 0) := by decide +kernel
theorem c20_74 : gP 20 74 = some (.aload 0, 1, 0, 0) := by decide +kernel
theorem c20_75 : gP 20 75 = some (.dup, 1, 0, 0) := by decide +kernel
theorem c20_76 : gP 20 76 = some (.getfield 6, 3, 7, 55) := by decide +kernel
theorem c20_79 : gP 20 79 = some (.iconst 1, 1, 0, 0) := by decide +kernel
theorem c20_80 : gP 20 80 = some (.iadd, 1, 0, 0) := by decide +kernel
theorem c20_81 : gP 20 81 = some (.putfield 6, 3, 7, 0) := by decide +kernel
theorem c20_84 : gP 20 84 = some (.iinc 4 1, 3, 0, 0) := by decide +kernel
theorem c20_87 : gP 20 87 = some (.goto 50, 3, 0, 0) := by decide +kernel
theorem c20_90 : gP 20 90 = some (.aload 0, 1, 0, 0) := by decide +kernel
theorem c20_91 : gP 20 91 = some (.getfield 6, 3, 7, 55) := by decide +kernel
theorem c20_94 : gP 20 94 = some (.ireturn, 1, 0, 0) := by decide +kernel
theorem c21_0 : gP 21 0 = some (.aload 4, 2, 0, 0) := by decide +kernel
theorem c21_2 : gP 21 2 = some (.iconst 0, 1, 0, 0) := by decide +kernel
theorem c21_3 : gP 21 3 = some (.aload 0, 1, 0, 0) := by decide +kernel
theorem c21_4 : gP 21 4 = some (.lload 1, 1, 0, 0) := by decide +kernel
theorem c21_5 : gP 21 5 = some (.iload 3, 1, 0, 0) := by decide +kernel
theorem c21_6 : gP 21 6 = some (.invokeinterface 20 7, 3, 3, 1) := by decide +kernel
theorem c21_9 : gP 21 9 = some (.i2l, 1, 0, 0) := by decide +kernel
theorem c21_10 : gP 21 10 = some (.lastore, 1, 0, 0) := by decide +kernel
theorem c21_11 : gP 21 11 = some (.goto 22, 3, 0, 0) := by decide +kernel
theorem c21_14 : gP 21 14 = some (.astore 5, 2, 0, 0) := by decide +kernel
theorem c21_16 : gP 21 16 = some (.iconst 1, 1, 0, 0) := by decide +kernel
theorem c21_17 : gP 21 17 = some (.ireturn, 1, 0, 0) := by decide +kernel
theorem c21_18 : gP 21 18 = some (.astore 5, 2, 0, 0) := by decide +kernel
theorem c21_20 : gP 21 20 = some (.iconst 2, 1, 0, 0) := by decide +kernel
theorem c21_21 : gP 21 21 = some (.ireturn, 1, 0, 0) := by decide +kernel
theorem c21_22 : gP 21 22 = some (.iconst 0, 1, 0, 0) := by decide +kernel
theorem c21_23 : gP 21 23 = some (.ireturn, 1, 0, 0) := by decide +kernel
theorem c22_0 : gP 22 0 = some (.iload 0, 1, 0, 0) := by decide +kernel
theorem c22_1 : gP 22 1 = some (.iload 1, 1, 0, 0) := by decide +kernel
theorem c22_2 : gP 22 2 = some (.if_icmp .lt 14, 3, 0, 0) := by decide +kernel
theorem c22_5 : gP 22 5 = some (.iload 0, 1, 0, 0) := by decide +kernel
theorem c22_6 : gP 22 6 = some (.iload 2, 1, 0, 0) := by decide +kernel
theorem c22_7 : gP 22 7 = some (.if_icmp .gt 14, 3, 0, 0) := by decide +kernel
theorem c22_10 : gP 22 10 = some (.iconst 1, 1, 0, 0) := by decide +kernel
theorem c22_11 : gP 22 11 = some (.goto 15, 3, 0, 0) := by decide +kernel
theorem c22_14 : gP 22 14 = some (.iconst 0, 1, 0, 0) := by decide +kernel
theorem c22_15 : gP 22 15 = some (.ireturn, 1, 1, 0) := by decide +kernel
theorem c23_0 : gP 23 0 = some (.aload 0, 1, 0, 0) := by decide +kernel
theorem c23_1 : gP 23 1 = some (.iload 1, 1, 0, 0) := by decide +kernel
theorem c23_2 : gP 23 2 = some (.ifCond .eq 9, 3, 0, 0) := by decide +kernel
theorem c23_5 : gP 23 5 = some (.iconst 0, 1, 0, 0) := by decide +kernel
theorem c23_6 : gP 23 6 = some (.goto 10, 3, 0, 0) := by decide +kernel
theorem c23_9 : gP 23 9 = some (.iload 2, 1, 0, 0) := by decide +kernel
theorem c23_10 : gP 23 10 = some (.putfield 57, 3, 8, 0) := by decide +kernel
theorem c23_13 : gP 23 13 = some (.iload 1, 1, 0, 0) := by decide +kernel
theorem c23_14 : gP 23 14 = some (.ireturn, 1, 1, 0) := by decide +kernel
theorem c24_0 : gP 24 0 = some (.aload 0, 1, 0, 0) := by decide +kernel
theorem c24_1 : gP 24 1 = some (.iload 1, 1, 0, 0) := by decide +kernel
theorem c24_2 : gP 24 2 = some (.putfield 57, 3, 8, 0) := by decide +kernel
theorem c24_5 : gP 24 5 = some (.iconst 0, 1, 0, 0) := by decide +kernel
theorem c24_6 : gP 24 6 = some (.ireturn, 1, 0, 0) := by decide +kernel
theorem c25_0 : gP 25 0 = some (.aload 0, 1, 0, 0) := by decide +kernel
theorem c25_1 : gP 25 1 = some (.iload 3, 1, 0, 0) := by decide +kernel
theorem c25_2 : gP 25 2 = some (.iconst 1, 1, 0, 0) := by decide +kernel
theorem c25_3 : gP 25 3 = some (.iconst 8, 2, 0, 0) := by decide +kernel
theorem c25_5 : gP 25 5 = some (.invokeinterface 22 126, 3, 3, 0) := by decide +kernel
theorem c25_8 : gP 25 8 = some (.iconst 1, 1, 0, 0) := by decide +kernel
theorem c25_9 : gP 25 9 = some (.invokeinterface 23 130, 3, 3, 1) := by decide +kernel
theorem c25_12 : gP 25 12 = some (.ifCond .ne 17, 3, 0, 0) := by decide +kernel
theorem c25_15 : gP 25 15 = some (.iconst 0, 1, 0, 0) := by decide +kernel
theorem c25_16 : gP 25 16 = some (.ireturn, 1, 0, 0) := by decide +kernel
theorem c25_17 : gP 25 17 = some (.iconst 0, 1, 0, 0) := by decide +kernel
theorem c25_18 : gP 25 18 = some (.istore 4, 2, 0, 0) := by decide +kernel
theorem c25_20 : gP 25 20 = some (.iload 4, 2, 0, 0) := by decide +kernel
theorem c25_22 : gP 25 22 = some (.iload 3, 1, 0, 0) := by decide +kernel
theorem c25_23 : gP 25 23 = some (.if_icmp .ge 60, 3, 0, 0) := by decide +kernel
theorem c25_26 : gP 25 26 = some (.lload 1, 1, 0, 0) := by decide +kernel
theorem c25_27 : gP 25 27 = some (.iconst 8, 2, 0, 0) := by decide +kernel
theorem c25_29 : gP 25 29 = some (.iload 4, 2, 0, 0) := by decide +kernel
theorem c25_31 : gP 25 31 = some (.imul, 1, 0, 0) := by decide +kernel
theorem c25_32 : gP 25 32 = some (.lshr, 1, 0, 0) := by decide +kernel
theorem c25_33 : gP 25 33 = some (.l2i, 1, 0, 0) := by decide +kernel
theorem c25_34 : gP 25 34 = some (.iconst 255, 3, 0, 0) := by decide +kernel
theorem c25_37 : gP 25 37 = some (.iand, 1, 0, 0) := by decide +kernel
theorem c25_38 : gP 25 38 = some (.iconst 32, 2, 0, 0) := by decide +kernel
theorem c25_40 : gP 25 40 = some (.iconst 126, 2, 0, 0) := by decide +kernel
theorem c25_42 : gP 25 42 = some (.invokeinterface 22 126, 3, 3, 0) := by decide +kernel
theorem c25_45 : gP 25 45 = some (.ifCond .ne 54, 3, 0, 0) := by decide +kernel
theorem c25_48 : gP 25 48 = some (.aload 0, 1, 0, 0) := by decide +kernel
theorem c25_49 : gP 25 49 = some (.iconst 1, 1, 0, 0) := by decide +kernel
theorem c25_50 : gP 25 50 = some (.invokeinterface 24 134, 3, 2, 1) := by decide +kernel
theorem c25_53 : gP 25 53 = some (.ireturn, 1, 0, 0) := by decide +kernel
theorem c25_54 : gP 25 54 = some (.iinc 4 1, 3, 0, 0) := by decide +kernel
theorem c25_57 : gP 25 57 = some (.goto 20, 3, 0, 0) := by decide +kernel
theorem c25_60 : gP 25 60 = some (.aload 0, 1, 0, 0) := by decide +kernel
theorem c25_61 : gP 25 61 = some (.aload 0, 1, 0, 0) := by decide +kernel
theorem c25_62 : gP 25 62 = some (.getfield 1, 3, 8, 138) := by decide +kernel
theorem c25_65 : gP 25 65 = some (.iload 3, 1, 0, 0) := by decide +kernel
theorem c25_66 : gP 25 66 = some (.iadd, 1, 0, 0) := by decide +kernel
theorem c25_67 : gP 25 67 = some (.iconst 320, 3, 0, 0) := by decide +kernel
theorem c25_70 : gP 25 70 = some (.if_icmp .gt 77, 3, 0, 0) := by decide +kernel
theorem c25_73 : gP 25 73 = some (.iconst 1, 1, 0, 0) := by decide +kernel
theorem c25_74 : gP 25 74 = some (.goto 78, 3, 0, 0) := by decide +kernel
theorem c25_77 : gP 25 77 = some (.iconst 0, 1, 0, 0) := by decide +kernel
theorem c25_78 : gP 25 78 = some (.iconst 2, 1, 0, 0) := by decide +kernel
theorem c25_79 : gP 25 79 = some (.invokeinterface 23 130, 3, 3, 1) := by decide +kernel
theorem c25_82 : gP 25 82 = some (.ifCond .ne 87, 3, 0, 0) := by decide +kernel
theorem c25_85 : gP 25 85 = some (.iconst 0, 1, 0, 0) := by decide +kernel
theorem c25_86 : gP 25 86 = some (.ireturn, 1, 0, 0) := by decide +kernel
theorem c25_87 : gP 25 87 = some (.iload 3, 1, 0, 0) := by decide +kernel
theorem c25_88 : gP 25 88 = some (.iconst 1, 1, 0, 0) := by decide +kernel
theorem c25_89 : gP 25 89 = some (.isub, 1, 0, 0) := by decide +kernel
theorem c25_90 : gP 25 90 = some (.istore 4, 2, 0, 0) := by decide +kernel
theorem c25_92 : gP 25 92 = some (.iload 4, 2, 0, 0) := by decide +kernel
theorem c25_94 : gP 25 94 = some (.ifCond .lt 134, 3, 0, 0) := by decide +kernel
theorem c25_97 : gP 25 97 = some (.aload 0, 1, 0, 0) := by decide +kernel
theorem c25_98 : gP 25 98 = some (.getfield 0, 3, 8, 7) := by decide +kernel
theorem c25_101 : gP 25 101 = some (.aload 0, 1, 0, 0) := by decide +kernel
theorem c25_102 : gP 25 102 = some (.getfield 1, 3, 8, 138) := by decide +kernel
theorem c25_105 : gP 25 105 = some (.lload 1, 1, 0, 0) := by decide +kernel
theorem c25_106 : gP 25 106 = some (.iconst 8, 2, 0, 0) := by decide +kernel
theorem c25_108 : gP 25 108 = some (.iload 4, 2, 0, 0) := by decide +kernel
theorem c25_110 : gP 25 110 = some (.imul, 1, 0, 0) := by decide +kernel
theorem c25_111 : gP 25 111 = some (.lshr, 1, 0, 0) := by decide +kernel
theorem c25_112 : gP 25 112 = some (.l2i, 1, 0, 0) := by decide +kernel
theorem c25_113 : gP 25 113 = some (.iconst 255, 3, 0, 0) := by decide +kernel
theorem c25_116 : gP 25 116 = some (.iand, 1, 0, 0) := by decide +kernel
theorem c25_117 : gP 25 117 = some (.iastore, 1, 0, 0) := by decide +kernel
theorem c25_118 : gP 25 118 = some (.aload 0, 1, 0, 0) := by decide +kernel
theorem c25_119 : gP 25 119 = some (.dup, 1, 0, 0) := by decide +kernel
theorem c25_120 : gP 25 120 = some (.getfield 1, 3, 8, 138) := by decide +kernel
theorem c25_123 : gP 25 123 = some (.iconst 1, 1, 0, 0) := by decide +kernel
theorem c25_124 : gP 25 124 = some (.iadd, 1, 0, 0) := by decide +kernel
theorem c25_125 : gP 25 125 = some (.putfield 1, 3, 8, 0) := by decide +kernel
theorem c25_128 : gP 25 128 = some (.iinc 4 (-1), 3, 0, 0) := by decide +kernel
theorem c25_131 : gP 25 131 = some (.goto 92, 3, 0, 0) := by decide +kernel
theorem c25_134 : gP 25 134 = some (.aload 0, 1, 0, 0) := by decide +kernel
theorem c25_135 : gP 25 135 = some (.getfield 1, 3, 8, 138) := by decide +kernel
theorem c25_138 : gP 25 138 = some (.ireturn, 1, 0, 0) := by decide +kernel
theorem kf0_0 : yfld gSh 414 0 0 7 = some (.inr (.inl 1)) := by decide +kernel
theorem kf0_6 : yfld gSh 414 0 6 7 = some (.inl 0) := by decide +kernel
theorem kf376_0 : yfld gSh 414 376 0 8 = some (.inr (.inl 377)) := by decide +kernel
theorem kf376_1 : yfld gSh 414 376 1 8 = some (.inl 0) := by decide +kernel
theorem kf376_57 : yfld gSh 414 376 57 8 = some (.inl 0) := by decide +kernel
theorem ka1 : yarr gSh 414 1 = some (3, 320) := by decide +kernel
theorem ka377 : yarr gSh 414 377 = some (0, 320) := by decide +kernel
theorem kl413 : ylar gSh 414 413 = some 1 := by decide +kernel
theorem ko0 : yobj gSh 414 0 = some 7 := by decide +kernel
theorem ko376 : yobj gSh 414 376 = some 8 := by decide +kernel
theorem km18 : gMc 18 = none := by decide +kernel
theorem km19 : gMc 19 = none := by decide +kernel
theorem km20 : gMc 20 = some 7 := by decide +kernel
theorem km22 : gMc 22 = none := by decide +kernel
theorem km23 : gMc 23 = some 8 := by decide +kernel
theorem km24 : gMc 24 = some 8 := by decide +kernel
theorem kn18 : gMx 18 = 3 := by decide +kernel
theorem kn19 : gMx 19 = 5 := by decide +kernel
theorem kn20 : gMx 20 = 5 := by decide +kernel
theorem kn21 : gMx 21 = 6 := by decide +kernel
theorem kn22 : gMx 22 = 3 := by decide +kernel
theorem kn23 : gMx 23 = 3 := by decide +kernel
theorem kn24 : gMx 24 = 2 := by decide +kernel
theorem kn25 : gMx 25 = 5 := by decide +kernel
theorem kh21_6_10 : gHd 21 6 10 = some (some 18) := by decide +kernel
theorem kh21_6_9 : gHd 21 6 9 = some (some 14) := by decide +kernel
end
section
/-! THE BYTES OF A LONG -/
def bC (v : Int64) (k : Int) : Int := (Int32.ofInt ((v.toUInt64 >>> ((Int32.ofInt (8 * k)).toInt64.toUInt64 &&& Int64.toUInt64 63)).toInt64.toInt32.toInt) &&& Int32.ofInt 255).toInt
def rB (v : Int64) (k : Int) : Int := (Int32.ofInt ((v >>> ((Int32.ofInt (8 * k)).toInt64 &&& 63)).toInt32.toInt) &&& Int32.ofInt 255).toInt
theorem b255 (x : Int32) : 0 ≤ (x &&& Int32.ofInt 255).toInt ∧ (x &&& Int32.ofInt 255).toInt ≤ 255 := by
  have h : (x &&& Int32.ofInt 255).toBitVec.toNat ≤ 255 := by
    rw [Int32.toBitVec_and, BitVec.toNat_and]
    exact Nat.and_le_right
  have e : (x &&& Int32.ofInt 255).toInt = ((x &&& Int32.ofInt 255).toBitVec.toNat : Int) := by
    show (x &&& Int32.ofInt 255).toBitVec.toInt = _
    exact BitVec.toInt_eq_toNat_of_lt (by omega)
  omega
theorem bC_rng (v : Int64) (k : Int) : 0 ≤ bC v k ∧ bC v k ≤ 255 := b255 _
theorem b32 : ∀ i, i < 32 → ¬ i < 8 → (255#32).getLsbD i = false := by decide
theorem bvlow (x : BitVec 64) (c : Nat) (hc : c ≤ 56) : (BitVec.setWidth 32 (x >>> c)) &&& 255#32 = (BitVec.setWidth 32 (x.sshiftRight c)) &&& 255#32 := by
  apply BitVec.eq_of_getLsbD_eq
  intro i hi
  simp only [BitVec.getLsbD_and, BitVec.getLsbD_setWidth, BitVec.getLsbD_ushiftRight, BitVec.getLsbD_sshiftRight]
  by_cases h8 : i < 8
  · have h1 : c + i < 64 := by omega
    have h2 : ¬ 64 ≤ i := by omega
    simp [h1, h2]
  · simp [b32 i hi h8]
theorem rB_eq {v : Int64} {k : Int} (h : 0 ≤ k ∧ k ≤ 7) : rB v k = bC v k := by
  have hs : ∀ (c : Nat), c ≤ 56 → ∀ (s : Int64) (u : UInt64), (s.toBitVec.smod 64).toNat = c → (u.toBitVec % 64).toNat = c → (Int32.ofInt ((v >>> s).toInt32.toInt) &&& Int32.ofInt 255).toInt = (Int32.ofInt ((v.toUInt64 >>> u).toInt64.toInt32.toInt) &&& Int32.ofInt 255).toInt := by
    intro c hc s u e1 e2
    apply congrArg Int32.toInt
    apply Int32.toBitVec_inj.mp
    rw [Int32.ofInt_toInt, Int32.ofInt_toInt, Int32.toBitVec_and, Int32.toBitVec_and, Int64.toBitVec_toInt32, Int64.toBitVec_toInt32]
    rw [BitVec.signExtend_eq_setWidth_of_le _ (by decide), BitVec.signExtend_eq_setWidth_of_le _ (by decide)]
    have e3 : (v >>> s).toBitVec = v.toBitVec.sshiftRight c := by
      rw [Int64.toBitVec_shiftRight]
      unfold BitVec.sshiftRight'
      rw [e1]
    have e4 : (v.toUInt64 >>> u).toInt64.toBitVec = v.toBitVec >>> c := by
      rw [UInt64.toBitVec_toInt64, UInt64.toBitVec_shiftRight]
      show v.toBitVec >>> (u.toBitVec % 64).toNat = _
      rw [e2]
    rw [e3, e4]
    exact (bvlow v.toBitVec c hc).symm
  have hk : k = 0 ∨ k = 1 ∨ k = 2 ∨ k = 3 ∨ k = 4 ∨ k = 5 ∨ k = 6 ∨ k = 7 := by omega
  rcases hk with rfl | rfl | rfl | rfl | rfl | rfl | rfl | rfl
  · exact hs 0 (by decide) _ _ (by decide +kernel) (by decide +kernel)
  · exact hs 8 (by decide) _ _ (by decide +kernel) (by decide +kernel)
  · exact hs 16 (by decide) _ _ (by decide +kernel) (by decide +kernel)
  · exact hs 24 (by decide) _ _ (by decide +kernel) (by decide +kernel)
  · exact hs 32 (by decide) _ _ (by decide +kernel) (by decide +kernel)
  · exact hs 40 (by decide) _ _ (by decide +kernel) (by decide +kernel)
  · exact hs 48 (by decide) _ _ (by decide +kernel) (by decide +kernel)
  · exact hs 56 (by decide) _ _ (by decide +kernel) (by decide +kernel)
end
section
/-! CONTRACTS: append of the program. Printed by wip/whole/gen75.py -/
theorem t18 {L : Nat} {xs : Nat → Int32} {d nn : Nat} {m : yM} {v : Int64} {k : Int} : YC (gZ L xs) d 18 [.long v, yI k] m nn (qP m nn (fun r => r = bC v k)) := by
  refine YC.mkB [some (.long v), none, some (yI k)] kn18 rfl rfl ?_
  refine y_lload 1 c18_0 rfl rfl ?_
  refine y_iconst 3 c18_1 rfl ?_
  refine y_iload 4 c18_3 rfl rfl ?_
  refine y_imul 5 c18_4 rfl ?_
  refine y_lushr 6 c18_5 rfl ?_
  refine y_l2i 7 c18_6 rfl ?_
  refine y_iconst 10 c18_7 rfl ?_
  refine y_iand 11 c18_10 rfl ?_
  exact y_retP c18_11 (y_fit0 _) rfl
theorem t22 {L : Nat} {xs : Nat → Int32} {d nn : Nat} {m : yM} {v lo hi : Int} (hv : -2147483648 ≤ v ∧ v < 2147483648) (hlo : -2147483648 ≤ lo ∧ lo < 2147483648) (hhi : -2147483648 ≤ hi ∧ hi < 2147483648) : YC (gZ L xs) d 22 [yI v, yI lo, yI hi] m nn (qP m nn (fun r => (r = 1 ∧ lo ≤ v ∧ v ≤ hi) ∨ (r = 0 ∧ ¬ (lo ≤ v ∧ v ≤ hi)))) := by
  refine YC.mkB [some (yI v), some (yI lo), some (yI hi)] kn22 rfl rfl ?_
  refine y_iload 1 c22_0 rfl rfl ?_
  refine y_iload 2 c22_1 rfl rfl ?_
  refine y_icmp 14 5 c22_2 rfl rfl (yc_lt (by omega) (by omega)) (fun hb => ?_) (fun hb => ?_)
  · refine y_iconst 15 c22_14 rfl ?_
    exact y_retP c22_15 (y_fit1 (by omega)) (by omega)
  · refine y_iload 6 c22_5 rfl rfl ?_
    refine y_iload 7 c22_6 rfl rfl ?_
    refine y_icmp 14 10 c22_7 rfl rfl (yc_gt (by omega) (by omega)) (fun hb => ?_) (fun hb => ?_)
    · refine y_iconst 15 c22_14 rfl ?_
      exact y_retP c22_15 (y_fit1 (by omega)) (by omega)
    · refine y_iconst 11 c22_10 rfl ?_
      refine y_goto 15 c22_11 rfl ?_
      exact y_retP c22_15 (y_fit1 (by omega)) (by omega)
def gGood (v : Int64) (n : Int) : Prop := ∀ k, 0 ≤ k → k < n → 32 ≤ bC v k ∧ bC v k ≤ 126
theorem t19l {L : Nat} {xs : Nat → Int32} {d nn : Nat} {m : yM} {v : Int64} {n : Int} (hn : n ≤ 8) : ∀ (j : Nat) (i : Int) (x4 : Option Value), i + j = n → 0 ≤ i → (∀ k, 0 ≤ k → k < i → 32 ≤ bC v k ∧ bC v k ≤ 126) → YW (gZ L xs) 19 (d + 1) 2 [some (.long v), none, some (yI n), some (yI i), x4] [] m nn (qP m nn (fun r => (r = 1 ∧ gGood v n) ∨ (r = 0 ∧ ¬ gGood v n))) := by
  intro j
  induction j with
  | zero =>
    intro i x4 hj hi hg
    have hb0 := bC_rng v i
    refine y_iload 3 c19_2 rfl rfl ?_
    refine y_iload 4 c19_3 rfl rfl ?_
    refine y_icmp 36 7 c19_4 rfl rfl (yc_ge (by omega) (by omega)) (fun hb => ?_) (fun hb => ?_)
    · refine y_iconst 37 c19_36 rfl ?_
      exact y_retP c19_37 (y_fit1 (by omega)) (Or.inl ⟨rfl, fun k h1 h2 => hg k h1 (by omega)⟩)
    · exfalso; omega
  | succ j ih =>
    intro i x4 hj hi hg
    have hb0 := bC_rng v i
    refine y_iload 3 c19_2 rfl rfl ?_
    refine y_iload 4 c19_3 rfl rfl ?_
    refine y_icmp 36 7 c19_4 rfl rfl (yc_ge (by omega) (by omega)) (fun hb => ?_) (fun hb => ?_)
    · refine y_iconst 37 c19_36 rfl ?_
      exact y_retP c19_37 (y_fit1 (by omega)) (Or.inl ⟨rfl, fun k h1 h2 => hg k h1 (by omega)⟩)
    · refine y_lload 8 c19_7 rfl rfl ?_
      refine y_iload 9 c19_8 rfl rfl ?_
      refine y_callP 12 [.long v, yI i] [] c19_9 rfl rfl rfl rfl rfl (ycanS km18) t18 (fun r8 hr8 => ?_)
      subst hr8
      refine y_istore 14 c19_12 rfl rfl ?_
      refine y_iload 16 c19_14 rfl rfl ?_
      refine y_iconst 18 c19_16 rfl ?_
      refine y_icmp 28 21 c19_18 rfl rfl (yc_lt (by omega) (by omega)) (fun hb => ?_) (fun hb => ?_)
      · refine y_iconst 29 c19_28 rfl ?_
        exact y_retP c19_29 (y_fit1 (by omega)) (Or.inr ⟨rfl, fun hq => by have := hq i hi (by omega); omega⟩)
      · refine y_iload 23 c19_21 rfl rfl ?_
        refine y_iconst 25 c19_23 rfl ?_
        refine y_icmp 30 28 c19_25 rfl rfl (yc_le (by omega) (by omega)) (fun hb => ?_) (fun hb => ?_)
        · refine y_iinc 33 c19_30 rfl rfl rfl ?_
          refine y_goto 2 c19_33 rfl ?_
          exact ih (i + 1) _ (by omega) (by omega) (fun k h1 h2 => by
            by_cases e : k < i
            · exact hg k h1 e
            · have : k = i := by omega
              subst this
              omega)
        · refine y_iconst 29 c19_28 rfl ?_
          exact y_retP c19_29 (y_fit1 (by omega)) (Or.inr ⟨rfl, fun hq => by have := hq i hi (by omega); omega⟩)
theorem t19 {L : Nat} {xs : Nat → Int32} {d nn : Nat} {m : yM} {v : Int64} {n : Int} (hn : 0 ≤ n ∧ n ≤ 8) : YC (gZ L xs) (d + 1) 19 [.long v, yI n] m nn (qP m nn (fun r => (r = 1 ∧ gGood v n) ∨ (r = 0 ∧ ¬ gGood v n))) := by
  refine YC.mkB [some (.long v), none, some (yI n), none, none] kn19 rfl rfl ?_
  refine y_iconst 1 c19_0 rfl ?_
  refine y_istore 2 c19_1 rfl rfl ?_
  exact t19l hn.2 n.toNat 0 none (by omega) (by omega) (fun k h1 h2 => by omega)
def gApp (v : Int64) (n : Int) : Prop := 1 ≤ n ∧ n ≤ 8 ∧ gGood v n
theorem t20l {L : Nat} {xs : Nat → Int32} {d nn : Nat} {m : yM} {v : Int64} {n : Int} (ha : gApp v n) (h0 : 0 ≤ m 0 6) (h1 : m 0 6 + n ≤ 320) : ∀ (j : Nat) (i : Int) (mi : yM), i + j = n + 1 → 1 ≤ i → mi 0 6 = m 0 6 + i - 1 → (∀ a q, a ≠ 1 → ¬ (a = 0 ∧ q = 6) → mi a q = m a q) → (∀ q, q < (m 0 6).toNat → mi 1 q = m 1 q) → (∀ t, 1 ≤ t → t < i → mi 1 (m 0 6 + t - 1).toNat = bC v (n - t)) → YW (gZ L xs) 20 (d + 2) 50 [some (.ref 0), some (.long v), none, some (yI n), some (yI i)] [] mi nn (qT (fun r m' n' => n' = nn ∧ gApp v n ∧ m 0 6 + n ≤ 320 ∧ r = m 0 6 + n ∧ m' 0 6 = r ∧ (∀ a q, a ≠ 1 → ¬ (a = 0 ∧ q = 6) → m' a q = m a q) ∧ (∀ q, q < (m 0 6).toNat → m' 1 q = m 1 q) ∧ (∀ t, 1 ≤ t → t ≤ n → m' 1 (m 0 6 + t - 1).toNat = bC v (n - t))) (fun e m' n' => n' = nn + 1 ∧ m' = m ∧ ((e = 9 ∧ ¬ gApp v n) ∨ (e = 10 ∧ gApp v n ∧ ¬ m 0 6 + n ≤ 320)))) := by
  intro j
  have hn8 := ha.2.1
  have hn1 := ha.1
  induction j with
  | zero =>
    intro i mi hj hi k1 k2 k3 k4
    refine y_iload 52 c20_50 rfl rfl ?_
    refine y_iload 53 c20_52 rfl rfl ?_
    refine y_icmp 90 56 c20_53 rfl rfl (yc_gt (by omega) (by omega)) (fun hb => ?_) (fun hb => ?_)
    · refine y_aload 91 c20_90 rfl rfl rfl ?_
      refine y_getI 94 c20_91 rfl kf0_6 ?_
      exact y_retT c20_94 (y_fit0 _) ⟨rfl, ha, h1, by omega, rfl, k2, k3, fun t t1 t2 => k4 t t1 (by omega)⟩
    · exfalso; omega
  | succ j ih =>
    intro i mi hj hi k1 k2 k3 k4
    have hb0 := bC_rng v (n - i)
    refine y_iload 52 c20_50 rfl rfl ?_
    refine y_iload 53 c20_52 rfl rfl ?_
    refine y_icmp 90 56 c20_53 rfl rfl (yc_gt (by omega) (by omega)) (fun hb => ?_) (fun hb => ?_)
    · refine y_aload 91 c20_90 rfl rfl rfl ?_
      refine y_getX 94 (mi 0 6) c20_91 rfl kf0_6 rfl ?_
      exfalso; omega
    · refine y_aload 57 c20_56 rfl rfl rfl ?_
      refine y_getR 60 c20_57 rfl kf0_0 ?_
      refine y_aload 61 c20_60 rfl rfl rfl ?_
      refine y_getX 64 (mi 0 6) c20_61 rfl kf0_6 rfl ?_
      refine y_lload 65 c20_64 rfl rfl ?_
      refine y_iload 66 c20_65 rfl rfl ?_
      refine y_iload 68 c20_66 rfl rfl ?_
      refine y_isub 69 c20_68 rfl ?_
      refine y_callP 72 [.long v, yI (n - i)] [yI (mi 0 6), .ref 1] c20_69 rfl rfl rfl rfl rfl (ycanS km18) t18 (fun r15 hr15 => ?_)
      subst hr15
      refine y_i2cN 73 c20_72 rfl (by omega) ?_
      refine y_iastore 74 c20_73 rfl ka1 (by omega) (y_nar3 (by omega)) ?_
      refine y_aload 75 c20_74 rfl rfl rfl ?_
      refine y_dup 76 c20_75 rfl rfl ?_
      refine y_getX 79 (mi 0 6) c20_76 rfl kf0_6 rfl ?_
      refine y_iconst 80 c20_79 rfl ?_
      refine y_iadd 81 c20_80 rfl ?_
      refine y_putI 84 c20_81 rfl kf0_6 (y_fit0 _) ?_
      refine y_iinc 87 c20_84 rfl rfl rfl ?_
      refine y_goto 50 c20_87 rfl ?_
      refine ih (i + 1) _ (by omega) (by omega) ?_ ?_ ?_ ?_
      · simp only [yup_eq]; omega
      · intro a q h2 h3
        rw [yup_ne h3, yup_na h2]
        exact k2 a q h2 h3
      · intro q hq
        rw [yup_na (by decide), yup_nk (by omega)]
        exact k3 q hq
      · intro t h2 h3
        rw [yup_na (by decide)]
        by_cases e : t = i
        · subst e
          rw [show (m 0 6 + t - 1).toNat = (mi 0 6).toNat by omega, yup_eq]
        · rw [yup_nk (by omega)]
          exact k4 t h2 (by omega)
theorem t20 {L : Nat} {xs : Nat → Int32} {d nn : Nat} {m : yM} {v : Int64} {n : Int} (h0 : 0 ≤ m 0 6) (h1 : m 0 6 ≤ 320) (hn : -2147483648 ≤ n ∧ n < 2147483648) : YC (gZ L xs) (d + 2) 20 [.ref 0, .long v, yI n] m nn (qT (fun r m' n' => n' = nn ∧ gApp v n ∧ m 0 6 + n ≤ 320 ∧ r = m 0 6 + n ∧ m' 0 6 = r ∧ (∀ a q, a ≠ 1 → ¬ (a = 0 ∧ q = 6) → m' a q = m a q) ∧ (∀ q, q < (m 0 6).toNat → m' 1 q = m 1 q) ∧ (∀ t, 1 ≤ t → t ≤ n → m' 1 (m 0 6 + t - 1).toNat = bC v (n - t))) (fun e m' n' => n' = nn + 1 ∧ m' = m ∧ ((e = 9 ∧ ¬ gApp v n) ∨ (e = 10 ∧ gApp v n ∧ ¬ m 0 6 + n ≤ 320)))) := by
  refine YC.mkB [some (.ref 0), some (.long v), none, some (yI n), none] kn20 rfl rfl ?_
  refine y_iload 1 c20_0 rfl rfl ?_
  refine y_iconst 2 c20_1 rfl ?_
  refine y_icmp 19 5 c20_2 rfl rfl (yc_lt (by omega) (by omega)) (fun hb => ?_) (fun hb => ?_)
  · exact y_thrT c20_19 rfl ⟨rfl, rfl, Or.inl ⟨rfl, fun hq => by
      obtain ⟨q1, q2, q3⟩ := hq
      first | omega | (rcases hrr with ⟨e, -⟩ | ⟨e, e2⟩ <;> first | omega | exact e2 q3)⟩⟩
  · refine y_iload 6 c20_5 rfl rfl ?_
    refine y_iconst 8 c20_6 rfl ?_
    refine y_icmp 19 11 c20_8 rfl rfl (yc_gt (by omega) (by omega)) (fun hb => ?_) (fun hb => ?_)
    · exact y_thrT c20_19 rfl ⟨rfl, rfl, Or.inl ⟨rfl, fun hq => by
        obtain ⟨q1, q2, q3⟩ := hq
        first | omega | (rcases hrr with ⟨e, -⟩ | ⟨e, e2⟩ <;> first | omega | exact e2 q3)⟩⟩
    · refine y_lload 12 c20_11 rfl rfl ?_
      refine y_iload 13 c20_12 rfl rfl ?_
      refine y_callP 16 [.long v, yI n] [] c20_13 rfl rfl rfl rfl rfl (ycanS km19) (t19 (by omega)) (fun r12 hr12 => ?_)
      have hrr := hr12
      refine y_if 27 19 c20_16 rfl rfl (yz_ne (by omega)) (fun hb => ?_) (fun hb => ?_)
      · have hgd : gGood v n := by
          rcases hrr with ⟨-, e⟩ | ⟨e, -⟩
          · exact e
          · omega
        refine y_aload 28 c20_27 rfl rfl rfl ?_
        refine y_getX 31 (m 0 6) c20_28 rfl kf0_6 rfl ?_
        refine y_iload 32 c20_31 rfl rfl ?_
        refine y_iadd 33 c20_32 rfl ?_
        refine y_iconst 36 c20_33 rfl ?_
        refine y_icmp 47 39 c20_36 rfl rfl (yc_le (by omega) (by omega)) (fun hb => ?_) (fun hb => ?_)
        · refine y_iconst 48 c20_47 rfl ?_
          refine y_istore 50 c20_48 rfl rfl ?_
          exact t20l ⟨by omega, by omega, hgd⟩ h0 (by omega) n.toNat 1 m (by omega) (by omega) (by omega) (fun a q _ _ => rfl) (fun q _ => rfl) (fun t h2 h3 => by omega)
        · exact y_thrT c20_39 rfl ⟨rfl, rfl, Or.inr ⟨rfl, ⟨by omega, by omega, hgd⟩, by omega⟩⟩
      · exact y_thrT c20_19 rfl ⟨rfl, rfl, Or.inl ⟨rfl, fun hq => by
          obtain ⟨q1, q2, q3⟩ := hq
          first | omega | (rcases hrr with ⟨e, -⟩ | ⟨e, e2⟩ <;> first | omega | exact e2 q3)⟩⟩
end

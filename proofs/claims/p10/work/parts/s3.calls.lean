/-! CONTRACTS, as the law needs them. Printed by wip/whole/gen9k.py -/
def qLo (nn : Nat) : xO → yM → Nat → Prop := qI (fun r m' n' => (-2147483648 ≤ r ∧ r < 2147483648) ∧ n' ≤ nn + 1 ∧ LI m')
def qNo (nn : Nat) : xO → yM → Nat → Prop := qI (fun r m' n' => (-2147483648 ≤ r ∧ r < 2147483648) ∧ n' = nn ∧ LI m')
theorem qL_o {nn n : Nat} {o : xO} {m : yM} (q : qL nn o m n) : qLo nn o m n := by
  obtain ⟨z, e, h⟩ := q
  exact ⟨wr z, by rw [yI_wr]; exact e, rg_wr z, h⟩
theorem qN_o {nn n : Nat} {o : xO} {m : yM} (q : qN nn o m n) : qNo nn o m n := by
  obtain ⟨z, e, h⟩ := q
  exact ⟨wr z, by rw [yI_wr]; exact e, rg_wr z, h⟩
theorem y_lcmpU {Z : yZ} {i d pc w a b : Nat} {ls : xL} {st : List Value} {m : yM} {n : Nat} {Q : xO → yM → Nat → Prop} (pc' : Nat) {x y : Int64} (ho : zP Z i pc = some (.lcmp, w, a, b)) (hp : pc + w = pc') (k : ∀ r : Int, -2147483648 ≤ r ∧ r < 2147483648 → YW Z i d pc' ls (yI r :: st) m n Q) : YW Z i d pc ls (.long y :: .long x :: st) m n Q := y_lcmp pc' ho hp (k _ (i32r _))

theorem t159w {L : Nat} {xs : Nat → Int32} {nn : Nat} {m : yM} {a : Int} (ra : -2147483648 ≤ a ∧ a < 2147483648) {b : Int} (rb : -2147483648 ≤ b ∧ b < 2147483648) (h : LI m) : YC (gZ L xs) 1199 159 [.ref 0, yI a, yI b, .ref 413] m nn (qLo nn) := by
  rcases h.1 with hC | hC
  · exact YC.mono (t159_256 (d := 1196) ra rb hC) (fun o m' n' q => qL_o (qW_L h q))
  · exact YC.mono (t159_316 (d := 1196) ra rb hC) (fun o m' n' q => qL_o (qW_L h q))

theorem t165w {L : Nat} {xs : Nat → Int32} {nn : Nat} {m : yM} {a : Int} (ra : -2147483648 ≤ a ∧ a < 2147483648) {b : Int} (rb : -2147483648 ≤ b ∧ b < 2147483648) {c : Int} (rc : -2147483648 ≤ c ∧ c < 2147483648) (h : LI m) : YC (gZ L xs) 1199 165 [.ref 0, yI a, yI b, yI c, .ref 413] m nn (qLo nn) := by
  rcases h.1 with hC | hC
  · exact YC.mono (t165_256 (d := 1196) ra rb rc hC) (fun o m' n' q => qL_o (qW_L h q))
  · exact YC.mono (t165_316 (d := 1196) ra rb rc hC) (fun o m' n' q => qL_o (qW_L h q))

theorem t169w {L : Nat} {xs : Nat → Int32} {nn : Nat} {m : yM} {a : Int} (ra : -2147483648 ≤ a ∧ a < 2147483648) {b : Int} (rb : -2147483648 ≤ b ∧ b < 2147483648) (h : LI m) : YC (gZ L xs) 1199 169 [.ref 0, yI a, yI b, .ref 413] m nn (qLo nn) := by
  rcases h.1 with hC | hC
  · exact YC.mono (t169_256 (d := 1196) ra rb hC) (fun o m' n' q => qL_o (qW_L h q))
  · exact YC.mono (t169_316 (d := 1196) ra rb hC) (fun o m' n' q => qL_o (qW_L h q))

theorem t173w {L : Nat} {xs : Nat → Int32} {nn : Nat} {m : yM} {a : Int} (ra : -2147483648 ≤ a ∧ a < 2147483648) (h : LI m) : YC (gZ L xs) 1199 173 [.ref 0, yI a, .ref 413] m nn (qLo nn) := by
  rcases h.1 with hC | hC
  · exact YC.mono (t173_256 (d := 1196) ra hC) (fun o m' n' q => qL_o (qW_L h q))
  · exact YC.mono (t173_316 (d := 1196) ra hC) (fun o m' n' q => qL_o (qW_L h q))

theorem t177w {L : Nat} {xs : Nat → Int32} {nn : Nat} {m : yM} {a : Int} (ra : -2147483648 ≤ a ∧ a < 2147483648) (h : LI m) : YC (gZ L xs) 1199 177 [.ref 0, yI a, .ref 413] m nn (qLo nn) := by
  rcases h.1 with hC | hC
  · exact YC.mono (t177_256 (d := 1196) ra hC) (fun o m' n' q => qL_o (qW_L h q))
  · exact YC.mono (t177_316 (d := 1196) ra hC) (fun o m' n' q => qL_o (qW_L h q))

theorem t181w {L : Nat} {xs : Nat → Int32} {nn : Nat} {m : yM} {a : Int} (ra : -2147483648 ≤ a ∧ a < 2147483648) {b : Int} (rb : -2147483648 ≤ b ∧ b < 2147483648) (h : LI m) : YC (gZ L xs) 1199 181 [.ref 0, yI a, yI b, .ref 413] m nn (qLo nn) := by
  rcases h.1 with hC | hC
  · exact YC.mono (t181_256 (d := 1196) ra rb hC) (fun o m' n' q => qL_o (qW_L h q))
  · exact YC.mono (t181_316 (d := 1196) ra rb hC) (fun o m' n' q => qL_o (qW_L h q))

theorem t184w {L : Nat} {xs : Nat → Int32} {nn : Nat} {m : yM} {a : Int} (ra : -2147483648 ≤ a ∧ a < 2147483648) {b : Int} (rb : -2147483648 ≤ b ∧ b < 2147483648) (h : LI m) : YC (gZ L xs) 1199 184 [.ref 0, yI a, yI b, .ref 413] m nn (qLo nn) := by
  rcases h.1 with hC | hC
  · exact YC.mono (t184_256 (d := 1196) ra rb hC) (fun o m' n' q => qL_o (qW_L h q))
  · exact YC.mono (t184_316 (d := 1196) ra rb hC) (fun o m' n' q => qL_o (qW_L h q))

theorem t213w {L : Nat} {xs : Nat → Int32} {nn : Nat} {m : yM} {a : Int} (ra : -2147483648 ≤ a ∧ a < 2147483648) {b : Int} (rb : -2147483648 ≤ b ∧ b < 2147483648) (h : LI m) : YC (gZ L xs) 1199 213 [.ref 0, yI a, yI b, .ref 413] m nn (qLo nn) := by
  rcases h.1 with hC | hC
  · exact YC.mono (t213_256 (d := 1196) ra rb hC) (fun o m' n' q => qL_o (qW_L h q))
  · exact YC.mono (t213_316 (d := 1196) ra rb hC) (fun o m' n' q => qL_o (qW_L h q))

theorem t216w {L : Nat} {xs : Nat → Int32} {nn : Nat} {m : yM} {a : Int} (ra : -2147483648 ≤ a ∧ a < 2147483648) (h : LI m) : YC (gZ L xs) 1199 216 [.ref 0, yI a, .ref 413] m nn (qLo nn) := by
  rcases h.1 with hC | hC
  · exact YC.mono (t216_256 (d := 1196) ra hC) (fun o m' n' q => qL_o (qW_L h q))
  · exact YC.mono (t216_316 (d := 1196) ra hC) (fun o m' n' q => qL_o (qW_L h q))

theorem t95w {L : Nat} {xs : Nat → Int32} {nn : Nat} {m : yM} (h : LI m) : YC (gZ L xs) 1199 95 [.ref 0, .ref 413] m nn (qLo nn) := by
  rcases h.1 with hC | hC
  · exact YC.mono (t95_256 (d := 1182) hC) (fun o m' n' q => qL_o (qW_L h q))
  · exact YC.mono (t95_316 (d := 1182) hC) (fun o m' n' q => qL_o (qW_L h q))

theorem t200w {L : Nat} {xs : Nat → Int32} {nn : Nat} {m : yM} (h : LI m) : YC (gZ L xs) 1199 200 [.ref 0, .ref 413] m nn (qLo nn) := by
  rcases h.1 with hC | hC
  · exact YC.mono (t200_256 (d := 591) hC) (fun o m' n' q => qL_o (qW_L h q))
  · exact YC.mono (t200_316 (d := 591) hC) (fun o m' n' q => qL_o (qW_L h q))

theorem t163w {L : Nat} {xs : Nat → Int32} {nn : Nat} {m : yM} {a : Int} (ra : -2147483648 ≤ a ∧ a < 2147483648) {b : Int} (rb : -2147483648 ≤ b ∧ b < 2147483648) (h : LI m) : YC (gZ L xs) 1199 163 [.ref 376, yI a, yI b] m nn (qNo nn) := by
  have hp := h.2.1.1.atp 376 18 0 1 rfl
  rcases (show m 376 18 = 0 ∨ m 376 18 = 1 by omega) with q | q
  · exact YC.mono (t163_0 (d := 1193) h.2.1.1 q h.2.1 ra rb) (fun o m' n' q => qN_o (qMd_N h q))
  · exact YC.mono (t163_1 (d := 1193) h.2.1.1 q h.2.1 ra rb) (fun o m' n' q => qN_o (qMd_N h q))

theorem t166w {L : Nat} {xs : Nat → Int32} {nn : Nat} {m : yM} {a : Int} (ra : -2147483648 ≤ a ∧ a < 2147483648) {b : Int} (rb : -2147483648 ≤ b ∧ b < 2147483648) {c : Int} (rc : -2147483648 ≤ c ∧ c < 2147483648) (h : LI m) : YC (gZ L xs) 1199 166 [.ref 376, yI a, yI b, yI c] m nn (qNo nn) := by
  have hp := h.2.1.1.atp 376 18 0 1 rfl
  rcases (show m 376 18 = 0 ∨ m 376 18 = 1 by omega) with q | q
  · exact YC.mono (t166_0 (d := 1193) h.2.1.1 q h.2.1 ra rb rc) (fun o m' n' q => qN_o (qMd_N h q))
  · exact YC.mono (t166_1 (d := 1193) h.2.1.1 q h.2.1 ra rb rc) (fun o m' n' q => qN_o (qMd_N h q))

theorem t171w {L : Nat} {xs : Nat → Int32} {nn : Nat} {m : yM} {a : Int} (ra : -2147483648 ≤ a ∧ a < 2147483648) {b : Int} (rb : -2147483648 ≤ b ∧ b < 2147483648) (h : LI m) : YC (gZ L xs) 1199 171 [.ref 376, yI a, yI b] m nn (qNo nn) := by
  have hp := h.2.1.1.atp 376 18 0 1 rfl
  rcases (show m 376 18 = 0 ∨ m 376 18 = 1 by omega) with q | q
  · exact YC.mono (t171_0 (d := 1193) h.2.1.1 q h.2.1 ra rb) (fun o m' n' q => qN_o (qMd_N h q))
  · exact YC.mono (t171_1 (d := 1193) h.2.1.1 q h.2.1 ra rb) (fun o m' n' q => qN_o (qMd_N h q))

theorem t174w {L : Nat} {xs : Nat → Int32} {nn : Nat} {m : yM} {a : Int} (ra : -2147483648 ≤ a ∧ a < 2147483648) (h : LI m) : YC (gZ L xs) 1199 174 [.ref 376, yI a] m nn (qNo nn) := by
  have hp := h.2.1.1.atp 376 18 0 1 rfl
  rcases (show m 376 18 = 0 ∨ m 376 18 = 1 by omega) with q | q
  · exact YC.mono (t174_0 (d := 1193) h.2.1.1 q h.2.1 ra) (fun o m' n' q => qN_o (qMd_N h q))
  · exact YC.mono (t174_1 (d := 1193) h.2.1.1 q h.2.1 ra) (fun o m' n' q => qN_o (qMd_N h q))

theorem t178w {L : Nat} {xs : Nat → Int32} {nn : Nat} {m : yM} {a : Int} (ra : -2147483648 ≤ a ∧ a < 2147483648) (h : LI m) : YC (gZ L xs) 1199 178 [.ref 376, yI a] m nn (qNo nn) := by
  have hp := h.2.1.1.atp 376 18 0 1 rfl
  rcases (show m 376 18 = 0 ∨ m 376 18 = 1 by omega) with q | q
  · exact YC.mono (t178_0 (d := 1193) h.2.1.1 q h.2.1 ra) (fun o m' n' q => qN_o (qMd_N h q))
  · exact YC.mono (t178_1 (d := 1193) h.2.1.1 q h.2.1 ra) (fun o m' n' q => qN_o (qMd_N h q))

theorem t182w {L : Nat} {xs : Nat → Int32} {nn : Nat} {m : yM} {a : Int} (ra : -2147483648 ≤ a ∧ a < 2147483648) {b : Int} (rb : -2147483648 ≤ b ∧ b < 2147483648) (h : LI m) : YC (gZ L xs) 1199 182 [.ref 376, yI a, yI b] m nn (qNo nn) := by
  have hp := h.2.1.1.atp 376 18 0 1 rfl
  rcases (show m 376 18 = 0 ∨ m 376 18 = 1 by omega) with q | q
  · exact YC.mono (t182_0 (d := 1193) h.2.1.1 q h.2.1 ra rb) (fun o m' n' q => qN_o (qMd_N h q))
  · exact YC.mono (t182_1 (d := 1193) h.2.1.1 q h.2.1 ra rb) (fun o m' n' q => qN_o (qMd_N h q))

theorem t185w {L : Nat} {xs : Nat → Int32} {nn : Nat} {m : yM} {a : Int} (ra : -2147483648 ≤ a ∧ a < 2147483648) {b : Int} (rb : -2147483648 ≤ b ∧ b < 2147483648) (h : LI m) : YC (gZ L xs) 1199 185 [.ref 376, yI a, yI b] m nn (qNo nn) := by
  have hp := h.2.1.1.atp 376 18 0 1 rfl
  rcases (show m 376 18 = 0 ∨ m 376 18 = 1 by omega) with q | q
  · exact YC.mono (t185_0 (d := 1193) h.2.1.1 q h.2.1 ra rb) (fun o m' n' q => qN_o (qMd_N h q))
  · exact YC.mono (t185_1 (d := 1193) h.2.1.1 q h.2.1 ra rb) (fun o m' n' q => qN_o (qMd_N h q))

theorem t214w {L : Nat} {xs : Nat → Int32} {nn : Nat} {m : yM} {a : Int} (ra : -2147483648 ≤ a ∧ a < 2147483648) {b : Int} (rb : -2147483648 ≤ b ∧ b < 2147483648) (h : LI m) : YC (gZ L xs) 1199 214 [.ref 376, yI a, yI b] m nn (qNo nn) := by
  have hp := h.2.1.1.atp 376 18 0 1 rfl
  rcases (show m 376 18 = 0 ∨ m 376 18 = 1 by omega) with q | q
  · exact YC.mono (t214_0 (d := 1193) h.2.1.1 q h.2.1 ra rb) (fun o m' n' q => qN_o (qMd_N h q))
  · exact YC.mono (t214_1 (d := 1193) h.2.1.1 q h.2.1 ra rb) (fun o m' n' q => qN_o (qMd_N h q))

theorem t217w {L : Nat} {xs : Nat → Int32} {nn : Nat} {m : yM} {a : Int} (ra : -2147483648 ≤ a ∧ a < 2147483648) (h : LI m) : YC (gZ L xs) 1199 217 [.ref 376, yI a] m nn (qNo nn) := by
  have hp := h.2.1.1.atp 376 18 0 1 rfl
  rcases (show m 376 18 = 0 ∨ m 376 18 = 1 by omega) with q | q
  · exact YC.mono (t217_0 (d := 1193) h.2.1.1 q h.2.1 ra) (fun o m' n' q => qN_o (qMd_N h q))
  · exact YC.mono (t217_1 (d := 1193) h.2.1.1 q h.2.1 ra) (fun o m' n' q => qN_o (qMd_N h q))

theorem t152w {L : Nat} {xs : Nat → Int32} {nn : Nat} {m : yM} (h : LI m) : YC (gZ L xs) 1199 152 [.ref 376] m nn (qNo nn) := by
  have hp := h.2.1.1.atp 376 18 0 1 rfl
  rcases (show m 376 18 = 0 ∨ m 376 18 = 1 by omega) with q | q
  · exact YC.mono (t152_1 (d := 1186) h.2.1.1 q (h.2.1.g0 q)) (fun o m' n' q => qN_o (qMd_N h q))
  · exact YC.mono (t152_0 (d := 1186) h.2.1.1 q (h.2.1.g1 q)) (fun o m' n' q => qN_o (qMd_N h q))

theorem t211w {L : Nat} {xs : Nat → Int32} {nn : Nat} {m : yM} (h : LI m) : YC (gZ L xs) 1199 211 [.ref 376] m nn (qNo nn) := by
  have hp := h.2.1.1.atp 376 18 0 1 rfl
  rcases (show m 376 18 = 0 ∨ m 376 18 = 1 by omega) with q | q
  · exact YC.mono (t211_0 (d := 1193) h.2.1.1 q (h.2.1.g0 q) h.2.1) (fun o m' n' q => qN_o (qMd_N h q))
  · exact YC.mono (t211_1 (d := 1193) h.2.1.1 q (h.2.1.g1 q) h.2.1) (fun o m' n' q => qN_o (qMd_N h q))

theorem t29w {L : Nat} {xs : Nat → Int32} {nn : Nat} {m : yM} {a : Int} (ra : -2147483648 ≤ a ∧ a < 2147483648) (hT : Ty gT m) : YC (gZ L xs) 1199 29 [.ref 376, yI a] m nn (qI (fun r m' n' => n' = nn ∧ Ty gT m' ∧ ((¬ (0 ≤ a ∧ a ≤ m 376 1) ∧ r = 0 ∧ m' = yup m 376 57 1) ∨ ((0 ≤ a ∧ a ≤ m 376 1) ∧ r = m 376 1 - a ∧ m' = yup (yup m 376 57 0) 376 1 (m 376 1 - a))))) := by
  refine YC.mono (t29 (d := 1198) hT ra) (fun o m' n' q => ?_)
  obtain ⟨q1, q2, ⟨q3, q4, q5⟩ | ⟨q3, q4, q5⟩⟩ := q
  · exact ⟨_, q4, q1, q2, Or.inl ⟨q3, rfl, q5⟩⟩
  · exact ⟨_, q4, q1, q2, Or.inr ⟨q3, rfl, q5⟩⟩

section
/-! CONTRACTS: the model, run. Printed by wip/whole/gen9i.py -/
theorem wRn_G3 {p : Nat} : ∀ a q, vGq p a q = true → wRn a q = false := wRn_G
set_option maxRecDepth 100000 in
theorem t211s {L : Nat} {xs : Nat → Int32} {d nn : Nat} {m : yM} {Q : xO → yM → Nat → Prop} (hT : Ty gT m) (ho : ∀ (x1 : Option Value) (mi : yM), Ty gT mi → Fr (wRo 408) m mi → YW (gZ L xs) 211 (d + 6) 50 [some (.ref 376), x1] [] mi nn Q) : ∀ (km : Nat) (i : Int) (mi : yM), 576 - i = km → 0 ≤ i ∧ i ≤ 576 → Ty gT mi → Fr (wRo 408) m mi → YW (gZ L xs) 211 (d + 6) 30 [some (.ref 376), some (yI i)] [] mi nn (Q) := by
  intro km
  induction km using Nat.strongRecOn with
  | ind km ih =>
    intro i mi hk hi hTi hFi
    refine y_iload 31 c211_30 rfl rfl ?_
    refine y_iconst 34 c211_31 rfl ?_
    refine y_icmp 50 37 c211_34 rfl rfl (yc_ge (by omega) (by omega)) (fun hb14274 => ?_) (fun hb14274 => ?_)
    · exact ho _ _ hTi hFi
    · refine y_aload 38 c211_37 rfl rfl rfl ?_
      refine y_getR 41 c211_38 rfl kf376_48 ?_
      refine y_iload 42 c211_41 rfl rfl ?_
      refine y_iconst 43 c211_42 rfl ?_
      refine y_iastore 44 c211_43 rfl ka408 (by omega) (y_nar1 (by omega)) ?_
      have hT14275 := hTi.up 408 i.toNat 0 0 1 rfl (by omega)
      have hF14276 := hFi.up 408 i.toNat 0 rfl
      refine y_iinc 47 c211_44 rfl rfl rfl ?_
      refine y_goto 30 c211_47 rfl ?_
      exact ih (576 - (i + 1) : Int).toNat (by omega) (i + 1)  _ (by omega) (by omega) hT14275 hF14276
set_option maxRecDepth 100000 in
theorem t123y_0 {L : Nat} {xs : Nat → Int32} {d nn : Nat} {m : yM} (hT : Ty gT m) (hU : UX 0 m (m 383 0)) (hc1 : 1 ≤ m 383 0) : ∀ (km : Nat) (i : Int), m 384 0 - i = km → 0 ≤ i ∧ i ≤ m 384 0 → (∀ j : Nat, (j : Int) < i → ¬ (m 396 (10 * 0 + j) = 0 ∧ m 395 (10 * 0 + j) = 204)) → YW (gZ L xs) 123 d 11 [some (.ref 376), some (yI 0), some (yI 0), some (yI 204), some (yI 0), some (yI 0), some (yI i)] [] m nn (qP m nn (fun r => (r = -1 ∧ NF 0 m) ∨ FI 0 m r)) := by
  intro km
  induction km using Nat.strongRecOn with
  | ind km ih =>
    intro i hk hi hj
    have tb383 := hT.atp 383 0 0 6 rfl
    have tb384 := hT.atp 384 0 0 10 rfl
    have tb385 := hT.atp 385 0 0 8 rfl
    have tb386 := hT.atp 386 0 0 12 rfl
    have tb387 := hT.atp 387 0 0 8 rfl
    have tb388 := hT.atp 388 0 0 12 rfl
    have tb389 := hT.atp 389 0 0 48 rfl
    have tb390 := hT.atp 390 0 0 125 rfl
    have tb392 := hT.atp 392 0 (-1) 5 rfl
    have hu0 : m 392 0 < 0 := hU 0 (by omega)
    refine y_iload 13 c123_11 rfl rfl ?_
    refine y_aload 14 c123_13 rfl rfl rfl ?_
    refine y_getR 17 c123_14 rfl kf376_21 ?_
    refine y_iload 18 c123_17 rfl rfl ?_
    refine y_iaX 19 (m 384 0) c123_18 rfl ka384 (by decide) rfl ?_
    refine y_icmp 64 22 c123_19 rfl rfl (yc_ge (by omega) (by omega)) (fun hb14277 => ?_) (fun hb14277 => ?_)
    · refine y_iload 66 c123_64 rfl rfl ?_
      refine y_if 73 69 c123_66 rfl rfl (yz_eq (by omega)) (fun hb14278 => ?_) (fun hb14278 => ?_)
      · refine y_aload 74 c123_73 rfl rfl rfl ?_
        refine y_getR 77 c123_74 rfl kf376_29 ?_
        refine y_iconst 79 c123_77 rfl ?_
        refine y_iload 80 c123_79 rfl rfl ?_
        refine y_imul 81 c123_80 rfl ?_
        refine y_top 0 (by decide) ?_
        refine y_iload 83 c123_81 rfl rfl ?_
        refine y_iadd 84 c123_83 rfl ?_
        refine y_top 0 (by decide) ?_
        refine y_iaX 85 (m 392 0) c123_84 rfl ka392 (by decide) rfl ?_
        refine y_istore 87 c123_85 rfl rfl ?_
        refine y_goto 3 c123_87 rfl ?_
        refine y_iload 5 c123_3 rfl rfl ?_
        refine y_if 90 8 c123_5 rfl rfl (yz_lt (by omega)) (fun hb14279 => ?_) (fun hb14279 => ?_)
        · refine y_iconst 91 c123_90 rfl ?_
          exact y_retP c123_91 (y_fit0 _) (Or.inl ⟨rfl, fun j hj2 => hj j (by omega)⟩)
        · exfalso; omega
      · exfalso; omega
    · refine y_aload 23 c123_22 rfl rfl rfl ?_
      refine y_getR 26 c123_23 rfl kf376_33 ?_
      refine y_iconst 28 c123_26 rfl ?_
      refine y_iload 29 c123_28 rfl rfl ?_
      refine y_imul 30 c123_29 rfl ?_
      refine y_top 0 (by decide) ?_
      refine y_iload 32 c123_30 rfl rfl ?_
      refine y_iadd 33 c123_32 rfl ?_
      refine y_iaT 34 0 5 c123_33 rfl ka396 (by omega) hT rfl (fun v14280 hv14280 gv14280 => ?_)
      have gv14280_ : m 396 (10 * 0 + i.toNat) = v14280 := by rw [show 10 * 0 + i.toNat = (0 + i).toNat by omega]; exact hv14280
      refine y_iload 36 c123_34 rfl rfl ?_
      refine y_icmp 58 39 c123_36 rfl rfl (yc_ne (by omega) (by omega)) (fun hb14281 => ?_) (fun hb14281 => ?_)
      · refine y_iinc 61 c123_58 rfl rfl rfl ?_
        refine y_goto 11 c123_61 rfl ?_
        exact ih (m 384 0 - (i + 1) : Int).toNat (by omega) (i + 1)   (by omega) (by omega) (fun j hj2 => by
          by_cases e : (j : Int) < i
          · exact hj j e
          · have ej : j = i.toNat := (by omega)
            subst ej
            intro hh
            omega)
      · refine y_aload 40 c123_39 rfl rfl rfl ?_
        refine y_getR 43 c123_40 rfl kf376_32 ?_
        refine y_iconst 45 c123_43 rfl ?_
        refine y_iload 46 c123_45 rfl rfl ?_
        refine y_imul 47 c123_46 rfl ?_
        refine y_top 0 (by decide) ?_
        refine y_iload 49 c123_47 rfl rfl ?_
        refine y_iadd 50 c123_49 rfl ?_
        refine y_iaT 51 ((-2147483648)) 2147483647 c123_50 rfl ka395 (by omega) hT rfl (fun v14282 hv14282 gv14282 => ?_)
        have gv14282_ : m 395 (10 * 0 + i.toNat) = v14282 := by rw [show 10 * 0 + i.toNat = (0 + i).toNat by omega]; exact hv14282
        refine y_iload 52 c123_51 rfl rfl ?_
        refine y_icmp 58 55 c123_52 rfl rfl (yc_ne (by omega) (by omega)) (fun hb14283 => ?_) (fun hb14283 => ?_)
        · refine y_iinc 61 c123_58 rfl rfl rfl ?_
          refine y_goto 11 c123_61 rfl ?_
          exact ih (m 384 0 - (i + 1) : Int).toNat (by omega) (i + 1)   (by omega) (by omega) (fun j hj2 => by
          by_cases e : (j : Int) < i
          · exact hj j e
          · have ej : j = i.toNat := (by omega)
            subst ej
            intro hh
            omega)
        · refine y_iload 57 c123_55 rfl rfl ?_
          exact y_retP c123_57 (y_fit0 _) (Or.inr ⟨by omega, by omega, by omega, by omega, hj⟩)
set_option maxRecDepth 100000 in
theorem t123x_0 {L : Nat} {xs : Nat → Int32} {d nn : Nat} {m : yM} (hT : Ty gT m) (hU : UX 0 m (m 383 0)) (hc1 : 1 ≤ m 383 0) : YC (gZ L xs) d 123 [.ref 376, yI 0, yI 0, yI 204, yI 0] m nn (qP m nn (fun r => (r = -1 ∧ NF 0 m) ∨ FI 0 m r)) := by
  have tb383 := hT.atp 383 0 0 6 rfl
  have tb384 := hT.atp 384 0 0 10 rfl
  have tb385 := hT.atp 385 0 0 8 rfl
  have tb386 := hT.atp 386 0 0 12 rfl
  have tb387 := hT.atp 387 0 0 8 rfl
  have tb388 := hT.atp 388 0 0 12 rfl
  have tb389 := hT.atp 389 0 0 48 rfl
  have tb390 := hT.atp 390 0 0 125 rfl
  refine YC.mkB [some (.ref 376), some (yI 0), some (yI 0), some (yI 204), some (yI 0), none, none] kn123 rfl rfl ?_
  refine y_iload 1 c123_0 rfl rfl ?_
  refine y_istore 3 c123_1 rfl rfl ?_
  refine y_iload 5 c123_3 rfl rfl ?_
  refine y_if 90 8 c123_5 rfl rfl (yz_lt (by omega)) (fun hb14284 => ?_) (fun hb14284 => ?_)
  · exfalso; omega
  · refine y_iconst 9 c123_8 rfl ?_
    refine y_istore 11 c123_9 rfl rfl ?_
    exact t123y_0 hT hU hc1 (m 384 0 - 0).toNat 0 (by omega) (by omega) (fun j hj2 => by omega)
set_option maxRecDepth 100000 in
theorem t142x_0 {L : Nat} {xs : Nat → Int32} {d nn : Nat} {m : yM} (hT : Ty gT m) (hU : UX 0 m (m 383 0)) (hc1 : 1 ≤ m 383 0) : YC (gZ L xs) (d + 1) 142 [.ref 376, yI 0, yI 0, yI 204, yI 0] m nn (qP m nn (fun r => SG 0 m r ∨ (r = -1 ∧ ∀ s, ¬ SG 0 m s))) := by
  have tb383 := hT.atp 383 0 0 6 rfl
  have tb384 := hT.atp 384 0 0 10 rfl
  have tb385 := hT.atp 385 0 0 8 rfl
  have tb386 := hT.atp 386 0 0 12 rfl
  have tb387 := hT.atp 387 0 0 8 rfl
  have tb388 := hT.atp 388 0 0 12 rfl
  have tb389 := hT.atp 389 0 0 48 rfl
  have tb390 := hT.atp 390 0 0 125 rfl
  refine YC.mkB [some (.ref 376), some (yI 0), some (yI 0), some (yI 204), some (yI 0), none] kn142 rfl rfl ?_
  refine y_aload 1 c142_0 rfl rfl rfl ?_
  refine y_iload 2 c142_1 rfl rfl ?_
  refine y_iload 3 c142_2 rfl rfl ?_
  refine y_iload 4 c142_3 rfl rfl ?_
  refine y_iconst 5 c142_4 rfl ?_
  refine y_callP 8 [.ref 376, yI 0, yI 0, yI 204, yI 0] [] c142_5 rfl rfl rfl rfl rfl (ycanO km123 ko376) (t123x_0 hT hU hc1) (fun r14285 hr14285 => ?_)
  have gr14285 : -1 ≤ r14285 ∧ r14285 < m 384 0 := by
    rcases hr14285 with z | z
    · omega
    · exact ⟨by have := z.1; omega, z.2.1⟩
  refine y_istore 10 c142_8 rfl rfl ?_
  refine y_iload 12 c142_10 rfl rfl ?_
  refine y_if 37 15 c142_12 rfl rfl (yz_lt (by omega)) (fun hb14286 => ?_) (fun hb14286 => ?_)
  · refine y_iconst 38 c142_37 rfl ?_
    exact y_retP c142_38 (y_fit0 _) (Or.inr ⟨rfl, fun s hs => by rcases hr14285 with z | z; exact z.2.no hs.1; exact absurd z.1 (by omega)⟩)
  · refine y_aload 16 c142_15 rfl rfl rfl ?_
    refine y_getR 19 c142_16 rfl kf376_34 ?_
    refine y_iconst 21 c142_19 rfl ?_
    refine y_iload 22 c142_21 rfl rfl ?_
    refine y_imul 23 c142_22 rfl ?_
    refine y_top 0 (by decide) ?_
    refine y_iload 25 c142_23 rfl rfl ?_
    refine y_iadd 26 c142_25 rfl ?_
    refine y_iaT 27 0 2 c142_26 rfl ka397 (by omega) hT rfl (fun v14287 hv14287 gv14287 => ?_)
    refine y_iload 29 c142_27 rfl rfl ?_
    refine y_icmp 37 32 c142_29 rfl rfl (yc_ne (by omega) (by omega)) (fun hb14288 => ?_) (fun hb14288 => ?_)
    · refine y_iconst 38 c142_37 rfl ?_
      have hfi : FI 0 m r14285 := hr14285.resolve_left (by omega)
      have h97 : m 397 (10 * 0 + r14285.toNat) = v14287 := by rw [show 10 * 0 + r14285.toNat = (0 + r14285).toNat by omega]; exact hv14287
      exact y_retP c142_38 (y_fit0 _) (Or.inr ⟨rfl, fun s hs => by have e := hfi.uniq hs.1; subst e; have := hs.2; omega⟩)
    · refine y_iload 34 c142_32 rfl rfl ?_
      refine y_goto 38 c142_34 rfl ?_
      have hfi : FI 0 m r14285 := hr14285.resolve_left (by omega)
      have h97 : m 397 (10 * 0 + r14285.toNat) = v14287 := by rw [show 10 * 0 + r14285.toNat = (0 + r14285).toNat by omega]; exact hv14287
      exact y_retP c142_38 (y_fit0 _) (Or.inl ⟨hfi, by omega⟩)
set_option maxRecDepth 100000 in
theorem t143x_0 {L : Nat} {xs : Nat → Int32} {d nn : Nat} {m : yM} (hT : Ty gT m) (hn : m 376 18 = 0) (hU : UX 0 m (m 383 0)) (hc1 : 1 ≤ m 383 0) : YC (gZ L xs) (d + 2) 143 [.ref 376] m nn (qP m nn (fun r => SG 0 m r ∨ (r = -1 ∧ ∀ s, ¬ SG 0 m s))) := by
  have tb383 := hT.atp 383 0 0 6 rfl
  have tb384 := hT.atp 384 0 0 10 rfl
  have tb385 := hT.atp 385 0 0 8 rfl
  have tb386 := hT.atp 386 0 0 12 rfl
  have tb387 := hT.atp 387 0 0 8 rfl
  have tb388 := hT.atp 388 0 0 12 rfl
  have tb389 := hT.atp 389 0 0 48 rfl
  have tb390 := hT.atp 390 0 0 125 rfl
  refine YC.mkB [some (.ref 376)] kn143 rfl rfl ?_
  refine y_aload 1 c143_0 rfl rfl rfl ?_
  refine y_aload 2 c143_1 rfl rfl rfl ?_
  refine y_getX 5 (m 376 18) c143_2 rfl kf376_18 rfl ?_
  have tb14289 := hT.atp 376 18 0 1 rfl
  refine y_top 0 (by omega) ?_
  refine y_iconst 6 c143_5 rfl ?_
  refine y_iconst 8 c143_6 rfl ?_
  refine y_iconst 10 c143_8 rfl ?_
  refine y_iconst 11 c143_10 rfl ?_
  refine y_iconst 12 c143_11 rfl ?_
  refine y_iconst 13 c143_12 rfl ?_
  refine y_iconst 14 c143_13 rfl ?_
  refine y_inlB 17 [yI 103, yI 111, yI 0, yI 0, yI 0, yI 0] [yI 0, yI 0, .ref 376] [some (yI 103), some (yI 111), some (yI 0), some (yI 0), some (yI 0), some (yI 0)] c143_14 rfl rfl rfl rfl rfl (ycanS km101) kn101 rfl rfl ?_
  refine y_iconst 1 c101_0 rfl ?_
  refine y_iload 2 c101_1 rfl rfl ?_
  refine y_inlB 5 [yI 0, yI 103] [] [some (yI 0), some (yI 103)] c101_2 rfl rfl rfl rfl rfl (ycanS km100) kn100 rfl rfl ?_
  refine y_iload 1 c100_0 rfl rfl ?_
  refine y_if 8 4 c100_1 rfl rfl (yz_ne (by omega)) (fun hb14290 => ?_) (fun hb14290 => ?_)
  · refine y_iconst 10 c100_8 rfl ?_
    refine y_iload 11 c100_10 rfl rfl ?_
    refine y_imul 12 c100_11 rfl ?_
    refine y_top 0 (by decide) ?_
    refine y_iload 13 c100_12 rfl rfl ?_
    refine y_iadd 14 c100_13 rfl ?_
    refine y_top 103 (by decide) ?_
    refine y_iconst 16 c100_14 rfl ?_
    refine y_isub 17 c100_16 rfl ?_
    refine y_top 6 (by decide) ?_
    refine y_iconst 18 c100_17 rfl ?_
    refine y_iadd 19 c100_18 rfl ?_
    refine y_top 7 (by decide) ?_
    refine y_ireturnK c100_19 (y_fit0 _) ?_
    refine y_iload 6 c101_5 rfl rfl ?_
    refine y_inlB 9 [yI 7, yI 111] [] [some (yI 7), some (yI 111)] c101_6 rfl rfl rfl rfl rfl (ycanS km100) kn100 rfl rfl ?_
    refine y_iload 1 c100_0 rfl rfl ?_
    refine y_if 8 4 c100_1 rfl rfl (yz_ne (by omega)) (fun hb14291 => ?_) (fun hb14291 => ?_)
    · refine y_iconst 10 c100_8 rfl ?_
      refine y_iload 11 c100_10 rfl rfl ?_
      refine y_imul 12 c100_11 rfl ?_
      refine y_top 189 (by decide) ?_
      refine y_iload 13 c100_12 rfl rfl ?_
      refine y_iadd 14 c100_13 rfl ?_
      refine y_top 300 (by decide) ?_
      refine y_iconst 16 c100_14 rfl ?_
      refine y_isub 17 c100_16 rfl ?_
      refine y_top 203 (by decide) ?_
      refine y_iconst 18 c100_17 rfl ?_
      refine y_iadd 19 c100_18 rfl ?_
      refine y_top 204 (by decide) ?_
      refine y_ireturnK c100_19 (y_fit0 _) ?_
      refine y_iload 10 c101_9 rfl rfl ?_
      refine y_inlB 13 [yI 204, yI 0] [] [some (yI 204), some (yI 0)] c101_10 rfl rfl rfl rfl rfl (ycanS km100) kn100 rfl rfl ?_
      refine y_iload 1 c100_0 rfl rfl ?_
      refine y_if 8 4 c100_1 rfl rfl (yz_ne (by omega)) (fun hb14292 => ?_) (fun hb14292 => ?_)
      · exfalso; omega
      · refine y_iload 5 c100_4 rfl rfl ?_
        refine y_goto 19 c100_5 rfl ?_
        refine y_ireturnK c100_19 (y_fit0 _) ?_
        refine y_iload 14 c101_13 rfl rfl ?_
        refine y_inlB 17 [yI 204, yI 0] [] [some (yI 204), some (yI 0)] c101_14 rfl rfl rfl rfl rfl (ycanS km100) kn100 rfl rfl ?_
        refine y_iload 1 c100_0 rfl rfl ?_
        refine y_if 8 4 c100_1 rfl rfl (yz_ne (by omega)) (fun hb14293 => ?_) (fun hb14293 => ?_)
        · exfalso; omega
        · refine y_iload 5 c100_4 rfl rfl ?_
          refine y_goto 19 c100_5 rfl ?_
          refine y_ireturnK c100_19 (y_fit0 _) ?_
          refine y_iload 19 c101_17 rfl rfl ?_
          refine y_inlB 22 [yI 204, yI 0] [] [some (yI 204), some (yI 0)] c101_19 rfl rfl rfl rfl rfl (ycanS km100) kn100 rfl rfl ?_
          refine y_iload 1 c100_0 rfl rfl ?_
          refine y_if 8 4 c100_1 rfl rfl (yz_ne (by omega)) (fun hb14294 => ?_) (fun hb14294 => ?_)
          · exfalso; omega
          · refine y_iload 5 c100_4 rfl rfl ?_
            refine y_goto 19 c100_5 rfl ?_
            refine y_ireturnK c100_19 (y_fit0 _) ?_
            refine y_iload 24 c101_22 rfl rfl ?_
            refine y_inlB 27 [yI 204, yI 0] [] [some (yI 204), some (yI 0)] c101_24 rfl rfl rfl rfl rfl (ycanS km100) kn100 rfl rfl ?_
            refine y_iload 1 c100_0 rfl rfl ?_
            refine y_if 8 4 c100_1 rfl rfl (yz_ne (by omega)) (fun hb14295 => ?_) (fun hb14295 => ?_)
            · exfalso; omega
            · refine y_iload 5 c100_4 rfl rfl ?_
              refine y_goto 19 c100_5 rfl ?_
              refine y_ireturnK c100_19 (y_fit0 _) ?_
              refine y_ireturnK c101_27 (y_fit0 _) ?_
              refine y_iconst 18 c143_17 rfl ?_
              refine y_callP 21 [.ref 376, yI 0, yI 0, yI 204, yI 0] [] c143_18 rfl rfl rfl rfl rfl (ycanO km142 ko376) (t142x_0 hT hU hc1) (fun r14296 hr14296 => ?_)
              exact y_retP c143_21 (y_fit0 _) hr14296
    · exfalso; omega
  · exfalso; omega
set_option maxRecDepth 100000 in
theorem t123y_1 {L : Nat} {xs : Nat → Int32} {d nn : Nat} {m : yM} (hT : Ty gT m) (hU : UX 1 m (m 383 1)) (hc1 : 1 ≤ m 383 1) : ∀ (km : Nat) (i : Int), m 384 1 - i = km → 0 ≤ i ∧ i ≤ m 384 1 → (∀ j : Nat, (j : Int) < i → ¬ (m 396 (10 * 1 + j) = 0 ∧ m 395 (10 * 1 + j) = 204)) → YW (gZ L xs) 123 d 11 [some (.ref 376), some (yI 1), some (yI 0), some (yI 204), some (yI 0), some (yI 0), some (yI i)] [] m nn (qP m nn (fun r => (r = -1 ∧ NF 1 m) ∨ FI 1 m r)) := by
  intro km
  induction km using Nat.strongRecOn with
  | ind km ih =>
    intro i hk hi hj
    have tb383 := hT.atp 383 1 0 6 rfl
    have tb384 := hT.atp 384 1 0 10 rfl
    have tb385 := hT.atp 385 1 0 8 rfl
    have tb386 := hT.atp 386 1 0 12 rfl
    have tb387 := hT.atp 387 1 0 8 rfl
    have tb388 := hT.atp 388 1 0 12 rfl
    have tb389 := hT.atp 389 1 0 48 rfl
    have tb390 := hT.atp 390 1 0 125 rfl
    have tb392 := hT.atp 392 6 (-1) 5 rfl
    have hu0 : m 392 6 < 0 := hU 0 (by omega)
    refine y_iload 13 c123_11 rfl rfl ?_
    refine y_aload 14 c123_13 rfl rfl rfl ?_
    refine y_getR 17 c123_14 rfl kf376_21 ?_
    refine y_iload 18 c123_17 rfl rfl ?_
    refine y_iaX 19 (m 384 1) c123_18 rfl ka384 (by decide) rfl ?_
    refine y_icmp 64 22 c123_19 rfl rfl (yc_ge (by omega) (by omega)) (fun hb14362 => ?_) (fun hb14362 => ?_)
    · refine y_iload 66 c123_64 rfl rfl ?_
      refine y_if 73 69 c123_66 rfl rfl (yz_eq (by omega)) (fun hb14363 => ?_) (fun hb14363 => ?_)
      · refine y_aload 74 c123_73 rfl rfl rfl ?_
        refine y_getR 77 c123_74 rfl kf376_29 ?_
        refine y_iconst 79 c123_77 rfl ?_
        refine y_iload 80 c123_79 rfl rfl ?_
        refine y_imul 81 c123_80 rfl ?_
        refine y_top 6 (by decide) ?_
        refine y_iload 83 c123_81 rfl rfl ?_
        refine y_iadd 84 c123_83 rfl ?_
        refine y_top 6 (by decide) ?_
        refine y_iaX 85 (m 392 6) c123_84 rfl ka392 (by decide) rfl ?_
        refine y_istore 87 c123_85 rfl rfl ?_
        refine y_goto 3 c123_87 rfl ?_
        refine y_iload 5 c123_3 rfl rfl ?_
        refine y_if 90 8 c123_5 rfl rfl (yz_lt (by omega)) (fun hb14364 => ?_) (fun hb14364 => ?_)
        · refine y_iconst 91 c123_90 rfl ?_
          exact y_retP c123_91 (y_fit0 _) (Or.inl ⟨rfl, fun j hj2 => hj j (by omega)⟩)
        · exfalso; omega
      · exfalso; omega
    · refine y_aload 23 c123_22 rfl rfl rfl ?_
      refine y_getR 26 c123_23 rfl kf376_33 ?_
      refine y_iconst 28 c123_26 rfl ?_
      refine y_iload 29 c123_28 rfl rfl ?_
      refine y_imul 30 c123_29 rfl ?_
      refine y_top 10 (by decide) ?_
      refine y_iload 32 c123_30 rfl rfl ?_
      refine y_iadd 33 c123_32 rfl ?_
      refine y_iaT 34 0 5 c123_33 rfl ka396 (by omega) hT rfl (fun v14365 hv14365 gv14365 => ?_)
      have gv14365_ : m 396 (10 * 1 + i.toNat) = v14365 := by rw [show 10 * 1 + i.toNat = (10 + i).toNat by omega]; exact hv14365
      refine y_iload 36 c123_34 rfl rfl ?_
      refine y_icmp 58 39 c123_36 rfl rfl (yc_ne (by omega) (by omega)) (fun hb14366 => ?_) (fun hb14366 => ?_)
      · refine y_iinc 61 c123_58 rfl rfl rfl ?_
        refine y_goto 11 c123_61 rfl ?_
        exact ih (m 384 1 - (i + 1) : Int).toNat (by omega) (i + 1)   (by omega) (by omega) (fun j hj2 => by
          by_cases e : (j : Int) < i
          · exact hj j e
          · have ej : j = i.toNat := (by omega)
            subst ej
            intro hh
            omega)
      · refine y_aload 40 c123_39 rfl rfl rfl ?_
        refine y_getR 43 c123_40 rfl kf376_32 ?_
        refine y_iconst 45 c123_43 rfl ?_
        refine y_iload 46 c123_45 rfl rfl ?_
        refine y_imul 47 c123_46 rfl ?_
        refine y_top 10 (by decide) ?_
        refine y_iload 49 c123_47 rfl rfl ?_
        refine y_iadd 50 c123_49 rfl ?_
        refine y_iaT 51 ((-2147483648)) 2147483647 c123_50 rfl ka395 (by omega) hT rfl (fun v14367 hv14367 gv14367 => ?_)
        have gv14367_ : m 395 (10 * 1 + i.toNat) = v14367 := by rw [show 10 * 1 + i.toNat = (10 + i).toNat by omega]; exact hv14367
        refine y_iload 52 c123_51 rfl rfl ?_
        refine y_icmp 58 55 c123_52 rfl rfl (yc_ne (by omega) (by omega)) (fun hb14368 => ?_) (fun hb14368 => ?_)
        · refine y_iinc 61 c123_58 rfl rfl rfl ?_
          refine y_goto 11 c123_61 rfl ?_
          exact ih (m 384 1 - (i + 1) : Int).toNat (by omega) (i + 1)   (by omega) (by omega) (fun j hj2 => by
          by_cases e : (j : Int) < i
          · exact hj j e
          · have ej : j = i.toNat := (by omega)
            subst ej
            intro hh
            omega)
        · refine y_iload 57 c123_55 rfl rfl ?_
          exact y_retP c123_57 (y_fit0 _) (Or.inr ⟨by omega, by omega, by omega, by omega, hj⟩)
set_option maxRecDepth 100000 in
theorem t123x_1 {L : Nat} {xs : Nat → Int32} {d nn : Nat} {m : yM} (hT : Ty gT m) (hU : UX 1 m (m 383 1)) (hc1 : 1 ≤ m 383 1) : YC (gZ L xs) d 123 [.ref 376, yI 1, yI 0, yI 204, yI 0] m nn (qP m nn (fun r => (r = -1 ∧ NF 1 m) ∨ FI 1 m r)) := by
  have tb383 := hT.atp 383 1 0 6 rfl
  have tb384 := hT.atp 384 1 0 10 rfl
  have tb385 := hT.atp 385 1 0 8 rfl
  have tb386 := hT.atp 386 1 0 12 rfl
  have tb387 := hT.atp 387 1 0 8 rfl
  have tb388 := hT.atp 388 1 0 12 rfl
  have tb389 := hT.atp 389 1 0 48 rfl
  have tb390 := hT.atp 390 1 0 125 rfl
  refine YC.mkB [some (.ref 376), some (yI 1), some (yI 0), some (yI 204), some (yI 0), none, none] kn123 rfl rfl ?_
  refine y_iload 1 c123_0 rfl rfl ?_
  refine y_istore 3 c123_1 rfl rfl ?_
  refine y_iload 5 c123_3 rfl rfl ?_
  refine y_if 90 8 c123_5 rfl rfl (yz_lt (by omega)) (fun hb14369 => ?_) (fun hb14369 => ?_)
  · exfalso; omega
  · refine y_iconst 9 c123_8 rfl ?_
    refine y_istore 11 c123_9 rfl rfl ?_
    exact t123y_1 hT hU hc1 (m 384 1 - 0).toNat 0 (by omega) (by omega) (fun j hj2 => by omega)
set_option maxRecDepth 100000 in
theorem t142x_1 {L : Nat} {xs : Nat → Int32} {d nn : Nat} {m : yM} (hT : Ty gT m) (hU : UX 1 m (m 383 1)) (hc1 : 1 ≤ m 383 1) : YC (gZ L xs) (d + 1) 142 [.ref 376, yI 1, yI 0, yI 204, yI 0] m nn (qP m nn (fun r => SG 1 m r ∨ (r = -1 ∧ ∀ s, ¬ SG 1 m s))) := by
  have tb383 := hT.atp 383 1 0 6 rfl
  have tb384 := hT.atp 384 1 0 10 rfl
  have tb385 := hT.atp 385 1 0 8 rfl
  have tb386 := hT.atp 386 1 0 12 rfl
  have tb387 := hT.atp 387 1 0 8 rfl
  have tb388 := hT.atp 388 1 0 12 rfl
  have tb389 := hT.atp 389 1 0 48 rfl
  have tb390 := hT.atp 390 1 0 125 rfl
  refine YC.mkB [some (.ref 376), some (yI 1), some (yI 0), some (yI 204), some (yI 0), none] kn142 rfl rfl ?_
  refine y_aload 1 c142_0 rfl rfl rfl ?_
  refine y_iload 2 c142_1 rfl rfl ?_
  refine y_iload 3 c142_2 rfl rfl ?_
  refine y_iload 4 c142_3 rfl rfl ?_
  refine y_iconst 5 c142_4 rfl ?_
  refine y_callP 8 [.ref 376, yI 1, yI 0, yI 204, yI 0] [] c142_5 rfl rfl rfl rfl rfl (ycanO km123 ko376) (t123x_1 hT hU hc1) (fun r14370 hr14370 => ?_)
  have gr14370 : -1 ≤ r14370 ∧ r14370 < m 384 1 := by
    rcases hr14370 with z | z
    · omega
    · exact ⟨by have := z.1; omega, z.2.1⟩
  refine y_istore 10 c142_8 rfl rfl ?_
  refine y_iload 12 c142_10 rfl rfl ?_
  refine y_if 37 15 c142_12 rfl rfl (yz_lt (by omega)) (fun hb14371 => ?_) (fun hb14371 => ?_)
  · refine y_iconst 38 c142_37 rfl ?_
    exact y_retP c142_38 (y_fit0 _) (Or.inr ⟨rfl, fun s hs => by rcases hr14370 with z | z; exact z.2.no hs.1; exact absurd z.1 (by omega)⟩)
  · refine y_aload 16 c142_15 rfl rfl rfl ?_
    refine y_getR 19 c142_16 rfl kf376_34 ?_
    refine y_iconst 21 c142_19 rfl ?_
    refine y_iload 22 c142_21 rfl rfl ?_
    refine y_imul 23 c142_22 rfl ?_
    refine y_top 10 (by decide) ?_
    refine y_iload 25 c142_23 rfl rfl ?_
    refine y_iadd 26 c142_25 rfl ?_
    refine y_iaT 27 0 2 c142_26 rfl ka397 (by omega) hT rfl (fun v14372 hv14372 gv14372 => ?_)
    refine y_iload 29 c142_27 rfl rfl ?_
    refine y_icmp 37 32 c142_29 rfl rfl (yc_ne (by omega) (by omega)) (fun hb14373 => ?_) (fun hb14373 => ?_)
    · refine y_iconst 38 c142_37 rfl ?_
      have hfi : FI 1 m r14370 := hr14370.resolve_left (by omega)
      have h97 : m 397 (10 * 1 + r14370.toNat) = v14372 := by rw [show 10 * 1 + r14370.toNat = (10 + r14370).toNat by omega]; exact hv14372
      exact y_retP c142_38 (y_fit0 _) (Or.inr ⟨rfl, fun s hs => by have e := hfi.uniq hs.1; subst e; have := hs.2; omega⟩)
    · refine y_iload 34 c142_32 rfl rfl ?_
      refine y_goto 38 c142_34 rfl ?_
      have hfi : FI 1 m r14370 := hr14370.resolve_left (by omega)
      have h97 : m 397 (10 * 1 + r14370.toNat) = v14372 := by rw [show 10 * 1 + r14370.toNat = (10 + r14370).toNat by omega]; exact hv14372
      exact y_retP c142_38 (y_fit0 _) (Or.inl ⟨hfi, by omega⟩)
set_option maxRecDepth 100000 in
theorem t143x_1 {L : Nat} {xs : Nat → Int32} {d nn : Nat} {m : yM} (hT : Ty gT m) (hn : m 376 18 = 1) (hU : UX 1 m (m 383 1)) (hc1 : 1 ≤ m 383 1) : YC (gZ L xs) (d + 2) 143 [.ref 376] m nn (qP m nn (fun r => SG 1 m r ∨ (r = -1 ∧ ∀ s, ¬ SG 1 m s))) := by
  have tb383 := hT.atp 383 1 0 6 rfl
  have tb384 := hT.atp 384 1 0 10 rfl
  have tb385 := hT.atp 385 1 0 8 rfl
  have tb386 := hT.atp 386 1 0 12 rfl
  have tb387 := hT.atp 387 1 0 8 rfl
  have tb388 := hT.atp 388 1 0 12 rfl
  have tb389 := hT.atp 389 1 0 48 rfl
  have tb390 := hT.atp 390 1 0 125 rfl
  refine YC.mkB [some (.ref 376)] kn143 rfl rfl ?_
  refine y_aload 1 c143_0 rfl rfl rfl ?_
  refine y_aload 2 c143_1 rfl rfl rfl ?_
  refine y_getX 5 (m 376 18) c143_2 rfl kf376_18 rfl ?_
  have tb14374 := hT.atp 376 18 0 1 rfl
  refine y_top 1 (by omega) ?_
  refine y_iconst 6 c143_5 rfl ?_
  refine y_iconst 8 c143_6 rfl ?_
  refine y_iconst 10 c143_8 rfl ?_
  refine y_iconst 11 c143_10 rfl ?_
  refine y_iconst 12 c143_11 rfl ?_
  refine y_iconst 13 c143_12 rfl ?_
  refine y_iconst 14 c143_13 rfl ?_
  refine y_inlB 17 [yI 103, yI 111, yI 0, yI 0, yI 0, yI 0] [yI 0, yI 1, .ref 376] [some (yI 103), some (yI 111), some (yI 0), some (yI 0), some (yI 0), some (yI 0)] c143_14 rfl rfl rfl rfl rfl (ycanS km101) kn101 rfl rfl ?_
  refine y_iconst 1 c101_0 rfl ?_
  refine y_iload 2 c101_1 rfl rfl ?_
  refine y_inlB 5 [yI 0, yI 103] [] [some (yI 0), some (yI 103)] c101_2 rfl rfl rfl rfl rfl (ycanS km100) kn100 rfl rfl ?_
  refine y_iload 1 c100_0 rfl rfl ?_
  refine y_if 8 4 c100_1 rfl rfl (yz_ne (by omega)) (fun hb14375 => ?_) (fun hb14375 => ?_)
  · refine y_iconst 10 c100_8 rfl ?_
    refine y_iload 11 c100_10 rfl rfl ?_
    refine y_imul 12 c100_11 rfl ?_
    refine y_top 0 (by decide) ?_
    refine y_iload 13 c100_12 rfl rfl ?_
    refine y_iadd 14 c100_13 rfl ?_
    refine y_top 103 (by decide) ?_
    refine y_iconst 16 c100_14 rfl ?_
    refine y_isub 17 c100_16 rfl ?_
    refine y_top 6 (by decide) ?_
    refine y_iconst 18 c100_17 rfl ?_
    refine y_iadd 19 c100_18 rfl ?_
    refine y_top 7 (by decide) ?_
    refine y_ireturnK c100_19 (y_fit0 _) ?_
    refine y_iload 6 c101_5 rfl rfl ?_
    refine y_inlB 9 [yI 7, yI 111] [] [some (yI 7), some (yI 111)] c101_6 rfl rfl rfl rfl rfl (ycanS km100) kn100 rfl rfl ?_
    refine y_iload 1 c100_0 rfl rfl ?_
    refine y_if 8 4 c100_1 rfl rfl (yz_ne (by omega)) (fun hb14376 => ?_) (fun hb14376 => ?_)
    · refine y_iconst 10 c100_8 rfl ?_
      refine y_iload 11 c100_10 rfl rfl ?_
      refine y_imul 12 c100_11 rfl ?_
      refine y_top 189 (by decide) ?_
      refine y_iload 13 c100_12 rfl rfl ?_
      refine y_iadd 14 c100_13 rfl ?_
      refine y_top 300 (by decide) ?_
      refine y_iconst 16 c100_14 rfl ?_
      refine y_isub 17 c100_16 rfl ?_
      refine y_top 203 (by decide) ?_
      refine y_iconst 18 c100_17 rfl ?_
      refine y_iadd 19 c100_18 rfl ?_
      refine y_top 204 (by decide) ?_
      refine y_ireturnK c100_19 (y_fit0 _) ?_
      refine y_iload 10 c101_9 rfl rfl ?_
      refine y_inlB 13 [yI 204, yI 0] [] [some (yI 204), some (yI 0)] c101_10 rfl rfl rfl rfl rfl (ycanS km100) kn100 rfl rfl ?_
      refine y_iload 1 c100_0 rfl rfl ?_
      refine y_if 8 4 c100_1 rfl rfl (yz_ne (by omega)) (fun hb14377 => ?_) (fun hb14377 => ?_)
      · exfalso; omega
      · refine y_iload 5 c100_4 rfl rfl ?_
        refine y_goto 19 c100_5 rfl ?_
        refine y_ireturnK c100_19 (y_fit0 _) ?_
        refine y_iload 14 c101_13 rfl rfl ?_
        refine y_inlB 17 [yI 204, yI 0] [] [some (yI 204), some (yI 0)] c101_14 rfl rfl rfl rfl rfl (ycanS km100) kn100 rfl rfl ?_
        refine y_iload 1 c100_0 rfl rfl ?_
        refine y_if 8 4 c100_1 rfl rfl (yz_ne (by omega)) (fun hb14378 => ?_) (fun hb14378 => ?_)
        · exfalso; omega
        · refine y_iload 5 c100_4 rfl rfl ?_
          refine y_goto 19 c100_5 rfl ?_
          refine y_ireturnK c100_19 (y_fit0 _) ?_
          refine y_iload 19 c101_17 rfl rfl ?_
          refine y_inlB 22 [yI 204, yI 0] [] [some (yI 204), some (yI 0)] c101_19 rfl rfl rfl rfl rfl (ycanS km100) kn100 rfl rfl ?_
          refine y_iload 1 c100_0 rfl rfl ?_
          refine y_if 8 4 c100_1 rfl rfl (yz_ne (by omega)) (fun hb14379 => ?_) (fun hb14379 => ?_)
          · exfalso; omega
          · refine y_iload 5 c100_4 rfl rfl ?_
            refine y_goto 19 c100_5 rfl ?_
            refine y_ireturnK c100_19 (y_fit0 _) ?_
            refine y_iload 24 c101_22 rfl rfl ?_
            refine y_inlB 27 [yI 204, yI 0] [] [some (yI 204), some (yI 0)] c101_24 rfl rfl rfl rfl rfl (ycanS km100) kn100 rfl rfl ?_
            refine y_iload 1 c100_0 rfl rfl ?_
            refine y_if 8 4 c100_1 rfl rfl (yz_ne (by omega)) (fun hb14380 => ?_) (fun hb14380 => ?_)
            · exfalso; omega
            · refine y_iload 5 c100_4 rfl rfl ?_
              refine y_goto 19 c100_5 rfl ?_
              refine y_ireturnK c100_19 (y_fit0 _) ?_
              refine y_ireturnK c101_27 (y_fit0 _) ?_
              refine y_iconst 18 c143_17 rfl ?_
              refine y_callP 21 [.ref 376, yI 1, yI 0, yI 204, yI 0] [] c143_18 rfl rfl rfl rfl rfl (ycanO km142 ko376) (t142x_1 hT hU hc1) (fun r14381 hr14381 => ?_)
              exact y_retP c143_21 (y_fit0 _) hr14381
    · exfalso; omega
  · exfalso; omega
end
section
/-! CONTRACTS: the model, run. Printed by wip/whole/gen9i.py -/
set_option maxRecDepth 100000 in
theorem t211e_0 {L : Nat} {xs : Nat → Int32} {d nn : Nat} {m0 mi : yM} (hTi : Ty gT mi) (hF0 : Fr wML m0 mi) (hM : MI mi) (hx : mi 376 57 ≠ 0 ∨ mi 376 54 = 0) {x1 : Option Value} : YW (gZ L xs) 211 (d + 6) 83 [some (.ref 376), x1] [] mi nn (qMd nn m0) := by
  have t7 := hTi.atp 376 57 0 4 rfl
  have t4 := hTi.atp 376 54 0 4 rfl
  have t6 := hTi.atp 376 56 0 201 rfl
  refine y_aload 84 c211_83 rfl rfl rfl ?_
  refine y_getX 87 (mi 376 57) c211_84 rfl kf376_57 rfl ?_
  refine y_if 104 90 c211_87 rfl rfl (yz_ne (by omega)) (fun hb14297 => ?_) (fun hb14297 => ?_)
  · refine y_aload 105 c211_104 rfl rfl rfl ?_
    refine y_getX 108 (mi 376 57) c211_105 rfl kf376_57 rfl ?_
    refine y_if 118 111 c211_108 rfl rfl (yz_ne (by omega)) (fun hb14298 => ?_) (fun hb14298 => ?_)
    · refine y_iconst 119 c211_118 rfl ?_
      exact y_ireturn c211_119 (y_fit0 _) ⟨_, rfl, rfl, hF0, hM⟩
    · exfalso; omega
  · refine y_aload 91 c211_90 rfl rfl rfl ?_
    refine y_getX 94 (mi 376 54) c211_91 rfl kf376_54 rfl ?_
    refine y_if 104 97 c211_94 rfl rfl (yz_le (by omega)) (fun hb14299 => ?_) (fun hb14299 => ?_)
    · refine y_aload 105 c211_104 rfl rfl rfl ?_
      refine y_getX 108 (mi 376 57) c211_105 rfl kf376_57 rfl ?_
      refine y_top 0 (by omega) ?_
      refine y_if 118 111 c211_108 rfl rfl (yz_ne (by omega)) (fun hb14300 => ?_) (fun hb14300 => ?_)
      · exfalso; omega
      · refine y_aload 112 c211_111 rfl rfl rfl ?_
        refine y_getX 115 (mi 376 56) c211_112 rfl kf376_56 rfl ?_
        refine y_goto 119 c211_115 rfl ?_
        exact y_ireturn c211_119 (y_fit0 _) ⟨_, rfl, rfl, hF0, hM⟩
    · exfalso; omega
set_option maxRecDepth 100000 in
theorem t211a_0 {L : Nat} {xs : Nat → Int32} {d nn : Nat} {m : yM} {m0 : yM} (hT : Ty gT m) (hn : m 376 18 = 0) (hG : GQ 0 m) (hF0 : Fr wML m0 m) (h19 : m 376 19 = 1) {x1 : Option Value} : ∀ (k : Nat) (mi : yM), MR 0 mi = k → Ty gT mi → Fr wRn m mi → VX 0 mi → RN 0 mi → YW (gZ L xs) 211 (d + 6) 83 [some (.ref 376), x1] [] mi nn (qMd nn m0) := by
  intro k
  induction k using Nat.strongRecOn with
  | ind k ih =>
    intro mi hk hTi hFi hVi hRi
    have t7 := hTi.atp 376 57 0 4 rfl
    have t4 := hTi.atp 376 54 0 4 rfl
    have e18 : mi 376 18 = m 376 18 := hFi 376 18 rfl
    have hr1 := hRi.1
    have hr3 := hRi.2.2.1
    refine y_aload 84 c211_83 rfl rfl rfl ?_
    refine y_getX 87 (mi 376 57) c211_84 rfl kf376_57 rfl ?_
    refine y_if 104 90 c211_87 rfl rfl (yz_ne (by omega)) (fun hb14301 => ?_) (fun hb14301 => ?_)
    · exfalso; omega
    · refine y_aload 91 c211_90 rfl rfl rfl ?_
      refine y_getX 94 (mi 376 54) c211_91 rfl kf376_54 rfl ?_
      refine y_if 104 97 c211_94 rfl rfl (yz_le (by omega)) (fun hb14302 => ?_) (fun hb14302 => ?_)
      · exfalso; omega
      · refine y_aload 98 c211_97 rfl rfl rfl ?_
        refine y_callUB 101 [.ref 376] [] c211_98 rfl rfl rfl rfl rfl (ycanO km210 ko376) (t210_0 hTi (by omega) (hG.fr hT (by decide) (fun a q ha => hFi a q (wRn_G a q ha))) hVi hRi) (fun mq14303 nq14303 hq14303 => ?_)
        obtain ⟨rfl, hTq14303, hFq14303, hVq14303, hq14303⟩ := hq14303
        have hFn := hFi.tr hFq14303 (fun _ _ e => e)
        have hMn : MI mq14303 := ⟨hTq14303, Or.inr (Or.inl ⟨(hFn 376 18 rfl).trans hn, hG.fr hT (by decide) (fun a q ha => hFn a q (wRn_G a q ha))⟩)⟩
        refine y_goto 83 c211_101 rfl ?_
        rcases hq14303 with z | z | z
        · exact t211e_0 hTq14303 (hF0.tr hFn wRn_wML) hMn (Or.inl z)
        · exact t211e_0 hTq14303 (hF0.tr hFn wRn_wML) hMn (Or.inr z)
        · have tl := hTq14303.atp 376 55 0 124 rfl
          have hl := rk_lo (p := 0) (m := mq14303) (o := mq14303 376 55) (by omega)
          have t56 := hTq14303.atp 376 56 0 201 rfl
          have t54 := hTq14303.atp 376 54 0 4 rfl
          have hm0 : 0 ≤ MR 0 mq14303 := by unfold MR; omega
          exact ih (MR 0 mq14303).toNat (by omega) _ (by omega) hTq14303 hFn hVq14303 z.1
theorem wRo8_wRn : ∀ a q, (wRo 408) a q = true → wRn a q = true := by
  intro a q e; simp [wRo] at e; simp [wRn]; omega
set_option maxRecDepth 100000 in
theorem t211_0 {L : Nat} {xs : Nat → Int32} {d nn : Nat} {m : yM} (hT : Ty gT m) (hn : m 376 18 = 0) (hI : m 376 19 = 0 ∨ GQ 0 m) (hMI : MI m) : YC (gZ L xs) (d + 6) 211 [.ref 376] m nn (qMd nn m) := by
  have tb383 := hT.atp 383 0 0 6 rfl
  have tb384 := hT.atp 384 0 0 10 rfl
  have tb385 := hT.atp 385 0 0 8 rfl
  have tb386 := hT.atp 386 0 0 12 rfl
  have tb387 := hT.atp 387 0 0 8 rfl
  have tb388 := hT.atp 388 0 0 12 rfl
  have tb389 := hT.atp 389 0 0 48 rfl
  have tb390 := hT.atp 390 0 0 125 rfl
  have t19 := hT.atp 376 19 0 1 rfl
  refine YC.mkB [some (.ref 376), none] kn211 rfl rfl ?_
  have hF : Fr wRn m m := Fr.rf
  refine y_aload 1 c211_0 rfl rfl rfl ?_
  refine y_aload 2 c211_1 rfl rfl rfl ?_
  refine y_getX 5 (m 376 19) c211_2 rfl kf376_19 rfl ?_
  refine y_if 19 8 c211_5 rfl rfl (yz_eq (by omega)) (fun hb14304 => ?_) (fun hb14304 => ?_)
  · refine y_iconst 20 c211_19 rfl ?_
    refine y_inlB 23 [.ref 376, yI 0] [] [some (.ref 376), some (yI 0)] c211_20 rfl rfl rfl rfl rfl (ycanO km162 ko376) kn162 rfl rfl ?_
    refine y_aload 1 c162_0 rfl rfl rfl ?_
    refine y_aload 2 c162_1 rfl rfl rfl ?_
    refine y_getX 5 (m 376 19) c162_2 rfl kf376_19 rfl ?_
    refine y_top 0 (by omega) ?_
    refine y_if 16 8 c162_5 rfl rfl (yz_eq (by omega)) (fun hb14305 => ?_) (fun hb14305 => ?_)
    · refine y_iconst 17 c162_16 rfl ?_
      refine y_iconst 18 c162_17 rfl ?_
      refine y_inlB 21 [.ref 376, yI 0, yI 1] [] [some (.ref 376), some (yI 0), some (yI 1)] c162_18 rfl rfl rfl rfl rfl (ycanO km23 ko376) kn23 rfl rfl ?_
      refine y_aload 1 c23_0 rfl rfl rfl ?_
      refine y_iload 2 c23_1 rfl rfl ?_
      refine y_if 9 5 c23_2 rfl rfl (yz_eq (by omega)) (fun hb14306 => ?_) (fun hb14306 => ?_)
      · refine y_iload 10 c23_9 rfl rfl ?_
        refine y_putI 13 c23_10 rfl kf376_57 (y_fit0 _) ?_
        have hT14307 := hT.up 376 57 1 0 4 rfl (by omega)
        have hF14308 := hF.up 376 57 1 rfl
        refine y_iload 14 c23_13 rfl rfl ?_
        refine y_ireturnK c23_14 (y_fit1 (by omega)) ?_
        refine y_ireturnK c162_21 (y_fit1 (by omega)) ?_
        refine y_if 28 26 c211_23 rfl rfl (yz_ne (by omega)) (fun hb14309 => ?_) (fun hb14309 => ?_)
        · exfalso; omega
        · refine y_iconst 27 c211_26 rfl ?_
          exact y_ireturn c211_27 (y_fit0 _) ⟨_, rfl, rfl, Fr.rf.tr hF14308 wRn_wML, hMI.fr hT14307 (fun a q ha => (yup_ne (by rintro ⟨rfl, rfl⟩; simp [vGq] at ha)))⟩
      · exfalso; omega
    · exfalso; omega
  · have hG := hI.resolve_left (by omega)
    have g83 := hG.2.2.2.2.2.2.2.2.2.1
    have g88 := hG.2.2.2.2.2.2.2.2.1
    have g90 : m 390 0 ≤ 100 := hG.2.2.2.2.2.2.2.2.2.2.1
    refine y_aload 9 c211_8 rfl rfl rfl ?_
    have tb14311 := hT.atp 376 18 0 1 rfl
    have hUc := hG.2.2.2.2.1
    refine y_callP 12 [.ref 376] [.ref 376] c211_9 rfl rfl rfl rfl rfl (ycanO km143 ko376) (t143x_0 hT (by omega) hUc (by omega)) (fun r14310 hr14310 => ?_)
    have gr14310 : -1 ≤ r14310 ∧ r14310 < m 384 0 := by
      rcases hr14310 with z | z
      · exact ⟨by have := z.1.1; omega, z.1.2.1⟩
      · omega
    have hs1 : 0 ≤ r14310 → SG 0 m r14310 := fun h0 => hr14310.resolve_right (by rintro ⟨h1, -⟩; omega)
    refine y_if 19 15 c211_12 rfl rfl (yz_lt (by omega)) (fun hb14312 => ?_) (fun hb14312 => ?_)
    · refine y_iconst 20 c211_19 rfl ?_
      refine y_inlB 23 [.ref 376, yI 0] [] [some (.ref 376), some (yI 0)] c211_20 rfl rfl rfl rfl rfl (ycanO km162 ko376) kn162 rfl rfl ?_
      refine y_aload 1 c162_0 rfl rfl rfl ?_
      refine y_aload 2 c162_1 rfl rfl rfl ?_
      refine y_getX 5 (m 376 19) c162_2 rfl kf376_19 rfl ?_
      refine y_top 1 (by omega) ?_
      refine y_if 16 8 c162_5 rfl rfl (yz_eq (by omega)) (fun hb14313 => ?_) (fun hb14313 => ?_)
      · exfalso; omega
      · refine y_iload 9 c162_8 rfl rfl ?_
        refine y_if 16 12 c162_9 rfl rfl (yz_eq (by omega)) (fun hb14314 => ?_) (fun hb14314 => ?_)
        · refine y_iconst 17 c162_16 rfl ?_
          refine y_iconst 18 c162_17 rfl ?_
          refine y_inlB 21 [.ref 376, yI 0, yI 1] [] [some (.ref 376), some (yI 0), some (yI 1)] c162_18 rfl rfl rfl rfl rfl (ycanO km23 ko376) kn23 rfl rfl ?_
          refine y_aload 1 c23_0 rfl rfl rfl ?_
          refine y_iload 2 c23_1 rfl rfl ?_
          refine y_if 9 5 c23_2 rfl rfl (yz_eq (by omega)) (fun hb14315 => ?_) (fun hb14315 => ?_)
          · refine y_iload 10 c23_9 rfl rfl ?_
            refine y_putI 13 c23_10 rfl kf376_57 (y_fit0 _) ?_
            have hT14316 := hT.up 376 57 1 0 4 rfl (by omega)
            have hF14317 := hF.up 376 57 1 rfl
            refine y_iload 14 c23_13 rfl rfl ?_
            refine y_ireturnK c23_14 (y_fit1 (by omega)) ?_
            refine y_ireturnK c162_21 (y_fit1 (by omega)) ?_
            refine y_if 28 26 c211_23 rfl rfl (yz_ne (by omega)) (fun hb14318 => ?_) (fun hb14318 => ?_)
            · exfalso; omega
            · refine y_iconst 27 c211_26 rfl ?_
              exact y_ireturn c211_27 (y_fit0 _) ⟨_, rfl, rfl, Fr.rf.tr hF14317 wRn_wML, hMI.fr hT14316 (fun a q ha => (yup_ne (by rintro ⟨rfl, rfl⟩; simp [vGq] at ha)))⟩
          · exfalso; omega
        · exfalso; omega
    · refine y_iconst 16 c211_15 rfl ?_
      refine y_goto 20 c211_16 rfl ?_
      refine y_inlB 23 [.ref 376, yI 1] [] [some (.ref 376), some (yI 1)] c211_20 rfl rfl rfl rfl rfl (ycanO km162 ko376) kn162 rfl rfl ?_
      refine y_aload 1 c162_0 rfl rfl rfl ?_
      refine y_aload 2 c162_1 rfl rfl rfl ?_
      refine y_getX 5 (m 376 19) c162_2 rfl kf376_19 rfl ?_
      refine y_top 1 (by omega) ?_
      refine y_if 16 8 c162_5 rfl rfl (yz_eq (by omega)) (fun hb14319 => ?_) (fun hb14319 => ?_)
      · exfalso; omega
      · refine y_iload 9 c162_8 rfl rfl ?_
        refine y_if 16 12 c162_9 rfl rfl (yz_eq (by omega)) (fun hb14320 => ?_) (fun hb14320 => ?_)
        · exfalso; omega
        · refine y_iconst 13 c162_12 rfl ?_
          refine y_goto 17 c162_13 rfl ?_
          refine y_iconst 18 c162_17 rfl ?_
          refine y_inlB 21 [.ref 376, yI 1, yI 1] [] [some (.ref 376), some (yI 1), some (yI 1)] c162_18 rfl rfl rfl rfl rfl (ycanO km23 ko376) kn23 rfl rfl ?_
          refine y_aload 1 c23_0 rfl rfl rfl ?_
          refine y_iload 2 c23_1 rfl rfl ?_
          refine y_if 9 5 c23_2 rfl rfl (yz_eq (by omega)) (fun hb14321 => ?_) (fun hb14321 => ?_)
          · exfalso; omega
          · refine y_iconst 6 c23_5 rfl ?_
            refine y_goto 10 c23_6 rfl ?_
            refine y_putI 13 c23_10 rfl kf376_57 (y_fit0 _) ?_
            have hT14322 := hT.up 376 57 0 0 4 rfl (by omega)
            have hF14323 := hF.up 376 57 0 rfl
            refine y_iload 14 c23_13 rfl rfl ?_
            refine y_ireturnK c23_14 (y_fit1 (by omega)) ?_
            refine y_ireturnK c162_21 (y_fit1 (by omega)) ?_
            refine y_if 28 26 c211_23 rfl rfl (yz_ne (by omega)) (fun hb14324 => ?_) (fun hb14324 => ?_)
            · refine y_iconst 29 c211_28 rfl ?_
              refine y_istore 30 c211_29 rfl rfl ?_
              refine t211s hT14322 (fun z1 mz hTmz hFmz => ?_) 576 0 _ (by omega) (by omega) hT14322 Fr.rf
              have hF14325 := hF14323.tr hFmz wRo8_wRn
              refine y_aload 51 c211_50 rfl rfl rfl ?_
              refine y_iconst 52 c211_51 rfl ?_
              refine y_putI 55 c211_52 rfl kf376_51 (y_fit0 _) ?_
              have hT14326 := hTmz.up 376 51 0 0 30 rfl (by omega)
              have hF14327 := hF14325.up 376 51 0 rfl
              refine y_aload 56 c211_55 rfl rfl rfl ?_
              refine y_iconst 57 c211_56 rfl ?_
              refine y_putI 60 c211_57 rfl kf376_54 (y_fit0 _) ?_
              have hT14328 := hT14326.up 376 54 0 0 4 rfl (by omega)
              have hF14329 := hF14327.up 376 54 0 rfl
              refine y_aload 61 c211_60 rfl rfl rfl ?_
              refine y_iconst 62 c211_61 rfl ?_
              refine y_putI 65 c211_62 rfl kf376_56 (y_fit0 _) ?_
              have hT14330 := hT14328.up 376 56 0 0 201 rfl (by omega)
              have hF14331 := hF14329.up 376 56 0 rfl
              have es14332 : (yup (yup (yup mz 376 51 0) 376 54 0) 376 56 0) 376 51 = 0 := rfl
              have es14333 : (yup (yup (yup mz 376 51 0) 376 54 0) 376 56 0) 376 54 = 0 := rfl
              have hV0 : VX 0 (yup (yup (yup mz 376 51 0) 376 54 0) 376 56 0) := ⟨fun q hq => by omega, fun q hq => by omega, fun q hq => by omega⟩
              obtain ⟨ms, hms⟩ : ∃ ms : yM, ms = yup (yup (yup mz 376 51 0) 376 54 0) 376 56 0 := ⟨_, rfl⟩
              have hTs : Ty gT ms := hms ▸ hT14330
              have hFs : Fr wRn m ms := hms ▸ hF14331
              have hVs : VX 0 ms := hms ▸ hV0
              have es51 : ms 376 51 = 0 := by rw [hms]; first | rfl | exact rfl
              have es54 : ms 376 54 = 0 := by rw [hms]; first | rfl | exact rfl
              have es56 : ms 376 56 = 0 := by rw [hms]; first | rfl | exact rfl
              have es57 : ms 376 57 = 0 := by rw [hms]; exact ((yup_nk (by decide)).trans ((yup_nk (by decide)).trans ((yup_nk (by decide)).trans ((hFmz 376 57 rfl).trans (yup_eq _ _ _ _)))))
              rw [← hms]
              refine y_aload 66 c211_65 rfl rfl rfl ?_
              refine y_iconst 67 c211_66 rfl ?_
              have tb14335 := hTs.atp 376 51 0 30 rfl
              have tb14336 := hTs.atp 376 54 0 4 rfl
              have es14337 : ms 376 18 = m 376 18 := (hFs 376 18 rfl)
              have es14338 : ms 388 0 = m 388 0 := (hFs 388 0 rfl)
              have tb14339 := hTs.atp 376 57 0 4 rfl
              have hVc : VX 0 ms := hVs
              refine y_callIB 70 [.ref 376, yI 0] [] c211_67 rfl rfl rfl rfl rfl (ycanO km201 ko376) (t201_0 hTs hVc (by omega)) (fun rq14334 mq14334 nq14334 hq14334 => ?_)
              obtain ⟨rfl, hTq14334, hFq14334, hq14334, hcq14334, hVq14334⟩ := hq14334
              have hF14340 := hFs.tr hFq14334 wMk_wRn
              refine y_istore 71 c211_70 rfl rfl ?_
              refine y_aload 72 c211_71 rfl rfl rfl ?_
              refine y_aload 73 c211_72 rfl rfl rfl ?_
              have es14342 : mq14334 376 18 = m 376 18 := ((hFq14334 376 18 rfl).trans (hFs 376 18 rfl))
              have es14343 : mq14334 383 0 = m 383 0 := ((hFq14334 383 0 rfl).trans (hFs 383 0 rfl))
              have es14344 : mq14334 384 0 = m 384 0 := ((hFq14334 384 0 rfl).trans (hFs 384 0 rfl))
              have hUc : UX 0 mq14334 (mq14334 383 0) := by rw [show mq14334 383 0 = m 383 0 from ((hFq14334 383 0 rfl).trans (hFs 383 0 rfl))]; exact hG.2.2.2.2.1.fr (fun q => ((hFq14334 392 q rfl).trans (hFs 392 q rfl)))
              refine y_callP 76 [.ref 376] [.ref 376] c211_73 rfl rfl rfl rfl rfl (ycanO km143 ko376) (t143x_0 hTq14334 (by omega) hUc (by omega)) (fun r14341 hr14341 => ?_)
              have gr14341 : -1 ≤ r14341 ∧ r14341 < mq14334 384 0 := by
                rcases hr14341 with z | z
                · exact ⟨by have := z.1.1; omega, z.1.2.1⟩
                · omega
              have hs2 : SG 0 mq14334 r14310 := (hs1 (by omega)).fr (((hFq14334 384 0 rfl).trans (hFs 384 0 rfl))) (fun q => ((hFq14334 395 q rfl).trans (hFs 395 q rfl))) (fun q => ((hFq14334 396 q rfl).trans (hFs 396 q rfl))) (fun q => ((hFq14334 397 q rfl).trans (hFs 397 q rfl)))
              have hs3 : SG 0 mq14334 r14341 := hr14341.resolve_right (fun h1 => h1.2 _ hs2)
              have hs4 := hs3.1.1
              have hs5 := hs3.1.2.1
              refine y_iload 77 c211_76 rfl rfl ?_
              refine y_iconst 78 c211_77 rfl ?_
              refine y_iconst 79 c211_78 rfl ?_
              refine y_iconst 80 c211_79 rfl ?_
              have tb14346 := hTq14334.atp 376 51 0 30 rfl
              have es14347 : mq14334 376 54 = ms 376 54 := (hFq14334 376 54 rfl)
              have es14348 : mq14334 376 18 = m 376 18 := ((hFq14334 376 18 rfl).trans (hFs 376 18 rfl))
              have es14349 : mq14334 384 0 = m 384 0 := ((hFq14334 384 0 rfl).trans (hFs 384 0 rfl))
              have es14350 : mq14334 390 0 = m 390 0 := ((hFq14334 390 0 rfl).trans (hFs 390 0 rfl))
              have tb14351 := hTq14334.atp 376 57 0 4 rfl
              have es14352 : mq14334 376 55 = ms 376 55 := (hFq14334 376 55 rfl)
              have tb14353 := hTs.atp 376 55 0 124 rfl
              have es14354 : mq14334 376 56 = ms 376 56 := (hFq14334 376 56 rfl)
              have tb14355 := hTs.atp 376 56 0 201 rfl
              have hVc : VX 0 mq14334 := hVq14334
              refine y_callUB 83 [.ref 376, yI r14341, yI rq14334, yI 0, yI 0, yI 0] [] c211_80 rfl rfl rfl rfl rfl (ycanO km203 ko376) (t203_0 hTq14334 (by omega) (hG.fr hT (by decide) (fun a q ha => hF14340 a q (wRn_G a q ha))) hVc (by omega) (by omega) (by omega) (by omega) (by omega)) (fun mq14345 nq14345 hq14345 => ?_)
              obtain ⟨rfl, hTq14345, hFq14345, hVq14345, hq14345, hqq14345⟩ := hq14345
              have hF14356 := hF14340.tr hFq14345 wEn_wRn
              have tb14357 := hTq14345.atp 376 54 0 4 rfl
              have tb14358 := hTq14345.atp 376 55 0 124 rfl
              have es14359 : mq14345 376 56 = ms 376 56 := ((hFq14345 376 56 rfl).trans (hFq14334 376 56 rfl))
              have tb14360 := hTq14345.atp 376 57 0 4 rfl
              have es14361 : mq14345 390 0 = m 390 0 := ((hFq14345 390 0 rfl).trans ((hFq14334 390 0 rfl).trans (hFs 390 0 rfl)))
              have hMn : MI mq14345 := ⟨hTq14345, Or.inr (Or.inl ⟨(hF14356 376 18 rfl).trans hn, hG.fr hT (by decide) (fun a q ha => hF14356 a q (wRn_G a q ha))⟩)⟩
              have tc := hTq14345.atp 376 57 0 4 rfl
              by_cases hz : mq14345 376 57 = 0
              · have hR : RN 0 mq14345 := ⟨by omega, by omega, hz, by omega, fun f h1 h2 => by omega⟩
                have tl := hTq14345.atp 376 55 0 124 rfl
                have hl := rk_lo (p := 0) (m := mq14345) (o := mq14345 376 55) (by omega)
                have t56 := hTq14345.atp 376 56 0 201 rfl
                have t54 := hTq14345.atp 376 54 0 4 rfl
                have hm0 : 0 ≤ MR 0 mq14345 := by unfold MR; omega
                exact t211a_0 hT hn hG Fr.rf (by omega) (MR 0 mq14345).toNat _ (by omega) hTq14345 hF14356 hVq14345 hR
              · exact t211e_0 hTq14345 (Fr.rf.tr hF14356 wRn_wML) hMn (Or.inl hz)
            · exfalso; omega
set_option maxRecDepth 100000 in
theorem t211a_1 {L : Nat} {xs : Nat → Int32} {d nn : Nat} {m : yM} {m0 : yM} (hT : Ty gT m) (hn : m 376 18 = 1) (hG : GQ 1 m) (hF0 : Fr wML m0 m) (h19 : m 376 19 = 1) {x1 : Option Value} : ∀ (k : Nat) (mi : yM), MR 1 mi = k → Ty gT mi → Fr wRn m mi → VX 1 mi → RN 1 mi → YW (gZ L xs) 211 (d + 6) 83 [some (.ref 376), x1] [] mi nn (qMd nn m0) := by
  intro k
  induction k using Nat.strongRecOn with
  | ind k ih =>
    intro mi hk hTi hFi hVi hRi
    have t7 := hTi.atp 376 57 0 4 rfl
    have t4 := hTi.atp 376 54 0 4 rfl
    have e18 : mi 376 18 = m 376 18 := hFi 376 18 rfl
    have hr1 := hRi.1
    have hr3 := hRi.2.2.1
    refine y_aload 84 c211_83 rfl rfl rfl ?_
    refine y_getX 87 (mi 376 57) c211_84 rfl kf376_57 rfl ?_
    refine y_if 104 90 c211_87 rfl rfl (yz_ne (by omega)) (fun hb14382 => ?_) (fun hb14382 => ?_)
    · exfalso; omega
    · refine y_aload 91 c211_90 rfl rfl rfl ?_
      refine y_getX 94 (mi 376 54) c211_91 rfl kf376_54 rfl ?_
      refine y_if 104 97 c211_94 rfl rfl (yz_le (by omega)) (fun hb14383 => ?_) (fun hb14383 => ?_)
      · exfalso; omega
      · refine y_aload 98 c211_97 rfl rfl rfl ?_
        refine y_callUB 101 [.ref 376] [] c211_98 rfl rfl rfl rfl rfl (ycanO km210 ko376) (t210_1 hTi (by omega) (hG.fr hT (by decide) (fun a q ha => hFi a q (wRn_G a q ha))) hVi hRi) (fun mq14384 nq14384 hq14384 => ?_)
        obtain ⟨rfl, hTq14384, hFq14384, hVq14384, hq14384⟩ := hq14384
        have hFn := hFi.tr hFq14384 (fun _ _ e => e)
        have hMn : MI mq14384 := ⟨hTq14384, Or.inr (Or.inr ⟨(hFn 376 18 rfl).trans hn, hG.fr hT (by decide) (fun a q ha => hFn a q (wRn_G a q ha))⟩)⟩
        refine y_goto 83 c211_101 rfl ?_
        rcases hq14384 with z | z | z
        · exact t211e_0 hTq14384 (hF0.tr hFn wRn_wML) hMn (Or.inl z)
        · exact t211e_0 hTq14384 (hF0.tr hFn wRn_wML) hMn (Or.inr z)
        · have tl := hTq14384.atp 376 55 0 124 rfl
          have hl := rk_lo (p := 1) (m := mq14384) (o := mq14384 376 55) (by omega)
          have t56 := hTq14384.atp 376 56 0 201 rfl
          have t54 := hTq14384.atp 376 54 0 4 rfl
          have hm0 : 0 ≤ MR 1 mq14384 := by unfold MR; omega
          exact ih (MR 1 mq14384).toNat (by omega) _ (by omega) hTq14384 hFn hVq14384 z.1
set_option maxRecDepth 100000 in
theorem t211_1 {L : Nat} {xs : Nat → Int32} {d nn : Nat} {m : yM} (hT : Ty gT m) (hn : m 376 18 = 1) (hI : m 376 19 = 0 ∨ GQ 1 m) (hMI : MI m) : YC (gZ L xs) (d + 6) 211 [.ref 376] m nn (qMd nn m) := by
  have tb383 := hT.atp 383 1 0 6 rfl
  have tb384 := hT.atp 384 1 0 10 rfl
  have tb385 := hT.atp 385 1 0 8 rfl
  have tb386 := hT.atp 386 1 0 12 rfl
  have tb387 := hT.atp 387 1 0 8 rfl
  have tb388 := hT.atp 388 1 0 12 rfl
  have tb389 := hT.atp 389 1 0 48 rfl
  have tb390 := hT.atp 390 1 0 125 rfl
  have t19 := hT.atp 376 19 0 1 rfl
  refine YC.mkB [some (.ref 376), none] kn211 rfl rfl ?_
  have hF : Fr wRn m m := Fr.rf
  refine y_aload 1 c211_0 rfl rfl rfl ?_
  refine y_aload 2 c211_1 rfl rfl rfl ?_
  refine y_getX 5 (m 376 19) c211_2 rfl kf376_19 rfl ?_
  refine y_if 19 8 c211_5 rfl rfl (yz_eq (by omega)) (fun hb14385 => ?_) (fun hb14385 => ?_)
  · refine y_iconst 20 c211_19 rfl ?_
    refine y_inlB 23 [.ref 376, yI 0] [] [some (.ref 376), some (yI 0)] c211_20 rfl rfl rfl rfl rfl (ycanO km162 ko376) kn162 rfl rfl ?_
    refine y_aload 1 c162_0 rfl rfl rfl ?_
    refine y_aload 2 c162_1 rfl rfl rfl ?_
    refine y_getX 5 (m 376 19) c162_2 rfl kf376_19 rfl ?_
    refine y_top 0 (by omega) ?_
    refine y_if 16 8 c162_5 rfl rfl (yz_eq (by omega)) (fun hb14386 => ?_) (fun hb14386 => ?_)
    · refine y_iconst 17 c162_16 rfl ?_
      refine y_iconst 18 c162_17 rfl ?_
      refine y_inlB 21 [.ref 376, yI 0, yI 1] [] [some (.ref 376), some (yI 0), some (yI 1)] c162_18 rfl rfl rfl rfl rfl (ycanO km23 ko376) kn23 rfl rfl ?_
      refine y_aload 1 c23_0 rfl rfl rfl ?_
      refine y_iload 2 c23_1 rfl rfl ?_
      refine y_if 9 5 c23_2 rfl rfl (yz_eq (by omega)) (fun hb14387 => ?_) (fun hb14387 => ?_)
      · refine y_iload 10 c23_9 rfl rfl ?_
        refine y_putI 13 c23_10 rfl kf376_57 (y_fit0 _) ?_
        have hT14388 := hT.up 376 57 1 0 4 rfl (by omega)
        have hF14389 := hF.up 376 57 1 rfl
        refine y_iload 14 c23_13 rfl rfl ?_
        refine y_ireturnK c23_14 (y_fit1 (by omega)) ?_
        refine y_ireturnK c162_21 (y_fit1 (by omega)) ?_
        refine y_if 28 26 c211_23 rfl rfl (yz_ne (by omega)) (fun hb14390 => ?_) (fun hb14390 => ?_)
        · exfalso; omega
        · refine y_iconst 27 c211_26 rfl ?_
          exact y_ireturn c211_27 (y_fit0 _) ⟨_, rfl, rfl, Fr.rf.tr hF14389 wRn_wML, hMI.fr hT14388 (fun a q ha => (yup_ne (by rintro ⟨rfl, rfl⟩; simp [vGq] at ha)))⟩
      · exfalso; omega
    · exfalso; omega
  · have hG := hI.resolve_left (by omega)
    have g83 := hG.2.2.2.2.2.2.2.2.2.1
    have g88 := hG.2.2.2.2.2.2.2.2.1
    have g90 : m 390 1 ≤ 100 := hG.2.2.2.2.2.2.2.2.2.2.1
    refine y_aload 9 c211_8 rfl rfl rfl ?_
    have tb14392 := hT.atp 376 18 0 1 rfl
    have hUc := hG.2.2.2.2.1
    refine y_callP 12 [.ref 376] [.ref 376] c211_9 rfl rfl rfl rfl rfl (ycanO km143 ko376) (t143x_1 hT (by omega) hUc (by omega)) (fun r14391 hr14391 => ?_)
    have gr14391 : -1 ≤ r14391 ∧ r14391 < m 384 1 := by
      rcases hr14391 with z | z
      · exact ⟨by have := z.1.1; omega, z.1.2.1⟩
      · omega
    have hs1 : 0 ≤ r14391 → SG 1 m r14391 := fun h0 => hr14391.resolve_right (by rintro ⟨h1, -⟩; omega)
    refine y_if 19 15 c211_12 rfl rfl (yz_lt (by omega)) (fun hb14393 => ?_) (fun hb14393 => ?_)
    · refine y_iconst 20 c211_19 rfl ?_
      refine y_inlB 23 [.ref 376, yI 0] [] [some (.ref 376), some (yI 0)] c211_20 rfl rfl rfl rfl rfl (ycanO km162 ko376) kn162 rfl rfl ?_
      refine y_aload 1 c162_0 rfl rfl rfl ?_
      refine y_aload 2 c162_1 rfl rfl rfl ?_
      refine y_getX 5 (m 376 19) c162_2 rfl kf376_19 rfl ?_
      refine y_top 1 (by omega) ?_
      refine y_if 16 8 c162_5 rfl rfl (yz_eq (by omega)) (fun hb14394 => ?_) (fun hb14394 => ?_)
      · exfalso; omega
      · refine y_iload 9 c162_8 rfl rfl ?_
        refine y_if 16 12 c162_9 rfl rfl (yz_eq (by omega)) (fun hb14395 => ?_) (fun hb14395 => ?_)
        · refine y_iconst 17 c162_16 rfl ?_
          refine y_iconst 18 c162_17 rfl ?_
          refine y_inlB 21 [.ref 376, yI 0, yI 1] [] [some (.ref 376), some (yI 0), some (yI 1)] c162_18 rfl rfl rfl rfl rfl (ycanO km23 ko376) kn23 rfl rfl ?_
          refine y_aload 1 c23_0 rfl rfl rfl ?_
          refine y_iload 2 c23_1 rfl rfl ?_
          refine y_if 9 5 c23_2 rfl rfl (yz_eq (by omega)) (fun hb14396 => ?_) (fun hb14396 => ?_)
          · refine y_iload 10 c23_9 rfl rfl ?_
            refine y_putI 13 c23_10 rfl kf376_57 (y_fit0 _) ?_
            have hT14397 := hT.up 376 57 1 0 4 rfl (by omega)
            have hF14398 := hF.up 376 57 1 rfl
            refine y_iload 14 c23_13 rfl rfl ?_
            refine y_ireturnK c23_14 (y_fit1 (by omega)) ?_
            refine y_ireturnK c162_21 (y_fit1 (by omega)) ?_
            refine y_if 28 26 c211_23 rfl rfl (yz_ne (by omega)) (fun hb14399 => ?_) (fun hb14399 => ?_)
            · exfalso; omega
            · refine y_iconst 27 c211_26 rfl ?_
              exact y_ireturn c211_27 (y_fit0 _) ⟨_, rfl, rfl, Fr.rf.tr hF14398 wRn_wML, hMI.fr hT14397 (fun a q ha => (yup_ne (by rintro ⟨rfl, rfl⟩; simp [vGq] at ha)))⟩
          · exfalso; omega
        · exfalso; omega
    · refine y_iconst 16 c211_15 rfl ?_
      refine y_goto 20 c211_16 rfl ?_
      refine y_inlB 23 [.ref 376, yI 1] [] [some (.ref 376), some (yI 1)] c211_20 rfl rfl rfl rfl rfl (ycanO km162 ko376) kn162 rfl rfl ?_
      refine y_aload 1 c162_0 rfl rfl rfl ?_
      refine y_aload 2 c162_1 rfl rfl rfl ?_
      refine y_getX 5 (m 376 19) c162_2 rfl kf376_19 rfl ?_
      refine y_top 1 (by omega) ?_
      refine y_if 16 8 c162_5 rfl rfl (yz_eq (by omega)) (fun hb14400 => ?_) (fun hb14400 => ?_)
      · exfalso; omega
      · refine y_iload 9 c162_8 rfl rfl ?_
        refine y_if 16 12 c162_9 rfl rfl (yz_eq (by omega)) (fun hb14401 => ?_) (fun hb14401 => ?_)
        · exfalso; omega
        · refine y_iconst 13 c162_12 rfl ?_
          refine y_goto 17 c162_13 rfl ?_
          refine y_iconst 18 c162_17 rfl ?_
          refine y_inlB 21 [.ref 376, yI 1, yI 1] [] [some (.ref 376), some (yI 1), some (yI 1)] c162_18 rfl rfl rfl rfl rfl (ycanO km23 ko376) kn23 rfl rfl ?_
          refine y_aload 1 c23_0 rfl rfl rfl ?_
          refine y_iload 2 c23_1 rfl rfl ?_
          refine y_if 9 5 c23_2 rfl rfl (yz_eq (by omega)) (fun hb14402 => ?_) (fun hb14402 => ?_)
          · exfalso; omega
          · refine y_iconst 6 c23_5 rfl ?_
            refine y_goto 10 c23_6 rfl ?_
            refine y_putI 13 c23_10 rfl kf376_57 (y_fit0 _) ?_
            have hT14403 := hT.up 376 57 0 0 4 rfl (by omega)
            have hF14404 := hF.up 376 57 0 rfl
            refine y_iload 14 c23_13 rfl rfl ?_
            refine y_ireturnK c23_14 (y_fit1 (by omega)) ?_
            refine y_ireturnK c162_21 (y_fit1 (by omega)) ?_
            refine y_if 28 26 c211_23 rfl rfl (yz_ne (by omega)) (fun hb14405 => ?_) (fun hb14405 => ?_)
            · refine y_iconst 29 c211_28 rfl ?_
              refine y_istore 30 c211_29 rfl rfl ?_
              refine t211s hT14403 (fun z1 mz hTmz hFmz => ?_) 576 0 _ (by omega) (by omega) hT14403 Fr.rf
              have hF14406 := hF14404.tr hFmz wRo8_wRn
              refine y_aload 51 c211_50 rfl rfl rfl ?_
              refine y_iconst 52 c211_51 rfl ?_
              refine y_putI 55 c211_52 rfl kf376_51 (y_fit0 _) ?_
              have hT14407 := hTmz.up 376 51 0 0 30 rfl (by omega)
              have hF14408 := hF14406.up 376 51 0 rfl
              refine y_aload 56 c211_55 rfl rfl rfl ?_
              refine y_iconst 57 c211_56 rfl ?_
              refine y_putI 60 c211_57 rfl kf376_54 (y_fit0 _) ?_
              have hT14409 := hT14407.up 376 54 0 0 4 rfl (by omega)
              have hF14410 := hF14408.up 376 54 0 rfl
              refine y_aload 61 c211_60 rfl rfl rfl ?_
              refine y_iconst 62 c211_61 rfl ?_
              refine y_putI 65 c211_62 rfl kf376_56 (y_fit0 _) ?_
              have hT14411 := hT14409.up 376 56 0 0 201 rfl (by omega)
              have hF14412 := hF14410.up 376 56 0 rfl
              have es14413 : (yup (yup (yup mz 376 51 0) 376 54 0) 376 56 0) 376 51 = 0 := rfl
              have es14414 : (yup (yup (yup mz 376 51 0) 376 54 0) 376 56 0) 376 54 = 0 := rfl
              have hV0 : VX 1 (yup (yup (yup mz 376 51 0) 376 54 0) 376 56 0) := ⟨fun q hq => by omega, fun q hq => by omega, fun q hq => by omega⟩
              obtain ⟨ms, hms⟩ : ∃ ms : yM, ms = yup (yup (yup mz 376 51 0) 376 54 0) 376 56 0 := ⟨_, rfl⟩
              have hTs : Ty gT ms := hms ▸ hT14411
              have hFs : Fr wRn m ms := hms ▸ hF14412
              have hVs : VX 1 ms := hms ▸ hV0
              have es51 : ms 376 51 = 0 := by rw [hms]; first | rfl | exact rfl
              have es54 : ms 376 54 = 0 := by rw [hms]; first | rfl | exact rfl
              have es56 : ms 376 56 = 0 := by rw [hms]; first | rfl | exact rfl
              have es57 : ms 376 57 = 0 := by rw [hms]; exact ((yup_nk (by decide)).trans ((yup_nk (by decide)).trans ((yup_nk (by decide)).trans ((hFmz 376 57 rfl).trans (yup_eq _ _ _ _)))))
              rw [← hms]
              refine y_aload 66 c211_65 rfl rfl rfl ?_
              refine y_iconst 67 c211_66 rfl ?_
              have tb14416 := hTs.atp 376 51 0 30 rfl
              have tb14417 := hTs.atp 376 54 0 4 rfl
              have es14418 : ms 376 18 = m 376 18 := (hFs 376 18 rfl)
              have es14419 : ms 388 1 = m 388 1 := (hFs 388 1 rfl)
              have tb14420 := hTs.atp 376 57 0 4 rfl
              have hVc : VX 1 ms := hVs
              refine y_callIB 70 [.ref 376, yI 0] [] c211_67 rfl rfl rfl rfl rfl (ycanO km201 ko376) (t201_1 hTs hVc (by omega)) (fun rq14415 mq14415 nq14415 hq14415 => ?_)
              obtain ⟨rfl, hTq14415, hFq14415, hq14415, hcq14415, hVq14415⟩ := hq14415
              have hF14421 := hFs.tr hFq14415 wMk_wRn
              refine y_istore 71 c211_70 rfl rfl ?_
              refine y_aload 72 c211_71 rfl rfl rfl ?_
              refine y_aload 73 c211_72 rfl rfl rfl ?_
              have es14423 : mq14415 376 18 = m 376 18 := ((hFq14415 376 18 rfl).trans (hFs 376 18 rfl))
              have es14424 : mq14415 383 1 = m 383 1 := ((hFq14415 383 1 rfl).trans (hFs 383 1 rfl))
              have es14425 : mq14415 384 1 = m 384 1 := ((hFq14415 384 1 rfl).trans (hFs 384 1 rfl))
              have hUc : UX 1 mq14415 (mq14415 383 1) := by rw [show mq14415 383 1 = m 383 1 from ((hFq14415 383 1 rfl).trans (hFs 383 1 rfl))]; exact hG.2.2.2.2.1.fr (fun q => ((hFq14415 392 q rfl).trans (hFs 392 q rfl)))
              refine y_callP 76 [.ref 376] [.ref 376] c211_73 rfl rfl rfl rfl rfl (ycanO km143 ko376) (t143x_1 hTq14415 (by omega) hUc (by omega)) (fun r14422 hr14422 => ?_)
              have gr14422 : -1 ≤ r14422 ∧ r14422 < mq14415 384 1 := by
                rcases hr14422 with z | z
                · exact ⟨by have := z.1.1; omega, z.1.2.1⟩
                · omega
              have hs2 : SG 1 mq14415 r14391 := (hs1 (by omega)).fr (((hFq14415 384 1 rfl).trans (hFs 384 1 rfl))) (fun q => ((hFq14415 395 q rfl).trans (hFs 395 q rfl))) (fun q => ((hFq14415 396 q rfl).trans (hFs 396 q rfl))) (fun q => ((hFq14415 397 q rfl).trans (hFs 397 q rfl)))
              have hs3 : SG 1 mq14415 r14422 := hr14422.resolve_right (fun h1 => h1.2 _ hs2)
              have hs4 := hs3.1.1
              have hs5 := hs3.1.2.1
              refine y_iload 77 c211_76 rfl rfl ?_
              refine y_iconst 78 c211_77 rfl ?_
              refine y_iconst 79 c211_78 rfl ?_
              refine y_iconst 80 c211_79 rfl ?_
              have tb14427 := hTq14415.atp 376 51 0 30 rfl
              have es14428 : mq14415 376 54 = ms 376 54 := (hFq14415 376 54 rfl)
              have es14429 : mq14415 376 18 = m 376 18 := ((hFq14415 376 18 rfl).trans (hFs 376 18 rfl))
              have es14430 : mq14415 384 1 = m 384 1 := ((hFq14415 384 1 rfl).trans (hFs 384 1 rfl))
              have es14431 : mq14415 390 1 = m 390 1 := ((hFq14415 390 1 rfl).trans (hFs 390 1 rfl))
              have tb14432 := hTq14415.atp 376 57 0 4 rfl
              have es14433 : mq14415 376 55 = ms 376 55 := (hFq14415 376 55 rfl)
              have tb14434 := hTs.atp 376 55 0 124 rfl
              have es14435 : mq14415 376 56 = ms 376 56 := (hFq14415 376 56 rfl)
              have tb14436 := hTs.atp 376 56 0 201 rfl
              have hVc : VX 1 mq14415 := hVq14415
              refine y_callUB 83 [.ref 376, yI r14422, yI rq14415, yI 0, yI 0, yI 0] [] c211_80 rfl rfl rfl rfl rfl (ycanO km203 ko376) (t203_1 hTq14415 (by omega) (hG.fr hT (by decide) (fun a q ha => hF14421 a q (wRn_G a q ha))) hVc (by omega) (by omega) (by omega) (by omega) (by omega)) (fun mq14426 nq14426 hq14426 => ?_)
              obtain ⟨rfl, hTq14426, hFq14426, hVq14426, hq14426, hqq14426⟩ := hq14426
              have hF14437 := hF14421.tr hFq14426 wEn_wRn
              have tb14438 := hTq14426.atp 376 54 0 4 rfl
              have tb14439 := hTq14426.atp 376 55 0 124 rfl
              have es14440 : mq14426 376 56 = ms 376 56 := ((hFq14426 376 56 rfl).trans (hFq14415 376 56 rfl))
              have tb14441 := hTq14426.atp 376 57 0 4 rfl
              have es14442 : mq14426 390 1 = m 390 1 := ((hFq14426 390 1 rfl).trans ((hFq14415 390 1 rfl).trans (hFs 390 1 rfl)))
              have hMn : MI mq14426 := ⟨hTq14426, Or.inr (Or.inr ⟨(hF14437 376 18 rfl).trans hn, hG.fr hT (by decide) (fun a q ha => hF14437 a q (wRn_G a q ha))⟩)⟩
              have tc := hTq14426.atp 376 57 0 4 rfl
              by_cases hz : mq14426 376 57 = 0
              · have hR : RN 1 mq14426 := ⟨by omega, by omega, hz, by omega, fun f h1 h2 => by omega⟩
                have tl := hTq14426.atp 376 55 0 124 rfl
                have hl := rk_lo (p := 1) (m := mq14426) (o := mq14426 376 55) (by omega)
                have t56 := hTq14426.atp 376 56 0 201 rfl
                have t54 := hTq14426.atp 376 54 0 4 rfl
                have hm0 : 0 ≤ MR 1 mq14426 := by unfold MR; omega
                exact t211a_1 hT hn hG Fr.rf (by omega) (MR 1 mq14426).toNat _ (by omega) hTq14426 hF14437 hVq14426 hR
              · exact t211e_0 hTq14426 (Fr.rf.tr hF14437 wRn_wML) hMn (Or.inl hz)
            · exfalso; omega
end
section
/-! CONTRACTS: the model, questions. Printed by wip/whole/gen9j.py -/
set_option maxRecDepth 100000 in
theorem t163_0 {L : Nat} {xs : Nat → Int32} {d nn : Nat} {m : yM} (hT : Ty gT m) (hn : m 376 18 = 0) (hMI : MI m) {a : Int} (ra : -2147483648 ≤ a ∧ a < 2147483648) {b : Int} (rb : -2147483648 ≤ b ∧ b < 2147483648) : YC (gZ L xs) (d + 6) 163 [.ref 376, yI a, yI b] m nn (qMd nn m) := by
  have tb383 := hT.atp 383 0 0 6 rfl
  have tb384 := hT.atp 384 0 0 10 rfl
  have tb385 := hT.atp 385 0 0 8 rfl
  have tb386 := hT.atp 386 0 0 12 rfl
  have tb387 := hT.atp 387 0 0 8 rfl
  have tb388 := hT.atp 388 0 0 12 rfl
  have tb389 := hT.atp 389 0 0 48 rfl
  have tb390 := hT.atp 390 0 0 125 rfl
  have t19 := hT.atp 376 19 0 1 rfl
  refine YC.mkB [some (.ref 376), some (yI a), some (yI b)] kn163 rfl rfl ?_
  have hF : Fr wML m m := Fr.rf
  refine y_aload 1 c163_0 rfl rfl rfl ?_
  refine y_aload 2 c163_1 rfl rfl rfl ?_
  refine y_iload 3 c163_2 rfl rfl ?_
  refine y_inlB 6 [.ref 376, yI a] [.ref 376] [some (.ref 376), some (yI a)] c163_3 rfl rfl rfl rfl rfl (ycanO km160 ko376) kn160 rfl rfl ?_
  refine y_aload 1 c160_0 rfl rfl rfl ?_
  refine y_getX 4 (m 376 19) c160_1 rfl kf376_19 rfl ?_
  refine y_if 30 7 c160_4 rfl rfl (yz_eq (by omega)) (fun hb14443 => ?_) (fun hb14443 => ?_)
  · refine y_iconst 31 c160_30 rfl ?_
    refine y_ireturnK c160_31 (y_fit1 (by omega)) ?_
    refine y_if 21 9 c163_6 rfl rfl (yz_eq (by omega)) (fun hb14444 => ?_) (fun hb14444 => ?_)
    · refine y_iconst 22 c163_21 rfl ?_
      refine y_inlB 25 [.ref 376, yI 0] [] [some (.ref 376), some (yI 0)] c163_22 rfl rfl rfl rfl rfl (ycanO km162 ko376) kn162 rfl rfl ?_
      refine y_aload 1 c162_0 rfl rfl rfl ?_
      refine y_aload 2 c162_1 rfl rfl rfl ?_
      refine y_getX 5 (m 376 19) c162_2 rfl kf376_19 rfl ?_
      refine y_top 0 (by omega) ?_
      refine y_if 16 8 c162_5 rfl rfl (yz_eq (by omega)) (fun hb14445 => ?_) (fun hb14445 => ?_)
      · refine y_iconst 17 c162_16 rfl ?_
        refine y_iconst 18 c162_17 rfl ?_
        refine y_inlB 21 [.ref 376, yI 0, yI 1] [] [some (.ref 376), some (yI 0), some (yI 1)] c162_18 rfl rfl rfl rfl rfl (ycanO km23 ko376) kn23 rfl rfl ?_
        refine y_aload 1 c23_0 rfl rfl rfl ?_
        refine y_iload 2 c23_1 rfl rfl ?_
        refine y_if 9 5 c23_2 rfl rfl (yz_eq (by omega)) (fun hb14446 => ?_) (fun hb14446 => ?_)
        · refine y_iload 10 c23_9 rfl rfl ?_
          refine y_putI 13 c23_10 rfl kf376_57 (y_fit0 _) ?_
          have hT14447 := hT.up 376 57 1 0 4 rfl (by omega)
          have hF14448 := hF.up 376 57 1 rfl
          refine y_iload 14 c23_13 rfl rfl ?_
          refine y_ireturnK c23_14 (y_fit1 (by omega)) ?_
          refine y_ireturnK c162_21 (y_fit1 (by omega)) ?_
          refine y_if 42 28 c163_25 rfl rfl (yz_eq (by omega)) (fun hb14449 => ?_) (fun hb14449 => ?_)
          · refine y_iconst 43 c163_42 rfl ?_
            exact y_ireturn c163_43 (y_fit0 _) ⟨_, rfl, rfl, hF14448, (hMI.fr hT14447 (fun a q ha => (yup_ne (by rintro ⟨rfl, rfl⟩; simp [vGq] at ha))))⟩
          · exfalso; omega
        · exfalso; omega
      · exfalso; omega
    · exfalso; omega
  · refine y_iload 8 c160_7 rfl rfl ?_
    refine y_iconst 9 c160_8 rfl ?_
    refine y_aload 10 c160_9 rfl rfl rfl ?_
    refine y_getR 13 c160_10 rfl kf376_26 ?_
    refine y_aload 14 c160_13 rfl rfl rfl ?_
    refine y_getX 17 (m 376 18) c160_14 rfl kf376_18 rfl ?_
    have tb14450 := hT.atp 376 18 0 1 rfl
    refine y_top 0 (by omega) ?_
    refine y_iaX 18 (m 389 0) c160_17 rfl ka389 (by decide) rfl ?_
    refine y_iconst 19 c160_18 rfl ?_
    refine y_isub 20 c160_19 rfl ?_
    refine y_callP 23 [yI a, yI 0, yI ((m 389 0) - 1)] [] c160_20 rfl rfl rfl rfl rfl (ycanS km22) (t22m (by omega) (by omega) (by omega)) (fun r14451 hr14451 => ?_)
    refine y_if 30 26 c160_23 rfl rfl (yz_eq (by omega)) (fun hb14452 => ?_) (fun hb14452 => ?_)
    · refine y_iconst 31 c160_30 rfl ?_
      refine y_ireturnK c160_31 (y_fit1 (by omega)) ?_
      refine y_if 21 9 c163_6 rfl rfl (yz_eq (by omega)) (fun hb14453 => ?_) (fun hb14453 => ?_)
      · refine y_iconst 22 c163_21 rfl ?_
        refine y_inlB 25 [.ref 376, yI 0] [] [some (.ref 376), some (yI 0)] c163_22 rfl rfl rfl rfl rfl (ycanO km162 ko376) kn162 rfl rfl ?_
        refine y_aload 1 c162_0 rfl rfl rfl ?_
        refine y_aload 2 c162_1 rfl rfl rfl ?_
        refine y_getX 5 (m 376 19) c162_2 rfl kf376_19 rfl ?_
        refine y_top 1 (by omega) ?_
        refine y_if 16 8 c162_5 rfl rfl (yz_eq (by omega)) (fun hb14454 => ?_) (fun hb14454 => ?_)
        · exfalso; omega
        · refine y_iload 9 c162_8 rfl rfl ?_
          refine y_if 16 12 c162_9 rfl rfl (yz_eq (by omega)) (fun hb14455 => ?_) (fun hb14455 => ?_)
          · refine y_iconst 17 c162_16 rfl ?_
            refine y_iconst 18 c162_17 rfl ?_
            refine y_inlB 21 [.ref 376, yI 0, yI 1] [] [some (.ref 376), some (yI 0), some (yI 1)] c162_18 rfl rfl rfl rfl rfl (ycanO km23 ko376) kn23 rfl rfl ?_
            refine y_aload 1 c23_0 rfl rfl rfl ?_
            refine y_iload 2 c23_1 rfl rfl ?_
            refine y_if 9 5 c23_2 rfl rfl (yz_eq (by omega)) (fun hb14456 => ?_) (fun hb14456 => ?_)
            · refine y_iload 10 c23_9 rfl rfl ?_
              refine y_putI 13 c23_10 rfl kf376_57 (y_fit0 _) ?_
              have hT14457 := hT.up 376 57 1 0 4 rfl (by omega)
              have hF14458 := hF.up 376 57 1 rfl
              refine y_iload 14 c23_13 rfl rfl ?_
              refine y_ireturnK c23_14 (y_fit1 (by omega)) ?_
              refine y_ireturnK c162_21 (y_fit1 (by omega)) ?_
              refine y_if 42 28 c163_25 rfl rfl (yz_eq (by omega)) (fun hb14459 => ?_) (fun hb14459 => ?_)
              · refine y_iconst 43 c163_42 rfl ?_
                exact y_ireturn c163_43 (y_fit0 _) ⟨_, rfl, rfl, hF14458, (hMI.fr hT14457 (fun a q ha => (yup_ne (by rintro ⟨rfl, rfl⟩; simp [vGq] at ha))))⟩
              · exfalso; omega
            · exfalso; omega
          · exfalso; omega
      · exfalso; omega
    · refine y_iconst 27 c160_26 rfl ?_
      refine y_goto 31 c160_27 rfl ?_
      refine y_ireturnK c160_31 (y_fit1 (by omega)) ?_
      refine y_if 21 9 c163_6 rfl rfl (yz_eq (by omega)) (fun hb14460 => ?_) (fun hb14460 => ?_)
      · exfalso; omega
      · refine y_aload 10 c163_9 rfl rfl rfl ?_
        refine y_iload 11 c163_10 rfl rfl ?_
        refine y_inlB 14 [.ref 376, yI b] [.ref 376] [some (.ref 376), some (yI b)] c163_11 rfl rfl rfl rfl rfl (ycanO km161 ko376) kn161 rfl rfl ?_
        refine y_aload 1 c161_0 rfl rfl rfl ?_
        refine y_getX 4 (m 376 19) c161_1 rfl kf376_19 rfl ?_
        refine y_top 1 (by omega) ?_
        refine y_if 30 7 c161_4 rfl rfl (yz_eq (by omega)) (fun hb14461 => ?_) (fun hb14461 => ?_)
        · exfalso; omega
        · refine y_iload 8 c161_7 rfl rfl ?_
          refine y_iconst 9 c161_8 rfl ?_
          refine y_aload 10 c161_9 rfl rfl rfl ?_
          refine y_getR 13 c161_10 rfl kf376_25 ?_
          refine y_aload 14 c161_13 rfl rfl rfl ?_
          refine y_getX 17 (m 376 18) c161_14 rfl kf376_18 rfl ?_
          refine y_top 0 (by omega) ?_
          refine y_iaX 18 (m 388 0) c161_17 rfl ka388 (by decide) rfl ?_
          refine y_iconst 19 c161_18 rfl ?_
          refine y_isub 20 c161_19 rfl ?_
          refine y_callP 23 [yI b, yI 0, yI ((m 388 0) - 1)] [] c161_20 rfl rfl rfl rfl rfl (ycanS km22) (t22m (by omega) (by omega) (by omega)) (fun r14462 hr14462 => ?_)
          refine y_if 30 26 c161_23 rfl rfl (yz_eq (by omega)) (fun hb14463 => ?_) (fun hb14463 => ?_)
          · refine y_iconst 31 c161_30 rfl ?_
            refine y_ireturnK c161_31 (y_fit1 (by omega)) ?_
            refine y_if 21 17 c163_14 rfl rfl (yz_eq (by omega)) (fun hb14464 => ?_) (fun hb14464 => ?_)
            · refine y_iconst 22 c163_21 rfl ?_
              refine y_inlB 25 [.ref 376, yI 0] [] [some (.ref 376), some (yI 0)] c163_22 rfl rfl rfl rfl rfl (ycanO km162 ko376) kn162 rfl rfl ?_
              refine y_aload 1 c162_0 rfl rfl rfl ?_
              refine y_aload 2 c162_1 rfl rfl rfl ?_
              refine y_getX 5 (m 376 19) c162_2 rfl kf376_19 rfl ?_
              refine y_top 1 (by omega) ?_
              refine y_if 16 8 c162_5 rfl rfl (yz_eq (by omega)) (fun hb14465 => ?_) (fun hb14465 => ?_)
              · exfalso; omega
              · refine y_iload 9 c162_8 rfl rfl ?_
                refine y_if 16 12 c162_9 rfl rfl (yz_eq (by omega)) (fun hb14466 => ?_) (fun hb14466 => ?_)
                · refine y_iconst 17 c162_16 rfl ?_
                  refine y_iconst 18 c162_17 rfl ?_
                  refine y_inlB 21 [.ref 376, yI 0, yI 1] [] [some (.ref 376), some (yI 0), some (yI 1)] c162_18 rfl rfl rfl rfl rfl (ycanO km23 ko376) kn23 rfl rfl ?_
                  refine y_aload 1 c23_0 rfl rfl rfl ?_
                  refine y_iload 2 c23_1 rfl rfl ?_
                  refine y_if 9 5 c23_2 rfl rfl (yz_eq (by omega)) (fun hb14467 => ?_) (fun hb14467 => ?_)
                  · refine y_iload 10 c23_9 rfl rfl ?_
                    refine y_putI 13 c23_10 rfl kf376_57 (y_fit0 _) ?_
                    have hT14468 := hT.up 376 57 1 0 4 rfl (by omega)
                    have hF14469 := hF.up 376 57 1 rfl
                    refine y_iload 14 c23_13 rfl rfl ?_
                    refine y_ireturnK c23_14 (y_fit1 (by omega)) ?_
                    refine y_ireturnK c162_21 (y_fit1 (by omega)) ?_
                    refine y_if 42 28 c163_25 rfl rfl (yz_eq (by omega)) (fun hb14470 => ?_) (fun hb14470 => ?_)
                    · refine y_iconst 43 c163_42 rfl ?_
                      exact y_ireturn c163_43 (y_fit0 _) ⟨_, rfl, rfl, hF14469, (hMI.fr hT14468 (fun a q ha => (yup_ne (by rintro ⟨rfl, rfl⟩; simp [vGq] at ha))))⟩
                    · exfalso; omega
                  · exfalso; omega
                · exfalso; omega
            · exfalso; omega
          · refine y_iconst 27 c161_26 rfl ?_
            refine y_goto 31 c161_27 rfl ?_
            refine y_ireturnK c161_31 (y_fit1 (by omega)) ?_
            refine y_if 21 17 c163_14 rfl rfl (yz_eq (by omega)) (fun hb14471 => ?_) (fun hb14471 => ?_)
            · exfalso; omega
            · refine y_iconst 18 c163_17 rfl ?_
              refine y_goto 22 c163_18 rfl ?_
              refine y_inlB 25 [.ref 376, yI 1] [] [some (.ref 376), some (yI 1)] c163_22 rfl rfl rfl rfl rfl (ycanO km162 ko376) kn162 rfl rfl ?_
              refine y_aload 1 c162_0 rfl rfl rfl ?_
              refine y_aload 2 c162_1 rfl rfl rfl ?_
              refine y_getX 5 (m 376 19) c162_2 rfl kf376_19 rfl ?_
              refine y_top 1 (by omega) ?_
              refine y_if 16 8 c162_5 rfl rfl (yz_eq (by omega)) (fun hb14472 => ?_) (fun hb14472 => ?_)
              · exfalso; omega
              · refine y_iload 9 c162_8 rfl rfl ?_
                refine y_if 16 12 c162_9 rfl rfl (yz_eq (by omega)) (fun hb14473 => ?_) (fun hb14473 => ?_)
                · exfalso; omega
                · refine y_iconst 13 c162_12 rfl ?_
                  refine y_goto 17 c162_13 rfl ?_
                  refine y_iconst 18 c162_17 rfl ?_
                  refine y_inlB 21 [.ref 376, yI 1, yI 1] [] [some (.ref 376), some (yI 1), some (yI 1)] c162_18 rfl rfl rfl rfl rfl (ycanO km23 ko376) kn23 rfl rfl ?_
                  refine y_aload 1 c23_0 rfl rfl rfl ?_
                  refine y_iload 2 c23_1 rfl rfl ?_
                  refine y_if 9 5 c23_2 rfl rfl (yz_eq (by omega)) (fun hb14474 => ?_) (fun hb14474 => ?_)
                  · exfalso; omega
                  · refine y_iconst 6 c23_5 rfl ?_
                    refine y_goto 10 c23_6 rfl ?_
                    refine y_putI 13 c23_10 rfl kf376_57 (y_fit0 _) ?_
                    have hT14475 := hT.up 376 57 0 0 4 rfl (by omega)
                    have hF14476 := hF.up 376 57 0 rfl
                    refine y_iload 14 c23_13 rfl rfl ?_
                    refine y_ireturnK c23_14 (y_fit1 (by omega)) ?_
                    refine y_ireturnK c162_21 (y_fit1 (by omega)) ?_
                    refine y_if 42 28 c163_25 rfl rfl (yz_eq (by omega)) (fun hb14477 => ?_) (fun hb14477 => ?_)
                    · exfalso; omega
                    · refine y_aload 29 c163_28 rfl rfl rfl ?_
                      refine y_getR 32 c163_29 rfl kf376_41 ?_
                      refine y_iconst 34 c163_32 rfl ?_
                      refine y_iload 35 c163_34 rfl rfl ?_
                      refine y_imul 36 c163_35 rfl ?_
                      refine y_iload 37 c163_36 rfl rfl ?_
                      refine y_iadd 38 c163_37 rfl ?_
                      refine y_iaT 39 ((-2147483648)) 2147483647 c163_38 rfl ka404 (by omega) hT14475 rfl (fun v14478 hv14478 gv14478 => ?_)
                      refine y_goto 43 c163_39 rfl ?_
                      exact y_ireturn c163_43 (y_fit0 _) ⟨_, rfl, rfl, hF14476, (hMI.fr hT14475 (fun a q ha => (yup_ne (by rintro ⟨rfl, rfl⟩; simp [vGq] at ha))))⟩
set_option maxRecDepth 100000 in
theorem t166_0 {L : Nat} {xs : Nat → Int32} {d nn : Nat} {m : yM} (hT : Ty gT m) (hn : m 376 18 = 0) (hMI : MI m) {a : Int} (ra : -2147483648 ≤ a ∧ a < 2147483648) {b : Int} (rb : -2147483648 ≤ b ∧ b < 2147483648) {c : Int} (rc : -2147483648 ≤ c ∧ c < 2147483648) : YC (gZ L xs) (d + 6) 166 [.ref 376, yI a, yI b, yI c] m nn (qMd nn m) := by
  have tb383 := hT.atp 383 0 0 6 rfl
  have tb384 := hT.atp 384 0 0 10 rfl
  have tb385 := hT.atp 385 0 0 8 rfl
  have tb386 := hT.atp 386 0 0 12 rfl
  have tb387 := hT.atp 387 0 0 8 rfl
  have tb388 := hT.atp 388 0 0 12 rfl
  have tb389 := hT.atp 389 0 0 48 rfl
  have tb390 := hT.atp 390 0 0 125 rfl
  have t19 := hT.atp 376 19 0 1 rfl
  refine YC.mkB [some (.ref 376), some (yI a), some (yI b), some (yI c)] kn166 rfl rfl ?_
  have hF : Fr wML m m := Fr.rf
  refine y_aload 1 c166_0 rfl rfl rfl ?_
  refine y_aload 2 c166_1 rfl rfl rfl ?_
  refine y_iload 3 c166_2 rfl rfl ?_
  refine y_inlB 6 [.ref 376, yI a] [.ref 376] [some (.ref 376), some (yI a)] c166_3 rfl rfl rfl rfl rfl (ycanO km161 ko376) kn161 rfl rfl ?_
  refine y_aload 1 c161_0 rfl rfl rfl ?_
  refine y_getX 4 (m 376 19) c161_1 rfl kf376_19 rfl ?_
  refine y_if 30 7 c161_4 rfl rfl (yz_eq (by omega)) (fun hb14479 => ?_) (fun hb14479 => ?_)
  · refine y_iconst 31 c161_30 rfl ?_
    refine y_ireturnK c161_31 (y_fit1 (by omega)) ?_
    refine y_if 40 9 c166_6 rfl rfl (yz_eq (by omega)) (fun hb14480 => ?_) (fun hb14480 => ?_)
    · refine y_iconst 41 c166_40 rfl ?_
      refine y_inlB 44 [.ref 376, yI 0] [] [some (.ref 376), some (yI 0)] c166_41 rfl rfl rfl rfl rfl (ycanO km162 ko376) kn162 rfl rfl ?_
      refine y_aload 1 c162_0 rfl rfl rfl ?_
      refine y_aload 2 c162_1 rfl rfl rfl ?_
      refine y_getX 5 (m 376 19) c162_2 rfl kf376_19 rfl ?_
      refine y_top 0 (by omega) ?_
      refine y_if 16 8 c162_5 rfl rfl (yz_eq (by omega)) (fun hb14481 => ?_) (fun hb14481 => ?_)
      · refine y_iconst 17 c162_16 rfl ?_
        refine y_iconst 18 c162_17 rfl ?_
        refine y_inlB 21 [.ref 376, yI 0, yI 1] [] [some (.ref 376), some (yI 0), some (yI 1)] c162_18 rfl rfl rfl rfl rfl (ycanO km23 ko376) kn23 rfl rfl ?_
        refine y_aload 1 c23_0 rfl rfl rfl ?_
        refine y_iload 2 c23_1 rfl rfl ?_
        refine y_if 9 5 c23_2 rfl rfl (yz_eq (by omega)) (fun hb14482 => ?_) (fun hb14482 => ?_)
        · refine y_iload 10 c23_9 rfl rfl ?_
          refine y_putI 13 c23_10 rfl kf376_57 (y_fit0 _) ?_
          have hT14483 := hT.up 376 57 1 0 4 rfl (by omega)
          have hF14484 := hF.up 376 57 1 rfl
          refine y_iload 14 c23_13 rfl rfl ?_
          refine y_ireturnK c23_14 (y_fit1 (by omega)) ?_
          refine y_ireturnK c162_21 (y_fit1 (by omega)) ?_
          refine y_if 66 47 c166_44 rfl rfl (yz_eq (by omega)) (fun hb14485 => ?_) (fun hb14485 => ?_)
          · refine y_iconst 67 c166_66 rfl ?_
            exact y_ireturn c166_67 (y_fit0 _) ⟨_, rfl, rfl, hF14484, (hMI.fr hT14483 (fun a q ha => (yup_ne (by rintro ⟨rfl, rfl⟩; simp [vGq] at ha))))⟩
          · exfalso; omega
        · exfalso; omega
      · exfalso; omega
    · exfalso; omega
  · refine y_iload 8 c161_7 rfl rfl ?_
    refine y_iconst 9 c161_8 rfl ?_
    refine y_aload 10 c161_9 rfl rfl rfl ?_
    refine y_getR 13 c161_10 rfl kf376_25 ?_
    refine y_aload 14 c161_13 rfl rfl rfl ?_
    refine y_getX 17 (m 376 18) c161_14 rfl kf376_18 rfl ?_
    have tb14486 := hT.atp 376 18 0 1 rfl
    refine y_top 0 (by omega) ?_
    refine y_iaX 18 (m 388 0) c161_17 rfl ka388 (by decide) rfl ?_
    refine y_iconst 19 c161_18 rfl ?_
    refine y_isub 20 c161_19 rfl ?_
    refine y_callP 23 [yI a, yI 0, yI ((m 388 0) - 1)] [] c161_20 rfl rfl rfl rfl rfl (ycanS km22) (t22m (by omega) (by omega) (by omega)) (fun r14487 hr14487 => ?_)
    refine y_if 30 26 c161_23 rfl rfl (yz_eq (by omega)) (fun hb14488 => ?_) (fun hb14488 => ?_)
    · refine y_iconst 31 c161_30 rfl ?_
      refine y_ireturnK c161_31 (y_fit1 (by omega)) ?_
      refine y_if 40 9 c166_6 rfl rfl (yz_eq (by omega)) (fun hb14489 => ?_) (fun hb14489 => ?_)
      · refine y_iconst 41 c166_40 rfl ?_
        refine y_inlB 44 [.ref 376, yI 0] [] [some (.ref 376), some (yI 0)] c166_41 rfl rfl rfl rfl rfl (ycanO km162 ko376) kn162 rfl rfl ?_
        refine y_aload 1 c162_0 rfl rfl rfl ?_
        refine y_aload 2 c162_1 rfl rfl rfl ?_
        refine y_getX 5 (m 376 19) c162_2 rfl kf376_19 rfl ?_
        refine y_top 1 (by omega) ?_
        refine y_if 16 8 c162_5 rfl rfl (yz_eq (by omega)) (fun hb14490 => ?_) (fun hb14490 => ?_)
        · exfalso; omega
        · refine y_iload 9 c162_8 rfl rfl ?_
          refine y_if 16 12 c162_9 rfl rfl (yz_eq (by omega)) (fun hb14491 => ?_) (fun hb14491 => ?_)
          · refine y_iconst 17 c162_16 rfl ?_
            refine y_iconst 18 c162_17 rfl ?_
            refine y_inlB 21 [.ref 376, yI 0, yI 1] [] [some (.ref 376), some (yI 0), some (yI 1)] c162_18 rfl rfl rfl rfl rfl (ycanO km23 ko376) kn23 rfl rfl ?_
            refine y_aload 1 c23_0 rfl rfl rfl ?_
            refine y_iload 2 c23_1 rfl rfl ?_
            refine y_if 9 5 c23_2 rfl rfl (yz_eq (by omega)) (fun hb14492 => ?_) (fun hb14492 => ?_)
            · refine y_iload 10 c23_9 rfl rfl ?_
              refine y_putI 13 c23_10 rfl kf376_57 (y_fit0 _) ?_
              have hT14493 := hT.up 376 57 1 0 4 rfl (by omega)
              have hF14494 := hF.up 376 57 1 rfl
              refine y_iload 14 c23_13 rfl rfl ?_
              refine y_ireturnK c23_14 (y_fit1 (by omega)) ?_
              refine y_ireturnK c162_21 (y_fit1 (by omega)) ?_
              refine y_if 66 47 c166_44 rfl rfl (yz_eq (by omega)) (fun hb14495 => ?_) (fun hb14495 => ?_)
              · refine y_iconst 67 c166_66 rfl ?_
                exact y_ireturn c166_67 (y_fit0 _) ⟨_, rfl, rfl, hF14494, (hMI.fr hT14493 (fun a q ha => (yup_ne (by rintro ⟨rfl, rfl⟩; simp [vGq] at ha))))⟩
              · exfalso; omega
            · exfalso; omega
          · exfalso; omega
      · exfalso; omega
    · refine y_iconst 27 c161_26 rfl ?_
      refine y_goto 31 c161_27 rfl ?_
      refine y_ireturnK c161_31 (y_fit1 (by omega)) ?_
      refine y_if 40 9 c166_6 rfl rfl (yz_eq (by omega)) (fun hb14496 => ?_) (fun hb14496 => ?_)
      · exfalso; omega
      · refine y_aload 10 c166_9 rfl rfl rfl ?_
        refine y_iload 11 c166_10 rfl rfl ?_
        refine y_inlB 14 [.ref 376, yI c] [.ref 376] [some (.ref 376), some (yI c)] c166_11 rfl rfl rfl rfl rfl (ycanO km161 ko376) kn161 rfl rfl ?_
        refine y_aload 1 c161_0 rfl rfl rfl ?_
        refine y_getX 4 (m 376 19) c161_1 rfl kf376_19 rfl ?_
        refine y_top 1 (by omega) ?_
        refine y_if 30 7 c161_4 rfl rfl (yz_eq (by omega)) (fun hb14497 => ?_) (fun hb14497 => ?_)
        · exfalso; omega
        · refine y_iload 8 c161_7 rfl rfl ?_
          refine y_iconst 9 c161_8 rfl ?_
          refine y_aload 10 c161_9 rfl rfl rfl ?_
          refine y_getR 13 c161_10 rfl kf376_25 ?_
          refine y_aload 14 c161_13 rfl rfl rfl ?_
          refine y_getX 17 (m 376 18) c161_14 rfl kf376_18 rfl ?_
          refine y_top 0 (by omega) ?_
          refine y_iaX 18 (m 388 0) c161_17 rfl ka388 (by decide) rfl ?_
          refine y_iconst 19 c161_18 rfl ?_
          refine y_isub 20 c161_19 rfl ?_
          refine y_callP 23 [yI c, yI 0, yI ((m 388 0) - 1)] [] c161_20 rfl rfl rfl rfl rfl (ycanS km22) (t22m (by omega) (by omega) (by omega)) (fun r14498 hr14498 => ?_)
          refine y_if 30 26 c161_23 rfl rfl (yz_eq (by omega)) (fun hb14499 => ?_) (fun hb14499 => ?_)
          · refine y_iconst 31 c161_30 rfl ?_
            refine y_ireturnK c161_31 (y_fit1 (by omega)) ?_
            refine y_if 40 17 c166_14 rfl rfl (yz_eq (by omega)) (fun hb14500 => ?_) (fun hb14500 => ?_)
            · refine y_iconst 41 c166_40 rfl ?_
              refine y_inlB 44 [.ref 376, yI 0] [] [some (.ref 376), some (yI 0)] c166_41 rfl rfl rfl rfl rfl (ycanO km162 ko376) kn162 rfl rfl ?_
              refine y_aload 1 c162_0 rfl rfl rfl ?_
              refine y_aload 2 c162_1 rfl rfl rfl ?_
              refine y_getX 5 (m 376 19) c162_2 rfl kf376_19 rfl ?_
              refine y_top 1 (by omega) ?_
              refine y_if 16 8 c162_5 rfl rfl (yz_eq (by omega)) (fun hb14501 => ?_) (fun hb14501 => ?_)
              · exfalso; omega
              · refine y_iload 9 c162_8 rfl rfl ?_
                refine y_if 16 12 c162_9 rfl rfl (yz_eq (by omega)) (fun hb14502 => ?_) (fun hb14502 => ?_)
                · refine y_iconst 17 c162_16 rfl ?_
                  refine y_iconst 18 c162_17 rfl ?_
                  refine y_inlB 21 [.ref 376, yI 0, yI 1] [] [some (.ref 376), some (yI 0), some (yI 1)] c162_18 rfl rfl rfl rfl rfl (ycanO km23 ko376) kn23 rfl rfl ?_
                  refine y_aload 1 c23_0 rfl rfl rfl ?_
                  refine y_iload 2 c23_1 rfl rfl ?_
                  refine y_if 9 5 c23_2 rfl rfl (yz_eq (by omega)) (fun hb14503 => ?_) (fun hb14503 => ?_)
                  · refine y_iload 10 c23_9 rfl rfl ?_
                    refine y_putI 13 c23_10 rfl kf376_57 (y_fit0 _) ?_
                    have hT14504 := hT.up 376 57 1 0 4 rfl (by omega)
                    have hF14505 := hF.up 376 57 1 rfl
                    refine y_iload 14 c23_13 rfl rfl ?_
                    refine y_ireturnK c23_14 (y_fit1 (by omega)) ?_
                    refine y_ireturnK c162_21 (y_fit1 (by omega)) ?_
                    refine y_if 66 47 c166_44 rfl rfl (yz_eq (by omega)) (fun hb14506 => ?_) (fun hb14506 => ?_)
                    · refine y_iconst 67 c166_66 rfl ?_
                      exact y_ireturn c166_67 (y_fit0 _) ⟨_, rfl, rfl, hF14505, (hMI.fr hT14504 (fun a q ha => (yup_ne (by rintro ⟨rfl, rfl⟩; simp [vGq] at ha))))⟩
                    · exfalso; omega
                  · exfalso; omega
                · exfalso; omega
            · exfalso; omega
          · refine y_iconst 27 c161_26 rfl ?_
            refine y_goto 31 c161_27 rfl ?_
            refine y_ireturnK c161_31 (y_fit1 (by omega)) ?_
            refine y_if 40 17 c166_14 rfl rfl (yz_eq (by omega)) (fun hb14507 => ?_) (fun hb14507 => ?_)
            · exfalso; omega
            · refine y_iload 18 c166_17 rfl rfl ?_
              refine y_iconst 19 c166_18 rfl ?_
              refine y_aload 20 c166_19 rfl rfl rfl ?_
              refine y_getR 23 c166_20 rfl kf376_22 ?_
              refine y_aload 24 c166_23 rfl rfl rfl ?_
              refine y_getX 27 (m 376 18) c166_24 rfl kf376_18 rfl ?_
              refine y_top 0 (by omega) ?_
              refine y_iaX 28 (m 385 0) c166_27 rfl ka385 (by decide) rfl ?_
              refine y_iconst 29 c166_28 rfl ?_
              refine y_isub 30 c166_29 rfl ?_
              refine y_callP 33 [yI b, yI 0, yI ((m 385 0) - 1)] [.ref 376] c166_30 rfl rfl rfl rfl rfl (ycanS km22) (t22m (by omega) (by omega) (by omega)) (fun r14508 hr14508 => ?_)
              refine y_if 40 36 c166_33 rfl rfl (yz_eq (by omega)) (fun hb14509 => ?_) (fun hb14509 => ?_)
              · refine y_iconst 41 c166_40 rfl ?_
                refine y_inlB 44 [.ref 376, yI 0] [] [some (.ref 376), some (yI 0)] c166_41 rfl rfl rfl rfl rfl (ycanO km162 ko376) kn162 rfl rfl ?_
                refine y_aload 1 c162_0 rfl rfl rfl ?_
                refine y_aload 2 c162_1 rfl rfl rfl ?_
                refine y_getX 5 (m 376 19) c162_2 rfl kf376_19 rfl ?_
                refine y_top 1 (by omega) ?_
                refine y_if 16 8 c162_5 rfl rfl (yz_eq (by omega)) (fun hb14510 => ?_) (fun hb14510 => ?_)
                · exfalso; omega
                · refine y_iload 9 c162_8 rfl rfl ?_
                  refine y_if 16 12 c162_9 rfl rfl (yz_eq (by omega)) (fun hb14511 => ?_) (fun hb14511 => ?_)
                  · refine y_iconst 17 c162_16 rfl ?_
                    refine y_iconst 18 c162_17 rfl ?_
                    refine y_inlB 21 [.ref 376, yI 0, yI 1] [] [some (.ref 376), some (yI 0), some (yI 1)] c162_18 rfl rfl rfl rfl rfl (ycanO km23 ko376) kn23 rfl rfl ?_
                    refine y_aload 1 c23_0 rfl rfl rfl ?_
                    refine y_iload 2 c23_1 rfl rfl ?_
                    refine y_if 9 5 c23_2 rfl rfl (yz_eq (by omega)) (fun hb14512 => ?_) (fun hb14512 => ?_)
                    · refine y_iload 10 c23_9 rfl rfl ?_
                      refine y_putI 13 c23_10 rfl kf376_57 (y_fit0 _) ?_
                      have hT14513 := hT.up 376 57 1 0 4 rfl (by omega)
                      have hF14514 := hF.up 376 57 1 rfl
                      refine y_iload 14 c23_13 rfl rfl ?_
                      refine y_ireturnK c23_14 (y_fit1 (by omega)) ?_
                      refine y_ireturnK c162_21 (y_fit1 (by omega)) ?_
                      refine y_if 66 47 c166_44 rfl rfl (yz_eq (by omega)) (fun hb14515 => ?_) (fun hb14515 => ?_)
                      · refine y_iconst 67 c166_66 rfl ?_
                        exact y_ireturn c166_67 (y_fit0 _) ⟨_, rfl, rfl, hF14514, (hMI.fr hT14513 (fun a q ha => (yup_ne (by rintro ⟨rfl, rfl⟩; simp [vGq] at ha))))⟩
                      · exfalso; omega
                    · exfalso; omega
                  · exfalso; omega
              · refine y_iconst 37 c166_36 rfl ?_
                refine y_goto 41 c166_37 rfl ?_
                refine y_inlB 44 [.ref 376, yI 1] [] [some (.ref 376), some (yI 1)] c166_41 rfl rfl rfl rfl rfl (ycanO km162 ko376) kn162 rfl rfl ?_
                refine y_aload 1 c162_0 rfl rfl rfl ?_
                refine y_aload 2 c162_1 rfl rfl rfl ?_
                refine y_getX 5 (m 376 19) c162_2 rfl kf376_19 rfl ?_
                refine y_top 1 (by omega) ?_
                refine y_if 16 8 c162_5 rfl rfl (yz_eq (by omega)) (fun hb14516 => ?_) (fun hb14516 => ?_)
                · exfalso; omega
                · refine y_iload 9 c162_8 rfl rfl ?_
                  refine y_if 16 12 c162_9 rfl rfl (yz_eq (by omega)) (fun hb14517 => ?_) (fun hb14517 => ?_)
                  · exfalso; omega
                  · refine y_iconst 13 c162_12 rfl ?_
                    refine y_goto 17 c162_13 rfl ?_
                    refine y_iconst 18 c162_17 rfl ?_
                    refine y_inlB 21 [.ref 376, yI 1, yI 1] [] [some (.ref 376), some (yI 1), some (yI 1)] c162_18 rfl rfl rfl rfl rfl (ycanO km23 ko376) kn23 rfl rfl ?_
                    refine y_aload 1 c23_0 rfl rfl rfl ?_
                    refine y_iload 2 c23_1 rfl rfl ?_
                    refine y_if 9 5 c23_2 rfl rfl (yz_eq (by omega)) (fun hb14518 => ?_) (fun hb14518 => ?_)
                    · exfalso; omega
                    · refine y_iconst 6 c23_5 rfl ?_
                      refine y_goto 10 c23_6 rfl ?_
                      refine y_putI 13 c23_10 rfl kf376_57 (y_fit0 _) ?_
                      have hT14519 := hT.up 376 57 0 0 4 rfl (by omega)
                      have hF14520 := hF.up 376 57 0 rfl
                      refine y_iload 14 c23_13 rfl rfl ?_
                      refine y_ireturnK c23_14 (y_fit1 (by omega)) ?_
                      refine y_ireturnK c162_21 (y_fit1 (by omega)) ?_
                      refine y_if 66 47 c166_44 rfl rfl (yz_eq (by omega)) (fun hb14521 => ?_) (fun hb14521 => ?_)
                      · exfalso; omega
                      · refine y_aload 48 c166_47 rfl rfl rfl ?_
                        refine y_getR 51 c166_48 rfl kf376_42 ?_
                        refine y_iconst 53 c166_51 rfl ?_
                        refine y_iload 54 c166_53 rfl rfl ?_
                        refine y_imul 55 c166_54 rfl ?_
                        refine y_iconst 57 c166_55 rfl ?_
                        refine y_iload 58 c166_57 rfl rfl ?_
                        refine y_imul 59 c166_58 rfl ?_
                        refine y_iadd 60 c166_59 rfl ?_
                        refine y_iload 61 c166_60 rfl rfl ?_
                        refine y_iadd 62 c166_61 rfl ?_
                        refine y_iaT 63 ((-2147483648)) 2147483647 c166_62 rfl ka405 (by omega) hT14519 rfl (fun v14522 hv14522 gv14522 => ?_)
                        refine y_goto 67 c166_63 rfl ?_
                        exact y_ireturn c166_67 (y_fit0 _) ⟨_, rfl, rfl, hF14520, (hMI.fr hT14519 (fun a q ha => (yup_ne (by rintro ⟨rfl, rfl⟩; simp [vGq] at ha))))⟩
set_option maxRecDepth 100000 in
theorem t171_0 {L : Nat} {xs : Nat → Int32} {d nn : Nat} {m : yM} (hT : Ty gT m) (hn : m 376 18 = 0) (hMI : MI m) {a : Int} (ra : -2147483648 ≤ a ∧ a < 2147483648) {b : Int} (rb : -2147483648 ≤ b ∧ b < 2147483648) : YC (gZ L xs) (d + 6) 171 [.ref 376, yI a, yI b] m nn (qMd nn m) := by
  have tb383 := hT.atp 383 0 0 6 rfl
  have tb384 := hT.atp 384 0 0 10 rfl
  have tb385 := hT.atp 385 0 0 8 rfl
  have tb386 := hT.atp 386 0 0 12 rfl
  have tb387 := hT.atp 387 0 0 8 rfl
  have tb388 := hT.atp 388 0 0 12 rfl
  have tb389 := hT.atp 389 0 0 48 rfl
  have tb390 := hT.atp 390 0 0 125 rfl
  have t19 := hT.atp 376 19 0 1 rfl
  refine YC.mkB [some (.ref 376), some (yI a), some (yI b)] kn171 rfl rfl ?_
  have hF : Fr wML m m := Fr.rf
  refine y_aload 1 c171_0 rfl rfl rfl ?_
  refine y_aload 2 c171_1 rfl rfl rfl ?_
  refine y_iload 3 c171_2 rfl rfl ?_
  refine y_inlB 6 [.ref 376, yI b] [.ref 376] [some (.ref 376), some (yI b)] c171_3 rfl rfl rfl rfl rfl (ycanO km170 ko376) kn170 rfl rfl ?_
  refine y_aload 1 c170_0 rfl rfl rfl ?_
  refine y_getX 4 (m 376 19) c170_1 rfl kf376_19 rfl ?_
  refine y_if 30 7 c170_4 rfl rfl (yz_eq (by omega)) (fun hb14523 => ?_) (fun hb14523 => ?_)
  · refine y_iconst 31 c170_30 rfl ?_
    refine y_ireturnK c170_31 (y_fit1 (by omega)) ?_
    refine y_if 32 9 c171_6 rfl rfl (yz_eq (by omega)) (fun hb14524 => ?_) (fun hb14524 => ?_)
    · refine y_iconst 33 c171_32 rfl ?_
      refine y_inlB 36 [.ref 376, yI 0] [] [some (.ref 376), some (yI 0)] c171_33 rfl rfl rfl rfl rfl (ycanO km162 ko376) kn162 rfl rfl ?_
      refine y_aload 1 c162_0 rfl rfl rfl ?_
      refine y_aload 2 c162_1 rfl rfl rfl ?_
      refine y_getX 5 (m 376 19) c162_2 rfl kf376_19 rfl ?_
      refine y_top 0 (by omega) ?_
      refine y_if 16 8 c162_5 rfl rfl (yz_eq (by omega)) (fun hb14525 => ?_) (fun hb14525 => ?_)
      · refine y_iconst 17 c162_16 rfl ?_
        refine y_iconst 18 c162_17 rfl ?_
        refine y_inlB 21 [.ref 376, yI 0, yI 1] [] [some (.ref 376), some (yI 0), some (yI 1)] c162_18 rfl rfl rfl rfl rfl (ycanO km23 ko376) kn23 rfl rfl ?_
        refine y_aload 1 c23_0 rfl rfl rfl ?_
        refine y_iload 2 c23_1 rfl rfl ?_
        refine y_if 9 5 c23_2 rfl rfl (yz_eq (by omega)) (fun hb14526 => ?_) (fun hb14526 => ?_)
        · refine y_iload 10 c23_9 rfl rfl ?_
          refine y_putI 13 c23_10 rfl kf376_57 (y_fit0 _) ?_
          have hT14527 := hT.up 376 57 1 0 4 rfl (by omega)
          have hF14528 := hF.up 376 57 1 rfl
          refine y_iload 14 c23_13 rfl rfl ?_
          refine y_ireturnK c23_14 (y_fit1 (by omega)) ?_
          refine y_ireturnK c162_21 (y_fit1 (by omega)) ?_
          refine y_if 53 39 c171_36 rfl rfl (yz_eq (by omega)) (fun hb14529 => ?_) (fun hb14529 => ?_)
          · refine y_iconst 54 c171_53 rfl ?_
            exact y_ireturn c171_54 (y_fit0 _) ⟨_, rfl, rfl, hF14528, (hMI.fr hT14527 (fun a q ha => (yup_ne (by rintro ⟨rfl, rfl⟩; simp [vGq] at ha))))⟩
          · exfalso; omega
        · exfalso; omega
      · exfalso; omega
    · exfalso; omega
  · refine y_iload 8 c170_7 rfl rfl ?_
    refine y_iconst 9 c170_8 rfl ?_
    refine y_aload 10 c170_9 rfl rfl rfl ?_
    refine y_getR 13 c170_10 rfl kf376_21 ?_
    refine y_aload 14 c170_13 rfl rfl rfl ?_
    refine y_getX 17 (m 376 18) c170_14 rfl kf376_18 rfl ?_
    have tb14530 := hT.atp 376 18 0 1 rfl
    refine y_top 0 (by omega) ?_
    refine y_iaX 18 (m 384 0) c170_17 rfl ka384 (by decide) rfl ?_
    refine y_iconst 19 c170_18 rfl ?_
    refine y_isub 20 c170_19 rfl ?_
    refine y_callP 23 [yI b, yI 0, yI ((m 384 0) - 1)] [] c170_20 rfl rfl rfl rfl rfl (ycanS km22) (t22m (by omega) (by omega) (by omega)) (fun r14531 hr14531 => ?_)
    refine y_if 30 26 c170_23 rfl rfl (yz_eq (by omega)) (fun hb14532 => ?_) (fun hb14532 => ?_)
    · refine y_iconst 31 c170_30 rfl ?_
      refine y_ireturnK c170_31 (y_fit1 (by omega)) ?_
      refine y_if 32 9 c171_6 rfl rfl (yz_eq (by omega)) (fun hb14533 => ?_) (fun hb14533 => ?_)
      · refine y_iconst 33 c171_32 rfl ?_
        refine y_inlB 36 [.ref 376, yI 0] [] [some (.ref 376), some (yI 0)] c171_33 rfl rfl rfl rfl rfl (ycanO km162 ko376) kn162 rfl rfl ?_
        refine y_aload 1 c162_0 rfl rfl rfl ?_
        refine y_aload 2 c162_1 rfl rfl rfl ?_
        refine y_getX 5 (m 376 19) c162_2 rfl kf376_19 rfl ?_
        refine y_top 1 (by omega) ?_
        refine y_if 16 8 c162_5 rfl rfl (yz_eq (by omega)) (fun hb14534 => ?_) (fun hb14534 => ?_)
        · exfalso; omega
        · refine y_iload 9 c162_8 rfl rfl ?_
          refine y_if 16 12 c162_9 rfl rfl (yz_eq (by omega)) (fun hb14535 => ?_) (fun hb14535 => ?_)
          · refine y_iconst 17 c162_16 rfl ?_
            refine y_iconst 18 c162_17 rfl ?_
            refine y_inlB 21 [.ref 376, yI 0, yI 1] [] [some (.ref 376), some (yI 0), some (yI 1)] c162_18 rfl rfl rfl rfl rfl (ycanO km23 ko376) kn23 rfl rfl ?_
            refine y_aload 1 c23_0 rfl rfl rfl ?_
            refine y_iload 2 c23_1 rfl rfl ?_
            refine y_if 9 5 c23_2 rfl rfl (yz_eq (by omega)) (fun hb14536 => ?_) (fun hb14536 => ?_)
            · refine y_iload 10 c23_9 rfl rfl ?_
              refine y_putI 13 c23_10 rfl kf376_57 (y_fit0 _) ?_
              have hT14537 := hT.up 376 57 1 0 4 rfl (by omega)
              have hF14538 := hF.up 376 57 1 rfl
              refine y_iload 14 c23_13 rfl rfl ?_
              refine y_ireturnK c23_14 (y_fit1 (by omega)) ?_
              refine y_ireturnK c162_21 (y_fit1 (by omega)) ?_
              refine y_if 53 39 c171_36 rfl rfl (yz_eq (by omega)) (fun hb14539 => ?_) (fun hb14539 => ?_)
              · refine y_iconst 54 c171_53 rfl ?_
                exact y_ireturn c171_54 (y_fit0 _) ⟨_, rfl, rfl, hF14538, (hMI.fr hT14537 (fun a q ha => (yup_ne (by rintro ⟨rfl, rfl⟩; simp [vGq] at ha))))⟩
              · exfalso; omega
            · exfalso; omega
          · exfalso; omega
      · exfalso; omega
    · refine y_iconst 27 c170_26 rfl ?_
      refine y_goto 31 c170_27 rfl ?_
      refine y_ireturnK c170_31 (y_fit1 (by omega)) ?_
      refine y_if 32 9 c171_6 rfl rfl (yz_eq (by omega)) (fun hb14540 => ?_) (fun hb14540 => ?_)
      · exfalso; omega
      · refine y_iload 10 c171_9 rfl rfl ?_
        refine y_iconst 11 c171_10 rfl ?_
        refine y_aload 12 c171_11 rfl rfl rfl ?_
        refine y_getR 15 c171_12 rfl kf376_23 ?_
        refine y_aload 16 c171_15 rfl rfl rfl ?_
        refine y_getX 19 (m 376 18) c171_16 rfl kf376_18 rfl ?_
        refine y_top 0 (by omega) ?_
        refine y_iaX 20 (m 386 0) c171_19 rfl ka386 (by decide) rfl ?_
        refine y_iconst 21 c171_20 rfl ?_
        refine y_isub 22 c171_21 rfl ?_
        refine y_callP 25 [yI a, yI 0, yI ((m 386 0) - 1)] [.ref 376] c171_22 rfl rfl rfl rfl rfl (ycanS km22) (t22m (by omega) (by omega) (by omega)) (fun r14541 hr14541 => ?_)
        refine y_if 32 28 c171_25 rfl rfl (yz_eq (by omega)) (fun hb14542 => ?_) (fun hb14542 => ?_)
        · refine y_iconst 33 c171_32 rfl ?_
          refine y_inlB 36 [.ref 376, yI 0] [] [some (.ref 376), some (yI 0)] c171_33 rfl rfl rfl rfl rfl (ycanO km162 ko376) kn162 rfl rfl ?_
          refine y_aload 1 c162_0 rfl rfl rfl ?_
          refine y_aload 2 c162_1 rfl rfl rfl ?_
          refine y_getX 5 (m 376 19) c162_2 rfl kf376_19 rfl ?_
          refine y_top 1 (by omega) ?_
          refine y_if 16 8 c162_5 rfl rfl (yz_eq (by omega)) (fun hb14543 => ?_) (fun hb14543 => ?_)
          · exfalso; omega
          · refine y_iload 9 c162_8 rfl rfl ?_
            refine y_if 16 12 c162_9 rfl rfl (yz_eq (by omega)) (fun hb14544 => ?_) (fun hb14544 => ?_)
            · refine y_iconst 17 c162_16 rfl ?_
              refine y_iconst 18 c162_17 rfl ?_
              refine y_inlB 21 [.ref 376, yI 0, yI 1] [] [some (.ref 376), some (yI 0), some (yI 1)] c162_18 rfl rfl rfl rfl rfl (ycanO km23 ko376) kn23 rfl rfl ?_
              refine y_aload 1 c23_0 rfl rfl rfl ?_
              refine y_iload 2 c23_1 rfl rfl ?_
              refine y_if 9 5 c23_2 rfl rfl (yz_eq (by omega)) (fun hb14545 => ?_) (fun hb14545 => ?_)
              · refine y_iload 10 c23_9 rfl rfl ?_
                refine y_putI 13 c23_10 rfl kf376_57 (y_fit0 _) ?_
                have hT14546 := hT.up 376 57 1 0 4 rfl (by omega)
                have hF14547 := hF.up 376 57 1 rfl
                refine y_iload 14 c23_13 rfl rfl ?_
                refine y_ireturnK c23_14 (y_fit1 (by omega)) ?_
                refine y_ireturnK c162_21 (y_fit1 (by omega)) ?_
                refine y_if 53 39 c171_36 rfl rfl (yz_eq (by omega)) (fun hb14548 => ?_) (fun hb14548 => ?_)
                · refine y_iconst 54 c171_53 rfl ?_
                  exact y_ireturn c171_54 (y_fit0 _) ⟨_, rfl, rfl, hF14547, (hMI.fr hT14546 (fun a q ha => (yup_ne (by rintro ⟨rfl, rfl⟩; simp [vGq] at ha))))⟩
                · exfalso; omega
              · exfalso; omega
            · exfalso; omega
        · refine y_iconst 29 c171_28 rfl ?_
          refine y_goto 33 c171_29 rfl ?_
          refine y_inlB 36 [.ref 376, yI 1] [] [some (.ref 376), some (yI 1)] c171_33 rfl rfl rfl rfl rfl (ycanO km162 ko376) kn162 rfl rfl ?_
          refine y_aload 1 c162_0 rfl rfl rfl ?_
          refine y_aload 2 c162_1 rfl rfl rfl ?_
          refine y_getX 5 (m 376 19) c162_2 rfl kf376_19 rfl ?_
          refine y_top 1 (by omega) ?_
          refine y_if 16 8 c162_5 rfl rfl (yz_eq (by omega)) (fun hb14549 => ?_) (fun hb14549 => ?_)
          · exfalso; omega
          · refine y_iload 9 c162_8 rfl rfl ?_
            refine y_if 16 12 c162_9 rfl rfl (yz_eq (by omega)) (fun hb14550 => ?_) (fun hb14550 => ?_)
            · exfalso; omega
            · refine y_iconst 13 c162_12 rfl ?_
              refine y_goto 17 c162_13 rfl ?_
              refine y_iconst 18 c162_17 rfl ?_
              refine y_inlB 21 [.ref 376, yI 1, yI 1] [] [some (.ref 376), some (yI 1), some (yI 1)] c162_18 rfl rfl rfl rfl rfl (ycanO km23 ko376) kn23 rfl rfl ?_
              refine y_aload 1 c23_0 rfl rfl rfl ?_
              refine y_iload 2 c23_1 rfl rfl ?_
              refine y_if 9 5 c23_2 rfl rfl (yz_eq (by omega)) (fun hb14551 => ?_) (fun hb14551 => ?_)
              · exfalso; omega
              · refine y_iconst 6 c23_5 rfl ?_
                refine y_goto 10 c23_6 rfl ?_
                refine y_putI 13 c23_10 rfl kf376_57 (y_fit0 _) ?_
                have hT14552 := hT.up 376 57 0 0 4 rfl (by omega)
                have hF14553 := hF.up 376 57 0 rfl
                refine y_iload 14 c23_13 rfl rfl ?_
                refine y_ireturnK c23_14 (y_fit1 (by omega)) ?_
                refine y_ireturnK c162_21 (y_fit1 (by omega)) ?_
                refine y_if 53 39 c171_36 rfl rfl (yz_eq (by omega)) (fun hb14554 => ?_) (fun hb14554 => ?_)
                · exfalso; omega
                · refine y_aload 40 c171_39 rfl rfl rfl ?_
                  refine y_getR 43 c171_40 rfl kf376_43 ?_
                  refine y_iconst 45 c171_43 rfl ?_
                  refine y_iload 46 c171_45 rfl rfl ?_
                  refine y_imul 47 c171_46 rfl ?_
                  refine y_iload 48 c171_47 rfl rfl ?_
                  refine y_iadd 49 c171_48 rfl ?_
                  refine y_iaT 50 ((-2147483648)) 2147483647 c171_49 rfl ka406 (by omega) hT14552 rfl (fun v14555 hv14555 gv14555 => ?_)
                  refine y_goto 54 c171_50 rfl ?_
                  exact y_ireturn c171_54 (y_fit0 _) ⟨_, rfl, rfl, hF14553, (hMI.fr hT14552 (fun a q ha => (yup_ne (by rintro ⟨rfl, rfl⟩; simp [vGq] at ha))))⟩
set_option maxRecDepth 100000 in
theorem t174_0 {L : Nat} {xs : Nat → Int32} {d nn : Nat} {m : yM} (hT : Ty gT m) (hn : m 376 18 = 0) (hMI : MI m) {a : Int} (ra : -2147483648 ≤ a ∧ a < 2147483648) : YC (gZ L xs) (d + 6) 174 [.ref 376, yI a] m nn (qMd nn m) := by
  have tb383 := hT.atp 383 0 0 6 rfl
  have tb384 := hT.atp 384 0 0 10 rfl
  have tb385 := hT.atp 385 0 0 8 rfl
  have tb386 := hT.atp 386 0 0 12 rfl
  have tb387 := hT.atp 387 0 0 8 rfl
  have tb388 := hT.atp 388 0 0 12 rfl
  have tb389 := hT.atp 389 0 0 48 rfl
  have tb390 := hT.atp 390 0 0 125 rfl
  have t19 := hT.atp 376 19 0 1 rfl
  refine YC.mkB [some (.ref 376), some (yI a)] kn174 rfl rfl ?_
  have hF : Fr wML m m := Fr.rf
  refine y_aload 1 c174_0 rfl rfl rfl ?_
  refine y_aload 2 c174_1 rfl rfl rfl ?_
  refine y_iload 3 c174_2 rfl rfl ?_
  refine y_inlB 6 [.ref 376, yI a] [.ref 376] [some (.ref 376), some (yI a)] c174_3 rfl rfl rfl rfl rfl (ycanO km170 ko376) kn170 rfl rfl ?_
  refine y_aload 1 c170_0 rfl rfl rfl ?_
  refine y_getX 4 (m 376 19) c170_1 rfl kf376_19 rfl ?_
  refine y_if 30 7 c170_4 rfl rfl (yz_eq (by omega)) (fun hb14556 => ?_) (fun hb14556 => ?_)
  · refine y_iconst 31 c170_30 rfl ?_
    refine y_ireturnK c170_31 (y_fit1 (by omega)) ?_
    refine y_inlB 9 [.ref 376, yI 0] [] [some (.ref 376), some (yI 0)] c174_6 rfl rfl rfl rfl rfl (ycanO km162 ko376) kn162 rfl rfl ?_
    refine y_aload 1 c162_0 rfl rfl rfl ?_
    refine y_aload 2 c162_1 rfl rfl rfl ?_
    refine y_getX 5 (m 376 19) c162_2 rfl kf376_19 rfl ?_
    refine y_top 0 (by omega) ?_
    refine y_if 16 8 c162_5 rfl rfl (yz_eq (by omega)) (fun hb14557 => ?_) (fun hb14557 => ?_)
    · refine y_iconst 17 c162_16 rfl ?_
      refine y_iconst 18 c162_17 rfl ?_
      refine y_inlB 21 [.ref 376, yI 0, yI 1] [] [some (.ref 376), some (yI 0), some (yI 1)] c162_18 rfl rfl rfl rfl rfl (ycanO km23 ko376) kn23 rfl rfl ?_
      refine y_aload 1 c23_0 rfl rfl rfl ?_
      refine y_iload 2 c23_1 rfl rfl ?_
      refine y_if 9 5 c23_2 rfl rfl (yz_eq (by omega)) (fun hb14558 => ?_) (fun hb14558 => ?_)
      · refine y_iload 10 c23_9 rfl rfl ?_
        refine y_putI 13 c23_10 rfl kf376_57 (y_fit0 _) ?_
        have hT14559 := hT.up 376 57 1 0 4 rfl (by omega)
        have hF14560 := hF.up 376 57 1 rfl
        refine y_iload 14 c23_13 rfl rfl ?_
        refine y_ireturnK c23_14 (y_fit1 (by omega)) ?_
        refine y_ireturnK c162_21 (y_fit1 (by omega)) ?_
        refine y_if 21 12 c174_9 rfl rfl (yz_eq (by omega)) (fun hb14561 => ?_) (fun hb14561 => ?_)
        · refine y_iconst 22 c174_21 rfl ?_
          exact y_ireturn c174_22 (y_fit0 _) ⟨_, rfl, rfl, hF14560, (hMI.fr hT14559 (fun a q ha => (yup_ne (by rintro ⟨rfl, rfl⟩; simp [vGq] at ha))))⟩
        · exfalso; omega
      · exfalso; omega
    · exfalso; omega
  · refine y_iload 8 c170_7 rfl rfl ?_
    refine y_iconst 9 c170_8 rfl ?_
    refine y_aload 10 c170_9 rfl rfl rfl ?_
    refine y_getR 13 c170_10 rfl kf376_21 ?_
    refine y_aload 14 c170_13 rfl rfl rfl ?_
    refine y_getX 17 (m 376 18) c170_14 rfl kf376_18 rfl ?_
    have tb14562 := hT.atp 376 18 0 1 rfl
    refine y_top 0 (by omega) ?_
    refine y_iaX 18 (m 384 0) c170_17 rfl ka384 (by decide) rfl ?_
    refine y_iconst 19 c170_18 rfl ?_
    refine y_isub 20 c170_19 rfl ?_
    refine y_callP 23 [yI a, yI 0, yI ((m 384 0) - 1)] [] c170_20 rfl rfl rfl rfl rfl (ycanS km22) (t22m (by omega) (by omega) (by omega)) (fun r14563 hr14563 => ?_)
    refine y_if 30 26 c170_23 rfl rfl (yz_eq (by omega)) (fun hb14564 => ?_) (fun hb14564 => ?_)
    · refine y_iconst 31 c170_30 rfl ?_
      refine y_ireturnK c170_31 (y_fit1 (by omega)) ?_
      refine y_inlB 9 [.ref 376, yI 0] [] [some (.ref 376), some (yI 0)] c174_6 rfl rfl rfl rfl rfl (ycanO km162 ko376) kn162 rfl rfl ?_
      refine y_aload 1 c162_0 rfl rfl rfl ?_
      refine y_aload 2 c162_1 rfl rfl rfl ?_
      refine y_getX 5 (m 376 19) c162_2 rfl kf376_19 rfl ?_
      refine y_top 1 (by omega) ?_
      refine y_if 16 8 c162_5 rfl rfl (yz_eq (by omega)) (fun hb14565 => ?_) (fun hb14565 => ?_)
      · exfalso; omega
      · refine y_iload 9 c162_8 rfl rfl ?_
        refine y_if 16 12 c162_9 rfl rfl (yz_eq (by omega)) (fun hb14566 => ?_) (fun hb14566 => ?_)
        · refine y_iconst 17 c162_16 rfl ?_
          refine y_iconst 18 c162_17 rfl ?_
          refine y_inlB 21 [.ref 376, yI 0, yI 1] [] [some (.ref 376), some (yI 0), some (yI 1)] c162_18 rfl rfl rfl rfl rfl (ycanO km23 ko376) kn23 rfl rfl ?_
          refine y_aload 1 c23_0 rfl rfl rfl ?_
          refine y_iload 2 c23_1 rfl rfl ?_
          refine y_if 9 5 c23_2 rfl rfl (yz_eq (by omega)) (fun hb14567 => ?_) (fun hb14567 => ?_)
          · refine y_iload 10 c23_9 rfl rfl ?_
            refine y_putI 13 c23_10 rfl kf376_57 (y_fit0 _) ?_
            have hT14568 := hT.up 376 57 1 0 4 rfl (by omega)
            have hF14569 := hF.up 376 57 1 rfl
            refine y_iload 14 c23_13 rfl rfl ?_
            refine y_ireturnK c23_14 (y_fit1 (by omega)) ?_
            refine y_ireturnK c162_21 (y_fit1 (by omega)) ?_
            refine y_if 21 12 c174_9 rfl rfl (yz_eq (by omega)) (fun hb14570 => ?_) (fun hb14570 => ?_)
            · refine y_iconst 22 c174_21 rfl ?_
              exact y_ireturn c174_22 (y_fit0 _) ⟨_, rfl, rfl, hF14569, (hMI.fr hT14568 (fun a q ha => (yup_ne (by rintro ⟨rfl, rfl⟩; simp [vGq] at ha))))⟩
            · exfalso; omega
          · exfalso; omega
        · exfalso; omega
    · refine y_iconst 27 c170_26 rfl ?_
      refine y_goto 31 c170_27 rfl ?_
      refine y_ireturnK c170_31 (y_fit1 (by omega)) ?_
      refine y_inlB 9 [.ref 376, yI 1] [] [some (.ref 376), some (yI 1)] c174_6 rfl rfl rfl rfl rfl (ycanO km162 ko376) kn162 rfl rfl ?_
      refine y_aload 1 c162_0 rfl rfl rfl ?_
      refine y_aload 2 c162_1 rfl rfl rfl ?_
      refine y_getX 5 (m 376 19) c162_2 rfl kf376_19 rfl ?_
      refine y_top 1 (by omega) ?_
      refine y_if 16 8 c162_5 rfl rfl (yz_eq (by omega)) (fun hb14571 => ?_) (fun hb14571 => ?_)
      · exfalso; omega
      · refine y_iload 9 c162_8 rfl rfl ?_
        refine y_if 16 12 c162_9 rfl rfl (yz_eq (by omega)) (fun hb14572 => ?_) (fun hb14572 => ?_)
        · exfalso; omega
        · refine y_iconst 13 c162_12 rfl ?_
          refine y_goto 17 c162_13 rfl ?_
          refine y_iconst 18 c162_17 rfl ?_
          refine y_inlB 21 [.ref 376, yI 1, yI 1] [] [some (.ref 376), some (yI 1), some (yI 1)] c162_18 rfl rfl rfl rfl rfl (ycanO km23 ko376) kn23 rfl rfl ?_
          refine y_aload 1 c23_0 rfl rfl rfl ?_
          refine y_iload 2 c23_1 rfl rfl ?_
          refine y_if 9 5 c23_2 rfl rfl (yz_eq (by omega)) (fun hb14573 => ?_) (fun hb14573 => ?_)
          · exfalso; omega
          · refine y_iconst 6 c23_5 rfl ?_
            refine y_goto 10 c23_6 rfl ?_
            refine y_putI 13 c23_10 rfl kf376_57 (y_fit0 _) ?_
            have hT14574 := hT.up 376 57 0 0 4 rfl (by omega)
            have hF14575 := hF.up 376 57 0 rfl
            refine y_iload 14 c23_13 rfl rfl ?_
            refine y_ireturnK c23_14 (y_fit1 (by omega)) ?_
            refine y_ireturnK c162_21 (y_fit1 (by omega)) ?_
            refine y_if 21 12 c174_9 rfl rfl (yz_eq (by omega)) (fun hb14576 => ?_) (fun hb14576 => ?_)
            · exfalso; omega
            · refine y_aload 13 c174_12 rfl rfl rfl ?_
              refine y_getR 16 c174_13 rfl kf376_44 ?_
              refine y_iload 17 c174_16 rfl rfl ?_
              refine y_iaT 18 ((-2147483648)) 2147483647 c174_17 rfl ka407 (by omega) hT14574 rfl (fun v14577 hv14577 gv14577 => ?_)
              refine y_goto 22 c174_18 rfl ?_
              exact y_ireturn c174_22 (y_fit0 _) ⟨_, rfl, rfl, hF14575, (hMI.fr hT14574 (fun a q ha => (yup_ne (by rintro ⟨rfl, rfl⟩; simp [vGq] at ha))))⟩
set_option maxRecDepth 100000 in
theorem t185_0 {L : Nat} {xs : Nat → Int32} {d nn : Nat} {m : yM} (hT : Ty gT m) (hn : m 376 18 = 0) (hMI : MI m) {a : Int} (ra : -2147483648 ≤ a ∧ a < 2147483648) {b : Int} (rb : -2147483648 ≤ b ∧ b < 2147483648) : YC (gZ L xs) (d + 6) 185 [.ref 376, yI a, yI b] m nn (qMd nn m) := by
  have tb383 := hT.atp 383 0 0 6 rfl
  have tb384 := hT.atp 384 0 0 10 rfl
  have tb385 := hT.atp 385 0 0 8 rfl
  have tb386 := hT.atp 386 0 0 12 rfl
  have tb387 := hT.atp 387 0 0 8 rfl
  have tb388 := hT.atp 388 0 0 12 rfl
  have tb389 := hT.atp 389 0 0 48 rfl
  have tb390 := hT.atp 390 0 0 125 rfl
  have t19 := hT.atp 376 19 0 1 rfl
  refine YC.mkB [some (.ref 376), some (yI a), some (yI b), none] kn185 rfl rfl ?_
  have hF : Fr wML m m := Fr.rf
  refine y_aload 1 c185_0 rfl rfl rfl ?_
  refine y_aload 2 c185_1 rfl rfl rfl ?_
  refine y_iload 3 c185_2 rfl rfl ?_
  refine y_inlB 6 [.ref 376, yI a] [.ref 376] [some (.ref 376), some (yI a)] c185_3 rfl rfl rfl rfl rfl (ycanO km170 ko376) kn170 rfl rfl ?_
  refine y_aload 1 c170_0 rfl rfl rfl ?_
  refine y_getX 4 (m 376 19) c170_1 rfl kf376_19 rfl ?_
  refine y_if 30 7 c170_4 rfl rfl (yz_eq (by omega)) (fun hb14578 => ?_) (fun hb14578 => ?_)
  · refine y_iconst 31 c170_30 rfl ?_
    refine y_ireturnK c170_31 (y_fit1 (by omega)) ?_
    refine y_inlB 9 [.ref 376, yI 0] [] [some (.ref 376), some (yI 0)] c185_6 rfl rfl rfl rfl rfl (ycanO km162 ko376) kn162 rfl rfl ?_
    refine y_aload 1 c162_0 rfl rfl rfl ?_
    refine y_aload 2 c162_1 rfl rfl rfl ?_
    refine y_getX 5 (m 376 19) c162_2 rfl kf376_19 rfl ?_
    refine y_top 0 (by omega) ?_
    refine y_if 16 8 c162_5 rfl rfl (yz_eq (by omega)) (fun hb14579 => ?_) (fun hb14579 => ?_)
    · refine y_iconst 17 c162_16 rfl ?_
      refine y_iconst 18 c162_17 rfl ?_
      refine y_inlB 21 [.ref 376, yI 0, yI 1] [] [some (.ref 376), some (yI 0), some (yI 1)] c162_18 rfl rfl rfl rfl rfl (ycanO km23 ko376) kn23 rfl rfl ?_
      refine y_aload 1 c23_0 rfl rfl rfl ?_
      refine y_iload 2 c23_1 rfl rfl ?_
      refine y_if 9 5 c23_2 rfl rfl (yz_eq (by omega)) (fun hb14580 => ?_) (fun hb14580 => ?_)
      · refine y_iload 10 c23_9 rfl rfl ?_
        refine y_putI 13 c23_10 rfl kf376_57 (y_fit0 _) ?_
        have hT14581 := hT.up 376 57 1 0 4 rfl (by omega)
        have hF14582 := hF.up 376 57 1 rfl
        refine y_iload 14 c23_13 rfl rfl ?_
        refine y_ireturnK c23_14 (y_fit1 (by omega)) ?_
        refine y_ireturnK c162_21 (y_fit1 (by omega)) ?_
        refine y_if 14 12 c185_9 rfl rfl (yz_ne (by omega)) (fun hb14583 => ?_) (fun hb14583 => ?_)
        · exfalso; omega
        · refine y_iconst 13 c185_12 rfl ?_
          exact y_ireturn c185_13 (y_fit0 _) ⟨_, rfl, rfl, hF14582, (hMI.fr hT14581 (fun a q ha => (yup_ne (by rintro ⟨rfl, rfl⟩; simp [vGq] at ha))))⟩
      · exfalso; omega
    · exfalso; omega
  · refine y_iload 8 c170_7 rfl rfl ?_
    refine y_iconst 9 c170_8 rfl ?_
    refine y_aload 10 c170_9 rfl rfl rfl ?_
    refine y_getR 13 c170_10 rfl kf376_21 ?_
    refine y_aload 14 c170_13 rfl rfl rfl ?_
    refine y_getX 17 (m 376 18) c170_14 rfl kf376_18 rfl ?_
    have tb14584 := hT.atp 376 18 0 1 rfl
    refine y_top 0 (by omega) ?_
    refine y_iaX 18 (m 384 0) c170_17 rfl ka384 (by decide) rfl ?_
    refine y_iconst 19 c170_18 rfl ?_
    refine y_isub 20 c170_19 rfl ?_
    refine y_callP 23 [yI a, yI 0, yI ((m 384 0) - 1)] [] c170_20 rfl rfl rfl rfl rfl (ycanS km22) (t22m (by omega) (by omega) (by omega)) (fun r14585 hr14585 => ?_)
    refine y_if 30 26 c170_23 rfl rfl (yz_eq (by omega)) (fun hb14586 => ?_) (fun hb14586 => ?_)
    · refine y_iconst 31 c170_30 rfl ?_
      refine y_ireturnK c170_31 (y_fit1 (by omega)) ?_
      refine y_inlB 9 [.ref 376, yI 0] [] [some (.ref 376), some (yI 0)] c185_6 rfl rfl rfl rfl rfl (ycanO km162 ko376) kn162 rfl rfl ?_
      refine y_aload 1 c162_0 rfl rfl rfl ?_
      refine y_aload 2 c162_1 rfl rfl rfl ?_
      refine y_getX 5 (m 376 19) c162_2 rfl kf376_19 rfl ?_
      refine y_top 1 (by omega) ?_
      refine y_if 16 8 c162_5 rfl rfl (yz_eq (by omega)) (fun hb14587 => ?_) (fun hb14587 => ?_)
      · exfalso; omega
      · refine y_iload 9 c162_8 rfl rfl ?_
        refine y_if 16 12 c162_9 rfl rfl (yz_eq (by omega)) (fun hb14588 => ?_) (fun hb14588 => ?_)
        · refine y_iconst 17 c162_16 rfl ?_
          refine y_iconst 18 c162_17 rfl ?_
          refine y_inlB 21 [.ref 376, yI 0, yI 1] [] [some (.ref 376), some (yI 0), some (yI 1)] c162_18 rfl rfl rfl rfl rfl (ycanO km23 ko376) kn23 rfl rfl ?_
          refine y_aload 1 c23_0 rfl rfl rfl ?_
          refine y_iload 2 c23_1 rfl rfl ?_
          refine y_if 9 5 c23_2 rfl rfl (yz_eq (by omega)) (fun hb14589 => ?_) (fun hb14589 => ?_)
          · refine y_iload 10 c23_9 rfl rfl ?_
            refine y_putI 13 c23_10 rfl kf376_57 (y_fit0 _) ?_
            have hT14590 := hT.up 376 57 1 0 4 rfl (by omega)
            have hF14591 := hF.up 376 57 1 rfl
            refine y_iload 14 c23_13 rfl rfl ?_
            refine y_ireturnK c23_14 (y_fit1 (by omega)) ?_
            refine y_ireturnK c162_21 (y_fit1 (by omega)) ?_
            refine y_if 14 12 c185_9 rfl rfl (yz_ne (by omega)) (fun hb14592 => ?_) (fun hb14592 => ?_)
            · exfalso; omega
            · refine y_iconst 13 c185_12 rfl ?_
              exact y_ireturn c185_13 (y_fit0 _) ⟨_, rfl, rfl, hF14591, (hMI.fr hT14590 (fun a q ha => (yup_ne (by rintro ⟨rfl, rfl⟩; simp [vGq] at ha))))⟩
          · exfalso; omega
        · exfalso; omega
    · refine y_iconst 27 c170_26 rfl ?_
      refine y_goto 31 c170_27 rfl ?_
      refine y_ireturnK c170_31 (y_fit1 (by omega)) ?_
      refine y_inlB 9 [.ref 376, yI 1] [] [some (.ref 376), some (yI 1)] c185_6 rfl rfl rfl rfl rfl (ycanO km162 ko376) kn162 rfl rfl ?_
      refine y_aload 1 c162_0 rfl rfl rfl ?_
      refine y_aload 2 c162_1 rfl rfl rfl ?_
      refine y_getX 5 (m 376 19) c162_2 rfl kf376_19 rfl ?_
      refine y_top 1 (by omega) ?_
      refine y_if 16 8 c162_5 rfl rfl (yz_eq (by omega)) (fun hb14593 => ?_) (fun hb14593 => ?_)
      · exfalso; omega
      · refine y_iload 9 c162_8 rfl rfl ?_
        refine y_if 16 12 c162_9 rfl rfl (yz_eq (by omega)) (fun hb14594 => ?_) (fun hb14594 => ?_)
        · exfalso; omega
        · refine y_iconst 13 c162_12 rfl ?_
          refine y_goto 17 c162_13 rfl ?_
          refine y_iconst 18 c162_17 rfl ?_
          refine y_inlB 21 [.ref 376, yI 1, yI 1] [] [some (.ref 376), some (yI 1), some (yI 1)] c162_18 rfl rfl rfl rfl rfl (ycanO km23 ko376) kn23 rfl rfl ?_
          refine y_aload 1 c23_0 rfl rfl rfl ?_
          refine y_iload 2 c23_1 rfl rfl ?_
          refine y_if 9 5 c23_2 rfl rfl (yz_eq (by omega)) (fun hb14595 => ?_) (fun hb14595 => ?_)
          · exfalso; omega
          · refine y_iconst 6 c23_5 rfl ?_
            refine y_goto 10 c23_6 rfl ?_
            refine y_putI 13 c23_10 rfl kf376_57 (y_fit0 _) ?_
            have hT14596 := hT.up 376 57 0 0 4 rfl (by omega)
            have hF14597 := hF.up 376 57 0 rfl
            refine y_iload 14 c23_13 rfl rfl ?_
            refine y_ireturnK c23_14 (y_fit1 (by omega)) ?_
            refine y_ireturnK c162_21 (y_fit1 (by omega)) ?_
            refine y_if 14 12 c185_9 rfl rfl (yz_ne (by omega)) (fun hb14598 => ?_) (fun hb14598 => ?_)
            · refine y_aload 15 c185_14 rfl rfl rfl ?_
              refine y_iload 16 c185_15 rfl rfl ?_
              refine y_iconst 17 c185_16 rfl ?_
              refine y_iconst 18 c185_17 rfl ?_
              refine y_callP 21 [yI b, yI 0, yI 4] [.ref 376] c185_18 rfl rfl rfl rfl rfl (ycanS km22) (t22m (by omega) (by omega) (by omega)) (fun r14599 hr14599 => ?_)
              refine y_iconst 22 c185_21 rfl ?_
              refine y_inlB 25 [.ref 376, yI r14599, yI 2] [] [some (.ref 376), some (yI r14599), some (yI 2)] c185_22 rfl rfl rfl rfl rfl (ycanO km23 ko376) kn23 rfl rfl ?_
              refine y_aload 1 c23_0 rfl rfl rfl ?_
              refine y_iload 2 c23_1 rfl rfl ?_
              refine y_if 9 5 c23_2 rfl rfl (yz_eq (by omega)) (fun hb14600 => ?_) (fun hb14600 => ?_)
              · refine y_iload 10 c23_9 rfl rfl ?_
                refine y_putI 13 c23_10 rfl kf376_57 (y_fit0 _) ?_
                have hT14601 := hT14596.up 376 57 2 0 4 rfl (by omega)
                have hF14602 := hF14597.up 376 57 2 rfl
                refine y_iload 14 c23_13 rfl rfl ?_
                refine y_ireturnK c23_14 (y_fit1 (by omega)) ?_
                refine y_if 30 28 c185_25 rfl rfl (yz_ne (by omega)) (fun hb14603 => ?_) (fun hb14603 => ?_)
                · exfalso; omega
                · refine y_iconst 29 c185_28 rfl ?_
                  exact y_ireturn c185_29 (y_fit0 _) ⟨_, rfl, rfl, hF14602, (hMI.fr hT14601 (fun a q ha => ((yup_ne (by rintro ⟨rfl, rfl⟩; simp [vGq] at ha)).trans (yup_ne (by rintro ⟨rfl, rfl⟩; simp [vGq] at ha)))))⟩
              · refine y_iconst 6 c23_5 rfl ?_
                refine y_goto 10 c23_6 rfl ?_
                refine y_putI 13 c23_10 rfl kf376_57 (y_fit0 _) ?_
                have hT14604 := hT14596.up 376 57 0 0 4 rfl (by omega)
                have hF14605 := hF14597.up 376 57 0 rfl
                refine y_iload 14 c23_13 rfl rfl ?_
                refine y_ireturnK c23_14 (y_fit1 (by omega)) ?_
                refine y_if 30 28 c185_25 rfl rfl (yz_ne (by omega)) (fun hb14606 => ?_) (fun hb14606 => ?_)
                · refine y_iconst 32 c185_30 rfl ?_
                  refine y_aload 33 c185_32 rfl rfl rfl ?_
                  refine y_getX 36 (m 376 18) c185_33 rfl kf376_18 rfl ?_
                  refine y_top 0 (by omega) ?_
                  refine y_imul 37 c185_36 rfl ?_
                  refine y_top 0 (by decide) ?_
                  refine y_iload 38 c185_37 rfl rfl ?_
                  refine y_iadd 39 c185_38 rfl ?_
                  refine y_istore 40 c185_39 rfl rfl ?_
                  refine y_iload 41 c185_40 rfl rfl ?_
                  refine y_iconst 42 c185_41 rfl ?_
                  refine y_icmp 52 45 c185_42 rfl rfl (yc_ne (by omega) (by omega)) (fun hb14607 => ?_) (fun hb14607 => ?_)
                  · refine y_iload 53 c185_52 rfl rfl ?_
                    refine y_iconst 54 c185_53 rfl ?_
                    refine y_isub 55 c185_54 rfl ?_
                    refine y_aload 56 c185_55 rfl rfl rfl ?_
                    refine y_getR 59 c185_56 rfl kf376_34 ?_
                    refine y_iload 60 c185_59 rfl rfl ?_
                    refine y_iaT 61 0 2 c185_60 rfl ka397 (by omega) hT14604 rfl (fun v14608 hv14608 gv14608 => ?_)
                    refine y_icmp 75 64 c185_61 rfl rfl (yc_ge (by omega) (by omega)) (fun hb14609 => ?_) (fun hb14609 => ?_)
                    · refine y_iconst 76 c185_75 rfl ?_
                      exact y_ireturn c185_76 (y_fit0 _) ⟨_, rfl, rfl, hF14605, (hMI.fr hT14604 (fun a q ha => ((yup_ne (by rintro ⟨rfl, rfl⟩; simp [vGq] at ha)).trans (yup_ne (by rintro ⟨rfl, rfl⟩; simp [vGq] at ha)))))⟩
                    · refine y_aload 65 c185_64 rfl rfl rfl ?_
                      refine y_getR 68 c185_65 rfl kf376_35 ?_
                      refine y_iload 69 c185_68 rfl rfl ?_
                      refine y_iaT 70 0 46 c185_69 rfl ka398 (by omega) hT14604 rfl (fun v14610 hv14610 gv14610 => ?_)
                      refine y_iload 71 c185_70 rfl rfl ?_
                      refine y_iadd 72 c185_71 rfl ?_
                      refine y_goto 76 c185_72 rfl ?_
                      exact y_ireturn c185_76 (y_fit0 _) ⟨_, rfl, rfl, hF14605, (hMI.fr hT14604 (fun a q ha => ((yup_ne (by rintro ⟨rfl, rfl⟩; simp [vGq] at ha)).trans (yup_ne (by rintro ⟨rfl, rfl⟩; simp [vGq] at ha)))))⟩
                  · refine y_aload 46 c185_45 rfl rfl rfl ?_
                    refine y_getR 49 c185_46 rfl kf376_33 ?_
                    refine y_iload 50 c185_49 rfl rfl ?_
                    refine y_iaT 51 0 5 c185_50 rfl ka396 (by omega) hT14604 rfl (fun v14611 hv14611 gv14611 => ?_)
                    exact y_ireturn c185_51 (y_fit0 _) ⟨_, rfl, rfl, hF14605, (hMI.fr hT14604 (fun a q ha => ((yup_ne (by rintro ⟨rfl, rfl⟩; simp [vGq] at ha)).trans (yup_ne (by rintro ⟨rfl, rfl⟩; simp [vGq] at ha)))))⟩
                · exfalso; omega
            · exfalso; omega
set_option maxRecDepth 100000 in
theorem t214_0 {L : Nat} {xs : Nat → Int32} {d nn : Nat} {m : yM} (hT : Ty gT m) (hn : m 376 18 = 0) (hMI : MI m) {a : Int} (ra : -2147483648 ≤ a ∧ a < 2147483648) {b : Int} (rb : -2147483648 ≤ b ∧ b < 2147483648) : YC (gZ L xs) (d + 6) 214 [.ref 376, yI a, yI b] m nn (qMd nn m) := by
  have tb383 := hT.atp 383 0 0 6 rfl
  have tb384 := hT.atp 384 0 0 10 rfl
  have tb385 := hT.atp 385 0 0 8 rfl
  have tb386 := hT.atp 386 0 0 12 rfl
  have tb387 := hT.atp 387 0 0 8 rfl
  have tb388 := hT.atp 388 0 0 12 rfl
  have tb389 := hT.atp 389 0 0 48 rfl
  have tb390 := hT.atp 390 0 0 125 rfl
  have t19 := hT.atp 376 19 0 1 rfl
  refine YC.mkB [some (.ref 376), some (yI a), some (yI b)] kn214 rfl rfl ?_
  have hF : Fr wML m m := Fr.rf
  refine y_aload 1 c214_0 rfl rfl rfl ?_
  refine y_aload 2 c214_1 rfl rfl rfl ?_
  refine y_iload 3 c214_2 rfl rfl ?_
  refine y_inlB 6 [.ref 376, yI a] [.ref 376] [some (.ref 376), some (yI a)] c214_3 rfl rfl rfl rfl rfl (ycanO km160 ko376) kn160 rfl rfl ?_
  refine y_aload 1 c160_0 rfl rfl rfl ?_
  refine y_getX 4 (m 376 19) c160_1 rfl kf376_19 rfl ?_
  refine y_if 30 7 c160_4 rfl rfl (yz_eq (by omega)) (fun hb14612 => ?_) (fun hb14612 => ?_)
  · refine y_iconst 31 c160_30 rfl ?_
    refine y_ireturnK c160_31 (y_fit1 (by omega)) ?_
    refine y_if 21 9 c214_6 rfl rfl (yz_eq (by omega)) (fun hb14613 => ?_) (fun hb14613 => ?_)
    · refine y_iconst 22 c214_21 rfl ?_
      refine y_inlB 25 [.ref 376, yI 0] [] [some (.ref 376), some (yI 0)] c214_22 rfl rfl rfl rfl rfl (ycanO km162 ko376) kn162 rfl rfl ?_
      refine y_aload 1 c162_0 rfl rfl rfl ?_
      refine y_aload 2 c162_1 rfl rfl rfl ?_
      refine y_getX 5 (m 376 19) c162_2 rfl kf376_19 rfl ?_
      refine y_top 0 (by omega) ?_
      refine y_if 16 8 c162_5 rfl rfl (yz_eq (by omega)) (fun hb14614 => ?_) (fun hb14614 => ?_)
      · refine y_iconst 17 c162_16 rfl ?_
        refine y_iconst 18 c162_17 rfl ?_
        refine y_inlB 21 [.ref 376, yI 0, yI 1] [] [some (.ref 376), some (yI 0), some (yI 1)] c162_18 rfl rfl rfl rfl rfl (ycanO km23 ko376) kn23 rfl rfl ?_
        refine y_aload 1 c23_0 rfl rfl rfl ?_
        refine y_iload 2 c23_1 rfl rfl ?_
        refine y_if 9 5 c23_2 rfl rfl (yz_eq (by omega)) (fun hb14615 => ?_) (fun hb14615 => ?_)
        · refine y_iload 10 c23_9 rfl rfl ?_
          refine y_putI 13 c23_10 rfl kf376_57 (y_fit0 _) ?_
          have hT14616 := hT.up 376 57 1 0 4 rfl (by omega)
          have hF14617 := hF.up 376 57 1 rfl
          refine y_iload 14 c23_13 rfl rfl ?_
          refine y_ireturnK c23_14 (y_fit1 (by omega)) ?_
          refine y_ireturnK c162_21 (y_fit1 (by omega)) ?_
          refine y_if 46 28 c214_25 rfl rfl (yz_eq (by omega)) (fun hb14618 => ?_) (fun hb14618 => ?_)
          · refine y_iconst 47 c214_46 rfl ?_
            exact y_ireturn c214_47 (y_fit0 _) ⟨_, rfl, rfl, hF14617, (hMI.fr hT14616 (fun a q ha => (yup_ne (by rintro ⟨rfl, rfl⟩; simp [vGq] at ha))))⟩
          · exfalso; omega
        · exfalso; omega
      · exfalso; omega
    · exfalso; omega
  · refine y_iload 8 c160_7 rfl rfl ?_
    refine y_iconst 9 c160_8 rfl ?_
    refine y_aload 10 c160_9 rfl rfl rfl ?_
    refine y_getR 13 c160_10 rfl kf376_26 ?_
    refine y_aload 14 c160_13 rfl rfl rfl ?_
    refine y_getX 17 (m 376 18) c160_14 rfl kf376_18 rfl ?_
    have tb14619 := hT.atp 376 18 0 1 rfl
    refine y_top 0 (by omega) ?_
    refine y_iaX 18 (m 389 0) c160_17 rfl ka389 (by decide) rfl ?_
    refine y_iconst 19 c160_18 rfl ?_
    refine y_isub 20 c160_19 rfl ?_
    refine y_callP 23 [yI a, yI 0, yI ((m 389 0) - 1)] [] c160_20 rfl rfl rfl rfl rfl (ycanS km22) (t22m (by omega) (by omega) (by omega)) (fun r14620 hr14620 => ?_)
    refine y_if 30 26 c160_23 rfl rfl (yz_eq (by omega)) (fun hb14621 => ?_) (fun hb14621 => ?_)
    · refine y_iconst 31 c160_30 rfl ?_
      refine y_ireturnK c160_31 (y_fit1 (by omega)) ?_
      refine y_if 21 9 c214_6 rfl rfl (yz_eq (by omega)) (fun hb14622 => ?_) (fun hb14622 => ?_)
      · refine y_iconst 22 c214_21 rfl ?_
        refine y_inlB 25 [.ref 376, yI 0] [] [some (.ref 376), some (yI 0)] c214_22 rfl rfl rfl rfl rfl (ycanO km162 ko376) kn162 rfl rfl ?_
        refine y_aload 1 c162_0 rfl rfl rfl ?_
        refine y_aload 2 c162_1 rfl rfl rfl ?_
        refine y_getX 5 (m 376 19) c162_2 rfl kf376_19 rfl ?_
        refine y_top 1 (by omega) ?_
        refine y_if 16 8 c162_5 rfl rfl (yz_eq (by omega)) (fun hb14623 => ?_) (fun hb14623 => ?_)
        · exfalso; omega
        · refine y_iload 9 c162_8 rfl rfl ?_
          refine y_if 16 12 c162_9 rfl rfl (yz_eq (by omega)) (fun hb14624 => ?_) (fun hb14624 => ?_)
          · refine y_iconst 17 c162_16 rfl ?_
            refine y_iconst 18 c162_17 rfl ?_
            refine y_inlB 21 [.ref 376, yI 0, yI 1] [] [some (.ref 376), some (yI 0), some (yI 1)] c162_18 rfl rfl rfl rfl rfl (ycanO km23 ko376) kn23 rfl rfl ?_
            refine y_aload 1 c23_0 rfl rfl rfl ?_
            refine y_iload 2 c23_1 rfl rfl ?_
            refine y_if 9 5 c23_2 rfl rfl (yz_eq (by omega)) (fun hb14625 => ?_) (fun hb14625 => ?_)
            · refine y_iload 10 c23_9 rfl rfl ?_
              refine y_putI 13 c23_10 rfl kf376_57 (y_fit0 _) ?_
              have hT14626 := hT.up 376 57 1 0 4 rfl (by omega)
              have hF14627 := hF.up 376 57 1 rfl
              refine y_iload 14 c23_13 rfl rfl ?_
              refine y_ireturnK c23_14 (y_fit1 (by omega)) ?_
              refine y_ireturnK c162_21 (y_fit1 (by omega)) ?_
              refine y_if 46 28 c214_25 rfl rfl (yz_eq (by omega)) (fun hb14628 => ?_) (fun hb14628 => ?_)
              · refine y_iconst 47 c214_46 rfl ?_
                exact y_ireturn c214_47 (y_fit0 _) ⟨_, rfl, rfl, hF14627, (hMI.fr hT14626 (fun a q ha => (yup_ne (by rintro ⟨rfl, rfl⟩; simp [vGq] at ha))))⟩
              · exfalso; omega
            · exfalso; omega
          · exfalso; omega
      · exfalso; omega
    · refine y_iconst 27 c160_26 rfl ?_
      refine y_goto 31 c160_27 rfl ?_
      refine y_ireturnK c160_31 (y_fit1 (by omega)) ?_
      refine y_if 21 9 c214_6 rfl rfl (yz_eq (by omega)) (fun hb14629 => ?_) (fun hb14629 => ?_)
      · exfalso; omega
      · refine y_aload 10 c214_9 rfl rfl rfl ?_
        refine y_iload 11 c214_10 rfl rfl ?_
        refine y_inlB 14 [.ref 376, yI b] [.ref 376] [some (.ref 376), some (yI b)] c214_11 rfl rfl rfl rfl rfl (ycanO km161 ko376) kn161 rfl rfl ?_
        refine y_aload 1 c161_0 rfl rfl rfl ?_
        refine y_getX 4 (m 376 19) c161_1 rfl kf376_19 rfl ?_
        refine y_top 1 (by omega) ?_
        refine y_if 30 7 c161_4 rfl rfl (yz_eq (by omega)) (fun hb14630 => ?_) (fun hb14630 => ?_)
        · exfalso; omega
        · refine y_iload 8 c161_7 rfl rfl ?_
          refine y_iconst 9 c161_8 rfl ?_
          refine y_aload 10 c161_9 rfl rfl rfl ?_
          refine y_getR 13 c161_10 rfl kf376_25 ?_
          refine y_aload 14 c161_13 rfl rfl rfl ?_
          refine y_getX 17 (m 376 18) c161_14 rfl kf376_18 rfl ?_
          refine y_top 0 (by omega) ?_
          refine y_iaX 18 (m 388 0) c161_17 rfl ka388 (by decide) rfl ?_
          refine y_iconst 19 c161_18 rfl ?_
          refine y_isub 20 c161_19 rfl ?_
          refine y_callP 23 [yI b, yI 0, yI ((m 388 0) - 1)] [] c161_20 rfl rfl rfl rfl rfl (ycanS km22) (t22m (by omega) (by omega) (by omega)) (fun r14631 hr14631 => ?_)
          refine y_if 30 26 c161_23 rfl rfl (yz_eq (by omega)) (fun hb14632 => ?_) (fun hb14632 => ?_)
          · refine y_iconst 31 c161_30 rfl ?_
            refine y_ireturnK c161_31 (y_fit1 (by omega)) ?_
            refine y_if 21 17 c214_14 rfl rfl (yz_eq (by omega)) (fun hb14633 => ?_) (fun hb14633 => ?_)
            · refine y_iconst 22 c214_21 rfl ?_
              refine y_inlB 25 [.ref 376, yI 0] [] [some (.ref 376), some (yI 0)] c214_22 rfl rfl rfl rfl rfl (ycanO km162 ko376) kn162 rfl rfl ?_
              refine y_aload 1 c162_0 rfl rfl rfl ?_
              refine y_aload 2 c162_1 rfl rfl rfl ?_
              refine y_getX 5 (m 376 19) c162_2 rfl kf376_19 rfl ?_
              refine y_top 1 (by omega) ?_
              refine y_if 16 8 c162_5 rfl rfl (yz_eq (by omega)) (fun hb14634 => ?_) (fun hb14634 => ?_)
              · exfalso; omega
              · refine y_iload 9 c162_8 rfl rfl ?_
                refine y_if 16 12 c162_9 rfl rfl (yz_eq (by omega)) (fun hb14635 => ?_) (fun hb14635 => ?_)
                · refine y_iconst 17 c162_16 rfl ?_
                  refine y_iconst 18 c162_17 rfl ?_
                  refine y_inlB 21 [.ref 376, yI 0, yI 1] [] [some (.ref 376), some (yI 0), some (yI 1)] c162_18 rfl rfl rfl rfl rfl (ycanO km23 ko376) kn23 rfl rfl ?_
                  refine y_aload 1 c23_0 rfl rfl rfl ?_
                  refine y_iload 2 c23_1 rfl rfl ?_
                  refine y_if 9 5 c23_2 rfl rfl (yz_eq (by omega)) (fun hb14636 => ?_) (fun hb14636 => ?_)
                  · refine y_iload 10 c23_9 rfl rfl ?_
                    refine y_putI 13 c23_10 rfl kf376_57 (y_fit0 _) ?_
                    have hT14637 := hT.up 376 57 1 0 4 rfl (by omega)
                    have hF14638 := hF.up 376 57 1 rfl
                    refine y_iload 14 c23_13 rfl rfl ?_
                    refine y_ireturnK c23_14 (y_fit1 (by omega)) ?_
                    refine y_ireturnK c162_21 (y_fit1 (by omega)) ?_
                    refine y_if 46 28 c214_25 rfl rfl (yz_eq (by omega)) (fun hb14639 => ?_) (fun hb14639 => ?_)
                    · refine y_iconst 47 c214_46 rfl ?_
                      exact y_ireturn c214_47 (y_fit0 _) ⟨_, rfl, rfl, hF14638, (hMI.fr hT14637 (fun a q ha => (yup_ne (by rintro ⟨rfl, rfl⟩; simp [vGq] at ha))))⟩
                    · exfalso; omega
                  · exfalso; omega
                · exfalso; omega
            · exfalso; omega
          · refine y_iconst 27 c161_26 rfl ?_
            refine y_goto 31 c161_27 rfl ?_
            refine y_ireturnK c161_31 (y_fit1 (by omega)) ?_
            refine y_if 21 17 c214_14 rfl rfl (yz_eq (by omega)) (fun hb14640 => ?_) (fun hb14640 => ?_)
            · exfalso; omega
            · refine y_iconst 18 c214_17 rfl ?_
              refine y_goto 22 c214_18 rfl ?_
              refine y_inlB 25 [.ref 376, yI 1] [] [some (.ref 376), some (yI 1)] c214_22 rfl rfl rfl rfl rfl (ycanO km162 ko376) kn162 rfl rfl ?_
              refine y_aload 1 c162_0 rfl rfl rfl ?_
              refine y_aload 2 c162_1 rfl rfl rfl ?_
              refine y_getX 5 (m 376 19) c162_2 rfl kf376_19 rfl ?_
              refine y_top 1 (by omega) ?_
              refine y_if 16 8 c162_5 rfl rfl (yz_eq (by omega)) (fun hb14641 => ?_) (fun hb14641 => ?_)
              · exfalso; omega
              · refine y_iload 9 c162_8 rfl rfl ?_
                refine y_if 16 12 c162_9 rfl rfl (yz_eq (by omega)) (fun hb14642 => ?_) (fun hb14642 => ?_)
                · exfalso; omega
                · refine y_iconst 13 c162_12 rfl ?_
                  refine y_goto 17 c162_13 rfl ?_
                  refine y_iconst 18 c162_17 rfl ?_
                  refine y_inlB 21 [.ref 376, yI 1, yI 1] [] [some (.ref 376), some (yI 1), some (yI 1)] c162_18 rfl rfl rfl rfl rfl (ycanO km23 ko376) kn23 rfl rfl ?_
                  refine y_aload 1 c23_0 rfl rfl rfl ?_
                  refine y_iload 2 c23_1 rfl rfl ?_
                  refine y_if 9 5 c23_2 rfl rfl (yz_eq (by omega)) (fun hb14643 => ?_) (fun hb14643 => ?_)
                  · exfalso; omega
                  · refine y_iconst 6 c23_5 rfl ?_
                    refine y_goto 10 c23_6 rfl ?_
                    refine y_putI 13 c23_10 rfl kf376_57 (y_fit0 _) ?_
                    have hT14644 := hT.up 376 57 0 0 4 rfl (by omega)
                    have hF14645 := hF.up 376 57 0 rfl
                    refine y_iload 14 c23_13 rfl rfl ?_
                    refine y_ireturnK c23_14 (y_fit1 (by omega)) ?_
                    refine y_ireturnK c162_21 (y_fit1 (by omega)) ?_
                    refine y_if 46 28 c214_25 rfl rfl (yz_eq (by omega)) (fun hb14646 => ?_) (fun hb14646 => ?_)
                    · exfalso; omega
                    · refine y_aload 29 c214_28 rfl rfl rfl ?_
                      refine y_getR 32 c214_29 rfl kf376_48 ?_
                      refine y_iconst 34 c214_32 rfl ?_
                      refine y_iload 35 c214_34 rfl rfl ?_
                      refine y_imul 36 c214_35 rfl ?_
                      refine y_iload 37 c214_36 rfl rfl ?_
                      refine y_iadd 38 c214_37 rfl ?_
                      refine y_iaT 39 0 1 c214_38 rfl ka408 (by omega) hT14644 rfl (fun v14647 hv14647 gv14647 => ?_)
                      refine y_if 46 42 c214_39 rfl rfl (yz_eq (by omega)) (fun hb14648 => ?_) (fun hb14648 => ?_)
                      · refine y_iconst 47 c214_46 rfl ?_
                        exact y_ireturn c214_47 (y_fit0 _) ⟨_, rfl, rfl, hF14645, (hMI.fr hT14644 (fun a q ha => (yup_ne (by rintro ⟨rfl, rfl⟩; simp [vGq] at ha))))⟩
                      · refine y_iconst 43 c214_42 rfl ?_
                        refine y_goto 47 c214_43 rfl ?_
                        exact y_ireturn c214_47 (y_fit0 _) ⟨_, rfl, rfl, hF14645, (hMI.fr hT14644 (fun a q ha => (yup_ne (by rintro ⟨rfl, rfl⟩; simp [vGq] at ha))))⟩
set_option maxRecDepth 100000 in
theorem t217_0 {L : Nat} {xs : Nat → Int32} {d nn : Nat} {m : yM} (hT : Ty gT m) (hn : m 376 18 = 0) (hMI : MI m) {a : Int} (ra : -2147483648 ≤ a ∧ a < 2147483648) : YC (gZ L xs) (d + 6) 217 [.ref 376, yI a] m nn (qMd nn m) := by
  have tb383 := hT.atp 383 0 0 6 rfl
  have tb384 := hT.atp 384 0 0 10 rfl
  have tb385 := hT.atp 385 0 0 8 rfl
  have tb386 := hT.atp 386 0 0 12 rfl
  have tb387 := hT.atp 387 0 0 8 rfl
  have tb388 := hT.atp 388 0 0 12 rfl
  have tb389 := hT.atp 389 0 0 48 rfl
  have tb390 := hT.atp 390 0 0 125 rfl
  have t19 := hT.atp 376 19 0 1 rfl
  refine YC.mkB [some (.ref 376), some (yI a)] kn217 rfl rfl ?_
  have hF : Fr wML m m := Fr.rf
  refine y_aload 1 c217_0 rfl rfl rfl ?_
  refine y_iload 2 c217_1 rfl rfl ?_
  refine y_iconst 3 c217_2 rfl ?_
  refine y_iconst 5 c217_3 rfl ?_
  refine y_callP 8 [yI a, yI 0, yI 9] [.ref 376] c217_5 rfl rfl rfl rfl rfl (ycanS km22) (t22m (by omega) (by omega) (by omega)) (fun r14649 hr14649 => ?_)
  refine y_iconst 9 c217_8 rfl ?_
  refine y_inlB 12 [.ref 376, yI r14649, yI 1] [] [some (.ref 376), some (yI r14649), some (yI 1)] c217_9 rfl rfl rfl rfl rfl (ycanO km23 ko376) kn23 rfl rfl ?_
  refine y_aload 1 c23_0 rfl rfl rfl ?_
  refine y_iload 2 c23_1 rfl rfl ?_
  refine y_if 9 5 c23_2 rfl rfl (yz_eq (by omega)) (fun hb14650 => ?_) (fun hb14650 => ?_)
  · refine y_iload 10 c23_9 rfl rfl ?_
    refine y_putI 13 c23_10 rfl kf376_57 (y_fit0 _) ?_
    have hT14651 := hT.up 376 57 1 0 4 rfl (by omega)
    have hF14652 := hF.up 376 57 1 rfl
    refine y_iload 14 c23_13 rfl rfl ?_
    refine y_ireturnK c23_14 (y_fit1 (by omega)) ?_
    refine y_if 17 15 c217_12 rfl rfl (yz_ne (by omega)) (fun hb14653 => ?_) (fun hb14653 => ?_)
    · exfalso; omega
    · refine y_iconst 16 c217_15 rfl ?_
      exact y_ireturn c217_16 (y_fit0 _) ⟨_, rfl, rfl, hF14652, (hMI.fr hT14651 (fun a q ha => (yup_ne (by rintro ⟨rfl, rfl⟩; simp [vGq] at ha))))⟩
  · refine y_iconst 6 c23_5 rfl ?_
    refine y_goto 10 c23_6 rfl ?_
    refine y_putI 13 c23_10 rfl kf376_57 (y_fit0 _) ?_
    have hT14654 := hT.up 376 57 0 0 4 rfl (by omega)
    have hF14655 := hF.up 376 57 0 rfl
    refine y_iload 14 c23_13 rfl rfl ?_
    refine y_ireturnK c23_14 (y_fit1 (by omega)) ?_
    refine y_if 17 15 c217_12 rfl rfl (yz_ne (by omega)) (fun hb14656 => ?_) (fun hb14656 => ?_)
    · refine y_iload 18 c217_17 rfl rfl ?_
      refine y_iconst 20 c217_18 rfl ?_
      refine y_icmp 28 23 c217_20 rfl rfl (yc_ne (by omega) (by omega)) (fun hb14657 => ?_) (fun hb14657 => ?_)
      · refine y_aload 29 c217_28 rfl rfl rfl ?_
        refine y_getX 32 (m 376 19) c217_29 rfl kf376_19 rfl ?_
        refine y_if 37 35 c217_32 rfl rfl (yz_ne (by omega)) (fun hb14658 => ?_) (fun hb14658 => ?_)
        · refine y_iload 38 c217_37 rfl rfl ?_
          refine y_iconst 39 c217_38 rfl ?_
          refine y_icmp 102 42 c217_39 rfl rfl (yc_ge (by omega) (by omega)) (fun hb14659 => ?_) (fun hb14659 => ?_)
          · refine y_iload 103 c217_102 rfl rfl ?_
            refine y_iconst 104 c217_103 rfl ?_
            refine y_icmp 119 107 c217_104 rfl rfl (yc_ne (by omega) (by omega)) (fun hb14660 => ?_) (fun hb14660 => ?_)
            · refine y_iload 120 c217_119 rfl rfl ?_
              refine y_iconst 121 c217_120 rfl ?_
              refine y_icmp 136 124 c217_121 rfl rfl (yc_ne (by omega) (by omega)) (fun hb14661 => ?_) (fun hb14661 => ?_)
              · refine y_iload 137 c217_136 rfl rfl ?_
                refine y_iconst 139 c217_137 rfl ?_
                refine y_icmp 154 142 c217_139 rfl rfl (yc_ne (by omega) (by omega)) (fun hb14662 => ?_) (fun hb14662 => ?_)
                · refine y_iload 155 c217_154 rfl rfl ?_
                  refine y_iconst 157 c217_155 rfl ?_
                  refine y_icmp 167 160 c217_157 rfl rfl (yc_ne (by omega) (by omega)) (fun hb14663 => ?_) (fun hb14663 => ?_)
                  · refine y_aload 168 c217_167 rfl rfl rfl ?_
                    refine y_getX 171 (m 376 51) c217_168 rfl kf376_51 rfl ?_
                    have tb14664 := hT.atp 376 51 0 30 rfl
                    exact y_ireturn c217_171 (y_fit0 _) ⟨_, rfl, rfl, hF14655, (hMI.fr hT14654 (fun a q ha => (yup_ne (by rintro ⟨rfl, rfl⟩; simp [vGq] at ha))))⟩
                  · refine y_aload 161 c217_160 rfl rfl rfl ?_
                    refine y_getX 164 (m 376 47) c217_161 rfl kf376_47 rfl ?_
                    have tb14665 := hT.atp 376 47 ((-2147483648)) 2147483647 rfl
                    refine y_goto 171 c217_164 rfl ?_
                    exact y_ireturn c217_171 (y_fit0 _) ⟨_, rfl, rfl, hF14655, (hMI.fr hT14654 (fun a q ha => (yup_ne (by rintro ⟨rfl, rfl⟩; simp [vGq] at ha))))⟩
                · refine y_aload 143 c217_142 rfl rfl rfl ?_
                  refine y_getR 146 c217_143 rfl kf376_26 ?_
                  refine y_aload 147 c217_146 rfl rfl rfl ?_
                  refine y_getX 150 (m 376 18) c217_147 rfl kf376_18 rfl ?_
                  have tb14666 := hT.atp 376 18 0 1 rfl
                  refine y_top 0 (by omega) ?_
                  refine y_iaX 151 (m 389 0) c217_150 rfl ka389 (by decide) rfl ?_
                  refine y_goto 171 c217_151 rfl ?_
                  exact y_ireturn c217_171 (y_fit0 _) ⟨_, rfl, rfl, hF14655, (hMI.fr hT14654 (fun a q ha => (yup_ne (by rintro ⟨rfl, rfl⟩; simp [vGq] at ha))))⟩
              · refine y_aload 125 c217_124 rfl rfl rfl ?_
                refine y_getR 128 c217_125 rfl kf376_25 ?_
                refine y_aload 129 c217_128 rfl rfl rfl ?_
                refine y_getX 132 (m 376 18) c217_129 rfl kf376_18 rfl ?_
                have tb14667 := hT.atp 376 18 0 1 rfl
                refine y_top 0 (by omega) ?_
                refine y_iaX 133 (m 388 0) c217_132 rfl ka388 (by decide) rfl ?_
                refine y_goto 171 c217_133 rfl ?_
                exact y_ireturn c217_171 (y_fit0 _) ⟨_, rfl, rfl, hF14655, (hMI.fr hT14654 (fun a q ha => (yup_ne (by rintro ⟨rfl, rfl⟩; simp [vGq] at ha))))⟩
            · refine y_aload 108 c217_107 rfl rfl rfl ?_
              refine y_getR 111 c217_108 rfl kf376_24 ?_
              refine y_aload 112 c217_111 rfl rfl rfl ?_
              refine y_getX 115 (m 376 18) c217_112 rfl kf376_18 rfl ?_
              have tb14668 := hT.atp 376 18 0 1 rfl
              refine y_top 0 (by omega) ?_
              refine y_iaX 116 (m 387 0) c217_115 rfl ka387 (by decide) rfl ?_
              refine y_goto 171 c217_116 rfl ?_
              exact y_ireturn c217_171 (y_fit0 _) ⟨_, rfl, rfl, hF14655, (hMI.fr hT14654 (fun a q ha => (yup_ne (by rintro ⟨rfl, rfl⟩; simp [vGq] at ha))))⟩
          · refine y_iload 43 c217_42 rfl rfl ?_
            refine y_if 58 46 c217_43 rfl rfl (yz_ne (by omega)) (fun hb14669 => ?_) (fun hb14669 => ?_)
            · refine y_iload 59 c217_58 rfl rfl ?_
              refine y_iconst 60 c217_59 rfl ?_
              refine y_icmp 75 63 c217_60 rfl rfl (yc_ne (by omega) (by omega)) (fun hb14670 => ?_) (fun hb14670 => ?_)
              · refine y_iload 76 c217_75 rfl rfl ?_
                refine y_iconst 77 c217_76 rfl ?_
                refine y_icmp 92 80 c217_77 rfl rfl (yc_ne (by omega) (by omega)) (fun hb14671 => ?_) (fun hb14671 => ?_)
                · refine y_aload 93 c217_92 rfl rfl rfl ?_
                  refine y_getR 96 c217_93 rfl kf376_23 ?_
                  refine y_aload 97 c217_96 rfl rfl rfl ?_
                  refine y_getX 100 (m 376 18) c217_97 rfl kf376_18 rfl ?_
                  have tb14672 := hT.atp 376 18 0 1 rfl
                  refine y_top 0 (by omega) ?_
                  refine y_iaX 101 (m 386 0) c217_100 rfl ka386 (by decide) rfl ?_
                  exact y_ireturn c217_101 (y_fit0 _) ⟨_, rfl, rfl, hF14655, (hMI.fr hT14654 (fun a q ha => (yup_ne (by rintro ⟨rfl, rfl⟩; simp [vGq] at ha))))⟩
                · refine y_aload 81 c217_80 rfl rfl rfl ?_
                  refine y_getR 84 c217_81 rfl kf376_22 ?_
                  refine y_aload 85 c217_84 rfl rfl rfl ?_
                  refine y_getX 88 (m 376 18) c217_85 rfl kf376_18 rfl ?_
                  have tb14673 := hT.atp 376 18 0 1 rfl
                  refine y_top 0 (by omega) ?_
                  refine y_iaX 89 (m 385 0) c217_88 rfl ka385 (by decide) rfl ?_
                  refine y_goto 101 c217_89 rfl ?_
                  exact y_ireturn c217_101 (y_fit0 _) ⟨_, rfl, rfl, hF14655, (hMI.fr hT14654 (fun a q ha => (yup_ne (by rintro ⟨rfl, rfl⟩; simp [vGq] at ha))))⟩
              · refine y_aload 64 c217_63 rfl rfl rfl ?_
                refine y_getR 67 c217_64 rfl kf376_21 ?_
                refine y_aload 68 c217_67 rfl rfl rfl ?_
                refine y_getX 71 (m 376 18) c217_68 rfl kf376_18 rfl ?_
                have tb14674 := hT.atp 376 18 0 1 rfl
                refine y_top 0 (by omega) ?_
                refine y_iaX 72 (m 384 0) c217_71 rfl ka384 (by decide) rfl ?_
                refine y_goto 101 c217_72 rfl ?_
                exact y_ireturn c217_101 (y_fit0 _) ⟨_, rfl, rfl, hF14655, (hMI.fr hT14654 (fun a q ha => (yup_ne (by rintro ⟨rfl, rfl⟩; simp [vGq] at ha))))⟩
            · refine y_aload 47 c217_46 rfl rfl rfl ?_
              refine y_getR 50 c217_47 rfl kf376_20 ?_
              refine y_aload 51 c217_50 rfl rfl rfl ?_
              refine y_getX 54 (m 376 18) c217_51 rfl kf376_18 rfl ?_
              have tb14675 := hT.atp 376 18 0 1 rfl
              refine y_top 0 (by omega) ?_
              refine y_iaX 55 (m 383 0) c217_54 rfl ka383 (by decide) rfl ?_
              refine y_goto 101 c217_55 rfl ?_
              exact y_ireturn c217_101 (y_fit0 _) ⟨_, rfl, rfl, hF14655, (hMI.fr hT14654 (fun a q ha => (yup_ne (by rintro ⟨rfl, rfl⟩; simp [vGq] at ha))))⟩
        · refine y_iconst 36 c217_35 rfl ?_
          exact y_ireturn c217_36 (y_fit0 _) ⟨_, rfl, rfl, hF14655, (hMI.fr hT14654 (fun a q ha => (yup_ne (by rintro ⟨rfl, rfl⟩; simp [vGq] at ha))))⟩
      · refine y_aload 24 c217_23 rfl rfl rfl ?_
        refine y_getX 27 (m 376 1) c217_24 rfl kf376_1 rfl ?_
        have tb14676 := hT.atp 376 1 0 320 rfl
        exact y_ireturn c217_27 (y_fit0 _) ⟨_, rfl, rfl, hF14655, (hMI.fr hT14654 (fun a q ha => (yup_ne (by rintro ⟨rfl, rfl⟩; simp [vGq] at ha))))⟩
    · exfalso; omega
set_option maxRecDepth 100000 in
theorem t154_0 {L : Nat} {xs : Nat → Int32} {d nn : Nat} {m : yM} (hT : Ty gT m) (hn : m 376 18 = 0) (hMI : MI m) : YC (gZ L xs) (d + 6) 154 [.ref 376] m nn (qMd nn m) := by
  have tb383 := hT.atp 383 0 0 6 rfl
  have tb384 := hT.atp 384 0 0 10 rfl
  have tb385 := hT.atp 385 0 0 8 rfl
  have tb386 := hT.atp 386 0 0 12 rfl
  have tb387 := hT.atp 387 0 0 8 rfl
  have tb388 := hT.atp 388 0 0 12 rfl
  have tb389 := hT.atp 389 0 0 48 rfl
  have tb390 := hT.atp 390 0 0 125 rfl
  have t19 := hT.atp 376 19 0 1 rfl
  refine YC.mkB [some (.ref 376)] kn154 rfl rfl ?_
  have hF : Fr wML m m := Fr.rf
  refine y_aload 1 c154_0 rfl rfl rfl ?_
  refine y_iconst 2 c154_1 rfl ?_
  refine y_putI 5 c154_2 rfl kf376_57 (y_fit0 _) ?_
  have hT14677 := hT.up 376 57 0 0 4 rfl (by omega)
  have hF14678 := hF.up 376 57 0 rfl
  refine y_aload 6 c154_5 rfl rfl rfl ?_
  refine y_getX 9 (m 376 2) c154_6 rfl kf376_2 rfl ?_
  have tb14679 := hT.atp 376 2 ((-2147483648)) 2147483647 rfl
  exact y_ireturn c154_9 (y_fit0 _) ⟨_, rfl, rfl, hF14678, (hMI.fr hT14677 (fun a q ha => (yup_ne (by rintro ⟨rfl, rfl⟩; simp [vGq] at ha))))⟩
set_option maxRecDepth 100000 in
theorem t182a_0 {L : Nat} {xs : Nat → Int32} {d nn : Nat} {m : yM} {Q : xO → yM → Nat → Prop} (hT : Ty gT m) (hn : m 376 18 = 0) {a b : Int} (ha : 0 ≤ a ∧ a ≤ 47) (hb : 0 ≤ b ∧ b ≤ 47) (hQ : ∀ r, (r = 0 ∨ r = 1) → Q (.inl (some (yI r))) m nn) : ∀ (km : Nat) (i : Int), m 388 0 - i = km → 0 ≤ i ∧ i ≤ m 388 0 → YW (gZ L xs) 182 (d + 6) 32 [some (.ref 376), some (yI a), some (yI b), some (yI i)] [] m nn (Q) := by
  intro km
  induction km using Nat.strongRecOn with
  | ind km ih =>
    intro i hk hi
    have tb383 := hT.atp 383 0 0 6 rfl
    have tb384 := hT.atp 384 0 0 10 rfl
    have tb385 := hT.atp 385 0 0 8 rfl
    have tb386 := hT.atp 386 0 0 12 rfl
    have tb387 := hT.atp 387 0 0 8 rfl
    have tb388 := hT.atp 388 0 0 12 rfl
    have tb389 := hT.atp 389 0 0 48 rfl
    have tb390 := hT.atp 390 0 0 125 rfl
    have t19 := hT.atp 376 19 0 1 rfl
    refine y_iload 33 c182_32 rfl rfl ?_
    refine y_aload 34 c182_33 rfl rfl rfl ?_
    refine y_getR 37 c182_34 rfl kf376_25 ?_
    refine y_aload 38 c182_37 rfl rfl rfl ?_
    refine y_getX 41 (m 376 18) c182_38 rfl kf376_18 rfl ?_
    have tb14680 := hT.atp 376 18 0 1 rfl
    refine y_top 0 (by omega) ?_
    refine y_iaX 42 (m 388 0) c182_41 rfl ka388 (by decide) rfl ?_
    refine y_icmp 81 45 c182_42 rfl rfl (yc_ge (by omega) (by omega)) (fun hb14681 => ?_) (fun hb14681 => ?_)
    · refine y_iconst 82 c182_81 rfl ?_
      exact y_ireturn c182_82 (y_fit0 _) (hQ _ (by omega))
    · refine y_aload 46 c182_45 rfl rfl rfl ?_
      refine y_getR 49 c182_46 rfl kf376_41 ?_
      refine y_iconst 51 c182_49 rfl ?_
      refine y_iload 52 c182_51 rfl rfl ?_
      refine y_imul 53 c182_52 rfl ?_
      refine y_iload 54 c182_53 rfl rfl ?_
      refine y_iadd 55 c182_54 rfl ?_
      refine y_iaT 56 ((-2147483648)) 2147483647 c182_55 rfl ka404 (by omega) hT rfl (fun v14682 hv14682 gv14682 => ?_)
      refine y_if 75 59 c182_56 rfl rfl (yz_lt (by omega)) (fun hb14683 => ?_) (fun hb14683 => ?_)
      · refine y_iinc 78 c182_75 rfl rfl rfl ?_
        refine y_goto 32 c182_78 rfl ?_
        exact ih (m 388 0 - (i + 1) : Int).toNat (by omega) (i + 1)   (by omega) (by omega)
      · refine y_aload 60 c182_59 rfl rfl rfl ?_
        refine y_getR 63 c182_60 rfl kf376_41 ?_
        refine y_iconst 65 c182_63 rfl ?_
        refine y_iload 66 c182_65 rfl rfl ?_
        refine y_imul 67 c182_66 rfl ?_
        refine y_iload 68 c182_67 rfl rfl ?_
        refine y_iadd 69 c182_68 rfl ?_
        refine y_iaT 70 ((-2147483648)) 2147483647 c182_69 rfl ka404 (by omega) hT rfl (fun v14684 hv14684 gv14684 => ?_)
        refine y_if 75 73 c182_70 rfl rfl (yz_lt (by omega)) (fun hb14685 => ?_) (fun hb14685 => ?_)
        · refine y_iinc 78 c182_75 rfl rfl rfl ?_
          refine y_goto 32 c182_78 rfl ?_
          exact ih (m 388 0 - (i + 1) : Int).toNat (by omega) (i + 1)   (by omega) (by omega)
        · refine y_iconst 74 c182_73 rfl ?_
          exact y_ireturn c182_74 (y_fit0 _) (hQ _ (by omega))
set_option maxRecDepth 100000 in
theorem t182_0 {L : Nat} {xs : Nat → Int32} {d nn : Nat} {m : yM} (hT : Ty gT m) (hn : m 376 18 = 0) (hMI : MI m) {a : Int} (ra : -2147483648 ≤ a ∧ a < 2147483648) {b : Int} (rb : -2147483648 ≤ b ∧ b < 2147483648) : YC (gZ L xs) (d + 6) 182 [.ref 376, yI a, yI b] m nn (qMd nn m) := by
  have tb383 := hT.atp 383 0 0 6 rfl
  have tb384 := hT.atp 384 0 0 10 rfl
  have tb385 := hT.atp 385 0 0 8 rfl
  have tb386 := hT.atp 386 0 0 12 rfl
  have tb387 := hT.atp 387 0 0 8 rfl
  have tb388 := hT.atp 388 0 0 12 rfl
  have tb389 := hT.atp 389 0 0 48 rfl
  have tb390 := hT.atp 390 0 0 125 rfl
  have t19 := hT.atp 376 19 0 1 rfl
  refine YC.mkB [some (.ref 376), some (yI a), some (yI b), none] kn182 rfl rfl ?_
  have hF : Fr wML m m := Fr.rf
  refine y_aload 1 c182_0 rfl rfl rfl ?_
  refine y_aload 2 c182_1 rfl rfl rfl ?_
  refine y_iload 3 c182_2 rfl rfl ?_
  refine y_inlB 6 [.ref 376, yI a] [.ref 376] [some (.ref 376), some (yI a)] c182_3 rfl rfl rfl rfl rfl (ycanO km160 ko376) kn160 rfl rfl ?_
  refine y_aload 1 c160_0 rfl rfl rfl ?_
  refine y_getX 4 (m 376 19) c160_1 rfl kf376_19 rfl ?_
  refine y_if 30 7 c160_4 rfl rfl (yz_eq (by omega)) (fun hb14686 => ?_) (fun hb14686 => ?_)
  · refine y_iconst 31 c160_30 rfl ?_
    refine y_ireturnK c160_31 (y_fit1 (by omega)) ?_
    refine y_if 21 9 c182_6 rfl rfl (yz_eq (by omega)) (fun hb14687 => ?_) (fun hb14687 => ?_)
    · refine y_iconst 22 c182_21 rfl ?_
      refine y_inlB 25 [.ref 376, yI 0] [] [some (.ref 376), some (yI 0)] c182_22 rfl rfl rfl rfl rfl (ycanO km162 ko376) kn162 rfl rfl ?_
      refine y_aload 1 c162_0 rfl rfl rfl ?_
      refine y_aload 2 c162_1 rfl rfl rfl ?_
      refine y_getX 5 (m 376 19) c162_2 rfl kf376_19 rfl ?_
      refine y_top 0 (by omega) ?_
      refine y_if 16 8 c162_5 rfl rfl (yz_eq (by omega)) (fun hb14688 => ?_) (fun hb14688 => ?_)
      · refine y_iconst 17 c162_16 rfl ?_
        refine y_iconst 18 c162_17 rfl ?_
        refine y_inlB 21 [.ref 376, yI 0, yI 1] [] [some (.ref 376), some (yI 0), some (yI 1)] c162_18 rfl rfl rfl rfl rfl (ycanO km23 ko376) kn23 rfl rfl ?_
        refine y_aload 1 c23_0 rfl rfl rfl ?_
        refine y_iload 2 c23_1 rfl rfl ?_
        refine y_if 9 5 c23_2 rfl rfl (yz_eq (by omega)) (fun hb14689 => ?_) (fun hb14689 => ?_)
        · refine y_iload 10 c23_9 rfl rfl ?_
          refine y_putI 13 c23_10 rfl kf376_57 (y_fit0 _) ?_
          have hT14690 := hT.up 376 57 1 0 4 rfl (by omega)
          have hF14691 := hF.up 376 57 1 rfl
          refine y_iload 14 c23_13 rfl rfl ?_
          refine y_ireturnK c23_14 (y_fit1 (by omega)) ?_
          refine y_ireturnK c162_21 (y_fit1 (by omega)) ?_
          refine y_if 30 28 c182_25 rfl rfl (yz_ne (by omega)) (fun hb14692 => ?_) (fun hb14692 => ?_)
          · exfalso; omega
          · refine y_iconst 29 c182_28 rfl ?_
            exact y_ireturn c182_29 (y_fit0 _) ⟨_, rfl, rfl, hF14691, (hMI.fr hT14690 (fun a q ha => (yup_ne (by rintro ⟨rfl, rfl⟩; simp [vGq] at ha))))⟩
        · exfalso; omega
      · exfalso; omega
    · exfalso; omega
  · refine y_iload 8 c160_7 rfl rfl ?_
    refine y_iconst 9 c160_8 rfl ?_
    refine y_aload 10 c160_9 rfl rfl rfl ?_
    refine y_getR 13 c160_10 rfl kf376_26 ?_
    refine y_aload 14 c160_13 rfl rfl rfl ?_
    refine y_getX 17 (m 376 18) c160_14 rfl kf376_18 rfl ?_
    have tb14693 := hT.atp 376 18 0 1 rfl
    refine y_top 0 (by omega) ?_
    refine y_iaX 18 (m 389 0) c160_17 rfl ka389 (by decide) rfl ?_
    refine y_iconst 19 c160_18 rfl ?_
    refine y_isub 20 c160_19 rfl ?_
    refine y_callP 23 [yI a, yI 0, yI ((m 389 0) - 1)] [] c160_20 rfl rfl rfl rfl rfl (ycanS km22) (t22m (by omega) (by omega) (by omega)) (fun r14694 hr14694 => ?_)
    refine y_if 30 26 c160_23 rfl rfl (yz_eq (by omega)) (fun hb14695 => ?_) (fun hb14695 => ?_)
    · refine y_iconst 31 c160_30 rfl ?_
      refine y_ireturnK c160_31 (y_fit1 (by omega)) ?_
      refine y_if 21 9 c182_6 rfl rfl (yz_eq (by omega)) (fun hb14696 => ?_) (fun hb14696 => ?_)
      · refine y_iconst 22 c182_21 rfl ?_
        refine y_inlB 25 [.ref 376, yI 0] [] [some (.ref 376), some (yI 0)] c182_22 rfl rfl rfl rfl rfl (ycanO km162 ko376) kn162 rfl rfl ?_
        refine y_aload 1 c162_0 rfl rfl rfl ?_
        refine y_aload 2 c162_1 rfl rfl rfl ?_
        refine y_getX 5 (m 376 19) c162_2 rfl kf376_19 rfl ?_
        refine y_top 1 (by omega) ?_
        refine y_if 16 8 c162_5 rfl rfl (yz_eq (by omega)) (fun hb14697 => ?_) (fun hb14697 => ?_)
        · exfalso; omega
        · refine y_iload 9 c162_8 rfl rfl ?_
          refine y_if 16 12 c162_9 rfl rfl (yz_eq (by omega)) (fun hb14698 => ?_) (fun hb14698 => ?_)
          · refine y_iconst 17 c162_16 rfl ?_
            refine y_iconst 18 c162_17 rfl ?_
            refine y_inlB 21 [.ref 376, yI 0, yI 1] [] [some (.ref 376), some (yI 0), some (yI 1)] c162_18 rfl rfl rfl rfl rfl (ycanO km23 ko376) kn23 rfl rfl ?_
            refine y_aload 1 c23_0 rfl rfl rfl ?_
            refine y_iload 2 c23_1 rfl rfl ?_
            refine y_if 9 5 c23_2 rfl rfl (yz_eq (by omega)) (fun hb14699 => ?_) (fun hb14699 => ?_)
            · refine y_iload 10 c23_9 rfl rfl ?_
              refine y_putI 13 c23_10 rfl kf376_57 (y_fit0 _) ?_
              have hT14700 := hT.up 376 57 1 0 4 rfl (by omega)
              have hF14701 := hF.up 376 57 1 rfl
              refine y_iload 14 c23_13 rfl rfl ?_
              refine y_ireturnK c23_14 (y_fit1 (by omega)) ?_
              refine y_ireturnK c162_21 (y_fit1 (by omega)) ?_
              refine y_if 30 28 c182_25 rfl rfl (yz_ne (by omega)) (fun hb14702 => ?_) (fun hb14702 => ?_)
              · exfalso; omega
              · refine y_iconst 29 c182_28 rfl ?_
                exact y_ireturn c182_29 (y_fit0 _) ⟨_, rfl, rfl, hF14701, (hMI.fr hT14700 (fun a q ha => (yup_ne (by rintro ⟨rfl, rfl⟩; simp [vGq] at ha))))⟩
            · exfalso; omega
          · exfalso; omega
      · exfalso; omega
    · refine y_iconst 27 c160_26 rfl ?_
      refine y_goto 31 c160_27 rfl ?_
      refine y_ireturnK c160_31 (y_fit1 (by omega)) ?_
      refine y_if 21 9 c182_6 rfl rfl (yz_eq (by omega)) (fun hb14703 => ?_) (fun hb14703 => ?_)
      · exfalso; omega
      · refine y_aload 10 c182_9 rfl rfl rfl ?_
        refine y_iload 11 c182_10 rfl rfl ?_
        refine y_inlB 14 [.ref 376, yI b] [.ref 376] [some (.ref 376), some (yI b)] c182_11 rfl rfl rfl rfl rfl (ycanO km160 ko376) kn160 rfl rfl ?_
        refine y_aload 1 c160_0 rfl rfl rfl ?_
        refine y_getX 4 (m 376 19) c160_1 rfl kf376_19 rfl ?_
        refine y_top 1 (by omega) ?_
        refine y_if 30 7 c160_4 rfl rfl (yz_eq (by omega)) (fun hb14704 => ?_) (fun hb14704 => ?_)
        · exfalso; omega
        · refine y_iload 8 c160_7 rfl rfl ?_
          refine y_iconst 9 c160_8 rfl ?_
          refine y_aload 10 c160_9 rfl rfl rfl ?_
          refine y_getR 13 c160_10 rfl kf376_26 ?_
          refine y_aload 14 c160_13 rfl rfl rfl ?_
          refine y_getX 17 (m 376 18) c160_14 rfl kf376_18 rfl ?_
          refine y_top 0 (by omega) ?_
          refine y_iaX 18 (m 389 0) c160_17 rfl ka389 (by decide) rfl ?_
          refine y_iconst 19 c160_18 rfl ?_
          refine y_isub 20 c160_19 rfl ?_
          refine y_callP 23 [yI b, yI 0, yI ((m 389 0) - 1)] [] c160_20 rfl rfl rfl rfl rfl (ycanS km22) (t22m (by omega) (by omega) (by omega)) (fun r14705 hr14705 => ?_)
          refine y_if 30 26 c160_23 rfl rfl (yz_eq (by omega)) (fun hb14706 => ?_) (fun hb14706 => ?_)
          · refine y_iconst 31 c160_30 rfl ?_
            refine y_ireturnK c160_31 (y_fit1 (by omega)) ?_
            refine y_if 21 17 c182_14 rfl rfl (yz_eq (by omega)) (fun hb14707 => ?_) (fun hb14707 => ?_)
            · refine y_iconst 22 c182_21 rfl ?_
              refine y_inlB 25 [.ref 376, yI 0] [] [some (.ref 376), some (yI 0)] c182_22 rfl rfl rfl rfl rfl (ycanO km162 ko376) kn162 rfl rfl ?_
              refine y_aload 1 c162_0 rfl rfl rfl ?_
              refine y_aload 2 c162_1 rfl rfl rfl ?_
              refine y_getX 5 (m 376 19) c162_2 rfl kf376_19 rfl ?_
              refine y_top 1 (by omega) ?_
              refine y_if 16 8 c162_5 rfl rfl (yz_eq (by omega)) (fun hb14708 => ?_) (fun hb14708 => ?_)
              · exfalso; omega
              · refine y_iload 9 c162_8 rfl rfl ?_
                refine y_if 16 12 c162_9 rfl rfl (yz_eq (by omega)) (fun hb14709 => ?_) (fun hb14709 => ?_)
                · refine y_iconst 17 c162_16 rfl ?_
                  refine y_iconst 18 c162_17 rfl ?_
                  refine y_inlB 21 [.ref 376, yI 0, yI 1] [] [some (.ref 376), some (yI 0), some (yI 1)] c162_18 rfl rfl rfl rfl rfl (ycanO km23 ko376) kn23 rfl rfl ?_
                  refine y_aload 1 c23_0 rfl rfl rfl ?_
                  refine y_iload 2 c23_1 rfl rfl ?_
                  refine y_if 9 5 c23_2 rfl rfl (yz_eq (by omega)) (fun hb14710 => ?_) (fun hb14710 => ?_)
                  · refine y_iload 10 c23_9 rfl rfl ?_
                    refine y_putI 13 c23_10 rfl kf376_57 (y_fit0 _) ?_
                    have hT14711 := hT.up 376 57 1 0 4 rfl (by omega)
                    have hF14712 := hF.up 376 57 1 rfl
                    refine y_iload 14 c23_13 rfl rfl ?_
                    refine y_ireturnK c23_14 (y_fit1 (by omega)) ?_
                    refine y_ireturnK c162_21 (y_fit1 (by omega)) ?_
                    refine y_if 30 28 c182_25 rfl rfl (yz_ne (by omega)) (fun hb14713 => ?_) (fun hb14713 => ?_)
                    · exfalso; omega
                    · refine y_iconst 29 c182_28 rfl ?_
                      exact y_ireturn c182_29 (y_fit0 _) ⟨_, rfl, rfl, hF14712, (hMI.fr hT14711 (fun a q ha => (yup_ne (by rintro ⟨rfl, rfl⟩; simp [vGq] at ha))))⟩
                  · exfalso; omega
                · exfalso; omega
            · exfalso; omega
          · refine y_iconst 27 c160_26 rfl ?_
            refine y_goto 31 c160_27 rfl ?_
            refine y_ireturnK c160_31 (y_fit1 (by omega)) ?_
            refine y_if 21 17 c182_14 rfl rfl (yz_eq (by omega)) (fun hb14714 => ?_) (fun hb14714 => ?_)
            · exfalso; omega
            · refine y_iconst 18 c182_17 rfl ?_
              refine y_goto 22 c182_18 rfl ?_
              refine y_inlB 25 [.ref 376, yI 1] [] [some (.ref 376), some (yI 1)] c182_22 rfl rfl rfl rfl rfl (ycanO km162 ko376) kn162 rfl rfl ?_
              refine y_aload 1 c162_0 rfl rfl rfl ?_
              refine y_aload 2 c162_1 rfl rfl rfl ?_
              refine y_getX 5 (m 376 19) c162_2 rfl kf376_19 rfl ?_
              refine y_top 1 (by omega) ?_
              refine y_if 16 8 c162_5 rfl rfl (yz_eq (by omega)) (fun hb14715 => ?_) (fun hb14715 => ?_)
              · exfalso; omega
              · refine y_iload 9 c162_8 rfl rfl ?_
                refine y_if 16 12 c162_9 rfl rfl (yz_eq (by omega)) (fun hb14716 => ?_) (fun hb14716 => ?_)
                · exfalso; omega
                · refine y_iconst 13 c162_12 rfl ?_
                  refine y_goto 17 c162_13 rfl ?_
                  refine y_iconst 18 c162_17 rfl ?_
                  refine y_inlB 21 [.ref 376, yI 1, yI 1] [] [some (.ref 376), some (yI 1), some (yI 1)] c162_18 rfl rfl rfl rfl rfl (ycanO km23 ko376) kn23 rfl rfl ?_
                  refine y_aload 1 c23_0 rfl rfl rfl ?_
                  refine y_iload 2 c23_1 rfl rfl ?_
                  refine y_if 9 5 c23_2 rfl rfl (yz_eq (by omega)) (fun hb14717 => ?_) (fun hb14717 => ?_)
                  · exfalso; omega
                  · refine y_iconst 6 c23_5 rfl ?_
                    refine y_goto 10 c23_6 rfl ?_
                    refine y_putI 13 c23_10 rfl kf376_57 (y_fit0 _) ?_
                    have hT14718 := hT.up 376 57 0 0 4 rfl (by omega)
                    have hF14719 := hF.up 376 57 0 rfl
                    refine y_iload 14 c23_13 rfl rfl ?_
                    refine y_ireturnK c23_14 (y_fit1 (by omega)) ?_
                    refine y_ireturnK c162_21 (y_fit1 (by omega)) ?_
                    refine y_if 30 28 c182_25 rfl rfl (yz_ne (by omega)) (fun hb14720 => ?_) (fun hb14720 => ?_)
                    · refine y_iconst 31 c182_30 rfl ?_
                      refine y_istore 32 c182_31 rfl rfl ?_
                      have es14721 : (yup m 376 57 0) 388 0 = m 388 0 := rfl
                      have es14722 : (yup m 376 57 0) 376 18 = m 376 18 := rfl
                      exact t182a_0 hT14718 (by omega) (by omega) (by omega) (fun r hr => ⟨_, rfl, rfl, hF14719, (hMI.fr hT14718 (fun a q ha => (yup_ne (by rintro ⟨rfl, rfl⟩; simp [vGq] at ha))))⟩) ((yup m 376 57 0) 388 0 - 0).toNat 0 (by omega) (by omega)
                    · exfalso; omega
set_option maxRecDepth 100000 in
theorem t178a_0 {L : Nat} {xs : Nat → Int32} {d nn : Nat} {m : yM} {Q : xO → yM → Nat → Prop} (hT : Ty gT m) (hn : m 376 18 = 0) (hG : GQ 0 m) {a b : Int} (ha : 0 ≤ a ∧ a ≤ 7) (hb : 0 ≤ b ∧ b ≤ 47) (hQ : ∀ r, (r = 0 ∨ r = 1) → Q (.inl (some (yI r))) m nn) : ∀ (km : Nat) (i : Int), m 388 0 - i = km → 0 ≤ i ∧ i ≤ m 388 0 → YW (gZ L xs) 178 (d + 6) 42 [some (.ref 376), some (yI a), some (yI b), some (yI i)] [] m nn (Q) := by
  intro km
  induction km using Nat.strongRecOn with
  | ind km ih =>
    intro i hk hi
    have tb383 := hT.atp 383 0 0 6 rfl
    have tb384 := hT.atp 384 0 0 10 rfl
    have tb385 := hT.atp 385 0 0 8 rfl
    have tb386 := hT.atp 386 0 0 12 rfl
    have tb387 := hT.atp 387 0 0 8 rfl
    have tb388 := hT.atp 388 0 0 12 rfl
    have tb389 := hT.atp 389 0 0 48 rfl
    have tb390 := hT.atp 390 0 0 125 rfl
    have t19 := hT.atp 376 19 0 1 rfl
    refine y_iload 43 c178_42 rfl rfl ?_
    refine y_aload 44 c178_43 rfl rfl rfl ?_
    refine y_getR 47 c178_44 rfl kf376_25 ?_
    refine y_aload 48 c178_47 rfl rfl rfl ?_
    refine y_getX 51 (m 376 18) c178_48 rfl kf376_18 rfl ?_
    have tb14723 := hT.atp 376 18 0 1 rfl
    refine y_top 0 (by omega) ?_
    refine y_iaX 52 (m 388 0) c178_51 rfl ka388 (by decide) rfl ?_
    refine y_icmp 116 55 c178_52 rfl rfl (yc_ge (by omega) (by omega)) (fun hb14724 => ?_) (fun hb14724 => ?_)
    · refine y_iconst 117 c178_116 rfl ?_
      exact y_ireturn c178_117 (y_fit0 _) (hQ _ (by omega))
    · refine y_aload 56 c178_55 rfl rfl rfl ?_
      refine y_getR 59 c178_56 rfl kf376_41 ?_
      refine y_iconst 61 c178_59 rfl ?_
      refine y_iload 62 c178_61 rfl rfl ?_
      refine y_imul 63 c178_62 rfl ?_
      refine y_iload 64 c178_63 rfl rfl ?_
      refine y_iadd 65 c178_64 rfl ?_
      refine y_iaT 66 ((-2147483648)) 2147483647 c178_65 rfl ka404 (by omega) hT rfl (fun v14725 hv14725 gv14725 => ?_)
      refine y_if 110 69 c178_66 rfl rfl (yz_lt (by omega)) (fun hb14726 => ?_) (fun hb14726 => ?_)
      · refine y_iinc 113 c178_110 rfl rfl rfl ?_
        refine y_goto 42 c178_113 rfl ?_
        exact ih (m 388 0 - (i + 1) : Int).toNat (by omega) (i + 1)   (by omega) (by omega)
      · refine y_aload 70 c178_69 rfl rfl rfl ?_
        refine y_aload 71 c178_70 rfl rfl rfl ?_
        refine y_getX 74 (m 376 18) c178_71 rfl kf376_18 rfl ?_
        refine y_top 0 (by omega) ?_
        refine y_aload 75 c178_74 rfl rfl rfl ?_
        refine y_getR 78 c178_75 rfl kf376_37 ?_
        refine y_iconst 80 c178_78 rfl ?_
        refine y_aload 81 c178_80 rfl rfl rfl ?_
        refine y_getX 84 (m 376 18) c178_81 rfl kf376_18 rfl ?_
        refine y_top 0 (by omega) ?_
        refine y_imul 85 c178_84 rfl ?_
        refine y_top 0 (by decide) ?_
        refine y_iload 86 c178_85 rfl rfl ?_
        refine y_iadd 87 c178_86 rfl ?_
        refine y_iaT 88 ((-2147483648)) 2147483647 c178_87 rfl ka400 (by omega) hT rfl (fun v14727 hv14727 gv14727 => ?_)
        have gv14727_ : -1 ≤ v14727 ∧ v14727 < m 383 0 := by have h0 := hG.2.2.2.2.2.1 i.toNat (by omega); rw [show 12 * 0 + i.toNat = (0 + i).toNat by omega, hv14727] at h0; exact h0
        refine y_aload 89 c178_88 rfl rfl rfl ?_
        refine y_getR 92 c178_89 rfl kf376_39 ?_
        refine y_iconst 94 c178_92 rfl ?_
        refine y_aload 95 c178_94 rfl rfl rfl ?_
        refine y_getX 98 (m 376 18) c178_95 rfl kf376_18 rfl ?_
        refine y_top 0 (by omega) ?_
        refine y_imul 99 c178_98 rfl ?_
        refine y_top 0 (by decide) ?_
        refine y_iload 100 c178_99 rfl rfl ?_
        refine y_iadd 101 c178_100 rfl ?_
        refine y_iaT 102 ((-2147483648)) 2147483647 c178_101 rfl ka402 (by omega) hT rfl (fun v14728 hv14728 gv14728 => ?_)
        refine y_callP 105 [.ref 376, yI 0, yI v14727, yI v14728] [] c178_102 rfl rfl rfl rfl rfl (ycanO km149 ko376) (t149_0 hT hG.2.2.2.2.1 (by omega) (by omega)) (fun r14729 hr14729 => ?_)
        refine y_if 110 108 c178_105 rfl rfl (yz_ne (by omega)) (fun hb14730 => ?_) (fun hb14730 => ?_)
        · refine y_iinc 113 c178_110 rfl rfl rfl ?_
          refine y_goto 42 c178_113 rfl ?_
          exact ih (m 388 0 - (i + 1) : Int).toNat (by omega) (i + 1)   (by omega) (by omega)
        · refine y_iconst 109 c178_108 rfl ?_
          exact y_ireturn c178_109 (y_fit0 _) (hQ _ (by omega))
set_option maxRecDepth 100000 in
theorem t178_0 {L : Nat} {xs : Nat → Int32} {d nn : Nat} {m : yM} (hT : Ty gT m) (hn : m 376 18 = 0) (hMI : MI m) {a : Int} (ra : -2147483648 ≤ a ∧ a < 2147483648) : YC (gZ L xs) (d + 6) 178 [.ref 376, yI a] m nn (qMd nn m) := by
  have tb383 := hT.atp 383 0 0 6 rfl
  have tb384 := hT.atp 384 0 0 10 rfl
  have tb385 := hT.atp 385 0 0 8 rfl
  have tb386 := hT.atp 386 0 0 12 rfl
  have tb387 := hT.atp 387 0 0 8 rfl
  have tb388 := hT.atp 388 0 0 12 rfl
  have tb389 := hT.atp 389 0 0 48 rfl
  have tb390 := hT.atp 390 0 0 125 rfl
  have t19 := hT.atp 376 19 0 1 rfl
  refine YC.mkB [some (.ref 376), some (yI a), none, none] kn178 rfl rfl ?_
  have hF : Fr wML m m := Fr.rf
  refine y_aload 1 c178_0 rfl rfl rfl ?_
  refine y_iload 2 c178_1 rfl rfl ?_
  refine y_iconst 3 c178_2 rfl ?_
  refine y_aload 4 c178_3 rfl rfl rfl ?_
  refine y_getR 7 c178_4 rfl kf376_24 ?_
  refine y_aload 8 c178_7 rfl rfl rfl ?_
  refine y_getX 11 (m 376 18) c178_8 rfl kf376_18 rfl ?_
  have tb14731 := hT.atp 376 18 0 1 rfl
  refine y_top 0 (by omega) ?_
  refine y_iaX 12 (m 387 0) c178_11 rfl ka387 (by decide) rfl ?_
  refine y_iconst 13 c178_12 rfl ?_
  refine y_isub 14 c178_13 rfl ?_
  refine y_callP 17 [yI a, yI 0, yI ((m 387 0) - 1)] [.ref 376] c178_14 rfl rfl rfl rfl rfl (ycanS km22) (t22m (by omega) (by omega) (by omega)) (fun r14732 hr14732 => ?_)
  refine y_inlB 20 [.ref 376, yI r14732] [] [some (.ref 376), some (yI r14732)] c178_17 rfl rfl rfl rfl rfl (ycanO km162 ko376) kn162 rfl rfl ?_
  refine y_aload 1 c162_0 rfl rfl rfl ?_
  refine y_aload 2 c162_1 rfl rfl rfl ?_
  refine y_getX 5 (m 376 19) c162_2 rfl kf376_19 rfl ?_
  refine y_if 16 8 c162_5 rfl rfl (yz_eq (by omega)) (fun hb14733 => ?_) (fun hb14733 => ?_)
  · refine y_iconst 17 c162_16 rfl ?_
    refine y_iconst 18 c162_17 rfl ?_
    refine y_inlB 21 [.ref 376, yI 0, yI 1] [] [some (.ref 376), some (yI 0), some (yI 1)] c162_18 rfl rfl rfl rfl rfl (ycanO km23 ko376) kn23 rfl rfl ?_
    refine y_aload 1 c23_0 rfl rfl rfl ?_
    refine y_iload 2 c23_1 rfl rfl ?_
    refine y_if 9 5 c23_2 rfl rfl (yz_eq (by omega)) (fun hb14734 => ?_) (fun hb14734 => ?_)
    · refine y_iload 10 c23_9 rfl rfl ?_
      refine y_putI 13 c23_10 rfl kf376_57 (y_fit0 _) ?_
      have hT14735 := hT.up 376 57 1 0 4 rfl (by omega)
      have hF14736 := hF.up 376 57 1 rfl
      refine y_iload 14 c23_13 rfl rfl ?_
      refine y_ireturnK c23_14 (y_fit1 (by omega)) ?_
      refine y_ireturnK c162_21 (y_fit1 (by omega)) ?_
      refine y_if 25 23 c178_20 rfl rfl (yz_ne (by omega)) (fun hb14737 => ?_) (fun hb14737 => ?_)
      · exfalso; omega
      · refine y_iconst 24 c178_23 rfl ?_
        exact y_ireturn c178_24 (y_fit0 _) ⟨_, rfl, rfl, hF14736, (hMI.fr hT14735 (fun a q ha => (yup_ne (by rintro ⟨rfl, rfl⟩; simp [vGq] at ha))))⟩
    · exfalso; omega
  · refine y_iload 9 c162_8 rfl rfl ?_
    refine y_if 16 12 c162_9 rfl rfl (yz_eq (by omega)) (fun hb14738 => ?_) (fun hb14738 => ?_)
    · refine y_iconst 17 c162_16 rfl ?_
      refine y_iconst 18 c162_17 rfl ?_
      refine y_inlB 21 [.ref 376, yI 0, yI 1] [] [some (.ref 376), some (yI 0), some (yI 1)] c162_18 rfl rfl rfl rfl rfl (ycanO km23 ko376) kn23 rfl rfl ?_
      refine y_aload 1 c23_0 rfl rfl rfl ?_
      refine y_iload 2 c23_1 rfl rfl ?_
      refine y_if 9 5 c23_2 rfl rfl (yz_eq (by omega)) (fun hb14739 => ?_) (fun hb14739 => ?_)
      · refine y_iload 10 c23_9 rfl rfl ?_
        refine y_putI 13 c23_10 rfl kf376_57 (y_fit0 _) ?_
        have hT14740 := hT.up 376 57 1 0 4 rfl (by omega)
        have hF14741 := hF.up 376 57 1 rfl
        refine y_iload 14 c23_13 rfl rfl ?_
        refine y_ireturnK c23_14 (y_fit1 (by omega)) ?_
        refine y_ireturnK c162_21 (y_fit1 (by omega)) ?_
        refine y_if 25 23 c178_20 rfl rfl (yz_ne (by omega)) (fun hb14742 => ?_) (fun hb14742 => ?_)
        · exfalso; omega
        · refine y_iconst 24 c178_23 rfl ?_
          exact y_ireturn c178_24 (y_fit0 _) ⟨_, rfl, rfl, hF14741, (hMI.fr hT14740 (fun a q ha => (yup_ne (by rintro ⟨rfl, rfl⟩; simp [vGq] at ha))))⟩
      · exfalso; omega
    · refine y_iconst 13 c162_12 rfl ?_
      refine y_goto 17 c162_13 rfl ?_
      refine y_iconst 18 c162_17 rfl ?_
      refine y_inlB 21 [.ref 376, yI 1, yI 1] [] [some (.ref 376), some (yI 1), some (yI 1)] c162_18 rfl rfl rfl rfl rfl (ycanO km23 ko376) kn23 rfl rfl ?_
      refine y_aload 1 c23_0 rfl rfl rfl ?_
      refine y_iload 2 c23_1 rfl rfl ?_
      refine y_if 9 5 c23_2 rfl rfl (yz_eq (by omega)) (fun hb14743 => ?_) (fun hb14743 => ?_)
      · exfalso; omega
      · refine y_iconst 6 c23_5 rfl ?_
        refine y_goto 10 c23_6 rfl ?_
        refine y_putI 13 c23_10 rfl kf376_57 (y_fit0 _) ?_
        have hT14744 := hT.up 376 57 0 0 4 rfl (by omega)
        have hF14745 := hF.up 376 57 0 rfl
        refine y_iload 14 c23_13 rfl rfl ?_
        refine y_ireturnK c23_14 (y_fit1 (by omega)) ?_
        refine y_ireturnK c162_21 (y_fit1 (by omega)) ?_
        refine y_if 25 23 c178_20 rfl rfl (yz_ne (by omega)) (fun hb14746 => ?_) (fun hb14746 => ?_)
        · have es14747 : (yup m 376 57 0) 387 0 = m 387 0 := rfl
          refine y_aload 26 c178_25 rfl rfl rfl ?_
          refine y_getR 29 c178_26 rfl kf376_38 ?_
          refine y_iconst 31 c178_29 rfl ?_
          refine y_aload 32 c178_31 rfl rfl rfl ?_
          refine y_getX 35 (m 376 18) c178_32 rfl kf376_18 rfl ?_
          refine y_top 0 (by omega) ?_
          refine y_imul 36 c178_35 rfl ?_
          refine y_top 0 (by decide) ?_
          refine y_iload 37 c178_36 rfl rfl ?_
          refine y_iadd 38 c178_37 rfl ?_
          refine y_iaT 39 ((-1)) 47 c178_38 rfl ka401 (by omega) hT14744 rfl (fun v14748 hv14748 gv14748 => ?_)
          have hG0 : GQ 0 m := by have h0 := hMI.2; rcases h0 with q | ⟨q1, q2⟩ | ⟨q1, q2⟩ <;> first | exact q2 | (exfalso; omega)
          have hG1 : GQ 0 (yup m 376 57 0) := hG0.fr hT (by decide) (fun a q ha => (yup_ne (by rintro ⟨rfl, rfl⟩; simp [vGq] at ha)))
          have gv14748_ : 0 ≤ v14748 := by have h0 := hG1.2.2.2.2.2.2.2.1 a.toNat (by omega); rw [show 8 * 0 + a.toNat = (0 + a).toNat by omega, hv14748] at h0; exact h0
          refine y_istore 40 c178_39 rfl rfl ?_
          refine y_iconst 41 c178_40 rfl ?_
          refine y_istore 42 c178_41 rfl rfl ?_
          have es14749 : (yup m 376 57 0) 388 0 = m 388 0 := rfl
          have es14750 : (yup m 376 57 0) 376 18 = m 376 18 := rfl
          exact t178a_0 hT14744 (by omega) hG1 (by omega) (by omega) (fun r hr => ⟨_, rfl, rfl, hF14745, (hMI.fr hT14744 (fun a q ha => (yup_ne (by rintro ⟨rfl, rfl⟩; simp [vGq] at ha))))⟩) ((yup m 376 57 0) 388 0 - 0).toNat 0 (by omega) (by omega)
        · exfalso; omega
set_option maxRecDepth 100000 in
theorem t163_1 {L : Nat} {xs : Nat → Int32} {d nn : Nat} {m : yM} (hT : Ty gT m) (hn : m 376 18 = 1) (hMI : MI m) {a : Int} (ra : -2147483648 ≤ a ∧ a < 2147483648) {b : Int} (rb : -2147483648 ≤ b ∧ b < 2147483648) : YC (gZ L xs) (d + 6) 163 [.ref 376, yI a, yI b] m nn (qMd nn m) := by
  have tb383 := hT.atp 383 1 0 6 rfl
  have tb384 := hT.atp 384 1 0 10 rfl
  have tb385 := hT.atp 385 1 0 8 rfl
  have tb386 := hT.atp 386 1 0 12 rfl
  have tb387 := hT.atp 387 1 0 8 rfl
  have tb388 := hT.atp 388 1 0 12 rfl
  have tb389 := hT.atp 389 1 0 48 rfl
  have tb390 := hT.atp 390 1 0 125 rfl
  have t19 := hT.atp 376 19 0 1 rfl
  refine YC.mkB [some (.ref 376), some (yI a), some (yI b)] kn163 rfl rfl ?_
  have hF : Fr wML m m := Fr.rf
  refine y_aload 1 c163_0 rfl rfl rfl ?_
  refine y_aload 2 c163_1 rfl rfl rfl ?_
  refine y_iload 3 c163_2 rfl rfl ?_
  refine y_inlB 6 [.ref 376, yI a] [.ref 376] [some (.ref 376), some (yI a)] c163_3 rfl rfl rfl rfl rfl (ycanO km160 ko376) kn160 rfl rfl ?_
  refine y_aload 1 c160_0 rfl rfl rfl ?_
  refine y_getX 4 (m 376 19) c160_1 rfl kf376_19 rfl ?_
  refine y_if 30 7 c160_4 rfl rfl (yz_eq (by omega)) (fun hb14751 => ?_) (fun hb14751 => ?_)
  · refine y_iconst 31 c160_30 rfl ?_
    refine y_ireturnK c160_31 (y_fit1 (by omega)) ?_
    refine y_if 21 9 c163_6 rfl rfl (yz_eq (by omega)) (fun hb14752 => ?_) (fun hb14752 => ?_)
    · refine y_iconst 22 c163_21 rfl ?_
      refine y_inlB 25 [.ref 376, yI 0] [] [some (.ref 376), some (yI 0)] c163_22 rfl rfl rfl rfl rfl (ycanO km162 ko376) kn162 rfl rfl ?_
      refine y_aload 1 c162_0 rfl rfl rfl ?_
      refine y_aload 2 c162_1 rfl rfl rfl ?_
      refine y_getX 5 (m 376 19) c162_2 rfl kf376_19 rfl ?_
      refine y_top 0 (by omega) ?_
      refine y_if 16 8 c162_5 rfl rfl (yz_eq (by omega)) (fun hb14753 => ?_) (fun hb14753 => ?_)
      · refine y_iconst 17 c162_16 rfl ?_
        refine y_iconst 18 c162_17 rfl ?_
        refine y_inlB 21 [.ref 376, yI 0, yI 1] [] [some (.ref 376), some (yI 0), some (yI 1)] c162_18 rfl rfl rfl rfl rfl (ycanO km23 ko376) kn23 rfl rfl ?_
        refine y_aload 1 c23_0 rfl rfl rfl ?_
        refine y_iload 2 c23_1 rfl rfl ?_
        refine y_if 9 5 c23_2 rfl rfl (yz_eq (by omega)) (fun hb14754 => ?_) (fun hb14754 => ?_)
        · refine y_iload 10 c23_9 rfl rfl ?_
          refine y_putI 13 c23_10 rfl kf376_57 (y_fit0 _) ?_
          have hT14755 := hT.up 376 57 1 0 4 rfl (by omega)
          have hF14756 := hF.up 376 57 1 rfl
          refine y_iload 14 c23_13 rfl rfl ?_
          refine y_ireturnK c23_14 (y_fit1 (by omega)) ?_
          refine y_ireturnK c162_21 (y_fit1 (by omega)) ?_
          refine y_if 42 28 c163_25 rfl rfl (yz_eq (by omega)) (fun hb14757 => ?_) (fun hb14757 => ?_)
          · refine y_iconst 43 c163_42 rfl ?_
            exact y_ireturn c163_43 (y_fit0 _) ⟨_, rfl, rfl, hF14756, (hMI.fr hT14755 (fun a q ha => (yup_ne (by rintro ⟨rfl, rfl⟩; simp [vGq] at ha))))⟩
          · exfalso; omega
        · exfalso; omega
      · exfalso; omega
    · exfalso; omega
  · refine y_iload 8 c160_7 rfl rfl ?_
    refine y_iconst 9 c160_8 rfl ?_
    refine y_aload 10 c160_9 rfl rfl rfl ?_
    refine y_getR 13 c160_10 rfl kf376_26 ?_
    refine y_aload 14 c160_13 rfl rfl rfl ?_
    refine y_getX 17 (m 376 18) c160_14 rfl kf376_18 rfl ?_
    have tb14758 := hT.atp 376 18 0 1 rfl
    refine y_top 1 (by omega) ?_
    refine y_iaX 18 (m 389 1) c160_17 rfl ka389 (by decide) rfl ?_
    refine y_iconst 19 c160_18 rfl ?_
    refine y_isub 20 c160_19 rfl ?_
    refine y_callP 23 [yI a, yI 0, yI ((m 389 1) - 1)] [] c160_20 rfl rfl rfl rfl rfl (ycanS km22) (t22m (by omega) (by omega) (by omega)) (fun r14759 hr14759 => ?_)
    refine y_if 30 26 c160_23 rfl rfl (yz_eq (by omega)) (fun hb14760 => ?_) (fun hb14760 => ?_)
    · refine y_iconst 31 c160_30 rfl ?_
      refine y_ireturnK c160_31 (y_fit1 (by omega)) ?_
      refine y_if 21 9 c163_6 rfl rfl (yz_eq (by omega)) (fun hb14761 => ?_) (fun hb14761 => ?_)
      · refine y_iconst 22 c163_21 rfl ?_
        refine y_inlB 25 [.ref 376, yI 0] [] [some (.ref 376), some (yI 0)] c163_22 rfl rfl rfl rfl rfl (ycanO km162 ko376) kn162 rfl rfl ?_
        refine y_aload 1 c162_0 rfl rfl rfl ?_
        refine y_aload 2 c162_1 rfl rfl rfl ?_
        refine y_getX 5 (m 376 19) c162_2 rfl kf376_19 rfl ?_
        refine y_top 1 (by omega) ?_
        refine y_if 16 8 c162_5 rfl rfl (yz_eq (by omega)) (fun hb14762 => ?_) (fun hb14762 => ?_)
        · exfalso; omega
        · refine y_iload 9 c162_8 rfl rfl ?_
          refine y_if 16 12 c162_9 rfl rfl (yz_eq (by omega)) (fun hb14763 => ?_) (fun hb14763 => ?_)
          · refine y_iconst 17 c162_16 rfl ?_
            refine y_iconst 18 c162_17 rfl ?_
            refine y_inlB 21 [.ref 376, yI 0, yI 1] [] [some (.ref 376), some (yI 0), some (yI 1)] c162_18 rfl rfl rfl rfl rfl (ycanO km23 ko376) kn23 rfl rfl ?_
            refine y_aload 1 c23_0 rfl rfl rfl ?_
            refine y_iload 2 c23_1 rfl rfl ?_
            refine y_if 9 5 c23_2 rfl rfl (yz_eq (by omega)) (fun hb14764 => ?_) (fun hb14764 => ?_)
            · refine y_iload 10 c23_9 rfl rfl ?_
              refine y_putI 13 c23_10 rfl kf376_57 (y_fit0 _) ?_
              have hT14765 := hT.up 376 57 1 0 4 rfl (by omega)
              have hF14766 := hF.up 376 57 1 rfl
              refine y_iload 14 c23_13 rfl rfl ?_
              refine y_ireturnK c23_14 (y_fit1 (by omega)) ?_
              refine y_ireturnK c162_21 (y_fit1 (by omega)) ?_
              refine y_if 42 28 c163_25 rfl rfl (yz_eq (by omega)) (fun hb14767 => ?_) (fun hb14767 => ?_)
              · refine y_iconst 43 c163_42 rfl ?_
                exact y_ireturn c163_43 (y_fit0 _) ⟨_, rfl, rfl, hF14766, (hMI.fr hT14765 (fun a q ha => (yup_ne (by rintro ⟨rfl, rfl⟩; simp [vGq] at ha))))⟩
              · exfalso; omega
            · exfalso; omega
          · exfalso; omega
      · exfalso; omega
    · refine y_iconst 27 c160_26 rfl ?_
      refine y_goto 31 c160_27 rfl ?_
      refine y_ireturnK c160_31 (y_fit1 (by omega)) ?_
      refine y_if 21 9 c163_6 rfl rfl (yz_eq (by omega)) (fun hb14768 => ?_) (fun hb14768 => ?_)
      · exfalso; omega
      · refine y_aload 10 c163_9 rfl rfl rfl ?_
        refine y_iload 11 c163_10 rfl rfl ?_
        refine y_inlB 14 [.ref 376, yI b] [.ref 376] [some (.ref 376), some (yI b)] c163_11 rfl rfl rfl rfl rfl (ycanO km161 ko376) kn161 rfl rfl ?_
        refine y_aload 1 c161_0 rfl rfl rfl ?_
        refine y_getX 4 (m 376 19) c161_1 rfl kf376_19 rfl ?_
        refine y_top 1 (by omega) ?_
        refine y_if 30 7 c161_4 rfl rfl (yz_eq (by omega)) (fun hb14769 => ?_) (fun hb14769 => ?_)
        · exfalso; omega
        · refine y_iload 8 c161_7 rfl rfl ?_
          refine y_iconst 9 c161_8 rfl ?_
          refine y_aload 10 c161_9 rfl rfl rfl ?_
          refine y_getR 13 c161_10 rfl kf376_25 ?_
          refine y_aload 14 c161_13 rfl rfl rfl ?_
          refine y_getX 17 (m 376 18) c161_14 rfl kf376_18 rfl ?_
          refine y_top 1 (by omega) ?_
          refine y_iaX 18 (m 388 1) c161_17 rfl ka388 (by decide) rfl ?_
          refine y_iconst 19 c161_18 rfl ?_
          refine y_isub 20 c161_19 rfl ?_
          refine y_callP 23 [yI b, yI 0, yI ((m 388 1) - 1)] [] c161_20 rfl rfl rfl rfl rfl (ycanS km22) (t22m (by omega) (by omega) (by omega)) (fun r14770 hr14770 => ?_)
          refine y_if 30 26 c161_23 rfl rfl (yz_eq (by omega)) (fun hb14771 => ?_) (fun hb14771 => ?_)
          · refine y_iconst 31 c161_30 rfl ?_
            refine y_ireturnK c161_31 (y_fit1 (by omega)) ?_
            refine y_if 21 17 c163_14 rfl rfl (yz_eq (by omega)) (fun hb14772 => ?_) (fun hb14772 => ?_)
            · refine y_iconst 22 c163_21 rfl ?_
              refine y_inlB 25 [.ref 376, yI 0] [] [some (.ref 376), some (yI 0)] c163_22 rfl rfl rfl rfl rfl (ycanO km162 ko376) kn162 rfl rfl ?_
              refine y_aload 1 c162_0 rfl rfl rfl ?_
              refine y_aload 2 c162_1 rfl rfl rfl ?_
              refine y_getX 5 (m 376 19) c162_2 rfl kf376_19 rfl ?_
              refine y_top 1 (by omega) ?_
              refine y_if 16 8 c162_5 rfl rfl (yz_eq (by omega)) (fun hb14773 => ?_) (fun hb14773 => ?_)
              · exfalso; omega
              · refine y_iload 9 c162_8 rfl rfl ?_
                refine y_if 16 12 c162_9 rfl rfl (yz_eq (by omega)) (fun hb14774 => ?_) (fun hb14774 => ?_)
                · refine y_iconst 17 c162_16 rfl ?_
                  refine y_iconst 18 c162_17 rfl ?_
                  refine y_inlB 21 [.ref 376, yI 0, yI 1] [] [some (.ref 376), some (yI 0), some (yI 1)] c162_18 rfl rfl rfl rfl rfl (ycanO km23 ko376) kn23 rfl rfl ?_
                  refine y_aload 1 c23_0 rfl rfl rfl ?_
                  refine y_iload 2 c23_1 rfl rfl ?_
                  refine y_if 9 5 c23_2 rfl rfl (yz_eq (by omega)) (fun hb14775 => ?_) (fun hb14775 => ?_)
                  · refine y_iload 10 c23_9 rfl rfl ?_
                    refine y_putI 13 c23_10 rfl kf376_57 (y_fit0 _) ?_
                    have hT14776 := hT.up 376 57 1 0 4 rfl (by omega)
                    have hF14777 := hF.up 376 57 1 rfl
                    refine y_iload 14 c23_13 rfl rfl ?_
                    refine y_ireturnK c23_14 (y_fit1 (by omega)) ?_
                    refine y_ireturnK c162_21 (y_fit1 (by omega)) ?_
                    refine y_if 42 28 c163_25 rfl rfl (yz_eq (by omega)) (fun hb14778 => ?_) (fun hb14778 => ?_)
                    · refine y_iconst 43 c163_42 rfl ?_
                      exact y_ireturn c163_43 (y_fit0 _) ⟨_, rfl, rfl, hF14777, (hMI.fr hT14776 (fun a q ha => (yup_ne (by rintro ⟨rfl, rfl⟩; simp [vGq] at ha))))⟩
                    · exfalso; omega
                  · exfalso; omega
                · exfalso; omega
            · exfalso; omega
          · refine y_iconst 27 c161_26 rfl ?_
            refine y_goto 31 c161_27 rfl ?_
            refine y_ireturnK c161_31 (y_fit1 (by omega)) ?_
            refine y_if 21 17 c163_14 rfl rfl (yz_eq (by omega)) (fun hb14779 => ?_) (fun hb14779 => ?_)
            · exfalso; omega
            · refine y_iconst 18 c163_17 rfl ?_
              refine y_goto 22 c163_18 rfl ?_
              refine y_inlB 25 [.ref 376, yI 1] [] [some (.ref 376), some (yI 1)] c163_22 rfl rfl rfl rfl rfl (ycanO km162 ko376) kn162 rfl rfl ?_
              refine y_aload 1 c162_0 rfl rfl rfl ?_
              refine y_aload 2 c162_1 rfl rfl rfl ?_
              refine y_getX 5 (m 376 19) c162_2 rfl kf376_19 rfl ?_
              refine y_top 1 (by omega) ?_
              refine y_if 16 8 c162_5 rfl rfl (yz_eq (by omega)) (fun hb14780 => ?_) (fun hb14780 => ?_)
              · exfalso; omega
              · refine y_iload 9 c162_8 rfl rfl ?_
                refine y_if 16 12 c162_9 rfl rfl (yz_eq (by omega)) (fun hb14781 => ?_) (fun hb14781 => ?_)
                · exfalso; omega
                · refine y_iconst 13 c162_12 rfl ?_
                  refine y_goto 17 c162_13 rfl ?_
                  refine y_iconst 18 c162_17 rfl ?_
                  refine y_inlB 21 [.ref 376, yI 1, yI 1] [] [some (.ref 376), some (yI 1), some (yI 1)] c162_18 rfl rfl rfl rfl rfl (ycanO km23 ko376) kn23 rfl rfl ?_
                  refine y_aload 1 c23_0 rfl rfl rfl ?_
                  refine y_iload 2 c23_1 rfl rfl ?_
                  refine y_if 9 5 c23_2 rfl rfl (yz_eq (by omega)) (fun hb14782 => ?_) (fun hb14782 => ?_)
                  · exfalso; omega
                  · refine y_iconst 6 c23_5 rfl ?_
                    refine y_goto 10 c23_6 rfl ?_
                    refine y_putI 13 c23_10 rfl kf376_57 (y_fit0 _) ?_
                    have hT14783 := hT.up 376 57 0 0 4 rfl (by omega)
                    have hF14784 := hF.up 376 57 0 rfl
                    refine y_iload 14 c23_13 rfl rfl ?_
                    refine y_ireturnK c23_14 (y_fit1 (by omega)) ?_
                    refine y_ireturnK c162_21 (y_fit1 (by omega)) ?_
                    refine y_if 42 28 c163_25 rfl rfl (yz_eq (by omega)) (fun hb14785 => ?_) (fun hb14785 => ?_)
                    · exfalso; omega
                    · refine y_aload 29 c163_28 rfl rfl rfl ?_
                      refine y_getR 32 c163_29 rfl kf376_41 ?_
                      refine y_iconst 34 c163_32 rfl ?_
                      refine y_iload 35 c163_34 rfl rfl ?_
                      refine y_imul 36 c163_35 rfl ?_
                      refine y_iload 37 c163_36 rfl rfl ?_
                      refine y_iadd 38 c163_37 rfl ?_
                      refine y_iaT 39 ((-2147483648)) 2147483647 c163_38 rfl ka404 (by omega) hT14783 rfl (fun v14786 hv14786 gv14786 => ?_)
                      refine y_goto 43 c163_39 rfl ?_
                      exact y_ireturn c163_43 (y_fit0 _) ⟨_, rfl, rfl, hF14784, (hMI.fr hT14783 (fun a q ha => (yup_ne (by rintro ⟨rfl, rfl⟩; simp [vGq] at ha))))⟩
set_option maxRecDepth 100000 in
theorem t166_1 {L : Nat} {xs : Nat → Int32} {d nn : Nat} {m : yM} (hT : Ty gT m) (hn : m 376 18 = 1) (hMI : MI m) {a : Int} (ra : -2147483648 ≤ a ∧ a < 2147483648) {b : Int} (rb : -2147483648 ≤ b ∧ b < 2147483648) {c : Int} (rc : -2147483648 ≤ c ∧ c < 2147483648) : YC (gZ L xs) (d + 6) 166 [.ref 376, yI a, yI b, yI c] m nn (qMd nn m) := by
  have tb383 := hT.atp 383 1 0 6 rfl
  have tb384 := hT.atp 384 1 0 10 rfl
  have tb385 := hT.atp 385 1 0 8 rfl
  have tb386 := hT.atp 386 1 0 12 rfl
  have tb387 := hT.atp 387 1 0 8 rfl
  have tb388 := hT.atp 388 1 0 12 rfl
  have tb389 := hT.atp 389 1 0 48 rfl
  have tb390 := hT.atp 390 1 0 125 rfl
  have t19 := hT.atp 376 19 0 1 rfl
  refine YC.mkB [some (.ref 376), some (yI a), some (yI b), some (yI c)] kn166 rfl rfl ?_
  have hF : Fr wML m m := Fr.rf
  refine y_aload 1 c166_0 rfl rfl rfl ?_
  refine y_aload 2 c166_1 rfl rfl rfl ?_
  refine y_iload 3 c166_2 rfl rfl ?_
  refine y_inlB 6 [.ref 376, yI a] [.ref 376] [some (.ref 376), some (yI a)] c166_3 rfl rfl rfl rfl rfl (ycanO km161 ko376) kn161 rfl rfl ?_
  refine y_aload 1 c161_0 rfl rfl rfl ?_
  refine y_getX 4 (m 376 19) c161_1 rfl kf376_19 rfl ?_
  refine y_if 30 7 c161_4 rfl rfl (yz_eq (by omega)) (fun hb14787 => ?_) (fun hb14787 => ?_)
  · refine y_iconst 31 c161_30 rfl ?_
    refine y_ireturnK c161_31 (y_fit1 (by omega)) ?_
    refine y_if 40 9 c166_6 rfl rfl (yz_eq (by omega)) (fun hb14788 => ?_) (fun hb14788 => ?_)
    · refine y_iconst 41 c166_40 rfl ?_
      refine y_inlB 44 [.ref 376, yI 0] [] [some (.ref 376), some (yI 0)] c166_41 rfl rfl rfl rfl rfl (ycanO km162 ko376) kn162 rfl rfl ?_
      refine y_aload 1 c162_0 rfl rfl rfl ?_
      refine y_aload 2 c162_1 rfl rfl rfl ?_
      refine y_getX 5 (m 376 19) c162_2 rfl kf376_19 rfl ?_
      refine y_top 0 (by omega) ?_
      refine y_if 16 8 c162_5 rfl rfl (yz_eq (by omega)) (fun hb14789 => ?_) (fun hb14789 => ?_)
      · refine y_iconst 17 c162_16 rfl ?_
        refine y_iconst 18 c162_17 rfl ?_
        refine y_inlB 21 [.ref 376, yI 0, yI 1] [] [some (.ref 376), some (yI 0), some (yI 1)] c162_18 rfl rfl rfl rfl rfl (ycanO km23 ko376) kn23 rfl rfl ?_
        refine y_aload 1 c23_0 rfl rfl rfl ?_
        refine y_iload 2 c23_1 rfl rfl ?_
        refine y_if 9 5 c23_2 rfl rfl (yz_eq (by omega)) (fun hb14790 => ?_) (fun hb14790 => ?_)
        · refine y_iload 10 c23_9 rfl rfl ?_
          refine y_putI 13 c23_10 rfl kf376_57 (y_fit0 _) ?_
          have hT14791 := hT.up 376 57 1 0 4 rfl (by omega)
          have hF14792 := hF.up 376 57 1 rfl
          refine y_iload 14 c23_13 rfl rfl ?_
          refine y_ireturnK c23_14 (y_fit1 (by omega)) ?_
          refine y_ireturnK c162_21 (y_fit1 (by omega)) ?_
          refine y_if 66 47 c166_44 rfl rfl (yz_eq (by omega)) (fun hb14793 => ?_) (fun hb14793 => ?_)
          · refine y_iconst 67 c166_66 rfl ?_
            exact y_ireturn c166_67 (y_fit0 _) ⟨_, rfl, rfl, hF14792, (hMI.fr hT14791 (fun a q ha => (yup_ne (by rintro ⟨rfl, rfl⟩; simp [vGq] at ha))))⟩
          · exfalso; omega
        · exfalso; omega
      · exfalso; omega
    · exfalso; omega
  · refine y_iload 8 c161_7 rfl rfl ?_
    refine y_iconst 9 c161_8 rfl ?_
    refine y_aload 10 c161_9 rfl rfl rfl ?_
    refine y_getR 13 c161_10 rfl kf376_25 ?_
    refine y_aload 14 c161_13 rfl rfl rfl ?_
    refine y_getX 17 (m 376 18) c161_14 rfl kf376_18 rfl ?_
    have tb14794 := hT.atp 376 18 0 1 rfl
    refine y_top 1 (by omega) ?_
    refine y_iaX 18 (m 388 1) c161_17 rfl ka388 (by decide) rfl ?_
    refine y_iconst 19 c161_18 rfl ?_
    refine y_isub 20 c161_19 rfl ?_
    refine y_callP 23 [yI a, yI 0, yI ((m 388 1) - 1)] [] c161_20 rfl rfl rfl rfl rfl (ycanS km22) (t22m (by omega) (by omega) (by omega)) (fun r14795 hr14795 => ?_)
    refine y_if 30 26 c161_23 rfl rfl (yz_eq (by omega)) (fun hb14796 => ?_) (fun hb14796 => ?_)
    · refine y_iconst 31 c161_30 rfl ?_
      refine y_ireturnK c161_31 (y_fit1 (by omega)) ?_
      refine y_if 40 9 c166_6 rfl rfl (yz_eq (by omega)) (fun hb14797 => ?_) (fun hb14797 => ?_)
      · refine y_iconst 41 c166_40 rfl ?_
        refine y_inlB 44 [.ref 376, yI 0] [] [some (.ref 376), some (yI 0)] c166_41 rfl rfl rfl rfl rfl (ycanO km162 ko376) kn162 rfl rfl ?_
        refine y_aload 1 c162_0 rfl rfl rfl ?_
        refine y_aload 2 c162_1 rfl rfl rfl ?_
        refine y_getX 5 (m 376 19) c162_2 rfl kf376_19 rfl ?_
        refine y_top 1 (by omega) ?_
        refine y_if 16 8 c162_5 rfl rfl (yz_eq (by omega)) (fun hb14798 => ?_) (fun hb14798 => ?_)
        · exfalso; omega
        · refine y_iload 9 c162_8 rfl rfl ?_
          refine y_if 16 12 c162_9 rfl rfl (yz_eq (by omega)) (fun hb14799 => ?_) (fun hb14799 => ?_)
          · refine y_iconst 17 c162_16 rfl ?_
            refine y_iconst 18 c162_17 rfl ?_
            refine y_inlB 21 [.ref 376, yI 0, yI 1] [] [some (.ref 376), some (yI 0), some (yI 1)] c162_18 rfl rfl rfl rfl rfl (ycanO km23 ko376) kn23 rfl rfl ?_
            refine y_aload 1 c23_0 rfl rfl rfl ?_
            refine y_iload 2 c23_1 rfl rfl ?_
            refine y_if 9 5 c23_2 rfl rfl (yz_eq (by omega)) (fun hb14800 => ?_) (fun hb14800 => ?_)
            · refine y_iload 10 c23_9 rfl rfl ?_
              refine y_putI 13 c23_10 rfl kf376_57 (y_fit0 _) ?_
              have hT14801 := hT.up 376 57 1 0 4 rfl (by omega)
              have hF14802 := hF.up 376 57 1 rfl
              refine y_iload 14 c23_13 rfl rfl ?_
              refine y_ireturnK c23_14 (y_fit1 (by omega)) ?_
              refine y_ireturnK c162_21 (y_fit1 (by omega)) ?_
              refine y_if 66 47 c166_44 rfl rfl (yz_eq (by omega)) (fun hb14803 => ?_) (fun hb14803 => ?_)
              · refine y_iconst 67 c166_66 rfl ?_
                exact y_ireturn c166_67 (y_fit0 _) ⟨_, rfl, rfl, hF14802, (hMI.fr hT14801 (fun a q ha => (yup_ne (by rintro ⟨rfl, rfl⟩; simp [vGq] at ha))))⟩
              · exfalso; omega
            · exfalso; omega
          · exfalso; omega
      · exfalso; omega
    · refine y_iconst 27 c161_26 rfl ?_
      refine y_goto 31 c161_27 rfl ?_
      refine y_ireturnK c161_31 (y_fit1 (by omega)) ?_
      refine y_if 40 9 c166_6 rfl rfl (yz_eq (by omega)) (fun hb14804 => ?_) (fun hb14804 => ?_)
      · exfalso; omega
      · refine y_aload 10 c166_9 rfl rfl rfl ?_
        refine y_iload 11 c166_10 rfl rfl ?_
        refine y_inlB 14 [.ref 376, yI c] [.ref 376] [some (.ref 376), some (yI c)] c166_11 rfl rfl rfl rfl rfl (ycanO km161 ko376) kn161 rfl rfl ?_
        refine y_aload 1 c161_0 rfl rfl rfl ?_
        refine y_getX 4 (m 376 19) c161_1 rfl kf376_19 rfl ?_
        refine y_top 1 (by omega) ?_
        refine y_if 30 7 c161_4 rfl rfl (yz_eq (by omega)) (fun hb14805 => ?_) (fun hb14805 => ?_)
        · exfalso; omega
        · refine y_iload 8 c161_7 rfl rfl ?_
          refine y_iconst 9 c161_8 rfl ?_
          refine y_aload 10 c161_9 rfl rfl rfl ?_
          refine y_getR 13 c161_10 rfl kf376_25 ?_
          refine y_aload 14 c161_13 rfl rfl rfl ?_
          refine y_getX 17 (m 376 18) c161_14 rfl kf376_18 rfl ?_
          refine y_top 1 (by omega) ?_
          refine y_iaX 18 (m 388 1) c161_17 rfl ka388 (by decide) rfl ?_
          refine y_iconst 19 c161_18 rfl ?_
          refine y_isub 20 c161_19 rfl ?_
          refine y_callP 23 [yI c, yI 0, yI ((m 388 1) - 1)] [] c161_20 rfl rfl rfl rfl rfl (ycanS km22) (t22m (by omega) (by omega) (by omega)) (fun r14806 hr14806 => ?_)
          refine y_if 30 26 c161_23 rfl rfl (yz_eq (by omega)) (fun hb14807 => ?_) (fun hb14807 => ?_)
          · refine y_iconst 31 c161_30 rfl ?_
            refine y_ireturnK c161_31 (y_fit1 (by omega)) ?_
            refine y_if 40 17 c166_14 rfl rfl (yz_eq (by omega)) (fun hb14808 => ?_) (fun hb14808 => ?_)
            · refine y_iconst 41 c166_40 rfl ?_
              refine y_inlB 44 [.ref 376, yI 0] [] [some (.ref 376), some (yI 0)] c166_41 rfl rfl rfl rfl rfl (ycanO km162 ko376) kn162 rfl rfl ?_
              refine y_aload 1 c162_0 rfl rfl rfl ?_
              refine y_aload 2 c162_1 rfl rfl rfl ?_
              refine y_getX 5 (m 376 19) c162_2 rfl kf376_19 rfl ?_
              refine y_top 1 (by omega) ?_
              refine y_if 16 8 c162_5 rfl rfl (yz_eq (by omega)) (fun hb14809 => ?_) (fun hb14809 => ?_)
              · exfalso; omega
              · refine y_iload 9 c162_8 rfl rfl ?_
                refine y_if 16 12 c162_9 rfl rfl (yz_eq (by omega)) (fun hb14810 => ?_) (fun hb14810 => ?_)
                · refine y_iconst 17 c162_16 rfl ?_
                  refine y_iconst 18 c162_17 rfl ?_
                  refine y_inlB 21 [.ref 376, yI 0, yI 1] [] [some (.ref 376), some (yI 0), some (yI 1)] c162_18 rfl rfl rfl rfl rfl (ycanO km23 ko376) kn23 rfl rfl ?_
                  refine y_aload 1 c23_0 rfl rfl rfl ?_
                  refine y_iload 2 c23_1 rfl rfl ?_
                  refine y_if 9 5 c23_2 rfl rfl (yz_eq (by omega)) (fun hb14811 => ?_) (fun hb14811 => ?_)
                  · refine y_iload 10 c23_9 rfl rfl ?_
                    refine y_putI 13 c23_10 rfl kf376_57 (y_fit0 _) ?_
                    have hT14812 := hT.up 376 57 1 0 4 rfl (by omega)
                    have hF14813 := hF.up 376 57 1 rfl
                    refine y_iload 14 c23_13 rfl rfl ?_
                    refine y_ireturnK c23_14 (y_fit1 (by omega)) ?_
                    refine y_ireturnK c162_21 (y_fit1 (by omega)) ?_
                    refine y_if 66 47 c166_44 rfl rfl (yz_eq (by omega)) (fun hb14814 => ?_) (fun hb14814 => ?_)
                    · refine y_iconst 67 c166_66 rfl ?_
                      exact y_ireturn c166_67 (y_fit0 _) ⟨_, rfl, rfl, hF14813, (hMI.fr hT14812 (fun a q ha => (yup_ne (by rintro ⟨rfl, rfl⟩; simp [vGq] at ha))))⟩
                    · exfalso; omega
                  · exfalso; omega
                · exfalso; omega
            · exfalso; omega
          · refine y_iconst 27 c161_26 rfl ?_
            refine y_goto 31 c161_27 rfl ?_
            refine y_ireturnK c161_31 (y_fit1 (by omega)) ?_
            refine y_if 40 17 c166_14 rfl rfl (yz_eq (by omega)) (fun hb14815 => ?_) (fun hb14815 => ?_)
            · exfalso; omega
            · refine y_iload 18 c166_17 rfl rfl ?_
              refine y_iconst 19 c166_18 rfl ?_
              refine y_aload 20 c166_19 rfl rfl rfl ?_
              refine y_getR 23 c166_20 rfl kf376_22 ?_
              refine y_aload 24 c166_23 rfl rfl rfl ?_
              refine y_getX 27 (m 376 18) c166_24 rfl kf376_18 rfl ?_
              refine y_top 1 (by omega) ?_
              refine y_iaX 28 (m 385 1) c166_27 rfl ka385 (by decide) rfl ?_
              refine y_iconst 29 c166_28 rfl ?_
              refine y_isub 30 c166_29 rfl ?_
              refine y_callP 33 [yI b, yI 0, yI ((m 385 1) - 1)] [.ref 376] c166_30 rfl rfl rfl rfl rfl (ycanS km22) (t22m (by omega) (by omega) (by omega)) (fun r14816 hr14816 => ?_)
              refine y_if 40 36 c166_33 rfl rfl (yz_eq (by omega)) (fun hb14817 => ?_) (fun hb14817 => ?_)
              · refine y_iconst 41 c166_40 rfl ?_
                refine y_inlB 44 [.ref 376, yI 0] [] [some (.ref 376), some (yI 0)] c166_41 rfl rfl rfl rfl rfl (ycanO km162 ko376) kn162 rfl rfl ?_
                refine y_aload 1 c162_0 rfl rfl rfl ?_
                refine y_aload 2 c162_1 rfl rfl rfl ?_
                refine y_getX 5 (m 376 19) c162_2 rfl kf376_19 rfl ?_
                refine y_top 1 (by omega) ?_
                refine y_if 16 8 c162_5 rfl rfl (yz_eq (by omega)) (fun hb14818 => ?_) (fun hb14818 => ?_)
                · exfalso; omega
                · refine y_iload 9 c162_8 rfl rfl ?_
                  refine y_if 16 12 c162_9 rfl rfl (yz_eq (by omega)) (fun hb14819 => ?_) (fun hb14819 => ?_)
                  · refine y_iconst 17 c162_16 rfl ?_
                    refine y_iconst 18 c162_17 rfl ?_
                    refine y_inlB 21 [.ref 376, yI 0, yI 1] [] [some (.ref 376), some (yI 0), some (yI 1)] c162_18 rfl rfl rfl rfl rfl (ycanO km23 ko376) kn23 rfl rfl ?_
                    refine y_aload 1 c23_0 rfl rfl rfl ?_
                    refine y_iload 2 c23_1 rfl rfl ?_
                    refine y_if 9 5 c23_2 rfl rfl (yz_eq (by omega)) (fun hb14820 => ?_) (fun hb14820 => ?_)
                    · refine y_iload 10 c23_9 rfl rfl ?_
                      refine y_putI 13 c23_10 rfl kf376_57 (y_fit0 _) ?_
                      have hT14821 := hT.up 376 57 1 0 4 rfl (by omega)
                      have hF14822 := hF.up 376 57 1 rfl
                      refine y_iload 14 c23_13 rfl rfl ?_
                      refine y_ireturnK c23_14 (y_fit1 (by omega)) ?_
                      refine y_ireturnK c162_21 (y_fit1 (by omega)) ?_
                      refine y_if 66 47 c166_44 rfl rfl (yz_eq (by omega)) (fun hb14823 => ?_) (fun hb14823 => ?_)
                      · refine y_iconst 67 c166_66 rfl ?_
                        exact y_ireturn c166_67 (y_fit0 _) ⟨_, rfl, rfl, hF14822, (hMI.fr hT14821 (fun a q ha => (yup_ne (by rintro ⟨rfl, rfl⟩; simp [vGq] at ha))))⟩
                      · exfalso; omega
                    · exfalso; omega
                  · exfalso; omega
              · refine y_iconst 37 c166_36 rfl ?_
                refine y_goto 41 c166_37 rfl ?_
                refine y_inlB 44 [.ref 376, yI 1] [] [some (.ref 376), some (yI 1)] c166_41 rfl rfl rfl rfl rfl (ycanO km162 ko376) kn162 rfl rfl ?_
                refine y_aload 1 c162_0 rfl rfl rfl ?_
                refine y_aload 2 c162_1 rfl rfl rfl ?_
                refine y_getX 5 (m 376 19) c162_2 rfl kf376_19 rfl ?_
                refine y_top 1 (by omega) ?_
                refine y_if 16 8 c162_5 rfl rfl (yz_eq (by omega)) (fun hb14824 => ?_) (fun hb14824 => ?_)
                · exfalso; omega
                · refine y_iload 9 c162_8 rfl rfl ?_
                  refine y_if 16 12 c162_9 rfl rfl (yz_eq (by omega)) (fun hb14825 => ?_) (fun hb14825 => ?_)
                  · exfalso; omega
                  · refine y_iconst 13 c162_12 rfl ?_
                    refine y_goto 17 c162_13 rfl ?_
                    refine y_iconst 18 c162_17 rfl ?_
                    refine y_inlB 21 [.ref 376, yI 1, yI 1] [] [some (.ref 376), some (yI 1), some (yI 1)] c162_18 rfl rfl rfl rfl rfl (ycanO km23 ko376) kn23 rfl rfl ?_
                    refine y_aload 1 c23_0 rfl rfl rfl ?_
                    refine y_iload 2 c23_1 rfl rfl ?_
                    refine y_if 9 5 c23_2 rfl rfl (yz_eq (by omega)) (fun hb14826 => ?_) (fun hb14826 => ?_)
                    · exfalso; omega
                    · refine y_iconst 6 c23_5 rfl ?_
                      refine y_goto 10 c23_6 rfl ?_
                      refine y_putI 13 c23_10 rfl kf376_57 (y_fit0 _) ?_
                      have hT14827 := hT.up 376 57 0 0 4 rfl (by omega)
                      have hF14828 := hF.up 376 57 0 rfl
                      refine y_iload 14 c23_13 rfl rfl ?_
                      refine y_ireturnK c23_14 (y_fit1 (by omega)) ?_
                      refine y_ireturnK c162_21 (y_fit1 (by omega)) ?_
                      refine y_if 66 47 c166_44 rfl rfl (yz_eq (by omega)) (fun hb14829 => ?_) (fun hb14829 => ?_)
                      · exfalso; omega
                      · refine y_aload 48 c166_47 rfl rfl rfl ?_
                        refine y_getR 51 c166_48 rfl kf376_42 ?_
                        refine y_iconst 53 c166_51 rfl ?_
                        refine y_iload 54 c166_53 rfl rfl ?_
                        refine y_imul 55 c166_54 rfl ?_
                        refine y_iconst 57 c166_55 rfl ?_
                        refine y_iload 58 c166_57 rfl rfl ?_
                        refine y_imul 59 c166_58 rfl ?_
                        refine y_iadd 60 c166_59 rfl ?_
                        refine y_iload 61 c166_60 rfl rfl ?_
                        refine y_iadd 62 c166_61 rfl ?_
                        refine y_iaT 63 ((-2147483648)) 2147483647 c166_62 rfl ka405 (by omega) hT14827 rfl (fun v14830 hv14830 gv14830 => ?_)
                        refine y_goto 67 c166_63 rfl ?_
                        exact y_ireturn c166_67 (y_fit0 _) ⟨_, rfl, rfl, hF14828, (hMI.fr hT14827 (fun a q ha => (yup_ne (by rintro ⟨rfl, rfl⟩; simp [vGq] at ha))))⟩
set_option maxRecDepth 100000 in
theorem t171_1 {L : Nat} {xs : Nat → Int32} {d nn : Nat} {m : yM} (hT : Ty gT m) (hn : m 376 18 = 1) (hMI : MI m) {a : Int} (ra : -2147483648 ≤ a ∧ a < 2147483648) {b : Int} (rb : -2147483648 ≤ b ∧ b < 2147483648) : YC (gZ L xs) (d + 6) 171 [.ref 376, yI a, yI b] m nn (qMd nn m) := by
  have tb383 := hT.atp 383 1 0 6 rfl
  have tb384 := hT.atp 384 1 0 10 rfl
  have tb385 := hT.atp 385 1 0 8 rfl
  have tb386 := hT.atp 386 1 0 12 rfl
  have tb387 := hT.atp 387 1 0 8 rfl
  have tb388 := hT.atp 388 1 0 12 rfl
  have tb389 := hT.atp 389 1 0 48 rfl
  have tb390 := hT.atp 390 1 0 125 rfl
  have t19 := hT.atp 376 19 0 1 rfl
  refine YC.mkB [some (.ref 376), some (yI a), some (yI b)] kn171 rfl rfl ?_
  have hF : Fr wML m m := Fr.rf
  refine y_aload 1 c171_0 rfl rfl rfl ?_
  refine y_aload 2 c171_1 rfl rfl rfl ?_
  refine y_iload 3 c171_2 rfl rfl ?_
  refine y_inlB 6 [.ref 376, yI b] [.ref 376] [some (.ref 376), some (yI b)] c171_3 rfl rfl rfl rfl rfl (ycanO km170 ko376) kn170 rfl rfl ?_
  refine y_aload 1 c170_0 rfl rfl rfl ?_
  refine y_getX 4 (m 376 19) c170_1 rfl kf376_19 rfl ?_
  refine y_if 30 7 c170_4 rfl rfl (yz_eq (by omega)) (fun hb14831 => ?_) (fun hb14831 => ?_)
  · refine y_iconst 31 c170_30 rfl ?_
    refine y_ireturnK c170_31 (y_fit1 (by omega)) ?_
    refine y_if 32 9 c171_6 rfl rfl (yz_eq (by omega)) (fun hb14832 => ?_) (fun hb14832 => ?_)
    · refine y_iconst 33 c171_32 rfl ?_
      refine y_inlB 36 [.ref 376, yI 0] [] [some (.ref 376), some (yI 0)] c171_33 rfl rfl rfl rfl rfl (ycanO km162 ko376) kn162 rfl rfl ?_
      refine y_aload 1 c162_0 rfl rfl rfl ?_
      refine y_aload 2 c162_1 rfl rfl rfl ?_
      refine y_getX 5 (m 376 19) c162_2 rfl kf376_19 rfl ?_
      refine y_top 0 (by omega) ?_
      refine y_if 16 8 c162_5 rfl rfl (yz_eq (by omega)) (fun hb14833 => ?_) (fun hb14833 => ?_)
      · refine y_iconst 17 c162_16 rfl ?_
        refine y_iconst 18 c162_17 rfl ?_
        refine y_inlB 21 [.ref 376, yI 0, yI 1] [] [some (.ref 376), some (yI 0), some (yI 1)] c162_18 rfl rfl rfl rfl rfl (ycanO km23 ko376) kn23 rfl rfl ?_
        refine y_aload 1 c23_0 rfl rfl rfl ?_
        refine y_iload 2 c23_1 rfl rfl ?_
        refine y_if 9 5 c23_2 rfl rfl (yz_eq (by omega)) (fun hb14834 => ?_) (fun hb14834 => ?_)
        · refine y_iload 10 c23_9 rfl rfl ?_
          refine y_putI 13 c23_10 rfl kf376_57 (y_fit0 _) ?_
          have hT14835 := hT.up 376 57 1 0 4 rfl (by omega)
          have hF14836 := hF.up 376 57 1 rfl
          refine y_iload 14 c23_13 rfl rfl ?_
          refine y_ireturnK c23_14 (y_fit1 (by omega)) ?_
          refine y_ireturnK c162_21 (y_fit1 (by omega)) ?_
          refine y_if 53 39 c171_36 rfl rfl (yz_eq (by omega)) (fun hb14837 => ?_) (fun hb14837 => ?_)
          · refine y_iconst 54 c171_53 rfl ?_
            exact y_ireturn c171_54 (y_fit0 _) ⟨_, rfl, rfl, hF14836, (hMI.fr hT14835 (fun a q ha => (yup_ne (by rintro ⟨rfl, rfl⟩; simp [vGq] at ha))))⟩
          · exfalso; omega
        · exfalso; omega
      · exfalso; omega
    · exfalso; omega
  · refine y_iload 8 c170_7 rfl rfl ?_
    refine y_iconst 9 c170_8 rfl ?_
    refine y_aload 10 c170_9 rfl rfl rfl ?_
    refine y_getR 13 c170_10 rfl kf376_21 ?_
    refine y_aload 14 c170_13 rfl rfl rfl ?_
    refine y_getX 17 (m 376 18) c170_14 rfl kf376_18 rfl ?_
    have tb14838 := hT.atp 376 18 0 1 rfl
    refine y_top 1 (by omega) ?_
    refine y_iaX 18 (m 384 1) c170_17 rfl ka384 (by decide) rfl ?_
    refine y_iconst 19 c170_18 rfl ?_
    refine y_isub 20 c170_19 rfl ?_
    refine y_callP 23 [yI b, yI 0, yI ((m 384 1) - 1)] [] c170_20 rfl rfl rfl rfl rfl (ycanS km22) (t22m (by omega) (by omega) (by omega)) (fun r14839 hr14839 => ?_)
    refine y_if 30 26 c170_23 rfl rfl (yz_eq (by omega)) (fun hb14840 => ?_) (fun hb14840 => ?_)
    · refine y_iconst 31 c170_30 rfl ?_
      refine y_ireturnK c170_31 (y_fit1 (by omega)) ?_
      refine y_if 32 9 c171_6 rfl rfl (yz_eq (by omega)) (fun hb14841 => ?_) (fun hb14841 => ?_)
      · refine y_iconst 33 c171_32 rfl ?_
        refine y_inlB 36 [.ref 376, yI 0] [] [some (.ref 376), some (yI 0)] c171_33 rfl rfl rfl rfl rfl (ycanO km162 ko376) kn162 rfl rfl ?_
        refine y_aload 1 c162_0 rfl rfl rfl ?_
        refine y_aload 2 c162_1 rfl rfl rfl ?_
        refine y_getX 5 (m 376 19) c162_2 rfl kf376_19 rfl ?_
        refine y_top 1 (by omega) ?_
        refine y_if 16 8 c162_5 rfl rfl (yz_eq (by omega)) (fun hb14842 => ?_) (fun hb14842 => ?_)
        · exfalso; omega
        · refine y_iload 9 c162_8 rfl rfl ?_
          refine y_if 16 12 c162_9 rfl rfl (yz_eq (by omega)) (fun hb14843 => ?_) (fun hb14843 => ?_)
          · refine y_iconst 17 c162_16 rfl ?_
            refine y_iconst 18 c162_17 rfl ?_
            refine y_inlB 21 [.ref 376, yI 0, yI 1] [] [some (.ref 376), some (yI 0), some (yI 1)] c162_18 rfl rfl rfl rfl rfl (ycanO km23 ko376) kn23 rfl rfl ?_
            refine y_aload 1 c23_0 rfl rfl rfl ?_
            refine y_iload 2 c23_1 rfl rfl ?_
            refine y_if 9 5 c23_2 rfl rfl (yz_eq (by omega)) (fun hb14844 => ?_) (fun hb14844 => ?_)
            · refine y_iload 10 c23_9 rfl rfl ?_
              refine y_putI 13 c23_10 rfl kf376_57 (y_fit0 _) ?_
              have hT14845 := hT.up 376 57 1 0 4 rfl (by omega)
              have hF14846 := hF.up 376 57 1 rfl
              refine y_iload 14 c23_13 rfl rfl ?_
              refine y_ireturnK c23_14 (y_fit1 (by omega)) ?_
              refine y_ireturnK c162_21 (y_fit1 (by omega)) ?_
              refine y_if 53 39 c171_36 rfl rfl (yz_eq (by omega)) (fun hb14847 => ?_) (fun hb14847 => ?_)
              · refine y_iconst 54 c171_53 rfl ?_
                exact y_ireturn c171_54 (y_fit0 _) ⟨_, rfl, rfl, hF14846, (hMI.fr hT14845 (fun a q ha => (yup_ne (by rintro ⟨rfl, rfl⟩; simp [vGq] at ha))))⟩
              · exfalso; omega
            · exfalso; omega
          · exfalso; omega
      · exfalso; omega
    · refine y_iconst 27 c170_26 rfl ?_
      refine y_goto 31 c170_27 rfl ?_
      refine y_ireturnK c170_31 (y_fit1 (by omega)) ?_
      refine y_if 32 9 c171_6 rfl rfl (yz_eq (by omega)) (fun hb14848 => ?_) (fun hb14848 => ?_)
      · exfalso; omega
      · refine y_iload 10 c171_9 rfl rfl ?_
        refine y_iconst 11 c171_10 rfl ?_
        refine y_aload 12 c171_11 rfl rfl rfl ?_
        refine y_getR 15 c171_12 rfl kf376_23 ?_
        refine y_aload 16 c171_15 rfl rfl rfl ?_
        refine y_getX 19 (m 376 18) c171_16 rfl kf376_18 rfl ?_
        refine y_top 1 (by omega) ?_
        refine y_iaX 20 (m 386 1) c171_19 rfl ka386 (by decide) rfl ?_
        refine y_iconst 21 c171_20 rfl ?_
        refine y_isub 22 c171_21 rfl ?_
        refine y_callP 25 [yI a, yI 0, yI ((m 386 1) - 1)] [.ref 376] c171_22 rfl rfl rfl rfl rfl (ycanS km22) (t22m (by omega) (by omega) (by omega)) (fun r14849 hr14849 => ?_)
        refine y_if 32 28 c171_25 rfl rfl (yz_eq (by omega)) (fun hb14850 => ?_) (fun hb14850 => ?_)
        · refine y_iconst 33 c171_32 rfl ?_
          refine y_inlB 36 [.ref 376, yI 0] [] [some (.ref 376), some (yI 0)] c171_33 rfl rfl rfl rfl rfl (ycanO km162 ko376) kn162 rfl rfl ?_
          refine y_aload 1 c162_0 rfl rfl rfl ?_
          refine y_aload 2 c162_1 rfl rfl rfl ?_
          refine y_getX 5 (m 376 19) c162_2 rfl kf376_19 rfl ?_
          refine y_top 1 (by omega) ?_
          refine y_if 16 8 c162_5 rfl rfl (yz_eq (by omega)) (fun hb14851 => ?_) (fun hb14851 => ?_)
          · exfalso; omega
          · refine y_iload 9 c162_8 rfl rfl ?_
            refine y_if 16 12 c162_9 rfl rfl (yz_eq (by omega)) (fun hb14852 => ?_) (fun hb14852 => ?_)
            · refine y_iconst 17 c162_16 rfl ?_
              refine y_iconst 18 c162_17 rfl ?_
              refine y_inlB 21 [.ref 376, yI 0, yI 1] [] [some (.ref 376), some (yI 0), some (yI 1)] c162_18 rfl rfl rfl rfl rfl (ycanO km23 ko376) kn23 rfl rfl ?_
              refine y_aload 1 c23_0 rfl rfl rfl ?_
              refine y_iload 2 c23_1 rfl rfl ?_
              refine y_if 9 5 c23_2 rfl rfl (yz_eq (by omega)) (fun hb14853 => ?_) (fun hb14853 => ?_)
              · refine y_iload 10 c23_9 rfl rfl ?_
                refine y_putI 13 c23_10 rfl kf376_57 (y_fit0 _) ?_
                have hT14854 := hT.up 376 57 1 0 4 rfl (by omega)
                have hF14855 := hF.up 376 57 1 rfl
                refine y_iload 14 c23_13 rfl rfl ?_
                refine y_ireturnK c23_14 (y_fit1 (by omega)) ?_
                refine y_ireturnK c162_21 (y_fit1 (by omega)) ?_
                refine y_if 53 39 c171_36 rfl rfl (yz_eq (by omega)) (fun hb14856 => ?_) (fun hb14856 => ?_)
                · refine y_iconst 54 c171_53 rfl ?_
                  exact y_ireturn c171_54 (y_fit0 _) ⟨_, rfl, rfl, hF14855, (hMI.fr hT14854 (fun a q ha => (yup_ne (by rintro ⟨rfl, rfl⟩; simp [vGq] at ha))))⟩
                · exfalso; omega
              · exfalso; omega
            · exfalso; omega
        · refine y_iconst 29 c171_28 rfl ?_
          refine y_goto 33 c171_29 rfl ?_
          refine y_inlB 36 [.ref 376, yI 1] [] [some (.ref 376), some (yI 1)] c171_33 rfl rfl rfl rfl rfl (ycanO km162 ko376) kn162 rfl rfl ?_
          refine y_aload 1 c162_0 rfl rfl rfl ?_
          refine y_aload 2 c162_1 rfl rfl rfl ?_
          refine y_getX 5 (m 376 19) c162_2 rfl kf376_19 rfl ?_
          refine y_top 1 (by omega) ?_
          refine y_if 16 8 c162_5 rfl rfl (yz_eq (by omega)) (fun hb14857 => ?_) (fun hb14857 => ?_)
          · exfalso; omega
          · refine y_iload 9 c162_8 rfl rfl ?_
            refine y_if 16 12 c162_9 rfl rfl (yz_eq (by omega)) (fun hb14858 => ?_) (fun hb14858 => ?_)
            · exfalso; omega
            · refine y_iconst 13 c162_12 rfl ?_
              refine y_goto 17 c162_13 rfl ?_
              refine y_iconst 18 c162_17 rfl ?_
              refine y_inlB 21 [.ref 376, yI 1, yI 1] [] [some (.ref 376), some (yI 1), some (yI 1)] c162_18 rfl rfl rfl rfl rfl (ycanO km23 ko376) kn23 rfl rfl ?_
              refine y_aload 1 c23_0 rfl rfl rfl ?_
              refine y_iload 2 c23_1 rfl rfl ?_
              refine y_if 9 5 c23_2 rfl rfl (yz_eq (by omega)) (fun hb14859 => ?_) (fun hb14859 => ?_)
              · exfalso; omega
              · refine y_iconst 6 c23_5 rfl ?_
                refine y_goto 10 c23_6 rfl ?_
                refine y_putI 13 c23_10 rfl kf376_57 (y_fit0 _) ?_
                have hT14860 := hT.up 376 57 0 0 4 rfl (by omega)
                have hF14861 := hF.up 376 57 0 rfl
                refine y_iload 14 c23_13 rfl rfl ?_
                refine y_ireturnK c23_14 (y_fit1 (by omega)) ?_
                refine y_ireturnK c162_21 (y_fit1 (by omega)) ?_
                refine y_if 53 39 c171_36 rfl rfl (yz_eq (by omega)) (fun hb14862 => ?_) (fun hb14862 => ?_)
                · exfalso; omega
                · refine y_aload 40 c171_39 rfl rfl rfl ?_
                  refine y_getR 43 c171_40 rfl kf376_43 ?_
                  refine y_iconst 45 c171_43 rfl ?_
                  refine y_iload 46 c171_45 rfl rfl ?_
                  refine y_imul 47 c171_46 rfl ?_
                  refine y_iload 48 c171_47 rfl rfl ?_
                  refine y_iadd 49 c171_48 rfl ?_
                  refine y_iaT 50 ((-2147483648)) 2147483647 c171_49 rfl ka406 (by omega) hT14860 rfl (fun v14863 hv14863 gv14863 => ?_)
                  refine y_goto 54 c171_50 rfl ?_
                  exact y_ireturn c171_54 (y_fit0 _) ⟨_, rfl, rfl, hF14861, (hMI.fr hT14860 (fun a q ha => (yup_ne (by rintro ⟨rfl, rfl⟩; simp [vGq] at ha))))⟩
set_option maxRecDepth 100000 in
theorem t174_1 {L : Nat} {xs : Nat → Int32} {d nn : Nat} {m : yM} (hT : Ty gT m) (hn : m 376 18 = 1) (hMI : MI m) {a : Int} (ra : -2147483648 ≤ a ∧ a < 2147483648) : YC (gZ L xs) (d + 6) 174 [.ref 376, yI a] m nn (qMd nn m) := by
  have tb383 := hT.atp 383 1 0 6 rfl
  have tb384 := hT.atp 384 1 0 10 rfl
  have tb385 := hT.atp 385 1 0 8 rfl
  have tb386 := hT.atp 386 1 0 12 rfl
  have tb387 := hT.atp 387 1 0 8 rfl
  have tb388 := hT.atp 388 1 0 12 rfl
  have tb389 := hT.atp 389 1 0 48 rfl
  have tb390 := hT.atp 390 1 0 125 rfl
  have t19 := hT.atp 376 19 0 1 rfl
  refine YC.mkB [some (.ref 376), some (yI a)] kn174 rfl rfl ?_
  have hF : Fr wML m m := Fr.rf
  refine y_aload 1 c174_0 rfl rfl rfl ?_
  refine y_aload 2 c174_1 rfl rfl rfl ?_
  refine y_iload 3 c174_2 rfl rfl ?_
  refine y_inlB 6 [.ref 376, yI a] [.ref 376] [some (.ref 376), some (yI a)] c174_3 rfl rfl rfl rfl rfl (ycanO km170 ko376) kn170 rfl rfl ?_
  refine y_aload 1 c170_0 rfl rfl rfl ?_
  refine y_getX 4 (m 376 19) c170_1 rfl kf376_19 rfl ?_
  refine y_if 30 7 c170_4 rfl rfl (yz_eq (by omega)) (fun hb14864 => ?_) (fun hb14864 => ?_)
  · refine y_iconst 31 c170_30 rfl ?_
    refine y_ireturnK c170_31 (y_fit1 (by omega)) ?_
    refine y_inlB 9 [.ref 376, yI 0] [] [some (.ref 376), some (yI 0)] c174_6 rfl rfl rfl rfl rfl (ycanO km162 ko376) kn162 rfl rfl ?_
    refine y_aload 1 c162_0 rfl rfl rfl ?_
    refine y_aload 2 c162_1 rfl rfl rfl ?_
    refine y_getX 5 (m 376 19) c162_2 rfl kf376_19 rfl ?_
    refine y_top 0 (by omega) ?_
    refine y_if 16 8 c162_5 rfl rfl (yz_eq (by omega)) (fun hb14865 => ?_) (fun hb14865 => ?_)
    · refine y_iconst 17 c162_16 rfl ?_
      refine y_iconst 18 c162_17 rfl ?_
      refine y_inlB 21 [.ref 376, yI 0, yI 1] [] [some (.ref 376), some (yI 0), some (yI 1)] c162_18 rfl rfl rfl rfl rfl (ycanO km23 ko376) kn23 rfl rfl ?_
      refine y_aload 1 c23_0 rfl rfl rfl ?_
      refine y_iload 2 c23_1 rfl rfl ?_
      refine y_if 9 5 c23_2 rfl rfl (yz_eq (by omega)) (fun hb14866 => ?_) (fun hb14866 => ?_)
      · refine y_iload 10 c23_9 rfl rfl ?_
        refine y_putI 13 c23_10 rfl kf376_57 (y_fit0 _) ?_
        have hT14867 := hT.up 376 57 1 0 4 rfl (by omega)
        have hF14868 := hF.up 376 57 1 rfl
        refine y_iload 14 c23_13 rfl rfl ?_
        refine y_ireturnK c23_14 (y_fit1 (by omega)) ?_
        refine y_ireturnK c162_21 (y_fit1 (by omega)) ?_
        refine y_if 21 12 c174_9 rfl rfl (yz_eq (by omega)) (fun hb14869 => ?_) (fun hb14869 => ?_)
        · refine y_iconst 22 c174_21 rfl ?_
          exact y_ireturn c174_22 (y_fit0 _) ⟨_, rfl, rfl, hF14868, (hMI.fr hT14867 (fun a q ha => (yup_ne (by rintro ⟨rfl, rfl⟩; simp [vGq] at ha))))⟩
        · exfalso; omega
      · exfalso; omega
    · exfalso; omega
  · refine y_iload 8 c170_7 rfl rfl ?_
    refine y_iconst 9 c170_8 rfl ?_
    refine y_aload 10 c170_9 rfl rfl rfl ?_
    refine y_getR 13 c170_10 rfl kf376_21 ?_
    refine y_aload 14 c170_13 rfl rfl rfl ?_
    refine y_getX 17 (m 376 18) c170_14 rfl kf376_18 rfl ?_
    have tb14870 := hT.atp 376 18 0 1 rfl
    refine y_top 1 (by omega) ?_
    refine y_iaX 18 (m 384 1) c170_17 rfl ka384 (by decide) rfl ?_
    refine y_iconst 19 c170_18 rfl ?_
    refine y_isub 20 c170_19 rfl ?_
    refine y_callP 23 [yI a, yI 0, yI ((m 384 1) - 1)] [] c170_20 rfl rfl rfl rfl rfl (ycanS km22) (t22m (by omega) (by omega) (by omega)) (fun r14871 hr14871 => ?_)
    refine y_if 30 26 c170_23 rfl rfl (yz_eq (by omega)) (fun hb14872 => ?_) (fun hb14872 => ?_)
    · refine y_iconst 31 c170_30 rfl ?_
      refine y_ireturnK c170_31 (y_fit1 (by omega)) ?_
      refine y_inlB 9 [.ref 376, yI 0] [] [some (.ref 376), some (yI 0)] c174_6 rfl rfl rfl rfl rfl (ycanO km162 ko376) kn162 rfl rfl ?_
      refine y_aload 1 c162_0 rfl rfl rfl ?_
      refine y_aload 2 c162_1 rfl rfl rfl ?_
      refine y_getX 5 (m 376 19) c162_2 rfl kf376_19 rfl ?_
      refine y_top 1 (by omega) ?_
      refine y_if 16 8 c162_5 rfl rfl (yz_eq (by omega)) (fun hb14873 => ?_) (fun hb14873 => ?_)
      · exfalso; omega
      · refine y_iload 9 c162_8 rfl rfl ?_
        refine y_if 16 12 c162_9 rfl rfl (yz_eq (by omega)) (fun hb14874 => ?_) (fun hb14874 => ?_)
        · refine y_iconst 17 c162_16 rfl ?_
          refine y_iconst 18 c162_17 rfl ?_
          refine y_inlB 21 [.ref 376, yI 0, yI 1] [] [some (.ref 376), some (yI 0), some (yI 1)] c162_18 rfl rfl rfl rfl rfl (ycanO km23 ko376) kn23 rfl rfl ?_
          refine y_aload 1 c23_0 rfl rfl rfl ?_
          refine y_iload 2 c23_1 rfl rfl ?_
          refine y_if 9 5 c23_2 rfl rfl (yz_eq (by omega)) (fun hb14875 => ?_) (fun hb14875 => ?_)
          · refine y_iload 10 c23_9 rfl rfl ?_
            refine y_putI 13 c23_10 rfl kf376_57 (y_fit0 _) ?_
            have hT14876 := hT.up 376 57 1 0 4 rfl (by omega)
            have hF14877 := hF.up 376 57 1 rfl
            refine y_iload 14 c23_13 rfl rfl ?_
            refine y_ireturnK c23_14 (y_fit1 (by omega)) ?_
            refine y_ireturnK c162_21 (y_fit1 (by omega)) ?_
            refine y_if 21 12 c174_9 rfl rfl (yz_eq (by omega)) (fun hb14878 => ?_) (fun hb14878 => ?_)
            · refine y_iconst 22 c174_21 rfl ?_
              exact y_ireturn c174_22 (y_fit0 _) ⟨_, rfl, rfl, hF14877, (hMI.fr hT14876 (fun a q ha => (yup_ne (by rintro ⟨rfl, rfl⟩; simp [vGq] at ha))))⟩
            · exfalso; omega
          · exfalso; omega
        · exfalso; omega
    · refine y_iconst 27 c170_26 rfl ?_
      refine y_goto 31 c170_27 rfl ?_
      refine y_ireturnK c170_31 (y_fit1 (by omega)) ?_
      refine y_inlB 9 [.ref 376, yI 1] [] [some (.ref 376), some (yI 1)] c174_6 rfl rfl rfl rfl rfl (ycanO km162 ko376) kn162 rfl rfl ?_
      refine y_aload 1 c162_0 rfl rfl rfl ?_
      refine y_aload 2 c162_1 rfl rfl rfl ?_
      refine y_getX 5 (m 376 19) c162_2 rfl kf376_19 rfl ?_
      refine y_top 1 (by omega) ?_
      refine y_if 16 8 c162_5 rfl rfl (yz_eq (by omega)) (fun hb14879 => ?_) (fun hb14879 => ?_)
      · exfalso; omega
      · refine y_iload 9 c162_8 rfl rfl ?_
        refine y_if 16 12 c162_9 rfl rfl (yz_eq (by omega)) (fun hb14880 => ?_) (fun hb14880 => ?_)
        · exfalso; omega
        · refine y_iconst 13 c162_12 rfl ?_
          refine y_goto 17 c162_13 rfl ?_
          refine y_iconst 18 c162_17 rfl ?_
          refine y_inlB 21 [.ref 376, yI 1, yI 1] [] [some (.ref 376), some (yI 1), some (yI 1)] c162_18 rfl rfl rfl rfl rfl (ycanO km23 ko376) kn23 rfl rfl ?_
          refine y_aload 1 c23_0 rfl rfl rfl ?_
          refine y_iload 2 c23_1 rfl rfl ?_
          refine y_if 9 5 c23_2 rfl rfl (yz_eq (by omega)) (fun hb14881 => ?_) (fun hb14881 => ?_)
          · exfalso; omega
          · refine y_iconst 6 c23_5 rfl ?_
            refine y_goto 10 c23_6 rfl ?_
            refine y_putI 13 c23_10 rfl kf376_57 (y_fit0 _) ?_
            have hT14882 := hT.up 376 57 0 0 4 rfl (by omega)
            have hF14883 := hF.up 376 57 0 rfl
            refine y_iload 14 c23_13 rfl rfl ?_
            refine y_ireturnK c23_14 (y_fit1 (by omega)) ?_
            refine y_ireturnK c162_21 (y_fit1 (by omega)) ?_
            refine y_if 21 12 c174_9 rfl rfl (yz_eq (by omega)) (fun hb14884 => ?_) (fun hb14884 => ?_)
            · exfalso; omega
            · refine y_aload 13 c174_12 rfl rfl rfl ?_
              refine y_getR 16 c174_13 rfl kf376_44 ?_
              refine y_iload 17 c174_16 rfl rfl ?_
              refine y_iaT 18 ((-2147483648)) 2147483647 c174_17 rfl ka407 (by omega) hT14882 rfl (fun v14885 hv14885 gv14885 => ?_)
              refine y_goto 22 c174_18 rfl ?_
              exact y_ireturn c174_22 (y_fit0 _) ⟨_, rfl, rfl, hF14883, (hMI.fr hT14882 (fun a q ha => (yup_ne (by rintro ⟨rfl, rfl⟩; simp [vGq] at ha))))⟩
set_option maxRecDepth 100000 in
theorem t185_1 {L : Nat} {xs : Nat → Int32} {d nn : Nat} {m : yM} (hT : Ty gT m) (hn : m 376 18 = 1) (hMI : MI m) {a : Int} (ra : -2147483648 ≤ a ∧ a < 2147483648) {b : Int} (rb : -2147483648 ≤ b ∧ b < 2147483648) : YC (gZ L xs) (d + 6) 185 [.ref 376, yI a, yI b] m nn (qMd nn m) := by
  have tb383 := hT.atp 383 1 0 6 rfl
  have tb384 := hT.atp 384 1 0 10 rfl
  have tb385 := hT.atp 385 1 0 8 rfl
  have tb386 := hT.atp 386 1 0 12 rfl
  have tb387 := hT.atp 387 1 0 8 rfl
  have tb388 := hT.atp 388 1 0 12 rfl
  have tb389 := hT.atp 389 1 0 48 rfl
  have tb390 := hT.atp 390 1 0 125 rfl
  have t19 := hT.atp 376 19 0 1 rfl
  refine YC.mkB [some (.ref 376), some (yI a), some (yI b), none] kn185 rfl rfl ?_
  have hF : Fr wML m m := Fr.rf
  refine y_aload 1 c185_0 rfl rfl rfl ?_
  refine y_aload 2 c185_1 rfl rfl rfl ?_
  refine y_iload 3 c185_2 rfl rfl ?_
  refine y_inlB 6 [.ref 376, yI a] [.ref 376] [some (.ref 376), some (yI a)] c185_3 rfl rfl rfl rfl rfl (ycanO km170 ko376) kn170 rfl rfl ?_
  refine y_aload 1 c170_0 rfl rfl rfl ?_
  refine y_getX 4 (m 376 19) c170_1 rfl kf376_19 rfl ?_
  refine y_if 30 7 c170_4 rfl rfl (yz_eq (by omega)) (fun hb14886 => ?_) (fun hb14886 => ?_)
  · refine y_iconst 31 c170_30 rfl ?_
    refine y_ireturnK c170_31 (y_fit1 (by omega)) ?_
    refine y_inlB 9 [.ref 376, yI 0] [] [some (.ref 376), some (yI 0)] c185_6 rfl rfl rfl rfl rfl (ycanO km162 ko376) kn162 rfl rfl ?_
    refine y_aload 1 c162_0 rfl rfl rfl ?_
    refine y_aload 2 c162_1 rfl rfl rfl ?_
    refine y_getX 5 (m 376 19) c162_2 rfl kf376_19 rfl ?_
    refine y_top 0 (by omega) ?_
    refine y_if 16 8 c162_5 rfl rfl (yz_eq (by omega)) (fun hb14887 => ?_) (fun hb14887 => ?_)
    · refine y_iconst 17 c162_16 rfl ?_
      refine y_iconst 18 c162_17 rfl ?_
      refine y_inlB 21 [.ref 376, yI 0, yI 1] [] [some (.ref 376), some (yI 0), some (yI 1)] c162_18 rfl rfl rfl rfl rfl (ycanO km23 ko376) kn23 rfl rfl ?_
      refine y_aload 1 c23_0 rfl rfl rfl ?_
      refine y_iload 2 c23_1 rfl rfl ?_
      refine y_if 9 5 c23_2 rfl rfl (yz_eq (by omega)) (fun hb14888 => ?_) (fun hb14888 => ?_)
      · refine y_iload 10 c23_9 rfl rfl ?_
        refine y_putI 13 c23_10 rfl kf376_57 (y_fit0 _) ?_
        have hT14889 := hT.up 376 57 1 0 4 rfl (by omega)
        have hF14890 := hF.up 376 57 1 rfl
        refine y_iload 14 c23_13 rfl rfl ?_
        refine y_ireturnK c23_14 (y_fit1 (by omega)) ?_
        refine y_ireturnK c162_21 (y_fit1 (by omega)) ?_
        refine y_if 14 12 c185_9 rfl rfl (yz_ne (by omega)) (fun hb14891 => ?_) (fun hb14891 => ?_)
        · exfalso; omega
        · refine y_iconst 13 c185_12 rfl ?_
          exact y_ireturn c185_13 (y_fit0 _) ⟨_, rfl, rfl, hF14890, (hMI.fr hT14889 (fun a q ha => (yup_ne (by rintro ⟨rfl, rfl⟩; simp [vGq] at ha))))⟩
      · exfalso; omega
    · exfalso; omega
  · refine y_iload 8 c170_7 rfl rfl ?_
    refine y_iconst 9 c170_8 rfl ?_
    refine y_aload 10 c170_9 rfl rfl rfl ?_
    refine y_getR 13 c170_10 rfl kf376_21 ?_
    refine y_aload 14 c170_13 rfl rfl rfl ?_
    refine y_getX 17 (m 376 18) c170_14 rfl kf376_18 rfl ?_
    have tb14892 := hT.atp 376 18 0 1 rfl
    refine y_top 1 (by omega) ?_
    refine y_iaX 18 (m 384 1) c170_17 rfl ka384 (by decide) rfl ?_
    refine y_iconst 19 c170_18 rfl ?_
    refine y_isub 20 c170_19 rfl ?_
    refine y_callP 23 [yI a, yI 0, yI ((m 384 1) - 1)] [] c170_20 rfl rfl rfl rfl rfl (ycanS km22) (t22m (by omega) (by omega) (by omega)) (fun r14893 hr14893 => ?_)
    refine y_if 30 26 c170_23 rfl rfl (yz_eq (by omega)) (fun hb14894 => ?_) (fun hb14894 => ?_)
    · refine y_iconst 31 c170_30 rfl ?_
      refine y_ireturnK c170_31 (y_fit1 (by omega)) ?_
      refine y_inlB 9 [.ref 376, yI 0] [] [some (.ref 376), some (yI 0)] c185_6 rfl rfl rfl rfl rfl (ycanO km162 ko376) kn162 rfl rfl ?_
      refine y_aload 1 c162_0 rfl rfl rfl ?_
      refine y_aload 2 c162_1 rfl rfl rfl ?_
      refine y_getX 5 (m 376 19) c162_2 rfl kf376_19 rfl ?_
      refine y_top 1 (by omega) ?_
      refine y_if 16 8 c162_5 rfl rfl (yz_eq (by omega)) (fun hb14895 => ?_) (fun hb14895 => ?_)
      · exfalso; omega
      · refine y_iload 9 c162_8 rfl rfl ?_
        refine y_if 16 12 c162_9 rfl rfl (yz_eq (by omega)) (fun hb14896 => ?_) (fun hb14896 => ?_)
        · refine y_iconst 17 c162_16 rfl ?_
          refine y_iconst 18 c162_17 rfl ?_
          refine y_inlB 21 [.ref 376, yI 0, yI 1] [] [some (.ref 376), some (yI 0), some (yI 1)] c162_18 rfl rfl rfl rfl rfl (ycanO km23 ko376) kn23 rfl rfl ?_
          refine y_aload 1 c23_0 rfl rfl rfl ?_
          refine y_iload 2 c23_1 rfl rfl ?_
          refine y_if 9 5 c23_2 rfl rfl (yz_eq (by omega)) (fun hb14897 => ?_) (fun hb14897 => ?_)
          · refine y_iload 10 c23_9 rfl rfl ?_
            refine y_putI 13 c23_10 rfl kf376_57 (y_fit0 _) ?_
            have hT14898 := hT.up 376 57 1 0 4 rfl (by omega)
            have hF14899 := hF.up 376 57 1 rfl
            refine y_iload 14 c23_13 rfl rfl ?_
            refine y_ireturnK c23_14 (y_fit1 (by omega)) ?_
            refine y_ireturnK c162_21 (y_fit1 (by omega)) ?_
            refine y_if 14 12 c185_9 rfl rfl (yz_ne (by omega)) (fun hb14900 => ?_) (fun hb14900 => ?_)
            · exfalso; omega
            · refine y_iconst 13 c185_12 rfl ?_
              exact y_ireturn c185_13 (y_fit0 _) ⟨_, rfl, rfl, hF14899, (hMI.fr hT14898 (fun a q ha => (yup_ne (by rintro ⟨rfl, rfl⟩; simp [vGq] at ha))))⟩
          · exfalso; omega
        · exfalso; omega
    · refine y_iconst 27 c170_26 rfl ?_
      refine y_goto 31 c170_27 rfl ?_
      refine y_ireturnK c170_31 (y_fit1 (by omega)) ?_
      refine y_inlB 9 [.ref 376, yI 1] [] [some (.ref 376), some (yI 1)] c185_6 rfl rfl rfl rfl rfl (ycanO km162 ko376) kn162 rfl rfl ?_
      refine y_aload 1 c162_0 rfl rfl rfl ?_
      refine y_aload 2 c162_1 rfl rfl rfl ?_
      refine y_getX 5 (m 376 19) c162_2 rfl kf376_19 rfl ?_
      refine y_top 1 (by omega) ?_
      refine y_if 16 8 c162_5 rfl rfl (yz_eq (by omega)) (fun hb14901 => ?_) (fun hb14901 => ?_)
      · exfalso; omega
      · refine y_iload 9 c162_8 rfl rfl ?_
        refine y_if 16 12 c162_9 rfl rfl (yz_eq (by omega)) (fun hb14902 => ?_) (fun hb14902 => ?_)
        · exfalso; omega
        · refine y_iconst 13 c162_12 rfl ?_
          refine y_goto 17 c162_13 rfl ?_
          refine y_iconst 18 c162_17 rfl ?_
          refine y_inlB 21 [.ref 376, yI 1, yI 1] [] [some (.ref 376), some (yI 1), some (yI 1)] c162_18 rfl rfl rfl rfl rfl (ycanO km23 ko376) kn23 rfl rfl ?_
          refine y_aload 1 c23_0 rfl rfl rfl ?_
          refine y_iload 2 c23_1 rfl rfl ?_
          refine y_if 9 5 c23_2 rfl rfl (yz_eq (by omega)) (fun hb14903 => ?_) (fun hb14903 => ?_)
          · exfalso; omega
          · refine y_iconst 6 c23_5 rfl ?_
            refine y_goto 10 c23_6 rfl ?_
            refine y_putI 13 c23_10 rfl kf376_57 (y_fit0 _) ?_
            have hT14904 := hT.up 376 57 0 0 4 rfl (by omega)
            have hF14905 := hF.up 376 57 0 rfl
            refine y_iload 14 c23_13 rfl rfl ?_
            refine y_ireturnK c23_14 (y_fit1 (by omega)) ?_
            refine y_ireturnK c162_21 (y_fit1 (by omega)) ?_
            refine y_if 14 12 c185_9 rfl rfl (yz_ne (by omega)) (fun hb14906 => ?_) (fun hb14906 => ?_)
            · refine y_aload 15 c185_14 rfl rfl rfl ?_
              refine y_iload 16 c185_15 rfl rfl ?_
              refine y_iconst 17 c185_16 rfl ?_
              refine y_iconst 18 c185_17 rfl ?_
              refine y_callP 21 [yI b, yI 0, yI 4] [.ref 376] c185_18 rfl rfl rfl rfl rfl (ycanS km22) (t22m (by omega) (by omega) (by omega)) (fun r14907 hr14907 => ?_)
              refine y_iconst 22 c185_21 rfl ?_
              refine y_inlB 25 [.ref 376, yI r14907, yI 2] [] [some (.ref 376), some (yI r14907), some (yI 2)] c185_22 rfl rfl rfl rfl rfl (ycanO km23 ko376) kn23 rfl rfl ?_
              refine y_aload 1 c23_0 rfl rfl rfl ?_
              refine y_iload 2 c23_1 rfl rfl ?_
              refine y_if 9 5 c23_2 rfl rfl (yz_eq (by omega)) (fun hb14908 => ?_) (fun hb14908 => ?_)
              · refine y_iload 10 c23_9 rfl rfl ?_
                refine y_putI 13 c23_10 rfl kf376_57 (y_fit0 _) ?_
                have hT14909 := hT14904.up 376 57 2 0 4 rfl (by omega)
                have hF14910 := hF14905.up 376 57 2 rfl
                refine y_iload 14 c23_13 rfl rfl ?_
                refine y_ireturnK c23_14 (y_fit1 (by omega)) ?_
                refine y_if 30 28 c185_25 rfl rfl (yz_ne (by omega)) (fun hb14911 => ?_) (fun hb14911 => ?_)
                · exfalso; omega
                · refine y_iconst 29 c185_28 rfl ?_
                  exact y_ireturn c185_29 (y_fit0 _) ⟨_, rfl, rfl, hF14910, (hMI.fr hT14909 (fun a q ha => ((yup_ne (by rintro ⟨rfl, rfl⟩; simp [vGq] at ha)).trans (yup_ne (by rintro ⟨rfl, rfl⟩; simp [vGq] at ha)))))⟩
              · refine y_iconst 6 c23_5 rfl ?_
                refine y_goto 10 c23_6 rfl ?_
                refine y_putI 13 c23_10 rfl kf376_57 (y_fit0 _) ?_
                have hT14912 := hT14904.up 376 57 0 0 4 rfl (by omega)
                have hF14913 := hF14905.up 376 57 0 rfl
                refine y_iload 14 c23_13 rfl rfl ?_
                refine y_ireturnK c23_14 (y_fit1 (by omega)) ?_
                refine y_if 30 28 c185_25 rfl rfl (yz_ne (by omega)) (fun hb14914 => ?_) (fun hb14914 => ?_)
                · refine y_iconst 32 c185_30 rfl ?_
                  refine y_aload 33 c185_32 rfl rfl rfl ?_
                  refine y_getX 36 (m 376 18) c185_33 rfl kf376_18 rfl ?_
                  refine y_top 1 (by omega) ?_
                  refine y_imul 37 c185_36 rfl ?_
                  refine y_top 10 (by decide) ?_
                  refine y_iload 38 c185_37 rfl rfl ?_
                  refine y_iadd 39 c185_38 rfl ?_
                  refine y_istore 40 c185_39 rfl rfl ?_
                  refine y_iload 41 c185_40 rfl rfl ?_
                  refine y_iconst 42 c185_41 rfl ?_
                  refine y_icmp 52 45 c185_42 rfl rfl (yc_ne (by omega) (by omega)) (fun hb14915 => ?_) (fun hb14915 => ?_)
                  · refine y_iload 53 c185_52 rfl rfl ?_
                    refine y_iconst 54 c185_53 rfl ?_
                    refine y_isub 55 c185_54 rfl ?_
                    refine y_aload 56 c185_55 rfl rfl rfl ?_
                    refine y_getR 59 c185_56 rfl kf376_34 ?_
                    refine y_iload 60 c185_59 rfl rfl ?_
                    refine y_iaT 61 0 2 c185_60 rfl ka397 (by omega) hT14912 rfl (fun v14916 hv14916 gv14916 => ?_)
                    refine y_icmp 75 64 c185_61 rfl rfl (yc_ge (by omega) (by omega)) (fun hb14917 => ?_) (fun hb14917 => ?_)
                    · refine y_iconst 76 c185_75 rfl ?_
                      exact y_ireturn c185_76 (y_fit0 _) ⟨_, rfl, rfl, hF14913, (hMI.fr hT14912 (fun a q ha => ((yup_ne (by rintro ⟨rfl, rfl⟩; simp [vGq] at ha)).trans (yup_ne (by rintro ⟨rfl, rfl⟩; simp [vGq] at ha)))))⟩
                    · refine y_aload 65 c185_64 rfl rfl rfl ?_
                      refine y_getR 68 c185_65 rfl kf376_35 ?_
                      refine y_iload 69 c185_68 rfl rfl ?_
                      refine y_iaT 70 0 46 c185_69 rfl ka398 (by omega) hT14912 rfl (fun v14918 hv14918 gv14918 => ?_)
                      refine y_iload 71 c185_70 rfl rfl ?_
                      refine y_iadd 72 c185_71 rfl ?_
                      refine y_goto 76 c185_72 rfl ?_
                      exact y_ireturn c185_76 (y_fit0 _) ⟨_, rfl, rfl, hF14913, (hMI.fr hT14912 (fun a q ha => ((yup_ne (by rintro ⟨rfl, rfl⟩; simp [vGq] at ha)).trans (yup_ne (by rintro ⟨rfl, rfl⟩; simp [vGq] at ha)))))⟩
                  · refine y_aload 46 c185_45 rfl rfl rfl ?_
                    refine y_getR 49 c185_46 rfl kf376_33 ?_
                    refine y_iload 50 c185_49 rfl rfl ?_
                    refine y_iaT 51 0 5 c185_50 rfl ka396 (by omega) hT14912 rfl (fun v14919 hv14919 gv14919 => ?_)
                    exact y_ireturn c185_51 (y_fit0 _) ⟨_, rfl, rfl, hF14913, (hMI.fr hT14912 (fun a q ha => ((yup_ne (by rintro ⟨rfl, rfl⟩; simp [vGq] at ha)).trans (yup_ne (by rintro ⟨rfl, rfl⟩; simp [vGq] at ha)))))⟩
                · exfalso; omega
            · exfalso; omega
set_option maxRecDepth 100000 in
theorem t214_1 {L : Nat} {xs : Nat → Int32} {d nn : Nat} {m : yM} (hT : Ty gT m) (hn : m 376 18 = 1) (hMI : MI m) {a : Int} (ra : -2147483648 ≤ a ∧ a < 2147483648) {b : Int} (rb : -2147483648 ≤ b ∧ b < 2147483648) : YC (gZ L xs) (d + 6) 214 [.ref 376, yI a, yI b] m nn (qMd nn m) := by
  have tb383 := hT.atp 383 1 0 6 rfl
  have tb384 := hT.atp 384 1 0 10 rfl
  have tb385 := hT.atp 385 1 0 8 rfl
  have tb386 := hT.atp 386 1 0 12 rfl
  have tb387 := hT.atp 387 1 0 8 rfl
  have tb388 := hT.atp 388 1 0 12 rfl
  have tb389 := hT.atp 389 1 0 48 rfl
  have tb390 := hT.atp 390 1 0 125 rfl
  have t19 := hT.atp 376 19 0 1 rfl
  refine YC.mkB [some (.ref 376), some (yI a), some (yI b)] kn214 rfl rfl ?_
  have hF : Fr wML m m := Fr.rf
  refine y_aload 1 c214_0 rfl rfl rfl ?_
  refine y_aload 2 c214_1 rfl rfl rfl ?_
  refine y_iload 3 c214_2 rfl rfl ?_
  refine y_inlB 6 [.ref 376, yI a] [.ref 376] [some (.ref 376), some (yI a)] c214_3 rfl rfl rfl rfl rfl (ycanO km160 ko376) kn160 rfl rfl ?_
  refine y_aload 1 c160_0 rfl rfl rfl ?_
  refine y_getX 4 (m 376 19) c160_1 rfl kf376_19 rfl ?_
  refine y_if 30 7 c160_4 rfl rfl (yz_eq (by omega)) (fun hb14920 => ?_) (fun hb14920 => ?_)
  · refine y_iconst 31 c160_30 rfl ?_
    refine y_ireturnK c160_31 (y_fit1 (by omega)) ?_
    refine y_if 21 9 c214_6 rfl rfl (yz_eq (by omega)) (fun hb14921 => ?_) (fun hb14921 => ?_)
    · refine y_iconst 22 c214_21 rfl ?_
      refine y_inlB 25 [.ref 376, yI 0] [] [some (.ref 376), some (yI 0)] c214_22 rfl rfl rfl rfl rfl (ycanO km162 ko376) kn162 rfl rfl ?_
      refine y_aload 1 c162_0 rfl rfl rfl ?_
      refine y_aload 2 c162_1 rfl rfl rfl ?_
      refine y_getX 5 (m 376 19) c162_2 rfl kf376_19 rfl ?_
      refine y_top 0 (by omega) ?_
      refine y_if 16 8 c162_5 rfl rfl (yz_eq (by omega)) (fun hb14922 => ?_) (fun hb14922 => ?_)
      · refine y_iconst 17 c162_16 rfl ?_
        refine y_iconst 18 c162_17 rfl ?_
        refine y_inlB 21 [.ref 376, yI 0, yI 1] [] [some (.ref 376), some (yI 0), some (yI 1)] c162_18 rfl rfl rfl rfl rfl (ycanO km23 ko376) kn23 rfl rfl ?_
        refine y_aload 1 c23_0 rfl rfl rfl ?_
        refine y_iload 2 c23_1 rfl rfl ?_
        refine y_if 9 5 c23_2 rfl rfl (yz_eq (by omega)) (fun hb14923 => ?_) (fun hb14923 => ?_)
        · refine y_iload 10 c23_9 rfl rfl ?_
          refine y_putI 13 c23_10 rfl kf376_57 (y_fit0 _) ?_
          have hT14924 := hT.up 376 57 1 0 4 rfl (by omega)
          have hF14925 := hF.up 376 57 1 rfl
          refine y_iload 14 c23_13 rfl rfl ?_
          refine y_ireturnK c23_14 (y_fit1 (by omega)) ?_
          refine y_ireturnK c162_21 (y_fit1 (by omega)) ?_
          refine y_if 46 28 c214_25 rfl rfl (yz_eq (by omega)) (fun hb14926 => ?_) (fun hb14926 => ?_)
          · refine y_iconst 47 c214_46 rfl ?_
            exact y_ireturn c214_47 (y_fit0 _) ⟨_, rfl, rfl, hF14925, (hMI.fr hT14924 (fun a q ha => (yup_ne (by rintro ⟨rfl, rfl⟩; simp [vGq] at ha))))⟩
          · exfalso; omega
        · exfalso; omega
      · exfalso; omega
    · exfalso; omega
  · refine y_iload 8 c160_7 rfl rfl ?_
    refine y_iconst 9 c160_8 rfl ?_
    refine y_aload 10 c160_9 rfl rfl rfl ?_
    refine y_getR 13 c160_10 rfl kf376_26 ?_
    refine y_aload 14 c160_13 rfl rfl rfl ?_
    refine y_getX 17 (m 376 18) c160_14 rfl kf376_18 rfl ?_
    have tb14927 := hT.atp 376 18 0 1 rfl
    refine y_top 1 (by omega) ?_
    refine y_iaX 18 (m 389 1) c160_17 rfl ka389 (by decide) rfl ?_
    refine y_iconst 19 c160_18 rfl ?_
    refine y_isub 20 c160_19 rfl ?_
    refine y_callP 23 [yI a, yI 0, yI ((m 389 1) - 1)] [] c160_20 rfl rfl rfl rfl rfl (ycanS km22) (t22m (by omega) (by omega) (by omega)) (fun r14928 hr14928 => ?_)
    refine y_if 30 26 c160_23 rfl rfl (yz_eq (by omega)) (fun hb14929 => ?_) (fun hb14929 => ?_)
    · refine y_iconst 31 c160_30 rfl ?_
      refine y_ireturnK c160_31 (y_fit1 (by omega)) ?_
      refine y_if 21 9 c214_6 rfl rfl (yz_eq (by omega)) (fun hb14930 => ?_) (fun hb14930 => ?_)
      · refine y_iconst 22 c214_21 rfl ?_
        refine y_inlB 25 [.ref 376, yI 0] [] [some (.ref 376), some (yI 0)] c214_22 rfl rfl rfl rfl rfl (ycanO km162 ko376) kn162 rfl rfl ?_
        refine y_aload 1 c162_0 rfl rfl rfl ?_
        refine y_aload 2 c162_1 rfl rfl rfl ?_
        refine y_getX 5 (m 376 19) c162_2 rfl kf376_19 rfl ?_
        refine y_top 1 (by omega) ?_
        refine y_if 16 8 c162_5 rfl rfl (yz_eq (by omega)) (fun hb14931 => ?_) (fun hb14931 => ?_)
        · exfalso; omega
        · refine y_iload 9 c162_8 rfl rfl ?_
          refine y_if 16 12 c162_9 rfl rfl (yz_eq (by omega)) (fun hb14932 => ?_) (fun hb14932 => ?_)
          · refine y_iconst 17 c162_16 rfl ?_
            refine y_iconst 18 c162_17 rfl ?_
            refine y_inlB 21 [.ref 376, yI 0, yI 1] [] [some (.ref 376), some (yI 0), some (yI 1)] c162_18 rfl rfl rfl rfl rfl (ycanO km23 ko376) kn23 rfl rfl ?_
            refine y_aload 1 c23_0 rfl rfl rfl ?_
            refine y_iload 2 c23_1 rfl rfl ?_
            refine y_if 9 5 c23_2 rfl rfl (yz_eq (by omega)) (fun hb14933 => ?_) (fun hb14933 => ?_)
            · refine y_iload 10 c23_9 rfl rfl ?_
              refine y_putI 13 c23_10 rfl kf376_57 (y_fit0 _) ?_
              have hT14934 := hT.up 376 57 1 0 4 rfl (by omega)
              have hF14935 := hF.up 376 57 1 rfl
              refine y_iload 14 c23_13 rfl rfl ?_
              refine y_ireturnK c23_14 (y_fit1 (by omega)) ?_
              refine y_ireturnK c162_21 (y_fit1 (by omega)) ?_
              refine y_if 46 28 c214_25 rfl rfl (yz_eq (by omega)) (fun hb14936 => ?_) (fun hb14936 => ?_)
              · refine y_iconst 47 c214_46 rfl ?_
                exact y_ireturn c214_47 (y_fit0 _) ⟨_, rfl, rfl, hF14935, (hMI.fr hT14934 (fun a q ha => (yup_ne (by rintro ⟨rfl, rfl⟩; simp [vGq] at ha))))⟩
              · exfalso; omega
            · exfalso; omega
          · exfalso; omega
      · exfalso; omega
    · refine y_iconst 27 c160_26 rfl ?_
      refine y_goto 31 c160_27 rfl ?_
      refine y_ireturnK c160_31 (y_fit1 (by omega)) ?_
      refine y_if 21 9 c214_6 rfl rfl (yz_eq (by omega)) (fun hb14937 => ?_) (fun hb14937 => ?_)
      · exfalso; omega
      · refine y_aload 10 c214_9 rfl rfl rfl ?_
        refine y_iload 11 c214_10 rfl rfl ?_
        refine y_inlB 14 [.ref 376, yI b] [.ref 376] [some (.ref 376), some (yI b)] c214_11 rfl rfl rfl rfl rfl (ycanO km161 ko376) kn161 rfl rfl ?_
        refine y_aload 1 c161_0 rfl rfl rfl ?_
        refine y_getX 4 (m 376 19) c161_1 rfl kf376_19 rfl ?_
        refine y_top 1 (by omega) ?_
        refine y_if 30 7 c161_4 rfl rfl (yz_eq (by omega)) (fun hb14938 => ?_) (fun hb14938 => ?_)
        · exfalso; omega
        · refine y_iload 8 c161_7 rfl rfl ?_
          refine y_iconst 9 c161_8 rfl ?_
          refine y_aload 10 c161_9 rfl rfl rfl ?_
          refine y_getR 13 c161_10 rfl kf376_25 ?_
          refine y_aload 14 c161_13 rfl rfl rfl ?_
          refine y_getX 17 (m 376 18) c161_14 rfl kf376_18 rfl ?_
          refine y_top 1 (by omega) ?_
          refine y_iaX 18 (m 388 1) c161_17 rfl ka388 (by decide) rfl ?_
          refine y_iconst 19 c161_18 rfl ?_
          refine y_isub 20 c161_19 rfl ?_
          refine y_callP 23 [yI b, yI 0, yI ((m 388 1) - 1)] [] c161_20 rfl rfl rfl rfl rfl (ycanS km22) (t22m (by omega) (by omega) (by omega)) (fun r14939 hr14939 => ?_)
          refine y_if 30 26 c161_23 rfl rfl (yz_eq (by omega)) (fun hb14940 => ?_) (fun hb14940 => ?_)
          · refine y_iconst 31 c161_30 rfl ?_
            refine y_ireturnK c161_31 (y_fit1 (by omega)) ?_
            refine y_if 21 17 c214_14 rfl rfl (yz_eq (by omega)) (fun hb14941 => ?_) (fun hb14941 => ?_)
            · refine y_iconst 22 c214_21 rfl ?_
              refine y_inlB 25 [.ref 376, yI 0] [] [some (.ref 376), some (yI 0)] c214_22 rfl rfl rfl rfl rfl (ycanO km162 ko376) kn162 rfl rfl ?_
              refine y_aload 1 c162_0 rfl rfl rfl ?_
              refine y_aload 2 c162_1 rfl rfl rfl ?_
              refine y_getX 5 (m 376 19) c162_2 rfl kf376_19 rfl ?_
              refine y_top 1 (by omega) ?_
              refine y_if 16 8 c162_5 rfl rfl (yz_eq (by omega)) (fun hb14942 => ?_) (fun hb14942 => ?_)
              · exfalso; omega
              · refine y_iload 9 c162_8 rfl rfl ?_
                refine y_if 16 12 c162_9 rfl rfl (yz_eq (by omega)) (fun hb14943 => ?_) (fun hb14943 => ?_)
                · refine y_iconst 17 c162_16 rfl ?_
                  refine y_iconst 18 c162_17 rfl ?_
                  refine y_inlB 21 [.ref 376, yI 0, yI 1] [] [some (.ref 376), some (yI 0), some (yI 1)] c162_18 rfl rfl rfl rfl rfl (ycanO km23 ko376) kn23 rfl rfl ?_
                  refine y_aload 1 c23_0 rfl rfl rfl ?_
                  refine y_iload 2 c23_1 rfl rfl ?_
                  refine y_if 9 5 c23_2 rfl rfl (yz_eq (by omega)) (fun hb14944 => ?_) (fun hb14944 => ?_)
                  · refine y_iload 10 c23_9 rfl rfl ?_
                    refine y_putI 13 c23_10 rfl kf376_57 (y_fit0 _) ?_
                    have hT14945 := hT.up 376 57 1 0 4 rfl (by omega)
                    have hF14946 := hF.up 376 57 1 rfl
                    refine y_iload 14 c23_13 rfl rfl ?_
                    refine y_ireturnK c23_14 (y_fit1 (by omega)) ?_
                    refine y_ireturnK c162_21 (y_fit1 (by omega)) ?_
                    refine y_if 46 28 c214_25 rfl rfl (yz_eq (by omega)) (fun hb14947 => ?_) (fun hb14947 => ?_)
                    · refine y_iconst 47 c214_46 rfl ?_
                      exact y_ireturn c214_47 (y_fit0 _) ⟨_, rfl, rfl, hF14946, (hMI.fr hT14945 (fun a q ha => (yup_ne (by rintro ⟨rfl, rfl⟩; simp [vGq] at ha))))⟩
                    · exfalso; omega
                  · exfalso; omega
                · exfalso; omega
            · exfalso; omega
          · refine y_iconst 27 c161_26 rfl ?_
            refine y_goto 31 c161_27 rfl ?_
            refine y_ireturnK c161_31 (y_fit1 (by omega)) ?_
            refine y_if 21 17 c214_14 rfl rfl (yz_eq (by omega)) (fun hb14948 => ?_) (fun hb14948 => ?_)
            · exfalso; omega
            · refine y_iconst 18 c214_17 rfl ?_
              refine y_goto 22 c214_18 rfl ?_
              refine y_inlB 25 [.ref 376, yI 1] [] [some (.ref 376), some (yI 1)] c214_22 rfl rfl rfl rfl rfl (ycanO km162 ko376) kn162 rfl rfl ?_
              refine y_aload 1 c162_0 rfl rfl rfl ?_
              refine y_aload 2 c162_1 rfl rfl rfl ?_
              refine y_getX 5 (m 376 19) c162_2 rfl kf376_19 rfl ?_
              refine y_top 1 (by omega) ?_
              refine y_if 16 8 c162_5 rfl rfl (yz_eq (by omega)) (fun hb14949 => ?_) (fun hb14949 => ?_)
              · exfalso; omega
              · refine y_iload 9 c162_8 rfl rfl ?_
                refine y_if 16 12 c162_9 rfl rfl (yz_eq (by omega)) (fun hb14950 => ?_) (fun hb14950 => ?_)
                · exfalso; omega
                · refine y_iconst 13 c162_12 rfl ?_
                  refine y_goto 17 c162_13 rfl ?_
                  refine y_iconst 18 c162_17 rfl ?_
                  refine y_inlB 21 [.ref 376, yI 1, yI 1] [] [some (.ref 376), some (yI 1), some (yI 1)] c162_18 rfl rfl rfl rfl rfl (ycanO km23 ko376) kn23 rfl rfl ?_
                  refine y_aload 1 c23_0 rfl rfl rfl ?_
                  refine y_iload 2 c23_1 rfl rfl ?_
                  refine y_if 9 5 c23_2 rfl rfl (yz_eq (by omega)) (fun hb14951 => ?_) (fun hb14951 => ?_)
                  · exfalso; omega
                  · refine y_iconst 6 c23_5 rfl ?_
                    refine y_goto 10 c23_6 rfl ?_
                    refine y_putI 13 c23_10 rfl kf376_57 (y_fit0 _) ?_
                    have hT14952 := hT.up 376 57 0 0 4 rfl (by omega)
                    have hF14953 := hF.up 376 57 0 rfl
                    refine y_iload 14 c23_13 rfl rfl ?_
                    refine y_ireturnK c23_14 (y_fit1 (by omega)) ?_
                    refine y_ireturnK c162_21 (y_fit1 (by omega)) ?_
                    refine y_if 46 28 c214_25 rfl rfl (yz_eq (by omega)) (fun hb14954 => ?_) (fun hb14954 => ?_)
                    · exfalso; omega
                    · refine y_aload 29 c214_28 rfl rfl rfl ?_
                      refine y_getR 32 c214_29 rfl kf376_48 ?_
                      refine y_iconst 34 c214_32 rfl ?_
                      refine y_iload 35 c214_34 rfl rfl ?_
                      refine y_imul 36 c214_35 rfl ?_
                      refine y_iload 37 c214_36 rfl rfl ?_
                      refine y_iadd 38 c214_37 rfl ?_
                      refine y_iaT 39 0 1 c214_38 rfl ka408 (by omega) hT14952 rfl (fun v14955 hv14955 gv14955 => ?_)
                      refine y_if 46 42 c214_39 rfl rfl (yz_eq (by omega)) (fun hb14956 => ?_) (fun hb14956 => ?_)
                      · refine y_iconst 47 c214_46 rfl ?_
                        exact y_ireturn c214_47 (y_fit0 _) ⟨_, rfl, rfl, hF14953, (hMI.fr hT14952 (fun a q ha => (yup_ne (by rintro ⟨rfl, rfl⟩; simp [vGq] at ha))))⟩
                      · refine y_iconst 43 c214_42 rfl ?_
                        refine y_goto 47 c214_43 rfl ?_
                        exact y_ireturn c214_47 (y_fit0 _) ⟨_, rfl, rfl, hF14953, (hMI.fr hT14952 (fun a q ha => (yup_ne (by rintro ⟨rfl, rfl⟩; simp [vGq] at ha))))⟩
set_option maxRecDepth 100000 in
theorem t217_1 {L : Nat} {xs : Nat → Int32} {d nn : Nat} {m : yM} (hT : Ty gT m) (hn : m 376 18 = 1) (hMI : MI m) {a : Int} (ra : -2147483648 ≤ a ∧ a < 2147483648) : YC (gZ L xs) (d + 6) 217 [.ref 376, yI a] m nn (qMd nn m) := by
  have tb383 := hT.atp 383 1 0 6 rfl
  have tb384 := hT.atp 384 1 0 10 rfl
  have tb385 := hT.atp 385 1 0 8 rfl
  have tb386 := hT.atp 386 1 0 12 rfl
  have tb387 := hT.atp 387 1 0 8 rfl
  have tb388 := hT.atp 388 1 0 12 rfl
  have tb389 := hT.atp 389 1 0 48 rfl
  have tb390 := hT.atp 390 1 0 125 rfl
  have t19 := hT.atp 376 19 0 1 rfl
  refine YC.mkB [some (.ref 376), some (yI a)] kn217 rfl rfl ?_
  have hF : Fr wML m m := Fr.rf
  refine y_aload 1 c217_0 rfl rfl rfl ?_
  refine y_iload 2 c217_1 rfl rfl ?_
  refine y_iconst 3 c217_2 rfl ?_
  refine y_iconst 5 c217_3 rfl ?_
  refine y_callP 8 [yI a, yI 0, yI 9] [.ref 376] c217_5 rfl rfl rfl rfl rfl (ycanS km22) (t22m (by omega) (by omega) (by omega)) (fun r14957 hr14957 => ?_)
  refine y_iconst 9 c217_8 rfl ?_
  refine y_inlB 12 [.ref 376, yI r14957, yI 1] [] [some (.ref 376), some (yI r14957), some (yI 1)] c217_9 rfl rfl rfl rfl rfl (ycanO km23 ko376) kn23 rfl rfl ?_
  refine y_aload 1 c23_0 rfl rfl rfl ?_
  refine y_iload 2 c23_1 rfl rfl ?_
  refine y_if 9 5 c23_2 rfl rfl (yz_eq (by omega)) (fun hb14958 => ?_) (fun hb14958 => ?_)
  · refine y_iload 10 c23_9 rfl rfl ?_
    refine y_putI 13 c23_10 rfl kf376_57 (y_fit0 _) ?_
    have hT14959 := hT.up 376 57 1 0 4 rfl (by omega)
    have hF14960 := hF.up 376 57 1 rfl
    refine y_iload 14 c23_13 rfl rfl ?_
    refine y_ireturnK c23_14 (y_fit1 (by omega)) ?_
    refine y_if 17 15 c217_12 rfl rfl (yz_ne (by omega)) (fun hb14961 => ?_) (fun hb14961 => ?_)
    · exfalso; omega
    · refine y_iconst 16 c217_15 rfl ?_
      exact y_ireturn c217_16 (y_fit0 _) ⟨_, rfl, rfl, hF14960, (hMI.fr hT14959 (fun a q ha => (yup_ne (by rintro ⟨rfl, rfl⟩; simp [vGq] at ha))))⟩
  · refine y_iconst 6 c23_5 rfl ?_
    refine y_goto 10 c23_6 rfl ?_
    refine y_putI 13 c23_10 rfl kf376_57 (y_fit0 _) ?_
    have hT14962 := hT.up 376 57 0 0 4 rfl (by omega)
    have hF14963 := hF.up 376 57 0 rfl
    refine y_iload 14 c23_13 rfl rfl ?_
    refine y_ireturnK c23_14 (y_fit1 (by omega)) ?_
    refine y_if 17 15 c217_12 rfl rfl (yz_ne (by omega)) (fun hb14964 => ?_) (fun hb14964 => ?_)
    · refine y_iload 18 c217_17 rfl rfl ?_
      refine y_iconst 20 c217_18 rfl ?_
      refine y_icmp 28 23 c217_20 rfl rfl (yc_ne (by omega) (by omega)) (fun hb14965 => ?_) (fun hb14965 => ?_)
      · refine y_aload 29 c217_28 rfl rfl rfl ?_
        refine y_getX 32 (m 376 19) c217_29 rfl kf376_19 rfl ?_
        refine y_if 37 35 c217_32 rfl rfl (yz_ne (by omega)) (fun hb14966 => ?_) (fun hb14966 => ?_)
        · refine y_iload 38 c217_37 rfl rfl ?_
          refine y_iconst 39 c217_38 rfl ?_
          refine y_icmp 102 42 c217_39 rfl rfl (yc_ge (by omega) (by omega)) (fun hb14967 => ?_) (fun hb14967 => ?_)
          · refine y_iload 103 c217_102 rfl rfl ?_
            refine y_iconst 104 c217_103 rfl ?_
            refine y_icmp 119 107 c217_104 rfl rfl (yc_ne (by omega) (by omega)) (fun hb14968 => ?_) (fun hb14968 => ?_)
            · refine y_iload 120 c217_119 rfl rfl ?_
              refine y_iconst 121 c217_120 rfl ?_
              refine y_icmp 136 124 c217_121 rfl rfl (yc_ne (by omega) (by omega)) (fun hb14969 => ?_) (fun hb14969 => ?_)
              · refine y_iload 137 c217_136 rfl rfl ?_
                refine y_iconst 139 c217_137 rfl ?_
                refine y_icmp 154 142 c217_139 rfl rfl (yc_ne (by omega) (by omega)) (fun hb14970 => ?_) (fun hb14970 => ?_)
                · refine y_iload 155 c217_154 rfl rfl ?_
                  refine y_iconst 157 c217_155 rfl ?_
                  refine y_icmp 167 160 c217_157 rfl rfl (yc_ne (by omega) (by omega)) (fun hb14971 => ?_) (fun hb14971 => ?_)
                  · refine y_aload 168 c217_167 rfl rfl rfl ?_
                    refine y_getX 171 (m 376 51) c217_168 rfl kf376_51 rfl ?_
                    have tb14972 := hT.atp 376 51 0 30 rfl
                    exact y_ireturn c217_171 (y_fit0 _) ⟨_, rfl, rfl, hF14963, (hMI.fr hT14962 (fun a q ha => (yup_ne (by rintro ⟨rfl, rfl⟩; simp [vGq] at ha))))⟩
                  · refine y_aload 161 c217_160 rfl rfl rfl ?_
                    refine y_getX 164 (m 376 47) c217_161 rfl kf376_47 rfl ?_
                    have tb14973 := hT.atp 376 47 ((-2147483648)) 2147483647 rfl
                    refine y_goto 171 c217_164 rfl ?_
                    exact y_ireturn c217_171 (y_fit0 _) ⟨_, rfl, rfl, hF14963, (hMI.fr hT14962 (fun a q ha => (yup_ne (by rintro ⟨rfl, rfl⟩; simp [vGq] at ha))))⟩
                · refine y_aload 143 c217_142 rfl rfl rfl ?_
                  refine y_getR 146 c217_143 rfl kf376_26 ?_
                  refine y_aload 147 c217_146 rfl rfl rfl ?_
                  refine y_getX 150 (m 376 18) c217_147 rfl kf376_18 rfl ?_
                  have tb14974 := hT.atp 376 18 0 1 rfl
                  refine y_top 1 (by omega) ?_
                  refine y_iaX 151 (m 389 1) c217_150 rfl ka389 (by decide) rfl ?_
                  refine y_goto 171 c217_151 rfl ?_
                  exact y_ireturn c217_171 (y_fit0 _) ⟨_, rfl, rfl, hF14963, (hMI.fr hT14962 (fun a q ha => (yup_ne (by rintro ⟨rfl, rfl⟩; simp [vGq] at ha))))⟩
              · refine y_aload 125 c217_124 rfl rfl rfl ?_
                refine y_getR 128 c217_125 rfl kf376_25 ?_
                refine y_aload 129 c217_128 rfl rfl rfl ?_
                refine y_getX 132 (m 376 18) c217_129 rfl kf376_18 rfl ?_
                have tb14975 := hT.atp 376 18 0 1 rfl
                refine y_top 1 (by omega) ?_
                refine y_iaX 133 (m 388 1) c217_132 rfl ka388 (by decide) rfl ?_
                refine y_goto 171 c217_133 rfl ?_
                exact y_ireturn c217_171 (y_fit0 _) ⟨_, rfl, rfl, hF14963, (hMI.fr hT14962 (fun a q ha => (yup_ne (by rintro ⟨rfl, rfl⟩; simp [vGq] at ha))))⟩
            · refine y_aload 108 c217_107 rfl rfl rfl ?_
              refine y_getR 111 c217_108 rfl kf376_24 ?_
              refine y_aload 112 c217_111 rfl rfl rfl ?_
              refine y_getX 115 (m 376 18) c217_112 rfl kf376_18 rfl ?_
              have tb14976 := hT.atp 376 18 0 1 rfl
              refine y_top 1 (by omega) ?_
              refine y_iaX 116 (m 387 1) c217_115 rfl ka387 (by decide) rfl ?_
              refine y_goto 171 c217_116 rfl ?_
              exact y_ireturn c217_171 (y_fit0 _) ⟨_, rfl, rfl, hF14963, (hMI.fr hT14962 (fun a q ha => (yup_ne (by rintro ⟨rfl, rfl⟩; simp [vGq] at ha))))⟩
          · refine y_iload 43 c217_42 rfl rfl ?_
            refine y_if 58 46 c217_43 rfl rfl (yz_ne (by omega)) (fun hb14977 => ?_) (fun hb14977 => ?_)
            · refine y_iload 59 c217_58 rfl rfl ?_
              refine y_iconst 60 c217_59 rfl ?_
              refine y_icmp 75 63 c217_60 rfl rfl (yc_ne (by omega) (by omega)) (fun hb14978 => ?_) (fun hb14978 => ?_)
              · refine y_iload 76 c217_75 rfl rfl ?_
                refine y_iconst 77 c217_76 rfl ?_
                refine y_icmp 92 80 c217_77 rfl rfl (yc_ne (by omega) (by omega)) (fun hb14979 => ?_) (fun hb14979 => ?_)
                · refine y_aload 93 c217_92 rfl rfl rfl ?_
                  refine y_getR 96 c217_93 rfl kf376_23 ?_
                  refine y_aload 97 c217_96 rfl rfl rfl ?_
                  refine y_getX 100 (m 376 18) c217_97 rfl kf376_18 rfl ?_
                  have tb14980 := hT.atp 376 18 0 1 rfl
                  refine y_top 1 (by omega) ?_
                  refine y_iaX 101 (m 386 1) c217_100 rfl ka386 (by decide) rfl ?_
                  exact y_ireturn c217_101 (y_fit0 _) ⟨_, rfl, rfl, hF14963, (hMI.fr hT14962 (fun a q ha => (yup_ne (by rintro ⟨rfl, rfl⟩; simp [vGq] at ha))))⟩
                · refine y_aload 81 c217_80 rfl rfl rfl ?_
                  refine y_getR 84 c217_81 rfl kf376_22 ?_
                  refine y_aload 85 c217_84 rfl rfl rfl ?_
                  refine y_getX 88 (m 376 18) c217_85 rfl kf376_18 rfl ?_
                  have tb14981 := hT.atp 376 18 0 1 rfl
                  refine y_top 1 (by omega) ?_
                  refine y_iaX 89 (m 385 1) c217_88 rfl ka385 (by decide) rfl ?_
                  refine y_goto 101 c217_89 rfl ?_
                  exact y_ireturn c217_101 (y_fit0 _) ⟨_, rfl, rfl, hF14963, (hMI.fr hT14962 (fun a q ha => (yup_ne (by rintro ⟨rfl, rfl⟩; simp [vGq] at ha))))⟩
              · refine y_aload 64 c217_63 rfl rfl rfl ?_
                refine y_getR 67 c217_64 rfl kf376_21 ?_
                refine y_aload 68 c217_67 rfl rfl rfl ?_
                refine y_getX 71 (m 376 18) c217_68 rfl kf376_18 rfl ?_
                have tb14982 := hT.atp 376 18 0 1 rfl
                refine y_top 1 (by omega) ?_
                refine y_iaX 72 (m 384 1) c217_71 rfl ka384 (by decide) rfl ?_
                refine y_goto 101 c217_72 rfl ?_
                exact y_ireturn c217_101 (y_fit0 _) ⟨_, rfl, rfl, hF14963, (hMI.fr hT14962 (fun a q ha => (yup_ne (by rintro ⟨rfl, rfl⟩; simp [vGq] at ha))))⟩
            · refine y_aload 47 c217_46 rfl rfl rfl ?_
              refine y_getR 50 c217_47 rfl kf376_20 ?_
              refine y_aload 51 c217_50 rfl rfl rfl ?_
              refine y_getX 54 (m 376 18) c217_51 rfl kf376_18 rfl ?_
              have tb14983 := hT.atp 376 18 0 1 rfl
              refine y_top 1 (by omega) ?_
              refine y_iaX 55 (m 383 1) c217_54 rfl ka383 (by decide) rfl ?_
              refine y_goto 101 c217_55 rfl ?_
              exact y_ireturn c217_101 (y_fit0 _) ⟨_, rfl, rfl, hF14963, (hMI.fr hT14962 (fun a q ha => (yup_ne (by rintro ⟨rfl, rfl⟩; simp [vGq] at ha))))⟩
        · refine y_iconst 36 c217_35 rfl ?_
          exact y_ireturn c217_36 (y_fit0 _) ⟨_, rfl, rfl, hF14963, (hMI.fr hT14962 (fun a q ha => (yup_ne (by rintro ⟨rfl, rfl⟩; simp [vGq] at ha))))⟩
      · refine y_aload 24 c217_23 rfl rfl rfl ?_
        refine y_getX 27 (m 376 1) c217_24 rfl kf376_1 rfl ?_
        have tb14984 := hT.atp 376 1 0 320 rfl
        exact y_ireturn c217_27 (y_fit0 _) ⟨_, rfl, rfl, hF14963, (hMI.fr hT14962 (fun a q ha => (yup_ne (by rintro ⟨rfl, rfl⟩; simp [vGq] at ha))))⟩
    · exfalso; omega
set_option maxRecDepth 100000 in
theorem t154_1 {L : Nat} {xs : Nat → Int32} {d nn : Nat} {m : yM} (hT : Ty gT m) (hn : m 376 18 = 1) (hMI : MI m) : YC (gZ L xs) (d + 6) 154 [.ref 376] m nn (qMd nn m) := by
  have tb383 := hT.atp 383 1 0 6 rfl
  have tb384 := hT.atp 384 1 0 10 rfl
  have tb385 := hT.atp 385 1 0 8 rfl
  have tb386 := hT.atp 386 1 0 12 rfl
  have tb387 := hT.atp 387 1 0 8 rfl
  have tb388 := hT.atp 388 1 0 12 rfl
  have tb389 := hT.atp 389 1 0 48 rfl
  have tb390 := hT.atp 390 1 0 125 rfl
  have t19 := hT.atp 376 19 0 1 rfl
  refine YC.mkB [some (.ref 376)] kn154 rfl rfl ?_
  have hF : Fr wML m m := Fr.rf
  refine y_aload 1 c154_0 rfl rfl rfl ?_
  refine y_iconst 2 c154_1 rfl ?_
  refine y_putI 5 c154_2 rfl kf376_57 (y_fit0 _) ?_
  have hT14985 := hT.up 376 57 0 0 4 rfl (by omega)
  have hF14986 := hF.up 376 57 0 rfl
  refine y_aload 6 c154_5 rfl rfl rfl ?_
  refine y_getX 9 (m 376 2) c154_6 rfl kf376_2 rfl ?_
  have tb14987 := hT.atp 376 2 ((-2147483648)) 2147483647 rfl
  exact y_ireturn c154_9 (y_fit0 _) ⟨_, rfl, rfl, hF14986, (hMI.fr hT14985 (fun a q ha => (yup_ne (by rintro ⟨rfl, rfl⟩; simp [vGq] at ha))))⟩
set_option maxRecDepth 100000 in
theorem t182a_1 {L : Nat} {xs : Nat → Int32} {d nn : Nat} {m : yM} {Q : xO → yM → Nat → Prop} (hT : Ty gT m) (hn : m 376 18 = 1) {a b : Int} (ha : 0 ≤ a ∧ a ≤ 47) (hb : 0 ≤ b ∧ b ≤ 47) (hQ : ∀ r, (r = 0 ∨ r = 1) → Q (.inl (some (yI r))) m nn) : ∀ (km : Nat) (i : Int), m 388 1 - i = km → 0 ≤ i ∧ i ≤ m 388 1 → YW (gZ L xs) 182 (d + 6) 32 [some (.ref 376), some (yI a), some (yI b), some (yI i)] [] m nn (Q) := by
  intro km
  induction km using Nat.strongRecOn with
  | ind km ih =>
    intro i hk hi
    have tb383 := hT.atp 383 1 0 6 rfl
    have tb384 := hT.atp 384 1 0 10 rfl
    have tb385 := hT.atp 385 1 0 8 rfl
    have tb386 := hT.atp 386 1 0 12 rfl
    have tb387 := hT.atp 387 1 0 8 rfl
    have tb388 := hT.atp 388 1 0 12 rfl
    have tb389 := hT.atp 389 1 0 48 rfl
    have tb390 := hT.atp 390 1 0 125 rfl
    have t19 := hT.atp 376 19 0 1 rfl
    refine y_iload 33 c182_32 rfl rfl ?_
    refine y_aload 34 c182_33 rfl rfl rfl ?_
    refine y_getR 37 c182_34 rfl kf376_25 ?_
    refine y_aload 38 c182_37 rfl rfl rfl ?_
    refine y_getX 41 (m 376 18) c182_38 rfl kf376_18 rfl ?_
    have tb14988 := hT.atp 376 18 0 1 rfl
    refine y_top 1 (by omega) ?_
    refine y_iaX 42 (m 388 1) c182_41 rfl ka388 (by decide) rfl ?_
    refine y_icmp 81 45 c182_42 rfl rfl (yc_ge (by omega) (by omega)) (fun hb14989 => ?_) (fun hb14989 => ?_)
    · refine y_iconst 82 c182_81 rfl ?_
      exact y_ireturn c182_82 (y_fit0 _) (hQ _ (by omega))
    · refine y_aload 46 c182_45 rfl rfl rfl ?_
      refine y_getR 49 c182_46 rfl kf376_41 ?_
      refine y_iconst 51 c182_49 rfl ?_
      refine y_iload 52 c182_51 rfl rfl ?_
      refine y_imul 53 c182_52 rfl ?_
      refine y_iload 54 c182_53 rfl rfl ?_
      refine y_iadd 55 c182_54 rfl ?_
      refine y_iaT 56 ((-2147483648)) 2147483647 c182_55 rfl ka404 (by omega) hT rfl (fun v14990 hv14990 gv14990 => ?_)
      refine y_if 75 59 c182_56 rfl rfl (yz_lt (by omega)) (fun hb14991 => ?_) (fun hb14991 => ?_)
      · refine y_iinc 78 c182_75 rfl rfl rfl ?_
        refine y_goto 32 c182_78 rfl ?_
        exact ih (m 388 1 - (i + 1) : Int).toNat (by omega) (i + 1)   (by omega) (by omega)
      · refine y_aload 60 c182_59 rfl rfl rfl ?_
        refine y_getR 63 c182_60 rfl kf376_41 ?_
        refine y_iconst 65 c182_63 rfl ?_
        refine y_iload 66 c182_65 rfl rfl ?_
        refine y_imul 67 c182_66 rfl ?_
        refine y_iload 68 c182_67 rfl rfl ?_
        refine y_iadd 69 c182_68 rfl ?_
        refine y_iaT 70 ((-2147483648)) 2147483647 c182_69 rfl ka404 (by omega) hT rfl (fun v14992 hv14992 gv14992 => ?_)
        refine y_if 75 73 c182_70 rfl rfl (yz_lt (by omega)) (fun hb14993 => ?_) (fun hb14993 => ?_)
        · refine y_iinc 78 c182_75 rfl rfl rfl ?_
          refine y_goto 32 c182_78 rfl ?_
          exact ih (m 388 1 - (i + 1) : Int).toNat (by omega) (i + 1)   (by omega) (by omega)
        · refine y_iconst 74 c182_73 rfl ?_
          exact y_ireturn c182_74 (y_fit0 _) (hQ _ (by omega))
set_option maxRecDepth 100000 in
theorem t182_1 {L : Nat} {xs : Nat → Int32} {d nn : Nat} {m : yM} (hT : Ty gT m) (hn : m 376 18 = 1) (hMI : MI m) {a : Int} (ra : -2147483648 ≤ a ∧ a < 2147483648) {b : Int} (rb : -2147483648 ≤ b ∧ b < 2147483648) : YC (gZ L xs) (d + 6) 182 [.ref 376, yI a, yI b] m nn (qMd nn m) := by
  have tb383 := hT.atp 383 1 0 6 rfl
  have tb384 := hT.atp 384 1 0 10 rfl
  have tb385 := hT.atp 385 1 0 8 rfl
  have tb386 := hT.atp 386 1 0 12 rfl
  have tb387 := hT.atp 387 1 0 8 rfl
  have tb388 := hT.atp 388 1 0 12 rfl
  have tb389 := hT.atp 389 1 0 48 rfl
  have tb390 := hT.atp 390 1 0 125 rfl
  have t19 := hT.atp 376 19 0 1 rfl
  refine YC.mkB [some (.ref 376), some (yI a), some (yI b), none] kn182 rfl rfl ?_
  have hF : Fr wML m m := Fr.rf
  refine y_aload 1 c182_0 rfl rfl rfl ?_
  refine y_aload 2 c182_1 rfl rfl rfl ?_
  refine y_iload 3 c182_2 rfl rfl ?_
  refine y_inlB 6 [.ref 376, yI a] [.ref 376] [some (.ref 376), some (yI a)] c182_3 rfl rfl rfl rfl rfl (ycanO km160 ko376) kn160 rfl rfl ?_
  refine y_aload 1 c160_0 rfl rfl rfl ?_
  refine y_getX 4 (m 376 19) c160_1 rfl kf376_19 rfl ?_
  refine y_if 30 7 c160_4 rfl rfl (yz_eq (by omega)) (fun hb14994 => ?_) (fun hb14994 => ?_)
  · refine y_iconst 31 c160_30 rfl ?_
    refine y_ireturnK c160_31 (y_fit1 (by omega)) ?_
    refine y_if 21 9 c182_6 rfl rfl (yz_eq (by omega)) (fun hb14995 => ?_) (fun hb14995 => ?_)
    · refine y_iconst 22 c182_21 rfl ?_
      refine y_inlB 25 [.ref 376, yI 0] [] [some (.ref 376), some (yI 0)] c182_22 rfl rfl rfl rfl rfl (ycanO km162 ko376) kn162 rfl rfl ?_
      refine y_aload 1 c162_0 rfl rfl rfl ?_
      refine y_aload 2 c162_1 rfl rfl rfl ?_
      refine y_getX 5 (m 376 19) c162_2 rfl kf376_19 rfl ?_
      refine y_top 0 (by omega) ?_
      refine y_if 16 8 c162_5 rfl rfl (yz_eq (by omega)) (fun hb14996 => ?_) (fun hb14996 => ?_)
      · refine y_iconst 17 c162_16 rfl ?_
        refine y_iconst 18 c162_17 rfl ?_
        refine y_inlB 21 [.ref 376, yI 0, yI 1] [] [some (.ref 376), some (yI 0), some (yI 1)] c162_18 rfl rfl rfl rfl rfl (ycanO km23 ko376) kn23 rfl rfl ?_
        refine y_aload 1 c23_0 rfl rfl rfl ?_
        refine y_iload 2 c23_1 rfl rfl ?_
        refine y_if 9 5 c23_2 rfl rfl (yz_eq (by omega)) (fun hb14997 => ?_) (fun hb14997 => ?_)
        · refine y_iload 10 c23_9 rfl rfl ?_
          refine y_putI 13 c23_10 rfl kf376_57 (y_fit0 _) ?_
          have hT14998 := hT.up 376 57 1 0 4 rfl (by omega)
          have hF14999 := hF.up 376 57 1 rfl
          refine y_iload 14 c23_13 rfl rfl ?_
          refine y_ireturnK c23_14 (y_fit1 (by omega)) ?_
          refine y_ireturnK c162_21 (y_fit1 (by omega)) ?_
          refine y_if 30 28 c182_25 rfl rfl (yz_ne (by omega)) (fun hb15000 => ?_) (fun hb15000 => ?_)
          · exfalso; omega
          · refine y_iconst 29 c182_28 rfl ?_
            exact y_ireturn c182_29 (y_fit0 _) ⟨_, rfl, rfl, hF14999, (hMI.fr hT14998 (fun a q ha => (yup_ne (by rintro ⟨rfl, rfl⟩; simp [vGq] at ha))))⟩
        · exfalso; omega
      · exfalso; omega
    · exfalso; omega
  · refine y_iload 8 c160_7 rfl rfl ?_
    refine y_iconst 9 c160_8 rfl ?_
    refine y_aload 10 c160_9 rfl rfl rfl ?_
    refine y_getR 13 c160_10 rfl kf376_26 ?_
    refine y_aload 14 c160_13 rfl rfl rfl ?_
    refine y_getX 17 (m 376 18) c160_14 rfl kf376_18 rfl ?_
    have tb15001 := hT.atp 376 18 0 1 rfl
    refine y_top 1 (by omega) ?_
    refine y_iaX 18 (m 389 1) c160_17 rfl ka389 (by decide) rfl ?_
    refine y_iconst 19 c160_18 rfl ?_
    refine y_isub 20 c160_19 rfl ?_
    refine y_callP 23 [yI a, yI 0, yI ((m 389 1) - 1)] [] c160_20 rfl rfl rfl rfl rfl (ycanS km22) (t22m (by omega) (by omega) (by omega)) (fun r15002 hr15002 => ?_)
    refine y_if 30 26 c160_23 rfl rfl (yz_eq (by omega)) (fun hb15003 => ?_) (fun hb15003 => ?_)
    · refine y_iconst 31 c160_30 rfl ?_
      refine y_ireturnK c160_31 (y_fit1 (by omega)) ?_
      refine y_if 21 9 c182_6 rfl rfl (yz_eq (by omega)) (fun hb15004 => ?_) (fun hb15004 => ?_)
      · refine y_iconst 22 c182_21 rfl ?_
        refine y_inlB 25 [.ref 376, yI 0] [] [some (.ref 376), some (yI 0)] c182_22 rfl rfl rfl rfl rfl (ycanO km162 ko376) kn162 rfl rfl ?_
        refine y_aload 1 c162_0 rfl rfl rfl ?_
        refine y_aload 2 c162_1 rfl rfl rfl ?_
        refine y_getX 5 (m 376 19) c162_2 rfl kf376_19 rfl ?_
        refine y_top 1 (by omega) ?_
        refine y_if 16 8 c162_5 rfl rfl (yz_eq (by omega)) (fun hb15005 => ?_) (fun hb15005 => ?_)
        · exfalso; omega
        · refine y_iload 9 c162_8 rfl rfl ?_
          refine y_if 16 12 c162_9 rfl rfl (yz_eq (by omega)) (fun hb15006 => ?_) (fun hb15006 => ?_)
          · refine y_iconst 17 c162_16 rfl ?_
            refine y_iconst 18 c162_17 rfl ?_
            refine y_inlB 21 [.ref 376, yI 0, yI 1] [] [some (.ref 376), some (yI 0), some (yI 1)] c162_18 rfl rfl rfl rfl rfl (ycanO km23 ko376) kn23 rfl rfl ?_
            refine y_aload 1 c23_0 rfl rfl rfl ?_
            refine y_iload 2 c23_1 rfl rfl ?_
            refine y_if 9 5 c23_2 rfl rfl (yz_eq (by omega)) (fun hb15007 => ?_) (fun hb15007 => ?_)
            · refine y_iload 10 c23_9 rfl rfl ?_
              refine y_putI 13 c23_10 rfl kf376_57 (y_fit0 _) ?_
              have hT15008 := hT.up 376 57 1 0 4 rfl (by omega)
              have hF15009 := hF.up 376 57 1 rfl
              refine y_iload 14 c23_13 rfl rfl ?_
              refine y_ireturnK c23_14 (y_fit1 (by omega)) ?_
              refine y_ireturnK c162_21 (y_fit1 (by omega)) ?_
              refine y_if 30 28 c182_25 rfl rfl (yz_ne (by omega)) (fun hb15010 => ?_) (fun hb15010 => ?_)
              · exfalso; omega
              · refine y_iconst 29 c182_28 rfl ?_
                exact y_ireturn c182_29 (y_fit0 _) ⟨_, rfl, rfl, hF15009, (hMI.fr hT15008 (fun a q ha => (yup_ne (by rintro ⟨rfl, rfl⟩; simp [vGq] at ha))))⟩
            · exfalso; omega
          · exfalso; omega
      · exfalso; omega
    · refine y_iconst 27 c160_26 rfl ?_
      refine y_goto 31 c160_27 rfl ?_
      refine y_ireturnK c160_31 (y_fit1 (by omega)) ?_
      refine y_if 21 9 c182_6 rfl rfl (yz_eq (by omega)) (fun hb15011 => ?_) (fun hb15011 => ?_)
      · exfalso; omega
      · refine y_aload 10 c182_9 rfl rfl rfl ?_
        refine y_iload 11 c182_10 rfl rfl ?_
        refine y_inlB 14 [.ref 376, yI b] [.ref 376] [some (.ref 376), some (yI b)] c182_11 rfl rfl rfl rfl rfl (ycanO km160 ko376) kn160 rfl rfl ?_
        refine y_aload 1 c160_0 rfl rfl rfl ?_
        refine y_getX 4 (m 376 19) c160_1 rfl kf376_19 rfl ?_
        refine y_top 1 (by omega) ?_
        refine y_if 30 7 c160_4 rfl rfl (yz_eq (by omega)) (fun hb15012 => ?_) (fun hb15012 => ?_)
        · exfalso; omega
        · refine y_iload 8 c160_7 rfl rfl ?_
          refine y_iconst 9 c160_8 rfl ?_
          refine y_aload 10 c160_9 rfl rfl rfl ?_
          refine y_getR 13 c160_10 rfl kf376_26 ?_
          refine y_aload 14 c160_13 rfl rfl rfl ?_
          refine y_getX 17 (m 376 18) c160_14 rfl kf376_18 rfl ?_
          refine y_top 1 (by omega) ?_
          refine y_iaX 18 (m 389 1) c160_17 rfl ka389 (by decide) rfl ?_
          refine y_iconst 19 c160_18 rfl ?_
          refine y_isub 20 c160_19 rfl ?_
          refine y_callP 23 [yI b, yI 0, yI ((m 389 1) - 1)] [] c160_20 rfl rfl rfl rfl rfl (ycanS km22) (t22m (by omega) (by omega) (by omega)) (fun r15013 hr15013 => ?_)
          refine y_if 30 26 c160_23 rfl rfl (yz_eq (by omega)) (fun hb15014 => ?_) (fun hb15014 => ?_)
          · refine y_iconst 31 c160_30 rfl ?_
            refine y_ireturnK c160_31 (y_fit1 (by omega)) ?_
            refine y_if 21 17 c182_14 rfl rfl (yz_eq (by omega)) (fun hb15015 => ?_) (fun hb15015 => ?_)
            · refine y_iconst 22 c182_21 rfl ?_
              refine y_inlB 25 [.ref 376, yI 0] [] [some (.ref 376), some (yI 0)] c182_22 rfl rfl rfl rfl rfl (ycanO km162 ko376) kn162 rfl rfl ?_
              refine y_aload 1 c162_0 rfl rfl rfl ?_
              refine y_aload 2 c162_1 rfl rfl rfl ?_
              refine y_getX 5 (m 376 19) c162_2 rfl kf376_19 rfl ?_
              refine y_top 1 (by omega) ?_
              refine y_if 16 8 c162_5 rfl rfl (yz_eq (by omega)) (fun hb15016 => ?_) (fun hb15016 => ?_)
              · exfalso; omega
              · refine y_iload 9 c162_8 rfl rfl ?_
                refine y_if 16 12 c162_9 rfl rfl (yz_eq (by omega)) (fun hb15017 => ?_) (fun hb15017 => ?_)
                · refine y_iconst 17 c162_16 rfl ?_
                  refine y_iconst 18 c162_17 rfl ?_
                  refine y_inlB 21 [.ref 376, yI 0, yI 1] [] [some (.ref 376), some (yI 0), some (yI 1)] c162_18 rfl rfl rfl rfl rfl (ycanO km23 ko376) kn23 rfl rfl ?_
                  refine y_aload 1 c23_0 rfl rfl rfl ?_
                  refine y_iload 2 c23_1 rfl rfl ?_
                  refine y_if 9 5 c23_2 rfl rfl (yz_eq (by omega)) (fun hb15018 => ?_) (fun hb15018 => ?_)
                  · refine y_iload 10 c23_9 rfl rfl ?_
                    refine y_putI 13 c23_10 rfl kf376_57 (y_fit0 _) ?_
                    have hT15019 := hT.up 376 57 1 0 4 rfl (by omega)
                    have hF15020 := hF.up 376 57 1 rfl
                    refine y_iload 14 c23_13 rfl rfl ?_
                    refine y_ireturnK c23_14 (y_fit1 (by omega)) ?_
                    refine y_ireturnK c162_21 (y_fit1 (by omega)) ?_
                    refine y_if 30 28 c182_25 rfl rfl (yz_ne (by omega)) (fun hb15021 => ?_) (fun hb15021 => ?_)
                    · exfalso; omega
                    · refine y_iconst 29 c182_28 rfl ?_
                      exact y_ireturn c182_29 (y_fit0 _) ⟨_, rfl, rfl, hF15020, (hMI.fr hT15019 (fun a q ha => (yup_ne (by rintro ⟨rfl, rfl⟩; simp [vGq] at ha))))⟩
                  · exfalso; omega
                · exfalso; omega
            · exfalso; omega
          · refine y_iconst 27 c160_26 rfl ?_
            refine y_goto 31 c160_27 rfl ?_
            refine y_ireturnK c160_31 (y_fit1 (by omega)) ?_
            refine y_if 21 17 c182_14 rfl rfl (yz_eq (by omega)) (fun hb15022 => ?_) (fun hb15022 => ?_)
            · exfalso; omega
            · refine y_iconst 18 c182_17 rfl ?_
              refine y_goto 22 c182_18 rfl ?_
              refine y_inlB 25 [.ref 376, yI 1] [] [some (.ref 376), some (yI 1)] c182_22 rfl rfl rfl rfl rfl (ycanO km162 ko376) kn162 rfl rfl ?_
              refine y_aload 1 c162_0 rfl rfl rfl ?_
              refine y_aload 2 c162_1 rfl rfl rfl ?_
              refine y_getX 5 (m 376 19) c162_2 rfl kf376_19 rfl ?_
              refine y_top 1 (by omega) ?_
              refine y_if 16 8 c162_5 rfl rfl (yz_eq (by omega)) (fun hb15023 => ?_) (fun hb15023 => ?_)
              · exfalso; omega
              · refine y_iload 9 c162_8 rfl rfl ?_
                refine y_if 16 12 c162_9 rfl rfl (yz_eq (by omega)) (fun hb15024 => ?_) (fun hb15024 => ?_)
                · exfalso; omega
                · refine y_iconst 13 c162_12 rfl ?_
                  refine y_goto 17 c162_13 rfl ?_
                  refine y_iconst 18 c162_17 rfl ?_
                  refine y_inlB 21 [.ref 376, yI 1, yI 1] [] [some (.ref 376), some (yI 1), some (yI 1)] c162_18 rfl rfl rfl rfl rfl (ycanO km23 ko376) kn23 rfl rfl ?_
                  refine y_aload 1 c23_0 rfl rfl rfl ?_
                  refine y_iload 2 c23_1 rfl rfl ?_
                  refine y_if 9 5 c23_2 rfl rfl (yz_eq (by omega)) (fun hb15025 => ?_) (fun hb15025 => ?_)
                  · exfalso; omega
                  · refine y_iconst 6 c23_5 rfl ?_
                    refine y_goto 10 c23_6 rfl ?_
                    refine y_putI 13 c23_10 rfl kf376_57 (y_fit0 _) ?_
                    have hT15026 := hT.up 376 57 0 0 4 rfl (by omega)
                    have hF15027 := hF.up 376 57 0 rfl
                    refine y_iload 14 c23_13 rfl rfl ?_
                    refine y_ireturnK c23_14 (y_fit1 (by omega)) ?_
                    refine y_ireturnK c162_21 (y_fit1 (by omega)) ?_
                    refine y_if 30 28 c182_25 rfl rfl (yz_ne (by omega)) (fun hb15028 => ?_) (fun hb15028 => ?_)
                    · refine y_iconst 31 c182_30 rfl ?_
                      refine y_istore 32 c182_31 rfl rfl ?_
                      have es15029 : (yup m 376 57 0) 388 1 = m 388 1 := rfl
                      have es15030 : (yup m 376 57 0) 376 18 = m 376 18 := rfl
                      exact t182a_1 hT15026 (by omega) (by omega) (by omega) (fun r hr => ⟨_, rfl, rfl, hF15027, (hMI.fr hT15026 (fun a q ha => (yup_ne (by rintro ⟨rfl, rfl⟩; simp [vGq] at ha))))⟩) ((yup m 376 57 0) 388 1 - 0).toNat 0 (by omega) (by omega)
                    · exfalso; omega
set_option maxRecDepth 100000 in
theorem t178a_1 {L : Nat} {xs : Nat → Int32} {d nn : Nat} {m : yM} {Q : xO → yM → Nat → Prop} (hT : Ty gT m) (hn : m 376 18 = 1) (hG : GQ 1 m) {a b : Int} (ha : 0 ≤ a ∧ a ≤ 7) (hb : 0 ≤ b ∧ b ≤ 47) (hQ : ∀ r, (r = 0 ∨ r = 1) → Q (.inl (some (yI r))) m nn) : ∀ (km : Nat) (i : Int), m 388 1 - i = km → 0 ≤ i ∧ i ≤ m 388 1 → YW (gZ L xs) 178 (d + 6) 42 [some (.ref 376), some (yI a), some (yI b), some (yI i)] [] m nn (Q) := by
  intro km
  induction km using Nat.strongRecOn with
  | ind km ih =>
    intro i hk hi
    have tb383 := hT.atp 383 1 0 6 rfl
    have tb384 := hT.atp 384 1 0 10 rfl
    have tb385 := hT.atp 385 1 0 8 rfl
    have tb386 := hT.atp 386 1 0 12 rfl
    have tb387 := hT.atp 387 1 0 8 rfl
    have tb388 := hT.atp 388 1 0 12 rfl
    have tb389 := hT.atp 389 1 0 48 rfl
    have tb390 := hT.atp 390 1 0 125 rfl
    have t19 := hT.atp 376 19 0 1 rfl
    refine y_iload 43 c178_42 rfl rfl ?_
    refine y_aload 44 c178_43 rfl rfl rfl ?_
    refine y_getR 47 c178_44 rfl kf376_25 ?_
    refine y_aload 48 c178_47 rfl rfl rfl ?_
    refine y_getX 51 (m 376 18) c178_48 rfl kf376_18 rfl ?_
    have tb15031 := hT.atp 376 18 0 1 rfl
    refine y_top 1 (by omega) ?_
    refine y_iaX 52 (m 388 1) c178_51 rfl ka388 (by decide) rfl ?_
    refine y_icmp 116 55 c178_52 rfl rfl (yc_ge (by omega) (by omega)) (fun hb15032 => ?_) (fun hb15032 => ?_)
    · refine y_iconst 117 c178_116 rfl ?_
      exact y_ireturn c178_117 (y_fit0 _) (hQ _ (by omega))
    · refine y_aload 56 c178_55 rfl rfl rfl ?_
      refine y_getR 59 c178_56 rfl kf376_41 ?_
      refine y_iconst 61 c178_59 rfl ?_
      refine y_iload 62 c178_61 rfl rfl ?_
      refine y_imul 63 c178_62 rfl ?_
      refine y_iload 64 c178_63 rfl rfl ?_
      refine y_iadd 65 c178_64 rfl ?_
      refine y_iaT 66 ((-2147483648)) 2147483647 c178_65 rfl ka404 (by omega) hT rfl (fun v15033 hv15033 gv15033 => ?_)
      refine y_if 110 69 c178_66 rfl rfl (yz_lt (by omega)) (fun hb15034 => ?_) (fun hb15034 => ?_)
      · refine y_iinc 113 c178_110 rfl rfl rfl ?_
        refine y_goto 42 c178_113 rfl ?_
        exact ih (m 388 1 - (i + 1) : Int).toNat (by omega) (i + 1)   (by omega) (by omega)
      · refine y_aload 70 c178_69 rfl rfl rfl ?_
        refine y_aload 71 c178_70 rfl rfl rfl ?_
        refine y_getX 74 (m 376 18) c178_71 rfl kf376_18 rfl ?_
        refine y_top 1 (by omega) ?_
        refine y_aload 75 c178_74 rfl rfl rfl ?_
        refine y_getR 78 c178_75 rfl kf376_37 ?_
        refine y_iconst 80 c178_78 rfl ?_
        refine y_aload 81 c178_80 rfl rfl rfl ?_
        refine y_getX 84 (m 376 18) c178_81 rfl kf376_18 rfl ?_
        refine y_top 1 (by omega) ?_
        refine y_imul 85 c178_84 rfl ?_
        refine y_top 12 (by decide) ?_
        refine y_iload 86 c178_85 rfl rfl ?_
        refine y_iadd 87 c178_86 rfl ?_
        refine y_iaT 88 ((-2147483648)) 2147483647 c178_87 rfl ka400 (by omega) hT rfl (fun v15035 hv15035 gv15035 => ?_)
        have gv15035_ : -1 ≤ v15035 ∧ v15035 < m 383 1 := by have h0 := hG.2.2.2.2.2.1 i.toNat (by omega); rw [show 12 * 1 + i.toNat = (12 + i).toNat by omega, hv15035] at h0; exact h0
        refine y_aload 89 c178_88 rfl rfl rfl ?_
        refine y_getR 92 c178_89 rfl kf376_39 ?_
        refine y_iconst 94 c178_92 rfl ?_
        refine y_aload 95 c178_94 rfl rfl rfl ?_
        refine y_getX 98 (m 376 18) c178_95 rfl kf376_18 rfl ?_
        refine y_top 1 (by omega) ?_
        refine y_imul 99 c178_98 rfl ?_
        refine y_top 8 (by decide) ?_
        refine y_iload 100 c178_99 rfl rfl ?_
        refine y_iadd 101 c178_100 rfl ?_
        refine y_iaT 102 ((-2147483648)) 2147483647 c178_101 rfl ka402 (by omega) hT rfl (fun v15036 hv15036 gv15036 => ?_)
        refine y_callP 105 [.ref 376, yI 1, yI v15035, yI v15036] [] c178_102 rfl rfl rfl rfl rfl (ycanO km149 ko376) (t149_1 hT hG.2.2.2.2.1 (by omega) (by omega)) (fun r15037 hr15037 => ?_)
        refine y_if 110 108 c178_105 rfl rfl (yz_ne (by omega)) (fun hb15038 => ?_) (fun hb15038 => ?_)
        · refine y_iinc 113 c178_110 rfl rfl rfl ?_
          refine y_goto 42 c178_113 rfl ?_
          exact ih (m 388 1 - (i + 1) : Int).toNat (by omega) (i + 1)   (by omega) (by omega)
        · refine y_iconst 109 c178_108 rfl ?_
          exact y_ireturn c178_109 (y_fit0 _) (hQ _ (by omega))
set_option maxRecDepth 100000 in
theorem t178_1 {L : Nat} {xs : Nat → Int32} {d nn : Nat} {m : yM} (hT : Ty gT m) (hn : m 376 18 = 1) (hMI : MI m) {a : Int} (ra : -2147483648 ≤ a ∧ a < 2147483648) : YC (gZ L xs) (d + 6) 178 [.ref 376, yI a] m nn (qMd nn m) := by
  have tb383 := hT.atp 383 1 0 6 rfl
  have tb384 := hT.atp 384 1 0 10 rfl
  have tb385 := hT.atp 385 1 0 8 rfl
  have tb386 := hT.atp 386 1 0 12 rfl
  have tb387 := hT.atp 387 1 0 8 rfl
  have tb388 := hT.atp 388 1 0 12 rfl
  have tb389 := hT.atp 389 1 0 48 rfl
  have tb390 := hT.atp 390 1 0 125 rfl
  have t19 := hT.atp 376 19 0 1 rfl
  refine YC.mkB [some (.ref 376), some (yI a), none, none] kn178 rfl rfl ?_
  have hF : Fr wML m m := Fr.rf
  refine y_aload 1 c178_0 rfl rfl rfl ?_
  refine y_iload 2 c178_1 rfl rfl ?_
  refine y_iconst 3 c178_2 rfl ?_
  refine y_aload 4 c178_3 rfl rfl rfl ?_
  refine y_getR 7 c178_4 rfl kf376_24 ?_
  refine y_aload 8 c178_7 rfl rfl rfl ?_
  refine y_getX 11 (m 376 18) c178_8 rfl kf376_18 rfl ?_
  have tb15039 := hT.atp 376 18 0 1 rfl
  refine y_top 1 (by omega) ?_
  refine y_iaX 12 (m 387 1) c178_11 rfl ka387 (by decide) rfl ?_
  refine y_iconst 13 c178_12 rfl ?_
  refine y_isub 14 c178_13 rfl ?_
  refine y_callP 17 [yI a, yI 0, yI ((m 387 1) - 1)] [.ref 376] c178_14 rfl rfl rfl rfl rfl (ycanS km22) (t22m (by omega) (by omega) (by omega)) (fun r15040 hr15040 => ?_)
  refine y_inlB 20 [.ref 376, yI r15040] [] [some (.ref 376), some (yI r15040)] c178_17 rfl rfl rfl rfl rfl (ycanO km162 ko376) kn162 rfl rfl ?_
  refine y_aload 1 c162_0 rfl rfl rfl ?_
  refine y_aload 2 c162_1 rfl rfl rfl ?_
  refine y_getX 5 (m 376 19) c162_2 rfl kf376_19 rfl ?_
  refine y_if 16 8 c162_5 rfl rfl (yz_eq (by omega)) (fun hb15041 => ?_) (fun hb15041 => ?_)
  · refine y_iconst 17 c162_16 rfl ?_
    refine y_iconst 18 c162_17 rfl ?_
    refine y_inlB 21 [.ref 376, yI 0, yI 1] [] [some (.ref 376), some (yI 0), some (yI 1)] c162_18 rfl rfl rfl rfl rfl (ycanO km23 ko376) kn23 rfl rfl ?_
    refine y_aload 1 c23_0 rfl rfl rfl ?_
    refine y_iload 2 c23_1 rfl rfl ?_
    refine y_if 9 5 c23_2 rfl rfl (yz_eq (by omega)) (fun hb15042 => ?_) (fun hb15042 => ?_)
    · refine y_iload 10 c23_9 rfl rfl ?_
      refine y_putI 13 c23_10 rfl kf376_57 (y_fit0 _) ?_
      have hT15043 := hT.up 376 57 1 0 4 rfl (by omega)
      have hF15044 := hF.up 376 57 1 rfl
      refine y_iload 14 c23_13 rfl rfl ?_
      refine y_ireturnK c23_14 (y_fit1 (by omega)) ?_
      refine y_ireturnK c162_21 (y_fit1 (by omega)) ?_
      refine y_if 25 23 c178_20 rfl rfl (yz_ne (by omega)) (fun hb15045 => ?_) (fun hb15045 => ?_)
      · exfalso; omega
      · refine y_iconst 24 c178_23 rfl ?_
        exact y_ireturn c178_24 (y_fit0 _) ⟨_, rfl, rfl, hF15044, (hMI.fr hT15043 (fun a q ha => (yup_ne (by rintro ⟨rfl, rfl⟩; simp [vGq] at ha))))⟩
    · exfalso; omega
  · refine y_iload 9 c162_8 rfl rfl ?_
    refine y_if 16 12 c162_9 rfl rfl (yz_eq (by omega)) (fun hb15046 => ?_) (fun hb15046 => ?_)
    · refine y_iconst 17 c162_16 rfl ?_
      refine y_iconst 18 c162_17 rfl ?_
      refine y_inlB 21 [.ref 376, yI 0, yI 1] [] [some (.ref 376), some (yI 0), some (yI 1)] c162_18 rfl rfl rfl rfl rfl (ycanO km23 ko376) kn23 rfl rfl ?_
      refine y_aload 1 c23_0 rfl rfl rfl ?_
      refine y_iload 2 c23_1 rfl rfl ?_
      refine y_if 9 5 c23_2 rfl rfl (yz_eq (by omega)) (fun hb15047 => ?_) (fun hb15047 => ?_)
      · refine y_iload 10 c23_9 rfl rfl ?_
        refine y_putI 13 c23_10 rfl kf376_57 (y_fit0 _) ?_
        have hT15048 := hT.up 376 57 1 0 4 rfl (by omega)
        have hF15049 := hF.up 376 57 1 rfl
        refine y_iload 14 c23_13 rfl rfl ?_
        refine y_ireturnK c23_14 (y_fit1 (by omega)) ?_
        refine y_ireturnK c162_21 (y_fit1 (by omega)) ?_
        refine y_if 25 23 c178_20 rfl rfl (yz_ne (by omega)) (fun hb15050 => ?_) (fun hb15050 => ?_)
        · exfalso; omega
        · refine y_iconst 24 c178_23 rfl ?_
          exact y_ireturn c178_24 (y_fit0 _) ⟨_, rfl, rfl, hF15049, (hMI.fr hT15048 (fun a q ha => (yup_ne (by rintro ⟨rfl, rfl⟩; simp [vGq] at ha))))⟩
      · exfalso; omega
    · refine y_iconst 13 c162_12 rfl ?_
      refine y_goto 17 c162_13 rfl ?_
      refine y_iconst 18 c162_17 rfl ?_
      refine y_inlB 21 [.ref 376, yI 1, yI 1] [] [some (.ref 376), some (yI 1), some (yI 1)] c162_18 rfl rfl rfl rfl rfl (ycanO km23 ko376) kn23 rfl rfl ?_
      refine y_aload 1 c23_0 rfl rfl rfl ?_
      refine y_iload 2 c23_1 rfl rfl ?_
      refine y_if 9 5 c23_2 rfl rfl (yz_eq (by omega)) (fun hb15051 => ?_) (fun hb15051 => ?_)
      · exfalso; omega
      · refine y_iconst 6 c23_5 rfl ?_
        refine y_goto 10 c23_6 rfl ?_
        refine y_putI 13 c23_10 rfl kf376_57 (y_fit0 _) ?_
        have hT15052 := hT.up 376 57 0 0 4 rfl (by omega)
        have hF15053 := hF.up 376 57 0 rfl
        refine y_iload 14 c23_13 rfl rfl ?_
        refine y_ireturnK c23_14 (y_fit1 (by omega)) ?_
        refine y_ireturnK c162_21 (y_fit1 (by omega)) ?_
        refine y_if 25 23 c178_20 rfl rfl (yz_ne (by omega)) (fun hb15054 => ?_) (fun hb15054 => ?_)
        · have es15055 : (yup m 376 57 0) 387 1 = m 387 1 := rfl
          refine y_aload 26 c178_25 rfl rfl rfl ?_
          refine y_getR 29 c178_26 rfl kf376_38 ?_
          refine y_iconst 31 c178_29 rfl ?_
          refine y_aload 32 c178_31 rfl rfl rfl ?_
          refine y_getX 35 (m 376 18) c178_32 rfl kf376_18 rfl ?_
          refine y_top 1 (by omega) ?_
          refine y_imul 36 c178_35 rfl ?_
          refine y_top 8 (by decide) ?_
          refine y_iload 37 c178_36 rfl rfl ?_
          refine y_iadd 38 c178_37 rfl ?_
          refine y_iaT 39 ((-1)) 47 c178_38 rfl ka401 (by omega) hT15052 rfl (fun v15056 hv15056 gv15056 => ?_)
          have hG0 : GQ 1 m := by have h0 := hMI.2; rcases h0 with q | ⟨q1, q2⟩ | ⟨q1, q2⟩ <;> first | exact q2 | (exfalso; omega)
          have hG1 : GQ 1 (yup m 376 57 0) := hG0.fr hT (by decide) (fun a q ha => (yup_ne (by rintro ⟨rfl, rfl⟩; simp [vGq] at ha)))
          have gv15056_ : 0 ≤ v15056 := by have h0 := hG1.2.2.2.2.2.2.2.1 a.toNat (by omega); rw [show 8 * 1 + a.toNat = (8 + a).toNat by omega, hv15056] at h0; exact h0
          refine y_istore 40 c178_39 rfl rfl ?_
          refine y_iconst 41 c178_40 rfl ?_
          refine y_istore 42 c178_41 rfl rfl ?_
          have es15057 : (yup m 376 57 0) 388 1 = m 388 1 := rfl
          have es15058 : (yup m 376 57 0) 376 18 = m 376 18 := rfl
          exact t178a_1 hT15052 (by omega) hG1 (by omega) (by omega) (fun r hr => ⟨_, rfl, rfl, hF15053, (hMI.fr hT15052 (fun a q ha => (yup_ne (by rintro ⟨rfl, rfl⟩; simp [vGq] at ha))))⟩) ((yup m 376 57 0) 388 1 - 0).toNat 0 (by omega) (by omega)
        · exfalso; omega
end
section
/-! CONTRACTS: the model, cut. Printed by wip/whole/gen9j.py -/
def qK (nn : Nat) (m : yM) (a : Int) : xO → yM → Nat → Prop := fun o m' n' => n' = nn ∧ Ty gT m' ∧ ((¬ (0 ≤ a ∧ a ≤ m 376 1) ∧ o = .inl (some (yI 0)) ∧ m' = yup m 376 57 1) ∨ ((0 ≤ a ∧ a ≤ m 376 1) ∧ o = .inl (some (yI (m 376 1 - a))) ∧ m' = yup (yup m 376 57 0) 376 1 (m 376 1 - a)))
set_option maxRecDepth 100000 in
theorem t29 {L : Nat} {xs : Nat → Int32} {d nn : Nat} {m : yM} (hT : Ty gT m) {a : Int} (ra : -2147483648 ≤ a ∧ a < 2147483648) : YC (gZ L xs) (d + 1) 29 [.ref 376, yI a] m nn (qK nn m a) := by
  have tb1 := hT.atp 376 1 0 320 rfl
  refine YC.mkB [some (.ref 376), some (yI a)] kn29 rfl rfl ?_
  refine y_aload 1 c29_0 rfl rfl rfl ?_
  refine y_iload 2 c29_1 rfl rfl ?_
  refine y_iconst 3 c29_2 rfl ?_
  refine y_aload 4 c29_3 rfl rfl rfl ?_
  refine y_getX 7 (m 376 1) c29_4 rfl kf376_1 rfl ?_
  refine y_callP 10 [yI a, yI 0, yI (m 376 1)] [.ref 376] c29_7 rfl rfl rfl rfl rfl (ycanS km22) (t22m (by omega) (by omega) (by omega)) (fun r15059 hr15059 => ?_)
  refine y_iconst 11 c29_10 rfl ?_
  refine y_inlB 14 [.ref 376, yI r15059, yI 1] [] [some (.ref 376), some (yI r15059), some (yI 1)] c29_11 rfl rfl rfl rfl rfl (ycanO km23 ko376) kn23 rfl rfl ?_
  refine y_aload 1 c23_0 rfl rfl rfl ?_
  refine y_iload 2 c23_1 rfl rfl ?_
  refine y_if 9 5 c23_2 rfl rfl (yz_eq (by omega)) (fun hb15060 => ?_) (fun hb15060 => ?_)
  · refine y_iload 10 c23_9 rfl rfl ?_
    refine y_putI 13 c23_10 rfl kf376_57 (y_fit0 _) ?_
    have hT15061 := hT.up 376 57 1 0 4 rfl (by omega)
    refine y_iload 14 c23_13 rfl rfl ?_
    refine y_ireturnK c23_14 (y_fit1 (by omega)) ?_
    refine y_if 19 17 c29_14 rfl rfl (yz_ne (by omega)) (fun hb15063 => ?_) (fun hb15063 => ?_)
    · exfalso; omega
    · refine y_iconst 18 c29_17 rfl ?_
      exact y_ireturn c29_18 (y_fit0 _) ⟨rfl, hT15061, Or.inl ⟨by omega, rfl, rfl⟩⟩
  · refine y_iconst 6 c23_5 rfl ?_
    refine y_goto 10 c23_6 rfl ?_
    refine y_putI 13 c23_10 rfl kf376_57 (y_fit0 _) ?_
    have hT15064 := hT.up 376 57 0 0 4 rfl (by omega)
    refine y_iload 14 c23_13 rfl rfl ?_
    refine y_ireturnK c23_14 (y_fit1 (by omega)) ?_
    refine y_if 19 17 c29_14 rfl rfl (yz_ne (by omega)) (fun hb15066 => ?_) (fun hb15066 => ?_)
    · refine y_aload 20 c29_19 rfl rfl rfl ?_
      refine y_dup 21 c29_20 rfl rfl ?_
      refine y_getX 24 (m 376 1) c29_21 rfl kf376_1 rfl ?_
      refine y_iload 25 c29_24 rfl rfl ?_
      refine y_isub 26 c29_25 rfl ?_
      refine y_putI 29 c29_26 rfl kf376_1 (y_fit0 _) ?_
      have hT15067 := hT15064.up 376 1 ((m 376 1) - a) 0 320 rfl (by omega)
      refine y_aload 30 c29_29 rfl rfl rfl ?_
      refine y_getX 33 ((m 376 1) - a) c29_30 rfl kf376_1 rfl ?_
      exact y_ireturn c29_33 (y_fit0 _) ⟨rfl, hT15067, Or.inr ⟨by omega, rfl, rfl⟩⟩
    · exfalso; omega
end

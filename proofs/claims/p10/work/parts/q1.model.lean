/-! CONTRACTS: the model, run. Printed by wip/whole/gen9i.py -/
theorem wRn_G3 {p : Nat} : ∀ a q, vGq p a q = true → wRn a q = false := wRn_G
set_option maxRecDepth 100000 in
theorem t211s {L : Nat} {xs : Nat → Int32} {d nn : Nat} {m : yM} {Q : xO → yM → Nat → Prop} (hT : Ty gT m) (ho : ∀ (x1 : Option Value) (mi : yM), Ty gT mi → Fr (wRo 408) m mi → YW (gZ L xs) 211 (d + 6) 50 [some (.ref 376), x1] [] mi nn Q) : ∀ (km : Nat) (i : Int) (mi : yM), 576 - i = km → 0 ≤ i ∧ i ≤ 576 → Ty gT mi → Fr (wRo 408) m mi → YW (gZ L xs) 211 (d + 6) 30 [some (.ref 376), some (yI i)] [] mi nn (Q) := by
  intro km
  induction km using Nat.strongRecOn with
  | ind km ih =>
    intro i mi hk hi hTi hFi
    refine y_iload 31 c211_30 rfl rfl ?_
    refine y_iconst 34 c211_31 rfl ?_
    refine y_icmp 50 37 c211_34 rfl rfl (yc_ge (by omega) (by omega)) (fun hb14274 => ?_) (fun hb14274 => ?_)
    · exact ho _ _ hTi hFi
    · refine y_aload 38 c211_37 rfl rfl rfl ?_
      refine y_getR 41 c211_38 rfl kf376_48 ?_
      refine y_iload 42 c211_41 rfl rfl ?_
      refine y_iconst 43 c211_42 rfl ?_
      refine y_iastore 44 c211_43 rfl ka408 (by omega) (y_nar1 (by omega)) ?_
      have hT14275 := hTi.up 408 i.toNat 0 0 1 rfl (by omega)
      have hF14276 := hFi.up 408 i.toNat 0 rfl
      refine y_iinc 47 c211_44 rfl rfl rfl ?_
      refine y_goto 30 c211_47 rfl ?_
      exact ih (576 - (i + 1) : Int).toNat (by omega) (i + 1)  _ (by omega) (by omega) hT14275 hF14276
set_option maxRecDepth 100000 in
theorem t123y_0 {L : Nat} {xs : Nat → Int32} {d nn : Nat} {m : yM} (hT : Ty gT m) (hU : UX 0 m (m 383 0)) (hc1 : 1 ≤ m 383 0) : ∀ (km : Nat) (i : Int), m 384 0 - i = km → 0 ≤ i ∧ i ≤ m 384 0 → (∀ j : Nat, (j : Int) < i → ¬ (m 396 (10 * 0 + j) = 0 ∧ m 395 (10 * 0 + j) = 204)) → YW (gZ L xs) 123 d 11 [some (.ref 376), some (yI 0), some (yI 0), some (yI 204), some (yI 0), some (yI 0), some (yI i)] [] m nn (qP m nn (fun r => (r = -1 ∧ NF 0 m) ∨ FI 0 m r)) := by
  intro km
  induction km using Nat.strongRecOn with
  | ind km ih =>
    intro i hk hi hj
    have tb383 := hT.atp 383 0 0 6 rfl
    have tb384 := hT.atp 384 0 0 10 rfl
    have tb385 := hT.atp 385 0 0 8 rfl
    have tb386 := hT.atp 386 0 0 12 rfl
    have tb387 := hT.atp 387 0 0 8 rfl
    have tb388 := hT.atp 388 0 0 12 rfl
    have tb389 := hT.atp 389 0 0 48 rfl
    have tb390 := hT.atp 390 0 0 125 rfl
    have tb392 := hT.atp 392 0 (-1) 5 rfl
    have hu0 : m 392 0 < 0 := hU 0 (by omega)
    refine y_iload 13 c123_11 rfl rfl ?_
    refine y_aload 14 c123_13 rfl rfl rfl ?_
    refine y_getR 17 c123_14 rfl kf376_21 ?_
    refine y_iload 18 c123_17 rfl rfl ?_
    refine y_iaX 19 (m 384 0) c123_18 rfl ka384 (by decide) rfl ?_
    refine y_icmp 64 22 c123_19 rfl rfl (yc_ge (by omega) (by omega)) (fun hb14277 => ?_) (fun hb14277 => ?_)
    · refine y_iload 66 c123_64 rfl rfl ?_
      refine y_if 73 69 c123_66 rfl rfl (yz_eq (by omega)) (fun hb14278 => ?_) (fun hb14278 => ?_)
      · refine y_aload 74 c123_73 rfl rfl rfl ?_
        refine y_getR 77 c123_74 rfl kf376_29 ?_
        refine y_iconst 79 c123_77 rfl ?_
        refine y_iload 80 c123_79 rfl rfl ?_
        refine y_imul 81 c123_80 rfl ?_
        refine y_top 0 (by decide) ?_
        refine y_iload 83 c123_81 rfl rfl ?_
        refine y_iadd 84 c123_83 rfl ?_
        refine y_top 0 (by decide) ?_
        refine y_iaX 85 (m 392 0) c123_84 rfl ka392 (by decide) rfl ?_
        refine y_istore 87 c123_85 rfl rfl ?_
        refine y_goto 3 c123_87 rfl ?_
        refine y_iload 5 c123_3 rfl rfl ?_
        refine y_if 90 8 c123_5 rfl rfl (yz_lt (by omega)) (fun hb14279 => ?_) (fun hb14279 => ?_)
        · refine y_iconst 91 c123_90 rfl ?_
          exact y_retP c123_91 (y_fit0 _) (Or.inl ⟨rfl, fun j hj2 => hj j (by omega)⟩)
        · exfalso; omega
      · exfalso; omega
    · refine y_aload 23 c123_22 rfl rfl rfl ?_
      refine y_getR 26 c123_23 rfl kf376_33 ?_
      refine y_iconst 28 c123_26 rfl ?_
      refine y_iload 29 c123_28 rfl rfl ?_
      refine y_imul 30 c123_29 rfl ?_
      refine y_top 0 (by decide) ?_
      refine y_iload 32 c123_30 rfl rfl ?_
      refine y_iadd 33 c123_32 rfl ?_
      refine y_iaT 34 0 5 c123_33 rfl ka396 (by omega) hT rfl (fun v14280 hv14280 gv14280 => ?_)
      have gv14280_ : m 396 (10 * 0 + i.toNat) = v14280 := by rw [show 10 * 0 + i.toNat = (0 + i).toNat by omega]; exact hv14280
      refine y_iload 36 c123_34 rfl rfl ?_
      refine y_icmp 58 39 c123_36 rfl rfl (yc_ne (by omega) (by omega)) (fun hb14281 => ?_) (fun hb14281 => ?_)
      · refine y_iinc 61 c123_58 rfl rfl rfl ?_
        refine y_goto 11 c123_61 rfl ?_
        exact ih (m 384 0 - (i + 1) : Int).toNat (by omega) (i + 1)   (by omega) (by omega) (fun j hj2 => by
          by_cases e : (j : Int) < i
          · exact hj j e
          · have ej : j = i.toNat := (by omega)
            subst ej
            intro hh
            omega)
      · refine y_aload 40 c123_39 rfl rfl rfl ?_
        refine y_getR 43 c123_40 rfl kf376_32 ?_
        refine y_iconst 45 c123_43 rfl ?_
        refine y_iload 46 c123_45 rfl rfl ?_
        refine y_imul 47 c123_46 rfl ?_
        refine y_top 0 (by decide) ?_
        refine y_iload 49 c123_47 rfl rfl ?_
        refine y_iadd 50 c123_49 rfl ?_
        refine y_iaT 51 ((-2147483648)) 2147483647 c123_50 rfl ka395 (by omega) hT rfl (fun v14282 hv14282 gv14282 => ?_)
        have gv14282_ : m 395 (10 * 0 + i.toNat) = v14282 := by rw [show 10 * 0 + i.toNat = (0 + i).toNat by omega]; exact hv14282
        refine y_iload 52 c123_51 rfl rfl ?_
        refine y_icmp 58 55 c123_52 rfl rfl (yc_ne (by omega) (by omega)) (fun hb14283 => ?_) (fun hb14283 => ?_)
        · refine y_iinc 61 c123_58 rfl rfl rfl ?_
          refine y_goto 11 c123_61 rfl ?_
          exact ih (m 384 0 - (i + 1) : Int).toNat (by omega) (i + 1)   (by omega) (by omega) (fun j hj2 => by
          by_cases e : (j : Int) < i
          · exact hj j e
          · have ej : j = i.toNat := (by omega)
            subst ej
            intro hh
            omega)
        · refine y_iload 57 c123_55 rfl rfl ?_
          exact y_retP c123_57 (y_fit0 _) (Or.inr ⟨by omega, by omega, by omega, by omega, hj⟩)
set_option maxRecDepth 100000 in
theorem t123x_0 {L : Nat} {xs : Nat → Int32} {d nn : Nat} {m : yM} (hT : Ty gT m) (hU : UX 0 m (m 383 0)) (hc1 : 1 ≤ m 383 0) : YC (gZ L xs) d 123 [.ref 376, yI 0, yI 0, yI 204, yI 0] m nn (qP m nn (fun r => (r = -1 ∧ NF 0 m) ∨ FI 0 m r)) := by
  have tb383 := hT.atp 383 0 0 6 rfl
  have tb384 := hT.atp 384 0 0 10 rfl
  have tb385 := hT.atp 385 0 0 8 rfl
  have tb386 := hT.atp 386 0 0 12 rfl
  have tb387 := hT.atp 387 0 0 8 rfl
  have tb388 := hT.atp 388 0 0 12 rfl
  have tb389 := hT.atp 389 0 0 48 rfl
  have tb390 := hT.atp 390 0 0 125 rfl
  refine YC.mkB [some (.ref 376), some (yI 0), some (yI 0), some (yI 204), some (yI 0), none, none] kn123 rfl rfl ?_
  refine y_iload 1 c123_0 rfl rfl ?_
  refine y_istore 3 c123_1 rfl rfl ?_
  refine y_iload 5 c123_3 rfl rfl ?_
  refine y_if 90 8 c123_5 rfl rfl (yz_lt (by omega)) (fun hb14284 => ?_) (fun hb14284 => ?_)
  · exfalso; omega
  · refine y_iconst 9 c123_8 rfl ?_
    refine y_istore 11 c123_9 rfl rfl ?_
    exact t123y_0 hT hU hc1 (m 384 0 - 0).toNat 0 (by omega) (by omega) (fun j hj2 => by omega)
set_option maxRecDepth 100000 in
theorem t142x_0 {L : Nat} {xs : Nat → Int32} {d nn : Nat} {m : yM} (hT : Ty gT m) (hU : UX 0 m (m 383 0)) (hc1 : 1 ≤ m 383 0) : YC (gZ L xs) (d + 1) 142 [.ref 376, yI 0, yI 0, yI 204, yI 0] m nn (qP m nn (fun r => SG 0 m r ∨ (r = -1 ∧ ∀ s, ¬ SG 0 m s))) := by
  have tb383 := hT.atp 383 0 0 6 rfl
  have tb384 := hT.atp 384 0 0 10 rfl
  have tb385 := hT.atp 385 0 0 8 rfl
  have tb386 := hT.atp 386 0 0 12 rfl
  have tb387 := hT.atp 387 0 0 8 rfl
  have tb388 := hT.atp 388 0 0 12 rfl
  have tb389 := hT.atp 389 0 0 48 rfl
  have tb390 := hT.atp 390 0 0 125 rfl
  refine YC.mkB [some (.ref 376), some (yI 0), some (yI 0), some (yI 204), some (yI 0), none] kn142 rfl rfl ?_
  refine y_aload 1 c142_0 rfl rfl rfl ?_
  refine y_iload 2 c142_1 rfl rfl ?_
  refine y_iload 3 c142_2 rfl rfl ?_
  refine y_iload 4 c142_3 rfl rfl ?_
  refine y_iconst 5 c142_4 rfl ?_
  refine y_callP 8 [.ref 376, yI 0, yI 0, yI 204, yI 0] [] c142_5 rfl rfl rfl rfl rfl (ycanO km123 ko376) (t123x_0 hT hU hc1) (fun r14285 hr14285 => ?_)
  have gr14285 : -1 ≤ r14285 ∧ r14285 < m 384 0 := by
    rcases hr14285 with z | z
    · omega
    · exact ⟨by have := z.1; omega, z.2.1⟩
  refine y_istore 10 c142_8 rfl rfl ?_
  refine y_iload 12 c142_10 rfl rfl ?_
  refine y_if 37 15 c142_12 rfl rfl (yz_lt (by omega)) (fun hb14286 => ?_) (fun hb14286 => ?_)
  · refine y_iconst 38 c142_37 rfl ?_
    exact y_retP c142_38 (y_fit0 _) (Or.inr ⟨rfl, fun s hs => by rcases hr14285 with z | z; exact z.2.no hs.1; exact absurd z.1 (by omega)⟩)
  · refine y_aload 16 c142_15 rfl rfl rfl ?_
    refine y_getR 19 c142_16 rfl kf376_34 ?_
    refine y_iconst 21 c142_19 rfl ?_
    refine y_iload 22 c142_21 rfl rfl ?_
    refine y_imul 23 c142_22 rfl ?_
    refine y_top 0 (by decide) ?_
    refine y_iload 25 c142_23 rfl rfl ?_
    refine y_iadd 26 c142_25 rfl ?_
    refine y_iaT 27 0 2 c142_26 rfl ka397 (by omega) hT rfl (fun v14287 hv14287 gv14287 => ?_)
    refine y_iload 29 c142_27 rfl rfl ?_
    refine y_icmp 37 32 c142_29 rfl rfl (yc_ne (by omega) (by omega)) (fun hb14288 => ?_) (fun hb14288 => ?_)
    · refine y_iconst 38 c142_37 rfl ?_
      have hfi : FI 0 m r14285 := hr14285.resolve_left (by omega)
      have h97 : m 397 (10 * 0 + r14285.toNat) = v14287 := by rw [show 10 * 0 + r14285.toNat = (0 + r14285).toNat by omega]; exact hv14287
      exact y_retP c142_38 (y_fit0 _) (Or.inr ⟨rfl, fun s hs => by have e := hfi.uniq hs.1; subst e; have := hs.2; omega⟩)
    · refine y_iload 34 c142_32 rfl rfl ?_
      refine y_goto 38 c142_34 rfl ?_
      have hfi : FI 0 m r14285 := hr14285.resolve_left (by omega)
      have h97 : m 397 (10 * 0 + r14285.toNat) = v14287 := by rw [show 10 * 0 + r14285.toNat = (0 + r14285).toNat by omega]; exact hv14287
      exact y_retP c142_38 (y_fit0 _) (Or.inl ⟨hfi, by omega⟩)
set_option maxRecDepth 100000 in
theorem t143x_0 {L : Nat} {xs : Nat → Int32} {d nn : Nat} {m : yM} (hT : Ty gT m) (hn : m 376 18 = 0) (hU : UX 0 m (m 383 0)) (hc1 : 1 ≤ m 383 0) : YC (gZ L xs) (d + 2) 143 [.ref 376] m nn (qP m nn (fun r => SG 0 m r ∨ (r = -1 ∧ ∀ s, ¬ SG 0 m s))) := by
  have tb383 := hT.atp 383 0 0 6 rfl
  have tb384 := hT.atp 384 0 0 10 rfl
  have tb385 := hT.atp 385 0 0 8 rfl
  have tb386 := hT.atp 386 0 0 12 rfl
  have tb387 := hT.atp 387 0 0 8 rfl
  have tb388 := hT.atp 388 0 0 12 rfl
  have tb389 := hT.atp 389 0 0 48 rfl
  have tb390 := hT.atp 390 0 0 125 rfl
  refine YC.mkB [some (.ref 376)] kn143 rfl rfl ?_
  refine y_aload 1 c143_0 rfl rfl rfl ?_
  refine y_aload 2 c143_1 rfl rfl rfl ?_
  refine y_getX 5 (m 376 18) c143_2 rfl kf376_18 rfl ?_
  have tb14289 := hT.atp 376 18 0 1 rfl
  refine y_top 0 (by omega) ?_
  refine y_iconst 6 c143_5 rfl ?_
  refine y_iconst 8 c143_6 rfl ?_
  refine y_iconst 10 c143_8 rfl ?_
  refine y_iconst 11 c143_10 rfl ?_
  refine y_iconst 12 c143_11 rfl ?_
  refine y_iconst 13 c143_12 rfl ?_
  refine y_iconst 14 c143_13 rfl ?_
  refine y_inlB 17 [yI 103, yI 111, yI 0, yI 0, yI 0, yI 0] [yI 0, yI 0, .ref 376] [some (yI 103), some (yI 111), some (yI 0), some (yI 0), some (yI 0), some (yI 0)] c143_14 rfl rfl rfl rfl rfl (ycanS km101) kn101 rfl rfl ?_
  refine y_iconst 1 c101_0 rfl ?_
  refine y_iload 2 c101_1 rfl rfl ?_
  refine y_inlB 5 [yI 0, yI 103] [] [some (yI 0), some (yI 103)] c101_2 rfl rfl rfl rfl rfl (ycanS km100) kn100 rfl rfl ?_
  refine y_iload 1 c100_0 rfl rfl ?_
  refine y_if 8 4 c100_1 rfl rfl (yz_ne (by omega)) (fun hb14290 => ?_) (fun hb14290 => ?_)
  · refine y_iconst 10 c100_8 rfl ?_
    refine y_iload 11 c100_10 rfl rfl ?_
    refine y_imul 12 c100_11 rfl ?_
    refine y_top 0 (by decide) ?_
    refine y_iload 13 c100_12 rfl rfl ?_
    refine y_iadd 14 c100_13 rfl ?_
    refine y_top 103 (by decide) ?_
    refine y_iconst 16 c100_14 rfl ?_
    refine y_isub 17 c100_16 rfl ?_
    refine y_top 6 (by decide) ?_
    refine y_iconst 18 c100_17 rfl ?_
    refine y_iadd 19 c100_18 rfl ?_
    refine y_top 7 (by decide) ?_
    refine y_ireturnK c100_19 (y_fit0 _) ?_
    refine y_iload 6 c101_5 rfl rfl ?_
    refine y_inlB 9 [yI 7, yI 111] [] [some (yI 7), some (yI 111)] c101_6 rfl rfl rfl rfl rfl (ycanS km100) kn100 rfl rfl ?_
    refine y_iload 1 c100_0 rfl rfl ?_
    refine y_if 8 4 c100_1 rfl rfl (yz_ne (by omega)) (fun hb14291 => ?_) (fun hb14291 => ?_)
    · refine y_iconst 10 c100_8 rfl ?_
      refine y_iload 11 c100_10 rfl rfl ?_
      refine y_imul 12 c100_11 rfl ?_
      refine y_top 189 (by decide) ?_
      refine y_iload 13 c100_12 rfl rfl ?_
      refine y_iadd 14 c100_13 rfl ?_
      refine y_top 300 (by decide) ?_
      refine y_iconst 16 c100_14 rfl ?_
      refine y_isub 17 c100_16 rfl ?_
      refine y_top 203 (by decide) ?_
      refine y_iconst 18 c100_17 rfl ?_
      refine y_iadd 19 c100_18 rfl ?_
      refine y_top 204 (by decide) ?_
      refine y_ireturnK c100_19 (y_fit0 _) ?_
      refine y_iload 10 c101_9 rfl rfl ?_
      refine y_inlB 13 [yI 204, yI 0] [] [some (yI 204), some (yI 0)] c101_10 rfl rfl rfl rfl rfl (ycanS km100) kn100 rfl rfl ?_
      refine y_iload 1 c100_0 rfl rfl ?_
      refine y_if 8 4 c100_1 rfl rfl (yz_ne (by omega)) (fun hb14292 => ?_) (fun hb14292 => ?_)
      · exfalso; omega
      · refine y_iload 5 c100_4 rfl rfl ?_
        refine y_goto 19 c100_5 rfl ?_
        refine y_ireturnK c100_19 (y_fit0 _) ?_
        refine y_iload 14 c101_13 rfl rfl ?_
        refine y_inlB 17 [yI 204, yI 0] [] [some (yI 204), some (yI 0)] c101_14 rfl rfl rfl rfl rfl (ycanS km100) kn100 rfl rfl ?_
        refine y_iload 1 c100_0 rfl rfl ?_
        refine y_if 8 4 c100_1 rfl rfl (yz_ne (by omega)) (fun hb14293 => ?_) (fun hb14293 => ?_)
        · exfalso; omega
        · refine y_iload 5 c100_4 rfl rfl ?_
          refine y_goto 19 c100_5 rfl ?_
          refine y_ireturnK c100_19 (y_fit0 _) ?_
          refine y_iload 19 c101_17 rfl rfl ?_
          refine y_inlB 22 [yI 204, yI 0] [] [some (yI 204), some (yI 0)] c101_19 rfl rfl rfl rfl rfl (ycanS km100) kn100 rfl rfl ?_
          refine y_iload 1 c100_0 rfl rfl ?_
          refine y_if 8 4 c100_1 rfl rfl (yz_ne (by omega)) (fun hb14294 => ?_) (fun hb14294 => ?_)
          · exfalso; omega
          · refine y_iload 5 c100_4 rfl rfl ?_
            refine y_goto 19 c100_5 rfl ?_
            refine y_ireturnK c100_19 (y_fit0 _) ?_
            refine y_iload 24 c101_22 rfl rfl ?_
            refine y_inlB 27 [yI 204, yI 0] [] [some (yI 204), some (yI 0)] c101_24 rfl rfl rfl rfl rfl (ycanS km100) kn100 rfl rfl ?_
            refine y_iload 1 c100_0 rfl rfl ?_
            refine y_if 8 4 c100_1 rfl rfl (yz_ne (by omega)) (fun hb14295 => ?_) (fun hb14295 => ?_)
            · exfalso; omega
            · refine y_iload 5 c100_4 rfl rfl ?_
              refine y_goto 19 c100_5 rfl ?_
              refine y_ireturnK c100_19 (y_fit0 _) ?_
              refine y_ireturnK c101_27 (y_fit0 _) ?_
              refine y_iconst 18 c143_17 rfl ?_
              refine y_callP 21 [.ref 376, yI 0, yI 0, yI 204, yI 0] [] c143_18 rfl rfl rfl rfl rfl (ycanO km142 ko376) (t142x_0 hT hU hc1) (fun r14296 hr14296 => ?_)
              exact y_retP c143_21 (y_fit0 _) hr14296
    · exfalso; omega
  · exfalso; omega
set_option maxRecDepth 100000 in
theorem t123y_1 {L : Nat} {xs : Nat → Int32} {d nn : Nat} {m : yM} (hT : Ty gT m) (hU : UX 1 m (m 383 1)) (hc1 : 1 ≤ m 383 1) : ∀ (km : Nat) (i : Int), m 384 1 - i = km → 0 ≤ i ∧ i ≤ m 384 1 → (∀ j : Nat, (j : Int) < i → ¬ (m 396 (10 * 1 + j) = 0 ∧ m 395 (10 * 1 + j) = 204)) → YW (gZ L xs) 123 d 11 [some (.ref 376), some (yI 1), some (yI 0), some (yI 204), some (yI 0), some (yI 0), some (yI i)] [] m nn (qP m nn (fun r => (r = -1 ∧ NF 1 m) ∨ FI 1 m r)) := by
  intro km
  induction km using Nat.strongRecOn with
  | ind km ih =>
    intro i hk hi hj
    have tb383 := hT.atp 383 1 0 6 rfl
    have tb384 := hT.atp 384 1 0 10 rfl
    have tb385 := hT.atp 385 1 0 8 rfl
    have tb386 := hT.atp 386 1 0 12 rfl
    have tb387 := hT.atp 387 1 0 8 rfl
    have tb388 := hT.atp 388 1 0 12 rfl
    have tb389 := hT.atp 389 1 0 48 rfl
    have tb390 := hT.atp 390 1 0 125 rfl
    have tb392 := hT.atp 392 6 (-1) 5 rfl
    have hu0 : m 392 6 < 0 := hU 0 (by omega)
    refine y_iload 13 c123_11 rfl rfl ?_
    refine y_aload 14 c123_13 rfl rfl rfl ?_
    refine y_getR 17 c123_14 rfl kf376_21 ?_
    refine y_iload 18 c123_17 rfl rfl ?_
    refine y_iaX 19 (m 384 1) c123_18 rfl ka384 (by decide) rfl ?_
    refine y_icmp 64 22 c123_19 rfl rfl (yc_ge (by omega) (by omega)) (fun hb14362 => ?_) (fun hb14362 => ?_)
    · refine y_iload 66 c123_64 rfl rfl ?_
      refine y_if 73 69 c123_66 rfl rfl (yz_eq (by omega)) (fun hb14363 => ?_) (fun hb14363 => ?_)
      · refine y_aload 74 c123_73 rfl rfl rfl ?_
        refine y_getR 77 c123_74 rfl kf376_29 ?_
        refine y_iconst 79 c123_77 rfl ?_
        refine y_iload 80 c123_79 rfl rfl ?_
        refine y_imul 81 c123_80 rfl ?_
        refine y_top 6 (by decide) ?_
        refine y_iload 83 c123_81 rfl rfl ?_
        refine y_iadd 84 c123_83 rfl ?_
        refine y_top 6 (by decide) ?_
        refine y_iaX 85 (m 392 6) c123_84 rfl ka392 (by decide) rfl ?_
        refine y_istore 87 c123_85 rfl rfl ?_
        refine y_goto 3 c123_87 rfl ?_
        refine y_iload 5 c123_3 rfl rfl ?_
        refine y_if 90 8 c123_5 rfl rfl (yz_lt (by omega)) (fun hb14364 => ?_) (fun hb14364 => ?_)
        · refine y_iconst 91 c123_90 rfl ?_
          exact y_retP c123_91 (y_fit0 _) (Or.inl ⟨rfl, fun j hj2 => hj j (by omega)⟩)
        · exfalso; omega
      · exfalso; omega
    · refine y_aload 23 c123_22 rfl rfl rfl ?_
      refine y_getR 26 c123_23 rfl kf376_33 ?_
      refine y_iconst 28 c123_26 rfl ?_
      refine y_iload 29 c123_28 rfl rfl ?_
      refine y_imul 30 c123_29 rfl ?_
      refine y_top 10 (by decide) ?_
      refine y_iload 32 c123_30 rfl rfl ?_
      refine y_iadd 33 c123_32 rfl ?_
      refine y_iaT 34 0 5 c123_33 rfl ka396 (by omega) hT rfl (fun v14365 hv14365 gv14365 => ?_)
      have gv14365_ : m 396 (10 * 1 + i.toNat) = v14365 := by rw [show 10 * 1 + i.toNat = (10 + i).toNat by omega]; exact hv14365
      refine y_iload 36 c123_34 rfl rfl ?_
      refine y_icmp 58 39 c123_36 rfl rfl (yc_ne (by omega) (by omega)) (fun hb14366 => ?_) (fun hb14366 => ?_)
      · refine y_iinc 61 c123_58 rfl rfl rfl ?_
        refine y_goto 11 c123_61 rfl ?_
        exact ih (m 384 1 - (i + 1) : Int).toNat (by omega) (i + 1)   (by omega) (by omega) (fun j hj2 => by
          by_cases e : (j : Int) < i
          · exact hj j e
          · have ej : j = i.toNat := (by omega)
            subst ej
            intro hh
            omega)
      · refine y_aload 40 c123_39 rfl rfl rfl ?_
        refine y_getR 43 c123_40 rfl kf376_32 ?_
        refine y_iconst 45 c123_43 rfl ?_
        refine y_iload 46 c123_45 rfl rfl ?_
        refine y_imul 47 c123_46 rfl ?_
        refine y_top 10 (by decide) ?_
        refine y_iload 49 c123_47 rfl rfl ?_
        refine y_iadd 50 c123_49 rfl ?_
        refine y_iaT 51 ((-2147483648)) 2147483647 c123_50 rfl ka395 (by omega) hT rfl (fun v14367 hv14367 gv14367 => ?_)
        have gv14367_ : m 395 (10 * 1 + i.toNat) = v14367 := by rw [show 10 * 1 + i.toNat = (10 + i).toNat by omega]; exact hv14367
        refine y_iload 52 c123_51 rfl rfl ?_
        refine y_icmp 58 55 c123_52 rfl rfl (yc_ne (by omega) (by omega)) (fun hb14368 => ?_) (fun hb14368 => ?_)
        · refine y_iinc 61 c123_58 rfl rfl rfl ?_
          refine y_goto 11 c123_61 rfl ?_
          exact ih (m 384 1 - (i + 1) : Int).toNat (by omega) (i + 1)   (by omega) (by omega) (fun j hj2 => by
          by_cases e : (j : Int) < i
          · exact hj j e
          · have ej : j = i.toNat := (by omega)
            subst ej
            intro hh
            omega)
        · refine y_iload 57 c123_55 rfl rfl ?_
          exact y_retP c123_57 (y_fit0 _) (Or.inr ⟨by omega, by omega, by omega, by omega, hj⟩)
set_option maxRecDepth 100000 in
theorem t123x_1 {L : Nat} {xs : Nat → Int32} {d nn : Nat} {m : yM} (hT : Ty gT m) (hU : UX 1 m (m 383 1)) (hc1 : 1 ≤ m 383 1) : YC (gZ L xs) d 123 [.ref 376, yI 1, yI 0, yI 204, yI 0] m nn (qP m nn (fun r => (r = -1 ∧ NF 1 m) ∨ FI 1 m r)) := by
  have tb383 := hT.atp 383 1 0 6 rfl
  have tb384 := hT.atp 384 1 0 10 rfl
  have tb385 := hT.atp 385 1 0 8 rfl
  have tb386 := hT.atp 386 1 0 12 rfl
  have tb387 := hT.atp 387 1 0 8 rfl
  have tb388 := hT.atp 388 1 0 12 rfl
  have tb389 := hT.atp 389 1 0 48 rfl
  have tb390 := hT.atp 390 1 0 125 rfl
  refine YC.mkB [some (.ref 376), some (yI 1), some (yI 0), some (yI 204), some (yI 0), none, none] kn123 rfl rfl ?_
  refine y_iload 1 c123_0 rfl rfl ?_
  refine y_istore 3 c123_1 rfl rfl ?_
  refine y_iload 5 c123_3 rfl rfl ?_
  refine y_if 90 8 c123_5 rfl rfl (yz_lt (by omega)) (fun hb14369 => ?_) (fun hb14369 => ?_)
  · exfalso; omega
  · refine y_iconst 9 c123_8 rfl ?_
    refine y_istore 11 c123_9 rfl rfl ?_
    exact t123y_1 hT hU hc1 (m 384 1 - 0).toNat 0 (by omega) (by omega) (fun j hj2 => by omega)
set_option maxRecDepth 100000 in
theorem t142x_1 {L : Nat} {xs : Nat → Int32} {d nn : Nat} {m : yM} (hT : Ty gT m) (hU : UX 1 m (m 383 1)) (hc1 : 1 ≤ m 383 1) : YC (gZ L xs) (d + 1) 142 [.ref 376, yI 1, yI 0, yI 204, yI 0] m nn (qP m nn (fun r => SG 1 m r ∨ (r = -1 ∧ ∀ s, ¬ SG 1 m s))) := by
  have tb383 := hT.atp 383 1 0 6 rfl
  have tb384 := hT.atp 384 1 0 10 rfl
  have tb385 := hT.atp 385 1 0 8 rfl
  have tb386 := hT.atp 386 1 0 12 rfl
  have tb387 := hT.atp 387 1 0 8 rfl
  have tb388 := hT.atp 388 1 0 12 rfl
  have tb389 := hT.atp 389 1 0 48 rfl
  have tb390 := hT.atp 390 1 0 125 rfl
  refine YC.mkB [some (.ref 376), some (yI 1), some (yI 0), some (yI 204), some (yI 0), none] kn142 rfl rfl ?_
  refine y_aload 1 c142_0 rfl rfl rfl ?_
  refine y_iload 2 c142_1 rfl rfl ?_
  refine y_iload 3 c142_2 rfl rfl ?_
  refine y_iload 4 c142_3 rfl rfl ?_
  refine y_iconst 5 c142_4 rfl ?_
  refine y_callP 8 [.ref 376, yI 1, yI 0, yI 204, yI 0] [] c142_5 rfl rfl rfl rfl rfl (ycanO km123 ko376) (t123x_1 hT hU hc1) (fun r14370 hr14370 => ?_)
  have gr14370 : -1 ≤ r14370 ∧ r14370 < m 384 1 := by
    rcases hr14370 with z | z
    · omega
    · exact ⟨by have := z.1; omega, z.2.1⟩
  refine y_istore 10 c142_8 rfl rfl ?_
  refine y_iload 12 c142_10 rfl rfl ?_
  refine y_if 37 15 c142_12 rfl rfl (yz_lt (by omega)) (fun hb14371 => ?_) (fun hb14371 => ?_)
  · refine y_iconst 38 c142_37 rfl ?_
    exact y_retP c142_38 (y_fit0 _) (Or.inr ⟨rfl, fun s hs => by rcases hr14370 with z | z; exact z.2.no hs.1; exact absurd z.1 (by omega)⟩)
  · refine y_aload 16 c142_15 rfl rfl rfl ?_
    refine y_getR 19 c142_16 rfl kf376_34 ?_
    refine y_iconst 21 c142_19 rfl ?_
    refine y_iload 22 c142_21 rfl rfl ?_
    refine y_imul 23 c142_22 rfl ?_
    refine y_top 10 (by decide) ?_
    refine y_iload 25 c142_23 rfl rfl ?_
    refine y_iadd 26 c142_25 rfl ?_
    refine y_iaT 27 0 2 c142_26 rfl ka397 (by omega) hT rfl (fun v14372 hv14372 gv14372 => ?_)
    refine y_iload 29 c142_27 rfl rfl ?_
    refine y_icmp 37 32 c142_29 rfl rfl (yc_ne (by omega) (by omega)) (fun hb14373 => ?_) (fun hb14373 => ?_)
    · refine y_iconst 38 c142_37 rfl ?_
      have hfi : FI 1 m r14370 := hr14370.resolve_left (by omega)
      have h97 : m 397 (10 * 1 + r14370.toNat) = v14372 := by rw [show 10 * 1 + r14370.toNat = (10 + r14370).toNat by omega]; exact hv14372
      exact y_retP c142_38 (y_fit0 _) (Or.inr ⟨rfl, fun s hs => by have e := hfi.uniq hs.1; subst e; have := hs.2; omega⟩)
    · refine y_iload 34 c142_32 rfl rfl ?_
      refine y_goto 38 c142_34 rfl ?_
      have hfi : FI 1 m r14370 := hr14370.resolve_left (by omega)
      have h97 : m 397 (10 * 1 + r14370.toNat) = v14372 := by rw [show 10 * 1 + r14370.toNat = (10 + r14370).toNat by omega]; exact hv14372
      exact y_retP c142_38 (y_fit0 _) (Or.inl ⟨hfi, by omega⟩)
set_option maxRecDepth 100000 in
theorem t143x_1 {L : Nat} {xs : Nat → Int32} {d nn : Nat} {m : yM} (hT : Ty gT m) (hn : m 376 18 = 1) (hU : UX 1 m (m 383 1)) (hc1 : 1 ≤ m 383 1) : YC (gZ L xs) (d + 2) 143 [.ref 376] m nn (qP m nn (fun r => SG 1 m r ∨ (r = -1 ∧ ∀ s, ¬ SG 1 m s))) := by
  have tb383 := hT.atp 383 1 0 6 rfl
  have tb384 := hT.atp 384 1 0 10 rfl
  have tb385 := hT.atp 385 1 0 8 rfl
  have tb386 := hT.atp 386 1 0 12 rfl
  have tb387 := hT.atp 387 1 0 8 rfl
  have tb388 := hT.atp 388 1 0 12 rfl
  have tb389 := hT.atp 389 1 0 48 rfl
  have tb390 := hT.atp 390 1 0 125 rfl
  refine YC.mkB [some (.ref 376)] kn143 rfl rfl ?_
  refine y_aload 1 c143_0 rfl rfl rfl ?_
  refine y_aload 2 c143_1 rfl rfl rfl ?_
  refine y_getX 5 (m 376 18) c143_2 rfl kf376_18 rfl ?_
  have tb14374 := hT.atp 376 18 0 1 rfl
  refine y_top 1 (by omega) ?_
  refine y_iconst 6 c143_5 rfl ?_
  refine y_iconst 8 c143_6 rfl ?_
  refine y_iconst 10 c143_8 rfl ?_
  refine y_iconst 11 c143_10 rfl ?_
  refine y_iconst 12 c143_11 rfl ?_
  refine y_iconst 13 c143_12 rfl ?_
  refine y_iconst 14 c143_13 rfl ?_
  refine y_inlB 17 [yI 103, yI 111, yI 0, yI 0, yI 0, yI 0] [yI 0, yI 1, .ref 376] [some (yI 103), some (yI 111), some (yI 0), some (yI 0), some (yI 0), some (yI 0)] c143_14 rfl rfl rfl rfl rfl (ycanS km101) kn101 rfl rfl ?_
  refine y_iconst 1 c101_0 rfl ?_
  refine y_iload 2 c101_1 rfl rfl ?_
  refine y_inlB 5 [yI 0, yI 103] [] [some (yI 0), some (yI 103)] c101_2 rfl rfl rfl rfl rfl (ycanS km100) kn100 rfl rfl ?_
  refine y_iload 1 c100_0 rfl rfl ?_
  refine y_if 8 4 c100_1 rfl rfl (yz_ne (by omega)) (fun hb14375 => ?_) (fun hb14375 => ?_)
  · refine y_iconst 10 c100_8 rfl ?_
    refine y_iload 11 c100_10 rfl rfl ?_
    refine y_imul 12 c100_11 rfl ?_
    refine y_top 0 (by decide) ?_
    refine y_iload 13 c100_12 rfl rfl ?_
    refine y_iadd 14 c100_13 rfl ?_
    refine y_top 103 (by decide) ?_
    refine y_iconst 16 c100_14 rfl ?_
    refine y_isub 17 c100_16 rfl ?_
    refine y_top 6 (by decide) ?_
    refine y_iconst 18 c100_17 rfl ?_
    refine y_iadd 19 c100_18 rfl ?_
    refine y_top 7 (by decide) ?_
    refine y_ireturnK c100_19 (y_fit0 _) ?_
    refine y_iload 6 c101_5 rfl rfl ?_
    refine y_inlB 9 [yI 7, yI 111] [] [some (yI 7), some (yI 111)] c101_6 rfl rfl rfl rfl rfl (ycanS km100) kn100 rfl rfl ?_
    refine y_iload 1 c100_0 rfl rfl ?_
    refine y_if 8 4 c100_1 rfl rfl (yz_ne (by omega)) (fun hb14376 => ?_) (fun hb14376 => ?_)
    · refine y_iconst 10 c100_8 rfl ?_
      refine y_iload 11 c100_10 rfl rfl ?_
      refine y_imul 12 c100_11 rfl ?_
      refine y_top 189 (by decide) ?_
      refine y_iload 13 c100_12 rfl rfl ?_
      refine y_iadd 14 c100_13 rfl ?_
      refine y_top 300 (by decide) ?_
      refine y_iconst 16 c100_14 rfl ?_
      refine y_isub 17 c100_16 rfl ?_
      refine y_top 203 (by decide) ?_
      refine y_iconst 18 c100_17 rfl ?_
      refine y_iadd 19 c100_18 rfl ?_
      refine y_top 204 (by decide) ?_
      refine y_ireturnK c100_19 (y_fit0 _) ?_
      refine y_iload 10 c101_9 rfl rfl ?_
      refine y_inlB 13 [yI 204, yI 0] [] [some (yI 204), some (yI 0)] c101_10 rfl rfl rfl rfl rfl (ycanS km100) kn100 rfl rfl ?_
      refine y_iload 1 c100_0 rfl rfl ?_
      refine y_if 8 4 c100_1 rfl rfl (yz_ne (by omega)) (fun hb14377 => ?_) (fun hb14377 => ?_)
      · exfalso; omega
      · refine y_iload 5 c100_4 rfl rfl ?_
        refine y_goto 19 c100_5 rfl ?_
        refine y_ireturnK c100_19 (y_fit0 _) ?_
        refine y_iload 14 c101_13 rfl rfl ?_
        refine y_inlB 17 [yI 204, yI 0] [] [some (yI 204), some (yI 0)] c101_14 rfl rfl rfl rfl rfl (ycanS km100) kn100 rfl rfl ?_
        refine y_iload 1 c100_0 rfl rfl ?_
        refine y_if 8 4 c100_1 rfl rfl (yz_ne (by omega)) (fun hb14378 => ?_) (fun hb14378 => ?_)
        · exfalso; omega
        · refine y_iload 5 c100_4 rfl rfl ?_
          refine y_goto 19 c100_5 rfl ?_
          refine y_ireturnK c100_19 (y_fit0 _) ?_
          refine y_iload 19 c101_17 rfl rfl ?_
          refine y_inlB 22 [yI 204, yI 0] [] [some (yI 204), some (yI 0)] c101_19 rfl rfl rfl rfl rfl (ycanS km100) kn100 rfl rfl ?_
          refine y_iload 1 c100_0 rfl rfl ?_
          refine y_if 8 4 c100_1 rfl rfl (yz_ne (by omega)) (fun hb14379 => ?_) (fun hb14379 => ?_)
          · exfalso; omega
          · refine y_iload 5 c100_4 rfl rfl ?_
            refine y_goto 19 c100_5 rfl ?_
            refine y_ireturnK c100_19 (y_fit0 _) ?_
            refine y_iload 24 c101_22 rfl rfl ?_
            refine y_inlB 27 [yI 204, yI 0] [] [some (yI 204), some (yI 0)] c101_24 rfl rfl rfl rfl rfl (ycanS km100) kn100 rfl rfl ?_
            refine y_iload 1 c100_0 rfl rfl ?_
            refine y_if 8 4 c100_1 rfl rfl (yz_ne (by omega)) (fun hb14380 => ?_) (fun hb14380 => ?_)
            · exfalso; omega
            · refine y_iload 5 c100_4 rfl rfl ?_
              refine y_goto 19 c100_5 rfl ?_
              refine y_ireturnK c100_19 (y_fit0 _) ?_
              refine y_ireturnK c101_27 (y_fit0 _) ?_
              refine y_iconst 18 c143_17 rfl ?_
              refine y_callP 21 [.ref 376, yI 1, yI 0, yI 204, yI 0] [] c143_18 rfl rfl rfl rfl rfl (ycanO km142 ko376) (t142x_1 hT hU hc1) (fun r14381 hr14381 => ?_)
              exact y_retP c143_21 (y_fit0 _) hr14381
    · exfalso; omega
  · exfalso; omega

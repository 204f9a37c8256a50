/-! CONTRACTS: printed by wip/whole/gen80.py and on -/
theorem MP.na {B : Nat} {m : yM} (h : MP B m) {a q : Nat} {v : Int} (ha : a < B) : MP B (yup m a q v) := by
  intro k hk
  rw [yup_na (by omega), yup_na (by omega)]
  exact h k hk
theorem MP.fr {B : Nat} {m m' : yM} (h : MP B m) (e2 : ∀ k, k < 10 → m' (B + k) 2 = m (B + k) 2) (e3 : ∀ k, k < 10 → m' (B + k) 3 = m (B + k) 3) : MP B m' := by
  intro k hk
  rw [e2 k hk, e3 k hk]
  exact h k hk
theorem wPm256_2 {j : Nat} : wPm256 (266 + j) 2 = false := by
  cases h : wPm256 (266 + j) 2 with
  | false => rfl
  | true => simp [wPm256] at h <;> omega
set_option maxRecDepth 100000 in
theorem t54_256 {L : Nat} {xs : Nat → Int32} {d nn : Nat} {m : yM} {e : Int} (hT : Ty gT m) (he : 0 ≤ e ∧ e ≤ 320) (hE : m 5 e.toNat = 0) (ha : m 2 2 ≤ e) (hp : m 2 1 = 0) (hm : 1 ≤ m 256 10) (hp3 : m (266 + (m 256 10 - 1).toNat) 3 ≤ 1) (hr : m (266 + (m 256 10 - 1).toNat) 2 + 2 + m (266 + (m 256 10 - 1).toNat) 3 = m 256 15) : YC (gZ L xs) (d + 2) 54 [.ref 2] m nn (qI (fun r m' n' => n' = nn ∧ Ty gT m' ∧ Fr wPr256 m m' ∧ ((r = 0 ∨ r = 1) ∧ m' 2 2 ≤ e ∧ m' (266 + (m 256 10 - 1).toNat) 2 = m (266 + (m 256 10 - 1).toNat) 2 ∧ (r = 1 → m' (266 + (m 256 10 - 1).toNat) 3 = m (266 + (m 256 10 - 1).toNat) 3 + 1 ∧ m' 256 15 = m 256 15 + 1)) ∧ (MP 266 m → MP 266 m'))) := by
  have tb2 := hT.atp 2 2 0 320 rfl
  refine YC.mkB [some (.ref 2)] kn54 rfl rfl ?_
  have hF : Fr wPr256 m m := Fr.rf
  refine y_aload 1 c54_0 rfl rfl rfl ?_
  have tb2668 := hT.atp 2 2 0 320 rfl
  refine y_callP 4 [.ref 2] [] c54_1 rfl rfl rfl rfl rfl (ycanO km38 ko2) (t38 hT he hE (by omega)) (fun r2669 hr2669 => ?_)
  refine y_iconst 6 c54_4 rfl ?_
  refine y_icmp 23 9 c54_6 rfl rfl (yc_ne (by omega) (by omega)) (fun hb2670 => ?_) (fun hb2670 => ?_)
  · refine y_aload 24 c54_23 rfl rfl rfl ?_
    refine y_callIB 27 [.ref 2] [] c54_24 rfl rfl rfl rfl rfl (ycanO km43 ko2) (t43 hT) (fun rq2671 mq2671 nq2671 hq2671 => ?_)
    obtain ⟨rfl, hTq2671, hFq2671, hq2671⟩ := hq2671
    have hF2672 := hF.tr hFq2671 wFa_wPr256
    have es2673 : mq2671 2 2 = m 2 2 := (hFq2671 2 2 rfl)
    have es2674 : mq2671 256 15 = m 256 15 := (hFq2671 256 15 rfl)
    have tb2675 := hT.atp 256 15 0 48 rfl
    have eq2 : mq2671 (266 + (m 256 10 - 1).toNat) 2 = m (266 + (m 256 10 - 1).toNat) 2 := (hFq2671 (266 + (m 256 10 - 1).toNat) 2 wFa_n266)
    have eq3 : mq2671 (266 + (m 256 10 - 1).toNat) 3 = m (266 + (m 256 10 - 1).toNat) 3 := (hFq2671 (266 + (m 256 10 - 1).toNat) 3 wFa_n266)
    exact y_retI c54_27 (y_fit1 (by omega)) ⟨rfl, hTq2671, hF2672, by omega, fun hM => (hM).fr (fun k _ => hFq2671 _ _ wFa_n266) (fun k _ => hFq2671 _ _ wFa_n266)⟩
  · refine y_aload 10 c54_9 rfl rfl rfl ?_
    refine y_getS 13 (B := 256) c54_10 rfl kf2_1 (by rw [show m 2 1 = 0 from by have e : m 2 1 = m 2 1 := rfl; omega]; rfl) ?_
    refine y_aload 14 c54_13 rfl rfl rfl ?_
    refine y_callP 17 [.ref 2] [.ref 256] c54_14 rfl rfl rfl rfl rfl (ycanO km39 ko2) (t39 hT) (fun r2676 hr2676 => ?_)
    refine y_callIB 20 [.ref 256, yI r2676] [] c54_17 rfl rfl rfl rfl rfl (ycanO km53 ko256) (t53_256 hT (by omega) hm hp3 hr) (fun rq2677 mq2677 nq2677 hq2677 => ?_)
    obtain ⟨rfl, hTq2677, hFq2677, hq2677⟩ := hq2677
    have k2 := hFq2677 (266 + (m 256 10 - 1).toNat) 2 wPm256_2
    have hF2678 := hF.tr hFq2677 wPm256_wPr256
    rcases hq2677 with ⟨rfl, hq2677⟩ | ⟨rfl, h15, h3, hMP⟩
    · have hMP : MP 266 m → MP 266 mq2677 := fun hM => hM.fr (fun k _ => hq2677 _ _ (by omega)) (fun k _ => hq2677 _ _ (by omega))
      refine y_if 28 23 c54_20 rfl rfl (yz_ne (by omega)) (fun hb2679 => ?_) (fun hb2679 => ?_)
      · exfalso; omega
      · refine y_aload 24 c54_23 rfl rfl rfl ?_
        have es2681 : mq2677 2 2 = m 2 2 := (hFq2677 2 2 rfl)
        refine y_callIB 27 [.ref 2] [] c54_24 rfl rfl rfl rfl rfl (ycanO km43 ko2) (t43 hTq2677) (fun rq2680 mq2680 nq2680 hq2680 => ?_)
        obtain ⟨rfl, hTq2680, hFq2680, hq2680⟩ := hq2680
        have hF2682 := hF2678.tr hFq2680 wFa_wPr256
        have es2683 : mq2680 2 2 = m 2 2 := ((hFq2680 2 2 rfl).trans (hFq2677 2 2 rfl))
        have es2684 : mq2680 256 15 = mq2677 256 15 := (hFq2680 256 15 rfl)
        have tb2685 := hTq2677.atp 256 15 0 48 rfl
        have eq2 : mq2680 (266 + (m 256 10 - 1).toNat) 2 = mq2677 (266 + (m 256 10 - 1).toNat) 2 := (hFq2680 (266 + (m 256 10 - 1).toNat) 2 wFa_n266)
        have eq3 : mq2680 (266 + (m 256 10 - 1).toNat) 3 = mq2677 (266 + (m 256 10 - 1).toNat) 3 := (hFq2680 (266 + (m 256 10 - 1).toNat) 3 wFa_n266)
        exact y_retI c54_27 (y_fit1 (by omega)) ⟨rfl, hTq2680, hF2682, by omega, fun hM => (hMP hM).fr (fun k _ => hFq2680 _ _ wFa_n266) (fun k _ => hFq2680 _ _ wFa_n266)⟩
    · refine y_if 28 23 c54_20 rfl rfl (yz_ne (by omega)) (fun hb2686 => ?_) (fun hb2686 => ?_)
      · refine y_aload 29 c54_28 rfl rfl rfl ?_
        refine y_dup 30 c54_29 rfl rfl ?_
        refine y_getX 33 (m 2 2) c54_30 rfl kf2_2 (hFq2677 2 2 rfl) ?_
        refine y_iconst 34 c54_33 rfl ?_
        refine y_iadd 35 c54_34 rfl ?_
        refine y_putI 38 c54_35 rfl kf2_2 (y_fit0 _) ?_
        have hT2687 := hTq2677.up 2 2 ((m 2 2) + 1) 0 320 rfl (by omega)
        have hF2688 := hF2678.up 2 2 ((m 2 2) + 1) rfl
        refine y_iconst 39 c54_38 rfl ?_
        have es2689 : (yup mq2677 2 2 ((m 2 2) + 1)) 2 2 = (m 2 2) + 1 := rfl
        have es2690 : (yup mq2677 2 2 ((m 2 2) + 1)) 256 15 = mq2677 256 15 := rfl
        have tb2691 := hTq2677.atp 256 15 0 48 rfl
        have eq2 : (yup mq2677 2 2 ((m 2 2) + 1)) (266 + (m 256 10 - 1).toNat) 2 = mq2677 (266 + (m 256 10 - 1).toNat) 2 := (yup_na (by omega))
        have eq3 : (yup mq2677 2 2 ((m 2 2) + 1)) (266 + (m 256 10 - 1).toNat) 3 = mq2677 (266 + (m 256 10 - 1).toNat) 3 := (yup_na (by omega))
        exact y_retI c54_39 (y_fit1 (by omega)) ⟨rfl, hT2687, hF2688, by omega, fun hM => (hMP hM).na (by decide)⟩
      · exfalso; omega
theorem wPm316_2 {j : Nat} : wPm316 (326 + j) 2 = false := by
  cases h : wPm316 (326 + j) 2 with
  | false => rfl
  | true => simp [wPm316] at h <;> omega
set_option maxRecDepth 100000 in
theorem t54_316 {L : Nat} {xs : Nat → Int32} {d nn : Nat} {m : yM} {e : Int} (hT : Ty gT m) (he : 0 ≤ e ∧ e ≤ 320) (hE : m 5 e.toNat = 0) (ha : m 2 2 ≤ e) (hp : m 2 1 = 1) (hm : 1 ≤ m 316 10) (hp3 : m (326 + (m 316 10 - 1).toNat) 3 ≤ 1) (hr : m (326 + (m 316 10 - 1).toNat) 2 + 2 + m (326 + (m 316 10 - 1).toNat) 3 = m 316 15) : YC (gZ L xs) (d + 2) 54 [.ref 2] m nn (qI (fun r m' n' => n' = nn ∧ Ty gT m' ∧ Fr wPr316 m m' ∧ ((r = 0 ∨ r = 1) ∧ m' 2 2 ≤ e ∧ m' (326 + (m 316 10 - 1).toNat) 2 = m (326 + (m 316 10 - 1).toNat) 2 ∧ (r = 1 → m' (326 + (m 316 10 - 1).toNat) 3 = m (326 + (m 316 10 - 1).toNat) 3 + 1 ∧ m' 316 15 = m 316 15 + 1)) ∧ (MP 326 m → MP 326 m'))) := by
  have tb2 := hT.atp 2 2 0 320 rfl
  refine YC.mkB [some (.ref 2)] kn54 rfl rfl ?_
  have hF : Fr wPr316 m m := Fr.rf
  refine y_aload 1 c54_0 rfl rfl rfl ?_
  have tb2692 := hT.atp 2 2 0 320 rfl
  refine y_callP 4 [.ref 2] [] c54_1 rfl rfl rfl rfl rfl (ycanO km38 ko2) (t38 hT he hE (by omega)) (fun r2693 hr2693 => ?_)
  refine y_iconst 6 c54_4 rfl ?_
  refine y_icmp 23 9 c54_6 rfl rfl (yc_ne (by omega) (by omega)) (fun hb2694 => ?_) (fun hb2694 => ?_)
  · refine y_aload 24 c54_23 rfl rfl rfl ?_
    refine y_callIB 27 [.ref 2] [] c54_24 rfl rfl rfl rfl rfl (ycanO km43 ko2) (t43 hT) (fun rq2695 mq2695 nq2695 hq2695 => ?_)
    obtain ⟨rfl, hTq2695, hFq2695, hq2695⟩ := hq2695
    have hF2696 := hF.tr hFq2695 wFa_wPr316
    have es2697 : mq2695 2 2 = m 2 2 := (hFq2695 2 2 rfl)
    have es2698 : mq2695 316 15 = m 316 15 := (hFq2695 316 15 rfl)
    have tb2699 := hT.atp 316 15 0 48 rfl
    have eq2 : mq2695 (326 + (m 316 10 - 1).toNat) 2 = m (326 + (m 316 10 - 1).toNat) 2 := (hFq2695 (326 + (m 316 10 - 1).toNat) 2 wFa_n326)
    have eq3 : mq2695 (326 + (m 316 10 - 1).toNat) 3 = m (326 + (m 316 10 - 1).toNat) 3 := (hFq2695 (326 + (m 316 10 - 1).toNat) 3 wFa_n326)
    exact y_retI c54_27 (y_fit1 (by omega)) ⟨rfl, hTq2695, hF2696, by omega, fun hM => (hM).fr (fun k _ => hFq2695 _ _ wFa_n326) (fun k _ => hFq2695 _ _ wFa_n326)⟩
  · refine y_aload 10 c54_9 rfl rfl rfl ?_
    refine y_getS 13 (B := 316) c54_10 rfl kf2_1 (by rw [show m 2 1 = 1 from by have e : m 2 1 = m 2 1 := rfl; omega]; rfl) ?_
    refine y_aload 14 c54_13 rfl rfl rfl ?_
    refine y_callP 17 [.ref 2] [.ref 316] c54_14 rfl rfl rfl rfl rfl (ycanO km39 ko2) (t39 hT) (fun r2700 hr2700 => ?_)
    refine y_callIB 20 [.ref 316, yI r2700] [] c54_17 rfl rfl rfl rfl rfl (ycanO km53 ko316) (t53_316 hT (by omega) hm hp3 hr) (fun rq2701 mq2701 nq2701 hq2701 => ?_)
    obtain ⟨rfl, hTq2701, hFq2701, hq2701⟩ := hq2701
    have k2 := hFq2701 (326 + (m 316 10 - 1).toNat) 2 wPm316_2
    have hF2702 := hF.tr hFq2701 wPm316_wPr316
    rcases hq2701 with ⟨rfl, hq2701⟩ | ⟨rfl, h15, h3, hMP⟩
    · have hMP : MP 326 m → MP 326 mq2701 := fun hM => hM.fr (fun k _ => hq2701 _ _ (by omega)) (fun k _ => hq2701 _ _ (by omega))
      refine y_if 28 23 c54_20 rfl rfl (yz_ne (by omega)) (fun hb2703 => ?_) (fun hb2703 => ?_)
      · exfalso; omega
      · refine y_aload 24 c54_23 rfl rfl rfl ?_
        have es2705 : mq2701 2 2 = m 2 2 := (hFq2701 2 2 rfl)
        refine y_callIB 27 [.ref 2] [] c54_24 rfl rfl rfl rfl rfl (ycanO km43 ko2) (t43 hTq2701) (fun rq2704 mq2704 nq2704 hq2704 => ?_)
        obtain ⟨rfl, hTq2704, hFq2704, hq2704⟩ := hq2704
        have hF2706 := hF2702.tr hFq2704 wFa_wPr316
        have es2707 : mq2704 2 2 = m 2 2 := ((hFq2704 2 2 rfl).trans (hFq2701 2 2 rfl))
        have es2708 : mq2704 316 15 = mq2701 316 15 := (hFq2704 316 15 rfl)
        have tb2709 := hTq2701.atp 316 15 0 48 rfl
        have eq2 : mq2704 (326 + (m 316 10 - 1).toNat) 2 = mq2701 (326 + (m 316 10 - 1).toNat) 2 := (hFq2704 (326 + (m 316 10 - 1).toNat) 2 wFa_n326)
        have eq3 : mq2704 (326 + (m 316 10 - 1).toNat) 3 = mq2701 (326 + (m 316 10 - 1).toNat) 3 := (hFq2704 (326 + (m 316 10 - 1).toNat) 3 wFa_n326)
        exact y_retI c54_27 (y_fit1 (by omega)) ⟨rfl, hTq2704, hF2706, by omega, fun hM => (hMP hM).fr (fun k _ => hFq2704 _ _ wFa_n326) (fun k _ => hFq2704 _ _ wFa_n326)⟩
    · refine y_if 28 23 c54_20 rfl rfl (yz_ne (by omega)) (fun hb2710 => ?_) (fun hb2710 => ?_)
      · refine y_aload 29 c54_28 rfl rfl rfl ?_
        refine y_dup 30 c54_29 rfl rfl ?_
        refine y_getX 33 (m 2 2) c54_30 rfl kf2_2 (hFq2701 2 2 rfl) ?_
        refine y_iconst 34 c54_33 rfl ?_
        refine y_iadd 35 c54_34 rfl ?_
        refine y_putI 38 c54_35 rfl kf2_2 (y_fit0 _) ?_
        have hT2711 := hTq2701.up 2 2 ((m 2 2) + 1) 0 320 rfl (by omega)
        have hF2712 := hF2702.up 2 2 ((m 2 2) + 1) rfl
        refine y_iconst 39 c54_38 rfl ?_
        have es2713 : (yup mq2701 2 2 ((m 2 2) + 1)) 2 2 = (m 2 2) + 1 := rfl
        have es2714 : (yup mq2701 2 2 ((m 2 2) + 1)) 316 15 = mq2701 316 15 := rfl
        have tb2715 := hTq2701.atp 316 15 0 48 rfl
        have eq2 : (yup mq2701 2 2 ((m 2 2) + 1)) (326 + (m 316 10 - 1).toNat) 2 = mq2701 (326 + (m 316 10 - 1).toNat) 2 := (yup_na (by omega))
        have eq3 : (yup mq2701 2 2 ((m 2 2) + 1)) (326 + (m 316 10 - 1).toNat) 3 = mq2701 (326 + (m 316 10 - 1).toNat) 3 := (yup_na (by omega))
        exact y_retI c54_39 (y_fit1 (by omega)) ⟨rfl, hT2711, hF2712, by omega, fun hM => (hMP hM).na (by decide)⟩
      · exfalso; omega

section
/-! CONTRACTS: printed by wip/whole/gen80.py and on -/
theorem MP.na {B : Nat} {m : yM} (h : MP B m) {a q : Nat} {v : Int} (ha : a < B) : MP B (yup m a q v) := by
  intro k hk
  rw [yup_na (by omega), yup_na (by omega)]
  exact h k hk
theorem MP.fr {B : Nat} {m m' : yM} (h : MP B m) (e2 : ∀ k, k < 10 → m' (B + k) 2 = m (B + k) 2) (e3 : ∀ k, k < 10 → m' (B + k) 3 = m (B + k) 3) : MP B m' := by
  intro k hk
  rw [e2 k hk, e3 k hk]
  exact h k hk
theorem wPm256_2 {j : Nat} : wPm256 (266 + j) 2 = false := by
  cases h : wPm256 (266 + j) 2 with
  | false => rfl
  | true => simp [wPm256] at h <;> omega
set_option maxRecDepth 100000 in
theorem t54_256 {L : Nat} {xs : Nat → Int32} {d nn : Nat} {m : yM} {e : Int} (hT : Ty gT m) (he : 0 ≤ e ∧ e ≤ 320) (hE : m 5 e.toNat = 0) (ha : m 2 2 ≤ e) (hp : m 2 1 = 0) (hm : 1 ≤ m 256 10) (hp3 : m (266 + (m 256 10 - 1).toNat) 3 ≤ 1) (hr : m (266 + (m 256 10 - 1).toNat) 2 + 2 + m (266 + (m 256 10 - 1).toNat) 3 = m 256 15) : YC (gZ L xs) (d + 2) 54 [.ref 2] m nn (qI (fun r m' n' => n' = nn ∧ Ty gT m' ∧ Fr wPr256 m m' ∧ ((r = 0 ∨ r = 1) ∧ m' 2 2 ≤ e ∧ m' (266 + (m 256 10 - 1).toNat) 2 = m (266 + (m 256 10 - 1).toNat) 2 ∧ (r = 1 → m' (266 + (m 256 10 - 1).toNat) 3 = m (266 + (m 256 10 - 1).toNat) 3 + 1 ∧ m' 256 15 = m 256 15 + 1)) ∧ (MP 266 m → MP 266 m'))) := by
  have tb2 := hT.atp 2 2 0 320 rfl
  refine YC.mkB [some (.ref 2)] kn54 rfl rfl ?_
  have hF : Fr wPr256 m m := Fr.rf
  refine y_aload 1 c54_0 rfl rfl rfl ?_
  have tb2668 := hT.atp 2 2 0 320 rfl
  refine y_callP 4 [.ref 2] [] c54_1 rfl rfl rfl rfl rfl (ycanO km38 ko2) (t38 hT he hE (by omega)) (fun r2669 hr2669 => ?_)
  refine y_iconst 6 c54_4 rfl ?_
  refine y_icmp 23 9 c54_6 rfl rfl (yc_ne (by omega) (by omega)) (fun hb2670 => ?_) (fun hb2670 => ?_)
  · refine y_aload 24 c54_23 rfl rfl rfl ?_
    refine y_callIB 27 [.ref 2] [] c54_24 rfl rfl rfl rfl rfl (ycanO km43 ko2) (t43 hT) (fun rq2671 mq2671 nq2671 hq2671 => ?_)
    obtain ⟨rfl, hTq2671, hFq2671, hq2671⟩ := hq2671
    have hF2672 := hF.tr hFq2671 wFa_wPr256
    have es2673 : mq2671 2 2 = m 2 2 := (hFq2671 2 2 rfl)
    have es2674 : mq2671 256 15 = m 256 15 := (hFq2671 256 15 rfl)
    have tb2675 := hT.atp 256 15 0 48 rfl
    have eq2 : mq2671 (266 + (m 256 10 - 1).toNat) 2 = m (266 + (m 256 10 - 1).toNat) 2 := (hFq2671 (266 + (m 256 10 - 1).toNat) 2 wFa_n266)
    have eq3 : mq2671 (266 + (m 256 10 - 1).toNat) 3 = m (266 + (m 256 10 - 1).toNat) 3 := (hFq2671 (266 + (m 256 10 - 1).toNat) 3 wFa_n266)
    exact y_retI c54_27 (y_fit1 (by omega)) ⟨rfl, hTq2671, hF2672, by omega, fun hM => (hM).fr (fun k _ => hFq2671 _ _ wFa_n266) (fun k _ => hFq2671 _ _ wFa_n266)⟩
  · refine y_aload 10 c54_9 rfl rfl rfl ?_
    refine y_getS 13 (B := 256) c54_10 rfl kf2_1 (by rw [show m 2 1 = 0 from by have e : m 2 1 = m 2 1 := rfl; omega]; rfl) ?_
    refine y_aload 14 c54_13 rfl rfl rfl ?_
    refine y_callP 17 [.ref 2] [.ref 256] c54_14 rfl rfl rfl rfl rfl (ycanO km39 ko2) (t39 hT) (fun r2676 hr2676 => ?_)
    refine y_callIB 20 [.ref 256, yI r2676] [] c54_17 rfl rfl rfl rfl rfl (ycanO km53 ko256) (t53_256 hT (by omega) hm hp3 hr) (fun rq2677 mq2677 nq2677 hq2677 => ?_)
    obtain ⟨rfl, hTq2677, hFq2677, hq2677⟩ := hq2677
    have k2 := hFq2677 (266 + (m 256 10 - 1).toNat) 2 wPm256_2
    have hF2678 := hF.tr hFq2677 wPm256_wPr256
    rcases hq2677 with ⟨rfl, hq2677⟩ | ⟨rfl, h15, h3, hMP⟩
    · have hMP : MP 266 m → MP 266 mq2677 := fun hM => hM.fr (fun k _ => hq2677 _ _ (by omega)) (fun k _ => hq2677 _ _ (by omega))
      refine y_if 28 23 c54_20 rfl rfl (yz_ne (by omega)) (fun hb2679 => ?_) (fun hb2679 => ?_)
      · exfalso; omega
      · refine y_aload 24 c54_23 rfl rfl rfl ?_
        have es2681 : mq2677 2 2 = m 2 2 := (hFq2677 2 2 rfl)
        refine y_callIB 27 [.ref 2] [] c54_24 rfl rfl rfl rfl rfl (ycanO km43 ko2) (t43 hTq2677) (fun rq2680 mq2680 nq2680 hq2680 => ?_)
        obtain ⟨rfl, hTq2680, hFq2680, hq2680⟩ := hq2680
        have hF2682 := hF2678.tr hFq2680 wFa_wPr256
        have es2683 : mq2680 2 2 = m 2 2 := ((hFq2680 2 2 rfl).trans (hFq2677 2 2 rfl))
        have es2684 : mq2680 256 15 = mq2677 256 15 := (hFq2680 256 15 rfl)
        have tb2685 := hTq2677.atp 256 15 0 48 rfl
        have eq2 : mq2680 (266 + (m 256 10 - 1).toNat) 2 = mq2677 (266 + (m 256 10 - 1).toNat) 2 := (hFq2680 (266 + (m 256 10 - 1).toNat) 2 wFa_n266)
        have eq3 : mq2680 (266 + (m 256 10 - 1).toNat) 3 = mq2677 (266 + (m 256 10 - 1).toNat) 3 := (hFq2680 (266 + (m 256 10 - 1).toNat) 3 wFa_n266)
        exact y_retI c54_27 (y_fit1 (by omega)) ⟨rfl, hTq2680, hF2682, by omega, fun hM => (hMP hM).fr (fun k _ => hFq2680 _ _ wFa_n266) (fun k _ => hFq2680 _ _ wFa_n266)⟩
    · refine y_if 28 23 c54_20 rfl rfl (yz_ne (by omega)) (fun hb2686 => ?_) (fun hb2686 => ?_)
      · refine y_aload 29 c54_28 rfl rfl rfl ?_
        refine y_dup 30 c54_29 rfl rfl ?_
        refine y_getX 33 (m 2 2) c54_30 rfl kf2_2 (hFq2677 2 2 rfl) ?_
        refine y_iconst 34 c54_33 rfl ?_
        refine y_iadd 35 c54_34 rfl ?_
        refine y_putI 38 c54_35 rfl kf2_2 (y_fit0 _) ?_
        have hT2687 := hTq2677.up 2 2 ((m 2 2) + 1) 0 320 rfl (by omega)
        have hF2688 := hF2678.up 2 2 ((m 2 2) + 1) rfl
        refine y_iconst 39 c54_38 rfl ?_
        have es2689 : (yup mq2677 2 2 ((m 2 2) + 1)) 2 2 = (m 2 2) + 1 := rfl
        have es2690 : (yup mq2677 2 2 ((m 2 2) + 1)) 256 15 = mq2677 256 15 := rfl
        have tb2691 := hTq2677.atp 256 15 0 48 rfl
        have eq2 : (yup mq2677 2 2 ((m 2 2) + 1)) (266 + (m 256 10 - 1).toNat) 2 = mq2677 (266 + (m 256 10 - 1).toNat) 2 := (yup_na (by omega))
        have eq3 : (yup mq2677 2 2 ((m 2 2) + 1)) (266 + (m 256 10 - 1).toNat) 3 = mq2677 (266 + (m 256 10 - 1).toNat) 3 := (yup_na (by omega))
        exact y_retI c54_39 (y_fit1 (by omega)) ⟨rfl, hT2687, hF2688, by omega, fun hM => (hMP hM).na (by decide)⟩
      · exfalso; omega
theorem wPm316_2 {j : Nat} : wPm316 (326 + j) 2 = false := by
  cases h : wPm316 (326 + j) 2 with
  | false => rfl
  | true => simp [wPm316] at h <;> omega
set_option maxRecDepth 100000 in
theorem t54_316 {L : Nat} {xs : Nat → Int32} {d nn : Nat} {m : yM} {e : Int} (hT : Ty gT m) (he : 0 ≤ e ∧ e ≤ 320) (hE : m 5 e.toNat = 0) (ha : m 2 2 ≤ e) (hp : m 2 1 = 1) (hm : 1 ≤ m 316 10) (hp3 : m (326 + (m 316 10 - 1).toNat) 3 ≤ 1) (hr : m (326 + (m 316 10 - 1).toNat) 2 + 2 + m (326 + (m 316 10 - 1).toNat) 3 = m 316 15) : YC (gZ L xs) (d + 2) 54 [.ref 2] m nn (qI (fun r m' n' => n' = nn ∧ Ty gT m' ∧ Fr wPr316 m m' ∧ ((r = 0 ∨ r = 1) ∧ m' 2 2 ≤ e ∧ m' (326 + (m 316 10 - 1).toNat) 2 = m (326 + (m 316 10 - 1).toNat) 2 ∧ (r = 1 → m' (326 + (m 316 10 - 1).toNat) 3 = m (326 + (m 316 10 - 1).toNat) 3 + 1 ∧ m' 316 15 = m 316 15 + 1)) ∧ (MP 326 m → MP 326 m'))) := by
  have tb2 := hT.atp 2 2 0 320 rfl
  refine YC.mkB [some (.ref 2)] kn54 rfl rfl ?_
  have hF : Fr wPr316 m m := Fr.rf
  refine y_aload 1 c54_0 rfl rfl rfl ?_
  have tb2692 := hT.atp 2 2 0 320 rfl
  refine y_callP 4 [.ref 2] [] c54_1 rfl rfl rfl rfl rfl (ycanO km38 ko2) (t38 hT he hE (by omega)) (fun r2693 hr2693 => ?_)
  refine y_iconst 6 c54_4 rfl ?_
  refine y_icmp 23 9 c54_6 rfl rfl (yc_ne (by omega) (by omega)) (fun hb2694 => ?_) (fun hb2694 => ?_)
  · refine y_aload 24 c54_23 rfl rfl rfl ?_
    refine y_callIB 27 [.ref 2] [] c54_24 rfl rfl rfl rfl rfl (ycanO km43 ko2) (t43 hT) (fun rq2695 mq2695 nq2695 hq2695 => ?_)
    obtain ⟨rfl, hTq2695, hFq2695, hq2695⟩ := hq2695
    have hF2696 := hF.tr hFq2695 wFa_wPr316
    have es2697 : mq2695 2 2 = m 2 2 := (hFq2695 2 2 rfl)
    have es2698 : mq2695 316 15 = m 316 15 := (hFq2695 316 15 rfl)
    have tb2699 := hT.atp 316 15 0 48 rfl
    have eq2 : mq2695 (326 + (m 316 10 - 1).toNat) 2 = m (326 + (m 316 10 - 1).toNat) 2 := (hFq2695 (326 + (m 316 10 - 1).toNat) 2 wFa_n326)
    have eq3 : mq2695 (326 + (m 316 10 - 1).toNat) 3 = m (326 + (m 316 10 - 1).toNat) 3 := (hFq2695 (326 + (m 316 10 - 1).toNat) 3 wFa_n326)
    exact y_retI c54_27 (y_fit1 (by omega)) ⟨rfl, hTq2695, hF2696, by omega, fun hM => (hM).fr (fun k _ => hFq2695 _ _ wFa_n326) (fun k _ => hFq2695 _ _ wFa_n326)⟩
  · refine y_aload 10 c54_9 rfl rfl rfl ?_
    refine y_getS 13 (B := 316) c54_10 rfl kf2_1 (by rw [show m 2 1 = 1 from by have e : m 2 1 = m 2 1 := rfl; omega]; rfl) ?_
    refine y_aload 14 c54_13 rfl rfl rfl ?_
    refine y_callP 17 [.ref 2] [.ref 316] c54_14 rfl rfl rfl rfl rfl (ycanO km39 ko2) (t39 hT) (fun r2700 hr2700 => ?_)
    refine y_callIB 20 [.ref 316, yI r2700] [] c54_17 rfl rfl rfl rfl rfl (ycanO km53 ko316) (t53_316 hT (by omega) hm hp3 hr) (fun rq2701 mq2701 nq2701 hq2701 => ?_)
    obtain ⟨rfl, hTq2701, hFq2701, hq2701⟩ := hq2701
    have k2 := hFq2701 (326 + (m 316 10 - 1).toNat) 2 wPm316_2
    have hF2702 := hF.tr hFq2701 wPm316_wPr316
    rcases hq2701 with ⟨rfl, hq2701⟩ | ⟨rfl, h15, h3, hMP⟩
    · have hMP : MP 326 m → MP 326 mq2701 := fun hM => hM.fr (fun k _ => hq2701 _ _ (by omega)) (fun k _ => hq2701 _ _ (by omega))
      refine y_if 28 23 c54_20 rfl rfl (yz_ne (by omega)) (fun hb2703 => ?_) (fun hb2703 => ?_)
      · exfalso; omega
      · refine y_aload 24 c54_23 rfl rfl rfl ?_
        have es2705 : mq2701 2 2 = m 2 2 := (hFq2701 2 2 rfl)
        refine y_callIB 27 [.ref 2] [] c54_24 rfl rfl rfl rfl rfl (ycanO km43 ko2) (t43 hTq2701) (fun rq2704 mq2704 nq2704 hq2704 => ?_)
        obtain ⟨rfl, hTq2704, hFq2704, hq2704⟩ := hq2704
        have hF2706 := hF2702.tr hFq2704 wFa_wPr316
        have es2707 : mq2704 2 2 = m 2 2 := ((hFq2704 2 2 rfl).trans (hFq2701 2 2 rfl))
        have es2708 : mq2704 316 15 = mq2701 316 15 := (hFq2704 316 15 rfl)
        have tb2709 := hTq2701.atp 316 15 0 48 rfl
        have eq2 : mq2704 (326 + (m 316 10 - 1).toNat) 2 = mq2701 (326 + (m 316 10 - 1).toNat) 2 := (hFq2704 (326 + (m 316 10 - 1).toNat) 2 wFa_n326)
        have eq3 : mq2704 (326 + (m 316 10 - 1).toNat) 3 = mq2701 (326 + (m 316 10 - 1).toNat) 3 := (hFq2704 (326 + (m 316 10 - 1).toNat) 3 wFa_n326)
        exact y_retI c54_27 (y_fit1 (by omega)) ⟨rfl, hTq2704, hF2706, by omega, fun hM => (hMP hM).fr (fun k _ => hFq2704 _ _ wFa_n326) (fun k _ => hFq2704 _ _ wFa_n326)⟩
    · refine y_if 28 23 c54_20 rfl rfl (yz_ne (by omega)) (fun hb2710 => ?_) (fun hb2710 => ?_)
      · refine y_aload 29 c54_28 rfl rfl rfl ?_
        refine y_dup 30 c54_29 rfl rfl ?_
        refine y_getX 33 (m 2 2) c54_30 rfl kf2_2 (hFq2701 2 2 rfl) ?_
        refine y_iconst 34 c54_33 rfl ?_
        refine y_iadd 35 c54_34 rfl ?_
        refine y_putI 38 c54_35 rfl kf2_2 (y_fit0 _) ?_
        have hT2711 := hTq2701.up 2 2 ((m 2 2) + 1) 0 320 rfl (by omega)
        have hF2712 := hF2702.up 2 2 ((m 2 2) + 1) rfl
        refine y_iconst 39 c54_38 rfl ?_
        have es2713 : (yup mq2701 2 2 ((m 2 2) + 1)) 2 2 = (m 2 2) + 1 := rfl
        have es2714 : (yup mq2701 2 2 ((m 2 2) + 1)) 316 15 = mq2701 316 15 := rfl
        have tb2715 := hTq2701.atp 316 15 0 48 rfl
        have eq2 : (yup mq2701 2 2 ((m 2 2) + 1)) (326 + (m 316 10 - 1).toNat) 2 = mq2701 (326 + (m 316 10 - 1).toNat) 2 := (yup_na (by omega))
        have eq3 : (yup mq2701 2 2 ((m 2 2) + 1)) (326 + (m 316 10 - 1).toNat) 3 = mq2701 (326 + (m 316 10 - 1).toNat) 3 := (yup_na (by omega))
        exact y_retI c54_39 (y_fit1 (by omega)) ⟨rfl, hT2711, hF2712, by omega, fun hM => (hMP hM).na (by decide)⟩
      · exfalso; omega
end
section
/-! STATEMENTS THAT HAVE BEEN READ: sound by their kind; calls and casts numbered -/
/-- the statement k is sound -/
def SV (S : Nat) (m : yM) (k : Nat) : Prop :=
  ((m (S + k) 0 = 0 ∨ m (S + k) 0 = 1) → 0 ≤ m (S + k) 3 ∧ (k : Int) < m (S + k) 11) ∧
  ((m (S + k) 0 = 2 ∨ m (S + k) 0 = 3 ∨ m (S + k) 0 = 7 ∨ m (S + k) 0 = 8 ∨ m (S + k) 0 = 9) → 0 ≤ m (S + k) 2 ∧ 0 ≤ m (S + k) 3) ∧
  (m (S + k) 0 = 4 → 0 ≤ m (S + k) 3 ∧ 0 ≤ m (S + k) 6 ∧ (1 ≤ m (S + k) 8 → 0 ≤ m (S + k) 9) ∧ (2 ≤ m (S + k) 8 → 0 ≤ m (S + k) 10)) ∧
  (m (S + k) 0 = 5 → 0 ≤ m (S + k) 2 ∧ 0 ≤ m (S + k) 6) ∧ (m (S + k) 0 = 6 → 0 ≤ m (S + k) 2)
/-- the statements from a to b are sound; their calls are numbered from c1 to c2, rising; the casts from d1 to d2 are among them (K: where casts are told) -/
def RG (S K : Nat) (m : yM) (a b c1 c2 d1 d2 : Int) : Prop :=
  (∀ j : Nat, a ≤ j → (j : Int) < b → SV S m j ∧ (m (S + j) 0 = 4 → c1 ≤ m (S + j) 6 ∧ m (S + j) 6 < c2)) ∧
  (∀ i j : Nat, a ≤ i → i < j → (j : Int) < b → m (S + i) 0 = 4 → m (S + j) 0 = 4 → m (S + i) 6 < m (S + j) 6) ∧
  (∀ z : Nat, d1 ≤ z → (z : Int) < d2 → ∃ j : Nat, m K z = j ∧ a ≤ j ∧ (j : Int) < b ∧ m (S + j) 0 = 7)
section RGL
variable {S K : Nat} {m m' : yM} {a b c c1 c2 c3 d1 d2 d3 : Int}
theorem SV.fr {k : Nat} (h : SV S m k) (e : ∀ q, q ≠ 12 → m' (S + k) q = m (S + k) q) : SV S m' k := by
  unfold SV at h ⊢
  rw [e 0 (by decide), e 2 (by decide), e 3 (by decide), e 6 (by decide), e 8 (by decide), e 9 (by decide), e 10 (by decide), e 11 (by decide)]
  exact h
theorem RG.nil (h : b ≤ a) (h2 : d2 ≤ d1) : RG S K m a b c1 c2 d1 d2 := ⟨fun j h3 h4 => by omega, fun i j h3 h4 h5 => by omega, fun z h3 h4 => by omega⟩
theorem RG.fr (h : RG S K m a b c1 c2 d1 d2) (e : ∀ j : Nat, a ≤ j → (j : Int) < b → ∀ q, q ≠ 12 → m' (S + j) q = m (S + j) q) (e2 : ∀ z : Nat, d1 ≤ z → (z : Int) < d2 → m' K z = m K z) (hc : c2 ≤ c3) : RG S K m' a b c1 c3 d1 d2 := by
  obtain ⟨h1, h2, h3⟩ := h
  refine ⟨fun j ja jb => ?_, fun i j ia ij jb => ?_, fun z za zb => ?_⟩
  · obtain ⟨k1, k2⟩ := h1 j ja jb
    refine ⟨k1.fr (e j ja jb), ?_⟩
    rw [e j ja jb 0 (by decide), e j ja jb 6 (by decide)]
    intro h4
    have := k2 h4
    omega
  · have ib : (i : Int) < b := by omega
    have ja : a ≤ (j : Int) := by omega
    rw [e i ia ib 0 (by decide), e i ia ib 6 (by decide), e j ja jb 0 (by decide), e j ja jb 6 (by decide)]
    exact h2 i j ia ij jb
  · obtain ⟨j, k1, k2, k3, k4⟩ := h3 z za zb
    exact ⟨j, by rw [e2 z za zb]; exact k1, k2, k3, by rw [e j k2 k3 0 (by decide)]; exact k4⟩
theorem RG.app (h : RG S K m a b c1 c2 d1 d2) (h' : RG S K m b c c2 c3 d2 d3) (hab : a ≤ b) (hbc : b ≤ c) (hc : c1 ≤ c2 ∧ c2 ≤ c3) : RG S K m a c c1 c3 d1 d3 := by
  obtain ⟨h1, h2, h3⟩ := h
  obtain ⟨g1, g2, g3⟩ := h'
  refine ⟨fun j ja jb => ?_, fun i j ia ij jb => ?_, fun z za zb => ?_⟩
  · by_cases q : (j : Int) < b
    · obtain ⟨k1, k2⟩ := h1 j ja q
      exact ⟨k1, fun h4 => by have := k2 h4; omega⟩
    · obtain ⟨k1, k2⟩ := g1 j (by omega) jb
      exact ⟨k1, fun h4 => by have := k2 h4; omega⟩
  · intro h4 h5
    by_cases q : (j : Int) < b
    · exact h2 i j ia ij q h4 h5
    · by_cases q2 : (i : Int) < b
      · have := (h1 i ia q2).2 h4
        have := (g1 j (by omega) jb).2 h5
        omega
      · exact g2 i j (by omega) ij jb h4 h5
  · by_cases q : (z : Int) < d2
    · obtain ⟨j, k1, k2, k3, k4⟩ := h3 z za q
      exact ⟨j, k1, k2, by omega, k4⟩
    · obtain ⟨j, k1, k2, k3, k4⟩ := g3 z (by omega) zb
      exact ⟨j, k1, by omega, k3, k4⟩
/-- one statement -/
theorem RG.one {k : Nat} (h : SV S m k) (hc : m (S + k) 0 = 4 → c1 ≤ m (S + k) 6 ∧ m (S + k) 6 < c2) (hd : d2 = d1 ∨ (d2 = d1 + 1 ∧ 0 ≤ d1 ∧ m K d1.toNat = k ∧ m (S + k) 0 = 7)) : RG S K m k (k + 1) c1 c2 d1 d2 := by
  refine ⟨fun j ja jb => ?_, fun i j ia ij jb => by omega, fun z za zb => ?_⟩
  · have : j = k := by omega
    subst this
    exact ⟨h, hc⟩
  · rcases hd with hd | ⟨hd, h0, h1, h2⟩
    · omega
    · have : z = d1.toNat := by omega
      subst this
      exact ⟨k, h1, by omega, by omega, h2⟩
end RGL
/-- the statements from a to b end at c at most, and so do their first bodies -/
def EN (S : Nat) (m : yM) (a b c : Int) : Prop := ∀ j : Nat, a ≤ j → (j : Int) < b → m (S + j) 12 ≤ c ∧ ((m (S + j) 0 = 0 ∨ m (S + j) 0 = 1) → m (S + j) 11 ≤ c)
section ENL
variable {S : Nat} {m m' : yM} {a b c c2 : Int}
theorem EN.nil (h : b ≤ a) : EN S m a b c := fun j h1 h2 => by omega
theorem EN.fr (h : EN S m a b c) (e : ∀ j : Nat, a ≤ j → (j : Int) < b → ∀ q, m' (S + j) q = m (S + j) q) (hc : c ≤ c2) : EN S m' a b c2 := by
  intro j h1 h2
  have := h j h1 h2
  rw [e j h1 h2 12, e j h1 h2 0, e j h1 h2 11]
  omega
theorem EN.app {b2 : Int} (h : EN S m a b c) (h' : EN S m b b2 c) : EN S m a b2 c := by
  intro j h1 h2
  by_cases q : (j : Int) < b
  · exact h j h1 q
  · exact h' j (by omega) h2
theorem EN.one {k : Int} (hk : 0 ≤ k) (h12 : m (S + k.toNat) 12 ≤ c) (h11 : (m (S + k.toNat) 0 = 0 ∨ m (S + k.toNat) 0 = 1) → m (S + k.toNat) 11 ≤ c) : EN S m k (k + 1) c := by
  intro j h1 h2
  have : j = k.toNat := by omega
  subst this
  exact ⟨h12, h11⟩
end ENL
end
section
/-! A PROGRAM THAT WAS READ IS SOUND -/
/-- the methods' bodies end at c at most -/
def ES (B : Nat) (m : yM) (n c : Int) : Prop := ∀ k : Nat, (k : Int) < n → m (B + k) 5 ≤ c
/-- loads and stores name a field, or none -/
def NL (S : Nat) (m : yM) (a b : Int) : Prop := ∀ j : Nat, a ≤ j → (j : Int) < b → (m (S + j) 0 = 3 ∨ m (S + j) 0 = 9) → m (S + j) 6 ≤ 7
def PS (A : Nat) (m : yM) : Prop := RG (A + 20) (A + 9) m 0 (m A 16) 0 (m A 12) 0 (m A 13) ∧ EN (A + 20) m 0 (m A 16) (m A 16) ∧ NL (A + 20) m 0 (m A 16) ∧ MP (A + 10) m ∧ ES (A + 10) m (m A 10) (m A 16) ∧ m A 17 < m A 10
section PSL
variable {S K A B : Nat} {m m' : yM} {a b c c1 c2 d1 d2 : Int}
theorem ES.nil (h : a ≤ 0) : ES B m a c := fun k hk => by omega
theorem ES.fr (h : ES B m a c) (e : ∀ k : Nat, (k : Int) < a → m' (B + k) 5 = m (B + k) 5) (hc : c ≤ c2) : ES B m' a c2 := by
  intro k hk
  have := h k hk
  rw [e k hk]
  omega
theorem ES.snoc (h : ES B m a c) (h0 : 0 ≤ a) (h1 : m (B + a.toNat) 5 ≤ c) : ES B m (a + 1) c := by
  intro k hk
  by_cases q : (k : Int) < a
  · exact h k q
  · have : k = a.toNat := by omega
    subst this
    exact h1
theorem NL.nil (h : b ≤ a) : NL S m a b := fun j h1 h2 => by omega
theorem NL.snoc (h : NL S m a b) {k : Int} (hk : k = b) (h0 : 0 ≤ k) (h1 : (m (S + k.toNat) 0 = 3 ∨ m (S + k.toNat) 0 = 9) → m (S + k.toNat) 6 ≤ 7) : NL S m a (b + 1) := by
  intro j ja jb hj
  by_cases q : (j : Int) < b
  · exact h j ja q hj
  · have : j = k.toNat := by omega
    subst this
    exact h1 hj
theorem NL.fr (h : NL S m a b) (e : ∀ j : Nat, a ≤ j → (j : Int) < b → m' (S + j) 0 = m (S + j) 0 ∧ m' (S + j) 6 = m (S + j) 6) : NL S m' a b := by
  intro j ja jb hj
  rw [(e j ja jb).1] at hj
  rw [(e j ja jb).2]
  exact h j ja jb hj
/-- sound, whatever the fields' numbers of loads and stores, and the types -/
theorem RG.ext (h : RG S K m a b c1 c2 d1 d2) (e : ∀ j : Nat, ∀ q, q ≠ 6 → q ≠ 7 → m' (S + j) q = m (S + j) q) (e6 : ∀ j : Nat, (m (S + j) 0 = 4 ∨ m (S + j) 0 = 5) → m' (S + j) 6 = m (S + j) 6) (e2 : ∀ z : Nat, m' K z = m K z) : RG S K m' a b c1 c2 d1 d2 := by
  obtain ⟨h1, h2, h3⟩ := h
  refine ⟨fun j ja jb => ?_, fun i j ia ij jb => ?_, fun z za zb => ?_⟩
  · obtain ⟨k1, k2⟩ := h1 j ja jb
    constructor
    · unfold SV at k1 ⊢
      rw [e j 0 (by decide) (by decide), e j 2 (by decide) (by decide), e j 3 (by decide) (by decide), e j 8 (by decide) (by decide), e j 9 (by decide) (by decide), e j 10 (by decide) (by decide), e j 11 (by decide) (by decide)]
      obtain ⟨s1, s2, s3, s4, s5⟩ := k1
      refine ⟨s1, s2, fun q => ?_, fun q => ?_, s5⟩
      · rw [e6 j (Or.inl q)]; exact s3 q
      · rw [e6 j (Or.inr q)]; exact s4 q
    · rw [e j 0 (by decide) (by decide)]
      intro q
      rw [e6 j (Or.inl q)]
      exact k2 q
  · rw [e i 0 (by decide) (by decide), e j 0 (by decide) (by decide)]
    intro p q
    rw [e6 i (Or.inl p), e6 j (Or.inl q)]
    exact h2 i j ia ij jb p q
  · obtain ⟨j, k1, k2, k3, k4⟩ := h3 z za zb
    exact ⟨j, by rw [e2 z]; exact k1, k2, k3, by rw [e j 0 (by decide) (by decide)]; exact k4⟩
theorem EN.fr' (h : EN S m a b c) (e : ∀ j q, (q ≠ 6 ∧ q ≠ 7) → m' (S + j) q = m (S + j) q) : EN S m' a b c := by
  intro j h1 h2
  have := h j h1 h2
  rw [e j 12 (by decide), e j 0 (by decide), e j 11 (by decide)]
  exact this
theorem PS.fr (h : PS A m) (h16 : m A 16 ≤ 40) (h10 : m A 10 ≤ 10) (e : ∀ k q, k < 60 → m' (A + k) q = m (A + k) q) : PS A m' := by
  obtain ⟨h1, h2, h3, h4, h5, h6⟩ := h
  have e0 : ∀ q, m' A q = m A q := fun q => e 0 q (by decide)
  have tt : ∀ (j : Nat), (j : Int) < m A 16 → ∀ q, m' (A + 20 + j) q = m (A + 20 + j) q := fun j hj q => by
    have := e (20 + j) q (by omega)
    rw [Nat.add_assoc]
    exact this
  have tm : ∀ (j : Nat), j < 10 → ∀ q, m' (A + 10 + j) q = m (A + 10 + j) q := fun j hj q => by
    have := e (10 + j) q (by omega)
    rw [Nat.add_assoc]
    exact this
  unfold PS
  rw [e0 16, e0 12, e0 13, e0 10, e0 17]
  refine ⟨h1.fr (fun j _ jb q _ => tt j jb q) (fun z _ _ => e 9 z (by decide)) (Int.le_refl _), h2.fr (fun j _ jb q => tt j jb q) (Int.le_refl _), h3.fr (fun j _ jb => ⟨tt j jb 0, tt j jb 6⟩), ?_, h5.fr (fun k hk => tm k (by omega) 5) (Int.le_refl _), h6⟩
  intro k hk
  rw [tm k hk 2, tm k hk 3]
  exact h4 k hk
end PSL
end
section
/-! CONTRACTS: printed by wip/whole/gen80.py and on -/
def wRo (R a _q : Nat) : Bool := a == R
theorem wRo_s {R a q : Nat} (h : a = R) : wRo R a q = true := by simp [wRo, h]
set_option maxRecDepth 100000 in
theorem t75a {L : Nat} {xs : Nat → Int32} {d nn : Nat} {m : yM} {R ln : Nat} {lo hi v : Int} (hT : Ty gT m) (hR : yarr gSh 414 R = some (0, ln)) (hR2 : ∀ q, gT R q = (lo, hi)) (hln : ln ≤ 1000) (hv : lo ≤ v ∧ v ≤ hi) : ∀ (k : Nat) (i : Int) (mi : yM), (ln : Int) - i = k → 0 ≤ i ∧ i ≤ ln → Ty gT mi → Fr (wRo R) m mi → (∀ q, q < i.toNat → mi R q = v) → YW (gZ L xs) 75 d 5 [some (.ref R), some (yI v), some (yI i), some (yI ((ln : Int)))] [] mi nn (qU (fun m' n' => n' = nn ∧ Ty gT m' ∧ Fr (wRo R) m m' ∧ ∀ q, q < ln → m' R q = v)) := by
  intro k
  induction k using Nat.strongRecOn with
  | ind k ih =>
    intro i mi hk hi0 hTi hFi hz
    refine y_iload 6 c75_5 rfl rfl ?_
    refine y_iload 7 c75_6 rfl rfl ?_
    refine y_icmp 20 10 c75_7 rfl rfl (yc_ge (by omega) (by omega)) (fun hb2716 => ?_) (fun hb2716 => ?_)
    · exact y_retU c75_20 ⟨rfl, hTi, hFi, fun q hq => hz q (by omega)⟩
    · refine y_aload 11 c75_10 rfl rfl rfl ?_
      refine y_iload 12 c75_11 rfl rfl ?_
      refine y_iload 13 c75_12 rfl rfl ?_
      refine y_iastore 14 c75_13 rfl hR (by omega) (y_nar0 _) ?_
      have hT2717 := hTi.up R i.toNat v lo hi (hR2 _) (by omega)
      have hF2718 := hFi.up R i.toNat v (wRo_s (by omega))
      refine y_iinc 17 c75_14 rfl rfl rfl ?_
      refine y_goto 5 c75_17 rfl ?_
      exact ih ((ln : Int) - (i + 1) : Int).toNat (by omega) (i + 1)  _ (by omega) (by omega) hT2717 hF2718 (fun q hq => by
          by_cases e : q = i.toNat
          · subst e; exact yup_eq _ _ _ _
          · rw [yup_nk e]; exact hz q (by omega))
set_option maxRecDepth 100000 in
theorem t75 {L : Nat} {xs : Nat → Int32} {d nn : Nat} {m : yM} {R ln : Nat} {lo hi v : Int} (hT : Ty gT m) (hR : yarr gSh 414 R = some (0, ln)) (hR2 : ∀ q, gT R q = (lo, hi)) (hln : ln ≤ 1000) (hv : lo ≤ v ∧ v ≤ hi) : YC (gZ L xs) d 75 [.ref R, yI v] m nn (qU (fun m' n' => n' = nn ∧ Ty gT m' ∧ Fr (wRo R) m m' ∧ ∀ q, q < ln → m' R q = v)) := by
  refine YC.mkB [some (.ref R), some (yI v), none, none] kn75 rfl rfl ?_
  refine y_iconst 1 c75_0 rfl ?_
  refine y_istore 2 c75_1 rfl rfl ?_
  refine y_aload 3 c75_2 rfl rfl rfl ?_
  refine y_alen 4 c75_3 rfl hR ?_
  refine y_istore 5 c75_4 rfl rfl ?_
  exact t75a hT hR hR2 hln hv ((ln : Int) - 0).toNat 0 m (by omega) (by omega) hT Fr.rf (fun q hq => by simp at hq)
set_option maxRecDepth 100000 in
theorem t78 {L : Nat} {xs : Nat → Int32} {d nn : Nat} {m : yM} {v : Int} (hT : Ty gT m) (hv : -2147483648 ≤ v ∧ v < 2147483648) : YC (gZ L xs) d 78 [.ref 8, yI v] m nn (qP m nn (fun r => (r = 1 ∧ v ≠ -1) ∨ r = 0)) := by
  refine YC.mkB [some (.ref 8), some (yI v)] kn78 rfl rfl ?_
  refine y_iload 1 c78_0 rfl rfl ?_
  refine y_iconst 2 c78_1 rfl ?_
  refine y_icmp 17 5 c78_2 rfl rfl (yc_eq (by omega) (by omega)) (fun hb2719 => ?_) (fun hb2719 => ?_)
  · refine y_iconst 18 c78_17 rfl ?_
    exact y_retP c78_18 (y_fit1 (by omega)) (by omega)
  · refine y_iload 6 c78_5 rfl rfl ?_
    refine y_aload 7 c78_6 rfl rfl rfl ?_
    refine y_getX 10 (m 8 5) c78_7 rfl kf8_5 rfl ?_
    have tb2720 := hT.atp 8 5 0 2000 rfl
    refine y_icmp 17 13 c78_10 rfl rfl (yc_gt (by omega) (by omega)) (fun hb2721 => ?_) (fun hb2721 => ?_)
    · refine y_iconst 18 c78_17 rfl ?_
      exact y_retP c78_18 (y_fit1 (by omega)) (by omega)
    · refine y_iconst 14 c78_13 rfl ?_
      refine y_goto 18 c78_14 rfl ?_
      exact y_retP c78_18 (y_fit1 (by omega)) (by omega)
def wTe (R a q : Nat) : Bool := (a == 8 && q == 6) || a == R
theorem wTe_s {R a q : Nat} (h : a = R) : wTe R a q = true := by simp [wTe, h]
set_option maxRecDepth 100000 in
theorem t79 {L : Nat} {xs : Nat → Int32} {d nn : Nat} {m : yM} {R ln : Nat} {j : Int} (hT : Ty gT m) (hR : yarr gSh 414 R = some (0, ln)) (hR2 : ∀ q, gT R q = (-2147483648, 2147483647)) (hRn : 9 ≤ R) (hj : 0 ≤ j ∧ j < ln) : YC (gZ L xs) d 79 [.ref 8, .ref R, yI j] m nn (qU (fun m' n' => n' = nn ∧ Ty gT m' ∧ Fr (wTe R) m m' ∧ (∀ q, q ≠ j.toNat → m' R q = m R q))) := by
  refine YC.mkB [some (.ref 8), some (.ref R), some (yI j)] kn79 rfl rfl ?_
  have hF : Fr (wTe R) m m := Fr.rf
  refine y_aload 1 c79_0 rfl rfl rfl ?_
  refine y_iload 2 c79_1 rfl rfl ?_
  refine y_iaT 3 ((-2147483648)) 2147483647 c79_2 rfl hR (by omega) hT (hR2 _) (fun v2722 hv2722 gv2722 => ?_)
  refine y_iconst 4 c79_3 rfl ?_
  refine y_icmp 26 7 c79_4 rfl rfl (yc_ne (by omega) (by omega)) (fun hb2723 => ?_) (fun hb2723 => ?_)
  · exact y_retU c79_26 ⟨rfl, hT, hF, fun q hq => rfl⟩
  · refine y_aload 8 c79_7 rfl rfl rfl ?_
    refine y_iload 9 c79_8 rfl rfl ?_
    refine y_aload 10 c79_9 rfl rfl rfl ?_
    refine y_getX 13 (m 8 5) c79_10 rfl kf8_5 rfl ?_
    have tb2724 := hT.atp 8 5 0 2000 rfl
    refine y_iconst 14 c79_13 rfl ?_
    refine y_iadd 15 c79_14 rfl ?_
    refine y_iastore 16 c79_15 rfl hR (by omega) (y_nar0 _) ?_
    have hT2725 := hT.up R j.toNat ((m 8 5) + 1) ((-2147483648)) 2147483647 (hR2 _) (by omega)
    have hF2726 := hF.up R j.toNat ((m 8 5) + 1) (wTe_s (by omega))
    refine y_aload 17 c79_16 rfl rfl rfl ?_
    refine y_aload 18 c79_17 rfl rfl rfl ?_
    refine y_getX 21 (m 8 5) c79_18 rfl kf8_5 (yup_na (by omega)) ?_
    refine y_iconst 22 c79_21 rfl ?_
    refine y_iadd 23 c79_22 rfl ?_
    refine y_putI 26 c79_23 rfl kf8_6 (y_fit0 _) ?_
    have hT2727 := hT2725.up 8 6 ((m 8 5) + 1) 0 2001 rfl (by omega)
    have hF2728 := hF2726.up 8 6 ((m 8 5) + 1) rfl
    exact y_retU c79_26 ⟨rfl, hT2727, hF2728, fun q hq => ((yup_na (by omega)).trans (yup_nk hq))⟩
set_option maxRecDepth 100000 in
theorem t81a_256 {L : Nat} {xs : Nat → Int32} {d nn : Nat} {m : yM} {c u : Int} (hT : Ty gT m) (hc : -1 ≤ c ∧ c ≤ 5) (hu : -2147483648 ≤ u ∧ u < 2147483648) : ∀ (k : Nat) (t : Int) (i : Int), 6 - i = k → -1 ≤ t ∧ t ≤ 5 → 0 ≤ i ∧ i ≤ 6 → YW (gZ L xs) 81 d 5 [some (.ref 256), some (yI c), some (yI u), some (yI t), some (yI i)] [] m nn (qP m nn (fun r => r = 0 ∨ r = 1)) := by
  intro k
  induction k using Nat.strongRecOn with
  | ind k ih =>
    intro t i hk ht hi
    refine y_iload 7 c81_5 rfl rfl ?_
    refine y_iconst 9 c81_7 rfl ?_
    refine y_icmp 37 12 c81_9 rfl rfl (yc_ge (by omega) (by omega)) (fun hb2729 => ?_) (fun hb2729 => ?_)
    · refine y_iconst 38 c81_37 rfl ?_
      exact y_retP c81_38 (y_fit1 (by omega)) (by omega)
    · refine y_iload 13 c81_12 rfl rfl ?_
      refine y_iconst 14 c81_13 rfl ?_
      refine y_icmp 37 17 c81_14 rfl rfl (yc_eq (by omega) (by omega)) (fun hb2730 => ?_) (fun hb2730 => ?_)
      · refine y_iconst 38 c81_37 rfl ?_
        exact y_retP c81_38 (y_fit1 (by omega)) (by omega)
      · refine y_iload 18 c81_17 rfl rfl ?_
        refine y_iload 19 c81_18 rfl rfl ?_
        refine y_icmp 24 22 c81_19 rfl rfl (yc_ne (by omega) (by omega)) (fun hb2731 => ?_) (fun hb2731 => ?_)
        · refine y_aload 25 c81_24 rfl rfl rfl ?_
          refine y_getR 28 c81_25 rfl kf256_1 ?_
          refine y_iload 29 c81_28 rfl rfl ?_
          refine y_iaT 30 ((-1)) 5 c81_29 rfl ka258 (by omega) hT rfl (fun v2732 hv2732 gv2732 => ?_)
          refine y_istore 31 c81_30 rfl rfl ?_
          refine y_iinc 34 c81_31 rfl rfl rfl ?_
          refine y_goto 5 c81_34 rfl ?_
          exact ih (6 - (i + 1) : Int).toNat (by omega) v2732 (i + 1)   (by omega) (by omega) (by omega)
        · refine y_iconst 23 c81_22 rfl ?_
          exact y_retP c81_23 (y_fit1 (by omega)) (by omega)
set_option maxRecDepth 100000 in
theorem t81_256 {L : Nat} {xs : Nat → Int32} {d nn : Nat} {m : yM} {c u : Int} (hT : Ty gT m) (hc : -1 ≤ c ∧ c ≤ 5) (hu : -2147483648 ≤ u ∧ u < 2147483648) : YC (gZ L xs) d 81 [.ref 256, yI c, yI u] m nn (qP m nn (fun r => r = 0 ∨ r = 1)) := by
  refine YC.mkB [some (.ref 256), some (yI c), some (yI u), none, none] kn81 rfl rfl ?_
  refine y_iload 1 c81_0 rfl rfl ?_
  refine y_istore 2 c81_1 rfl rfl ?_
  refine y_iconst 3 c81_2 rfl ?_
  refine y_istore 5 c81_3 rfl rfl ?_
  exact t81a_256 hT hc hu (6 - 0 : Int).toNat c 0   (by omega) (by omega) (by omega)
set_option maxRecDepth 100000 in
theorem t81a_316 {L : Nat} {xs : Nat → Int32} {d nn : Nat} {m : yM} {c u : Int} (hT : Ty gT m) (hc : -1 ≤ c ∧ c ≤ 5) (hu : -2147483648 ≤ u ∧ u < 2147483648) : ∀ (k : Nat) (t : Int) (i : Int), 6 - i = k → -1 ≤ t ∧ t ≤ 5 → 0 ≤ i ∧ i ≤ 6 → YW (gZ L xs) 81 d 5 [some (.ref 316), some (yI c), some (yI u), some (yI t), some (yI i)] [] m nn (qP m nn (fun r => r = 0 ∨ r = 1)) := by
  intro k
  induction k using Nat.strongRecOn with
  | ind k ih =>
    intro t i hk ht hi
    refine y_iload 7 c81_5 rfl rfl ?_
    refine y_iconst 9 c81_7 rfl ?_
    refine y_icmp 37 12 c81_9 rfl rfl (yc_ge (by omega) (by omega)) (fun hb2733 => ?_) (fun hb2733 => ?_)
    · refine y_iconst 38 c81_37 rfl ?_
      exact y_retP c81_38 (y_fit1 (by omega)) (by omega)
    · refine y_iload 13 c81_12 rfl rfl ?_
      refine y_iconst 14 c81_13 rfl ?_
      refine y_icmp 37 17 c81_14 rfl rfl (yc_eq (by omega) (by omega)) (fun hb2734 => ?_) (fun hb2734 => ?_)
      · refine y_iconst 38 c81_37 rfl ?_
        exact y_retP c81_38 (y_fit1 (by omega)) (by omega)
      · refine y_iload 18 c81_17 rfl rfl ?_
        refine y_iload 19 c81_18 rfl rfl ?_
        refine y_icmp 24 22 c81_19 rfl rfl (yc_ne (by omega) (by omega)) (fun hb2735 => ?_) (fun hb2735 => ?_)
        · refine y_aload 25 c81_24 rfl rfl rfl ?_
          refine y_getR 28 c81_25 rfl kf316_1 ?_
          refine y_iload 29 c81_28 rfl rfl ?_
          refine y_iaT 30 ((-1)) 5 c81_29 rfl ka318 (by omega) hT rfl (fun v2736 hv2736 gv2736 => ?_)
          refine y_istore 31 c81_30 rfl rfl ?_
          refine y_iinc 34 c81_31 rfl rfl rfl ?_
          refine y_goto 5 c81_34 rfl ?_
          exact ih (6 - (i + 1) : Int).toNat (by omega) v2736 (i + 1)   (by omega) (by omega) (by omega)
        · refine y_iconst 23 c81_22 rfl ?_
          exact y_retP c81_23 (y_fit1 (by omega)) (by omega)
set_option maxRecDepth 100000 in
theorem t81_316 {L : Nat} {xs : Nat → Int32} {d nn : Nat} {m : yM} {c u : Int} (hT : Ty gT m) (hc : -1 ≤ c ∧ c ≤ 5) (hu : -2147483648 ≤ u ∧ u < 2147483648) : YC (gZ L xs) d 81 [.ref 316, yI c, yI u] m nn (qP m nn (fun r => r = 0 ∨ r = 1)) := by
  refine YC.mkB [some (.ref 316), some (yI c), some (yI u), none, none] kn81 rfl rfl ?_
  refine y_iload 1 c81_0 rfl rfl ?_
  refine y_istore 2 c81_1 rfl rfl ?_
  refine y_iconst 3 c81_2 rfl ?_
  refine y_istore 5 c81_3 rfl rfl ?_
  exact t81a_316 hT hc hu (6 - 0 : Int).toNat c 0   (by omega) (by omega) (by omega)
set_option maxRecDepth 100000 in
theorem t83 {L : Nat} {xs : Nat → Int32} {d nn : Nat} {m : yM} {s f : Int} (hs : 0 ≤ s ∧ s ≤ 11) (hf : 0 ≤ f ∧ f ≤ 7) : YC (gZ L xs) d 83 [.ref 8, yI s, yI f] m nn (qA (fun R m' n' => n' = nn ∧ R = 73 + (s * 8 + f).toNat ∧ m' = m)) := by
  refine YC.mkB [some (.ref 8), some (yI s), some (yI f)] kn83 rfl rfl ?_
  refine y_aload 1 c83_0 rfl rfl rfl ?_
  refine y_getR 4 c83_1 rfl kf8_3 ?_
  refine y_iload 5 c83_4 rfl rfl ?_
  refine y_iconst 7 c83_5 rfl ?_
  refine y_imul 8 c83_7 rfl ?_
  refine y_iload 9 c83_8 rfl rfl ?_
  refine y_iadd 10 c83_9 rfl ?_
  refine y_aaload 11 c83_10 rfl kr72 (by omega) ?_
  exact y_retA c83_11 ⟨rfl, rfl, rfl⟩
theorem wTe_n {R a q : Nat} (h : a ≠ R) (h2 : ¬ (a = 8 ∧ q = 6)) : wTe R a q = false := by
  cases e : wTe R a q with
  | false => rfl
  | true => simp [wTe] at e <;> omega
set_option maxRecDepth 100000 in
theorem t80a_256 {L : Nat} {xs : Nat → Int32} {d nn : Nat} {m : yM} {P R : Nat} (hT : Ty gT m) (hp : m 8 4 = 0) (hP : yarr gSh 414 P = some (0, 12)) (hP2 : ∀ q, gT P q = (-2147483648, 2147483647)) (hR : yarr gSh 414 R = some (0, 12)) (hR2 : ∀ q, gT R q = (-2147483648, 2147483647)) (hRn : 9 ≤ R ∧ R < 169) : ∀ (k : Nat) (i : Int) (mi : yM), m 256 14 - i = k → 0 ≤ i ∧ i ≤ m 256 14 → Ty gT mi → Fr (wTe R) m mi → YW (gZ L xs) 80 (d + 1) 2 [some (.ref 8), some (.ref P), some (.ref R), some (yI i)] [] mi nn (qU (fun m' n' => n' = nn ∧ Ty gT m' ∧ Fr (wTe R) m m')) := by
  intro k
  induction k using Nat.strongRecOn with
  | ind k ih =>
    intro i mi hk hi hTi hFi
    have tb := hT.atp 256 14 0 12 rfl
    refine y_iload 3 c80_2 rfl rfl ?_
    refine y_aload 4 c80_3 rfl rfl rfl ?_
    refine y_getS 7 (B := 256) c80_4 rfl kf8_4 (by rw [show mi 8 4 = 0 from by have e : mi 8 4 = m 8 4 := (hFi 8 4 (wTe_n (by omega) (by decide))); omega]; rfl) ?_
    refine y_getX 10 (m 256 14) c80_7 rfl kf256_14 (hFi 256 14 (wTe_n (by omega) (by decide))) ?_
    refine y_icmp 35 13 c80_10 rfl rfl (yc_ge (by omega) (by omega)) (fun hb2737 => ?_) (fun hb2737 => ?_)
    · exact y_retU c80_35 ⟨rfl, hTi, hFi⟩
    · refine y_aload 14 c80_13 rfl rfl rfl ?_
      refine y_aload 15 c80_14 rfl rfl rfl ?_
      refine y_iload 16 c80_15 rfl rfl ?_
      refine y_iaT 17 ((-2147483648)) 2147483647 c80_16 rfl hP (by omega) hTi (hP2 _) (fun v2738 hv2738 gv2738 => ?_)
      refine y_callP 20 [.ref 8, yI v2738] [] c80_17 rfl rfl rfl rfl rfl (ycanO km78 ko8) (t78 hTi (by omega)) (fun r2739 hr2739 => ?_)
      refine y_if 29 23 c80_20 rfl rfl (yz_eq (by omega)) (fun hb2740 => ?_) (fun hb2740 => ?_)
      · refine y_iinc 32 c80_29 rfl rfl rfl ?_
        refine y_goto 2 c80_32 rfl ?_
        exact ih (m 256 14 - (i + 1) : Int).toNat (by omega) (i + 1)  _ (by omega) (by omega) hTi hFi
      · refine y_aload 24 c80_23 rfl rfl rfl ?_
        refine y_aload 25 c80_24 rfl rfl rfl ?_
        refine y_iload 26 c80_25 rfl rfl ?_
        refine y_callUB 29 [.ref 8, .ref R, yI i] [] c80_26 rfl rfl rfl rfl rfl (ycanO km79 ko8) (t79 hTi hR hR2 hRn.1 (by omega)) (fun mq2741 nq2741 hq2741 => ?_)
        obtain ⟨rfl, hTq2741, hFq2741, hq2741⟩ := hq2741
        have hF2742 := hFi.tr hFq2741 (fun _ _ e => e)
        refine y_iinc 32 c80_29 rfl rfl rfl ?_
        refine y_goto 2 c80_32 rfl ?_
        exact ih (m 256 14 - (i + 1) : Int).toNat (by omega) (i + 1)  _ (by omega) (by omega) hTq2741 hF2742
set_option maxRecDepth 100000 in
theorem t80_256 {L : Nat} {xs : Nat → Int32} {d nn : Nat} {m : yM} {P R : Nat} (hT : Ty gT m) (hp : m 8 4 = 0) (hP : yarr gSh 414 P = some (0, 12)) (hP2 : ∀ q, gT P q = (-2147483648, 2147483647)) (hR : yarr gSh 414 R = some (0, 12)) (hR2 : ∀ q, gT R q = (-2147483648, 2147483647)) (hRn : 9 ≤ R ∧ R < 169) : YC (gZ L xs) (d + 1) 80 [.ref 8, .ref P, .ref R] m nn (qU (fun m' n' => n' = nn ∧ Ty gT m' ∧ Fr (wTe R) m m')) := by
  refine YC.mkB [some (.ref 8), some (.ref P), some (.ref R), none] kn80 rfl rfl ?_
  refine y_iconst 1 c80_0 rfl ?_
  refine y_istore 2 c80_1 rfl rfl ?_
  have tb := hT.atp 256 14 0 12 rfl
  exact t80a_256 hT hp hP hP2 hR hR2 hRn (m 256 14 - 0).toNat 0 m (by omega) (by omega) hT Fr.rf
set_option maxRecDepth 100000 in
theorem t80a_316 {L : Nat} {xs : Nat → Int32} {d nn : Nat} {m : yM} {P R : Nat} (hT : Ty gT m) (hp : m 8 4 = 1) (hP : yarr gSh 414 P = some (0, 12)) (hP2 : ∀ q, gT P q = (-2147483648, 2147483647)) (hR : yarr gSh 414 R = some (0, 12)) (hR2 : ∀ q, gT R q = (-2147483648, 2147483647)) (hRn : 9 ≤ R ∧ R < 169) : ∀ (k : Nat) (i : Int) (mi : yM), m 316 14 - i = k → 0 ≤ i ∧ i ≤ m 316 14 → Ty gT mi → Fr (wTe R) m mi → YW (gZ L xs) 80 (d + 1) 2 [some (.ref 8), some (.ref P), some (.ref R), some (yI i)] [] mi nn (qU (fun m' n' => n' = nn ∧ Ty gT m' ∧ Fr (wTe R) m m')) := by
  intro k
  induction k using Nat.strongRecOn with
  | ind k ih =>
    intro i mi hk hi hTi hFi
    have tb := hT.atp 316 14 0 12 rfl
    refine y_iload 3 c80_2 rfl rfl ?_
    refine y_aload 4 c80_3 rfl rfl rfl ?_
    refine y_getS 7 (B := 316) c80_4 rfl kf8_4 (by rw [show mi 8 4 = 1 from by have e : mi 8 4 = m 8 4 := (hFi 8 4 (wTe_n (by omega) (by decide))); omega]; rfl) ?_
    refine y_getX 10 (m 316 14) c80_7 rfl kf316_14 (hFi 316 14 (wTe_n (by omega) (by decide))) ?_
    refine y_icmp 35 13 c80_10 rfl rfl (yc_ge (by omega) (by omega)) (fun hb2743 => ?_) (fun hb2743 => ?_)
    · exact y_retU c80_35 ⟨rfl, hTi, hFi⟩
    · refine y_aload 14 c80_13 rfl rfl rfl ?_
      refine y_aload 15 c80_14 rfl rfl rfl ?_
      refine y_iload 16 c80_15 rfl rfl ?_
      refine y_iaT 17 ((-2147483648)) 2147483647 c80_16 rfl hP (by omega) hTi (hP2 _) (fun v2744 hv2744 gv2744 => ?_)
      refine y_callP 20 [.ref 8, yI v2744] [] c80_17 rfl rfl rfl rfl rfl (ycanO km78 ko8) (t78 hTi (by omega)) (fun r2745 hr2745 => ?_)
      refine y_if 29 23 c80_20 rfl rfl (yz_eq (by omega)) (fun hb2746 => ?_) (fun hb2746 => ?_)
      · refine y_iinc 32 c80_29 rfl rfl rfl ?_
        refine y_goto 2 c80_32 rfl ?_
        exact ih (m 316 14 - (i + 1) : Int).toNat (by omega) (i + 1)  _ (by omega) (by omega) hTi hFi
      · refine y_aload 24 c80_23 rfl rfl rfl ?_
        refine y_aload 25 c80_24 rfl rfl rfl ?_
        refine y_iload 26 c80_25 rfl rfl ?_
        refine y_callUB 29 [.ref 8, .ref R, yI i] [] c80_26 rfl rfl rfl rfl rfl (ycanO km79 ko8) (t79 hTi hR hR2 hRn.1 (by omega)) (fun mq2747 nq2747 hq2747 => ?_)
        obtain ⟨rfl, hTq2747, hFq2747, hq2747⟩ := hq2747
        have hF2748 := hFi.tr hFq2747 (fun _ _ e => e)
        refine y_iinc 32 c80_29 rfl rfl rfl ?_
        refine y_goto 2 c80_32 rfl ?_
        exact ih (m 316 14 - (i + 1) : Int).toNat (by omega) (i + 1)  _ (by omega) (by omega) hTq2747 hF2748
set_option maxRecDepth 100000 in
theorem t80_316 {L : Nat} {xs : Nat → Int32} {d nn : Nat} {m : yM} {P R : Nat} (hT : Ty gT m) (hp : m 8 4 = 1) (hP : yarr gSh 414 P = some (0, 12)) (hP2 : ∀ q, gT P q = (-2147483648, 2147483647)) (hR : yarr gSh 414 R = some (0, 12)) (hR2 : ∀ q, gT R q = (-2147483648, 2147483647)) (hRn : 9 ≤ R ∧ R < 169) : YC (gZ L xs) (d + 1) 80 [.ref 8, .ref P, .ref R] m nn (qU (fun m' n' => n' = nn ∧ Ty gT m' ∧ Fr (wTe R) m m')) := by
  refine YC.mkB [some (.ref 8), some (.ref P), some (.ref R), none] kn80 rfl rfl ?_
  refine y_iconst 1 c80_0 rfl ?_
  refine y_istore 2 c80_1 rfl rfl ?_
  have tb := hT.atp 316 14 0 12 rfl
  exact t80a_316 hT hp hP hP2 hR hR2 hRn (m 316 14 - 0).toNat 0 m (by omega) (by omega) hT Fr.rf
end
section
/-! CONTRACTS: bodies. Printed by wip/whole/gen89.py -/
def wBo0256 (a q : Nat) : Bool := (a == 2 && (q == 2 || q == 4)) || (a == 256 && (decide (12 ≤ q) && decide (q ≤ 16))) || a == 261 || a == 265
def wBo256 (c a q : Nat) : Bool := ((a == 2 && (q == 2 || q == 4)) || (a == 256 && (decide (12 ≤ q) && decide (q ≤ 16))) || a == 261 || a == 265) || decide (276 + c ≤ a ∧ a < 316)
theorem wBo256_lt {c a q : Nat} (h : a < 276) : wBo256 c a q = wBo0256 a q := by
  have e : decide (276 + c ≤ a ∧ a < 316) = false := by simp; omega
  simp only [wBo256, wBo0256, e, Bool.or_false]
theorem wBo256_s {c j q : Nat} (h : c ≤ j ∧ j < 40) : wBo256 c (276 + j) q = true := by
  simp [wBo256]
  omega
theorem wBo256_n {c j q : Nat} (h : j < c) : wBo256 c (276 + j) q = false := by
  cases e : wBo256 c (276 + j) q with
  | false => rfl
  | true => simp [wBo256] at e <;> omega
theorem wFa_wBo256 {c : Nat} : ∀ a q, wFa a q = true → wBo256 c a q = true := by
  intro a q h
  simp [wFa] at h
  simp [wBo256]
  omega
theorem wAt_wBo256 {c : Nat} : ∀ a q, wAt a q = true → wBo256 c a q = true := by
  intro a q h
  simp [wAt] at h
  simp [wBo256]
  omega
theorem wVr256_wBo256 {c : Nat} : ∀ a q, wVr256 a q = true → wBo256 c a q = true := by
  intro a q h
  simp [wVr256] at h
  simp [wBo256]
  omega
theorem wSv256_wBo256 {k c : Nat} (hk : c ≤ k ∧ k < 40) : ∀ a q, wSv256 k a q = true → wBo256 c a q = true := by
  intro a q h
  simp [wSv256] at h
  simp [wBo256]
  omega
theorem wSv256_n {k j q : Nat} (h : j ≠ k) : wSv256 k (276 + j) q = false := by
  cases e : wSv256 k (276 + j) q with
  | false => rfl
  | true => simp [wSv256] at e <;> omega
theorem wSs256_wBo256 {k c : Nat} (hk : c ≤ k ∧ k < 40) : ∀ a q, wSs256 k a q = true → wBo256 c a q = true := by
  intro a q h
  simp [wSs256] at h
  simp [wBo256]
  omega
theorem wSs256_n {k j q : Nat} (h : j ≠ k) : wSs256 k (276 + j) q = false := by
  cases e : wSs256 k (276 + j) q with
  | false => rfl
  | true => simp [wSs256] at e <;> omega
theorem wBo256_mono {c c' : Nat} (hk : c ≤ c') : ∀ a q, wBo256 c' a q = true → wBo256 c a q = true := by
  intro a q h
  simp [wBo256] at h
  simp [wBo256]
  omega
/-- what a body's contract is, at a depth -/
def BS256 (L : Nat) (xs : Nat → Int32) (D : Nat) (dep e : Int) : Prop := ∀ (nn : Nat) (m : yM), Ty gT m → m 5 e.toNat = 0 → m 2 2 ≤ e → m 2 1 = 0 → 1 ≤ m 256 10 → YC (gZ L xs) D 69 [.ref 2, yI dep] m nn (qI (fun r m' n' => n' = nn ∧ Ty gT m' ∧ Fr (wBo256 (m 256 16).toNat) m m' ∧ ((r = 0 ∨ r = 1) ∧ m' 2 2 ≤ e ∧ m 256 16 ≤ m' 256 16 ∧ m 256 12 ≤ m' 256 12 ∧ m 256 13 ≤ m' 256 13) ∧ (∀ z : Nat, (z : Int) < m 256 13 → m' 265 z = m 265 z) ∧ (r = 1 → RG 276 265 m' (m 256 16) (m' 256 16) (m 256 12) (m' 256 12) (m 256 13) (m' 256 13) ∧ EN 276 m' (m 256 16) (m' 256 16) (m' 256 16))))
set_option maxRecDepth 100000 in
theorem t59_256 {L : Nat} {xs : Nat → Int32} {d nn : Nat} {m : yM} {e : Int} (hT : Ty gT m) (he : 0 ≤ e ∧ e ≤ 320) (hE : m 5 e.toNat = 0) (ha : m 2 2 ≤ e) (hp : m 2 1 = 0) {k : Int} (hk : 0 ≤ k ∧ k ≤ 39) (hm : 1 ≤ m 256 10) (h16 : m 256 16 = k + 1) (hlt : m 2 2 < e) {dep : Int} (hdep : 0 ≤ dep ∧ dep ≤ 3) (hB : BS256 L xs (d + 4) (dep + 1) e) : YC (gZ L xs) (d + 5) 59 [.ref 2, .ref (276 + k.toNat), yI dep] m nn (qI (fun r m' n' => n' = nn ∧ Ty gT m' ∧ Fr (wBo256 k.toNat) m m' ∧ ((r = 0 ∨ r = 1) ∧ m' 2 2 ≤ e ∧ m 256 16 ≤ m' 256 16 ∧ m 256 12 ≤ m' 256 12 ∧ m 256 13 ≤ m' 256 13 ∧ (r = 1 → (m' (276 + k.toNat) 0 = 0 ∨ m' (276 + k.toNat) 0 = 1) ∧ 0 ≤ m' (276 + k.toNat) 3 ∧ k < m' (276 + k.toNat) 11 ∧ m' (276 + k.toNat) 11 ≤ m' 256 16)) ∧ (∀ z : Nat, (z : Int) < m 256 13 → m' 265 z = m 265 z) ∧ (r = 1 → RG 276 265 m' (k + 1) (m' 256 16) (m 256 12) (m' 256 12) (m 256 13) (m' 256 13) ∧ EN 276 m' (k + 1) (m' 256 16) (m' 256 16)))) := by
  have tb2 := hT.atp 2 2 0 320 rfl
  have tb12 := hT.atp 256 12 0 12 rfl
  have tb13 := hT.atp 256 13 0 8 rfl
  refine YC.mkB [some (.ref 2), some (.ref (276 + k.toNat)), some (yI dep)] kn59 rfl rfl ?_
  have hF : Fr (wBo256 k.toNat) m m := Fr.rf
  refine y_aload 1 c59_0 rfl rfl rfl ?_
  refine y_aload 2 c59_1 rfl rfl rfl ?_
  have tb2749 := hT.atp 2 2 0 320 rfl
  refine y_callP 5 [.ref 2] [.ref (276 + k.toNat)] c59_2 rfl rfl rfl rfl rfl (ycanO km38 ko2) (t38 hT he hE (by omega)) (fun r2750 hr2750 => ?_)
  refine y_iconst 7 c59_5 rfl ?_
  refine y_icmp 14 10 c59_7 rfl rfl (yc_ne (by omega) (by omega)) (fun hb2751 => ?_) (fun hb2751 => ?_)
  · refine y_iconst 15 c59_14 rfl ?_
    refine y_putI 18 c59_15 rfl (ff276_0 (by omega)) (y_fit0 _) ?_
    have hT2752 := hT.up (276 + k.toNat) 0 1 0 9 (ft276_0 (by omega)) (by omega)
    have hF2753 := hF.up (276 + k.toNat) 0 1 (wBo256_s (by omega))
    refine y_aload 19 c59_18 rfl rfl rfl ?_
    refine y_dup 20 c59_19 rfl rfl ?_
    refine y_getX 23 (m 2 2) c59_20 rfl kf2_2 (yup_na (by omega)) ?_
    refine y_iconst 24 c59_23 rfl ?_
    refine y_iadd 25 c59_24 rfl ?_
    refine y_putI 28 c59_25 rfl kf2_2 (y_fit0 _) ?_
    have hT2754 := hT2752.up 2 2 ((m 2 2) + 1) 0 320 rfl (by omega)
    have hF2755 := hF2753.up 2 2 ((m 2 2) + 1) rfl
    refine y_aload 29 c59_28 rfl rfl rfl ?_
    refine y_aload 30 c59_29 rfl rfl rfl ?_
    have es2757 : (yup (yup m (276 + k.toNat) 0 1) 2 2 ((m 2 2) + 1)) 2 2 = (m 2 2) + 1 := rfl
    have es2758 : (yup (yup m (276 + k.toNat) 0 1) 2 2 ((m 2 2) + 1)) 2 1 = m 2 1 := ((yup_nk (by decide)).trans (yup_na (by omega)))
    have tb2759 := hT.atp 2 1 ((-1)) 1 rfl
    have es2760 : (yup (yup m (276 + k.toNat) 0 1) 2 2 ((m 2 2) + 1)) 256 10 = m 256 10 := ((yup_na (by decide)).trans (yup_na (by omega)))
    have tb2761 := hT.atp 256 10 0 10 rfl
    have es2762 : (yup (yup m (276 + k.toNat) 0 1) 2 2 ((m 2 2) + 1)) 256 15 = m 256 15 := ((yup_na (by decide)).trans (yup_na (by omega)))
    have tb2763 := hT.atp 256 15 0 48 rfl
    refine y_callIB 33 [.ref 2] [.ref (276 + k.toNat)] c59_30 rfl rfl rfl rfl rfl (ycanO km58 ko2) (t58_256 hT2754 he (by have e1 : (yup (yup m (276 + k.toNat) 0 1) 2 2 ((m 2 2) + 1)) 5 e.toNat = m 5 e.toNat := ((yup_na (by decide)).trans (yup_na (by omega))); omega) (by omega) (by omega) (by omega)) (fun rq2756 mq2756 nq2756 hq2756 => ?_)
    obtain ⟨rfl, hTq2756, hFq2756, hq2756⟩ := hq2756
    have hF2764 := hF2755.tr hFq2756 wVr256_wBo256
    refine y_putI 36 c59_33 rfl (ff276_3 (by omega)) (y_fit0 _) ?_
    have hT2765 := hTq2756.up (276 + k.toNat) 3 rq2756 ((-1)) 47 (ft276_3 (by omega)) (by omega)
    have hF2766 := hF2764.up (276 + k.toNat) 3 rq2756 (wBo256_s (by omega))
    refine y_aload 37 c59_36 rfl rfl rfl ?_
    refine y_getX 40 rq2756 c59_37 rfl (ff276_3 (by omega)) (yup_eq _ _ _ _) ?_
    refine y_iconst 41 c59_40 rfl ?_
    refine y_icmp 54 44 c59_41 rfl rfl (yc_eq (by omega) (by omega)) (fun hb2767 => ?_) (fun hb2767 => ?_)
    · refine y_iconst 55 c59_54 rfl ?_
      have es2768 : (yup mq2756 (276 + k.toNat) 3 rq2756) 2 2 = mq2756 2 2 := (yup_na (by omega))
      have tb2769 := hTq2756.atp 2 2 0 320 rfl
      have es2770 : (yup mq2756 (276 + k.toNat) 3 rq2756) 256 16 = m 256 16 := ((yup_na (by omega)).trans ((hFq2756 256 16 rfl).trans ((yup_na (by decide)).trans (yup_na (by omega)))))
      have tb2771 := hT.atp 256 16 0 40 rfl
      have es2772 : (yup mq2756 (276 + k.toNat) 3 rq2756) 256 12 = m 256 12 := ((yup_na (by omega)).trans ((hFq2756 256 12 rfl).trans ((yup_na (by decide)).trans (yup_na (by omega)))))
      have tb2773 := hT.atp 256 12 0 12 rfl
      have es2774 : (yup mq2756 (276 + k.toNat) 3 rq2756) 256 13 = m 256 13 := ((yup_na (by omega)).trans ((hFq2756 256 13 rfl).trans ((yup_na (by decide)).trans (yup_na (by omega)))))
      have tb2775 := hT.atp 256 13 0 8 rfl
      have es2776 : (yup mq2756 (276 + k.toNat) 3 rq2756) (276 + k.toNat) 0 = 1 := ((yup_nk (by decide)).trans ((hFq2756 (276 + k.toNat) 0 wVr256_n276).trans ((yup_na (by omega)).trans (yup_eq _ _ _ _))))
      have es2777 : (yup mq2756 (276 + k.toNat) 3 rq2756) (276 + k.toNat) 3 = rq2756 := (yup_eq _ _ _ _)
      have es2778 : (yup mq2756 (276 + k.toNat) 3 rq2756) (276 + k.toNat) 11 = m (276 + k.toNat) 11 := ((yup_nk (by decide)).trans ((hFq2756 (276 + k.toNat) 11 wVr256_n276).trans ((yup_na (by omega)).trans (yup_nk (by decide)))))
      have tb2779 := hT.atp (276 + k.toNat) 11 0 40 (ft276_11 (by omega))
      exact y_retI c59_55 (y_fit1 (by omega)) ⟨rfl, hT2765, hF2766, by omega, fun z hz => ((yup_na (by omega)).trans ((hFq2756 265 z rfl).trans ((yup_na (by decide)).trans (yup_na (by omega))))), fun h1 => by omega⟩
    · refine y_aload 45 c59_44 rfl rfl rfl ?_
      refine y_iload 46 c59_45 rfl rfl ?_
      refine y_iconst 47 c59_46 rfl ?_
      refine y_iadd 48 c59_47 rfl ?_
      have es2781 : (yup mq2756 (276 + k.toNat) 3 rq2756) 2 2 = mq2756 2 2 := (yup_na (by omega))
      have tb2782 := hTq2756.atp 2 2 0 320 rfl
      have es2783 : (yup mq2756 (276 + k.toNat) 3 rq2756) 2 1 = m 2 1 := ((yup_na (by omega)).trans ((hFq2756 2 1 rfl).trans ((yup_nk (by decide)).trans (yup_na (by omega)))))
      have es2784 : (yup mq2756 (276 + k.toNat) 3 rq2756) 256 10 = m 256 10 := ((yup_na (by omega)).trans ((hFq2756 256 10 rfl).trans ((yup_na (by decide)).trans (yup_na (by omega)))))
      have es2785 : (yup mq2756 (276 + k.toNat) 3 rq2756) 256 12 = m 256 12 := ((yup_na (by omega)).trans ((hFq2756 256 12 rfl).trans ((yup_na (by decide)).trans (yup_na (by omega)))))
      have tb2786 := hT.atp 256 12 0 12 rfl
      have es2787 : (yup mq2756 (276 + k.toNat) 3 rq2756) 256 13 = m 256 13 := ((yup_na (by omega)).trans ((hFq2756 256 13 rfl).trans ((yup_na (by decide)).trans (yup_na (by omega)))))
      have tb2788 := hT.atp 256 13 0 8 rfl
      have es2789 : (yup mq2756 (276 + k.toNat) 3 rq2756) 256 16 = m 256 16 := ((yup_na (by omega)).trans ((hFq2756 256 16 rfl).trans ((yup_na (by decide)).trans (yup_na (by omega)))))
      have tb2790 := hT.atp 256 16 0 40 rfl
      refine y_callIB 51 [.ref 2, yI (dep + 1)] [] c59_48 rfl rfl rfl rfl rfl (ycanO km69 ko2) (hB _ _ hT2765 (by have e1 : (yup mq2756 (276 + k.toNat) 3 rq2756) 5 e.toNat = m 5 e.toNat := ((yup_na (by omega)).trans ((hFq2756 5 e.toNat rfl).trans ((yup_na (by decide)).trans (yup_na (by omega))))); omega) (by omega) (by omega) (by omega)) (fun rq2780 mq2780 nq2780 hq2780 => ?_)
      obtain ⟨rfl, hTq2780, hFq2780, hq2780, hZq2780, hGq2780⟩ := hq2780
      have hF2791 := hF2766.tr hFq2780 (wBo256_mono (by omega))
      refine y_if 56 54 c59_51 rfl rfl (yz_ne (by omega)) (fun hb2792 => ?_) (fun hb2792 => ?_)
      · refine y_aload 57 c59_56 rfl rfl rfl ?_
        refine y_aload 58 c59_57 rfl rfl rfl ?_
        refine y_getS 61 (B := 256) c59_58 rfl kf2_1 (by rw [show mq2780 2 1 = 0 from by have e : mq2780 2 1 = m 2 1 := ((hFq2780 2 1 ((wBo256_lt (by decide)).trans rfl)).trans ((yup_na (by omega)).trans ((hFq2756 2 1 rfl).trans ((yup_nk (by decide)).trans (yup_na (by omega)))))); omega]; rfl) ?_
        refine y_getX 64 (mq2780 256 16) c59_61 rfl kf256_16 rfl ?_
        have tb2793 := hTq2780.atp 256 16 0 40 rfl
        refine y_putI 67 c59_64 rfl (ff276_11 (by omega)) (y_fit0 _) ?_
        have hT2794 := hTq2780.up (276 + k.toNat) 11 (mq2780 256 16) 0 40 (ft276_11 (by omega)) (by omega)
        have hF2795 := hF2791.up (276 + k.toNat) 11 (mq2780 256 16) (wBo256_s (by omega))
        refine y_aload 68 c59_67 rfl rfl rfl ?_
        refine y_getX 71 1 c59_68 rfl (ff276_0 (by omega)) ((yup_nk (by decide)).trans ((hFq2780 (276 + k.toNat) 0 (wBo256_n (by omega))).trans ((yup_nk (by decide)).trans ((hFq2756 (276 + k.toNat) 0 wVr256_n276).trans ((yup_na (by omega)).trans (yup_eq _ _ _ _)))))) ?_
        refine y_iconst 72 c59_71 rfl ?_
        refine y_icmp 84 75 c59_72 rfl rfl (yc_eq (by omega) (by omega)) (fun hb2796 => ?_) (fun hb2796 => ?_)
        · refine y_iconst 85 c59_84 rfl ?_
          have es2797 : (yup mq2780 (276 + k.toNat) 11 (mq2780 256 16)) 2 2 = mq2780 2 2 := (yup_na (by omega))
          have tb2798 := hTq2780.atp 2 2 0 320 rfl
          have es2799 : (yup mq2780 (276 + k.toNat) 11 (mq2780 256 16)) 256 16 = mq2780 256 16 := (yup_na (by omega))
          have es2800 : (yup mq2780 (276 + k.toNat) 11 (mq2780 256 16)) 256 12 = mq2780 256 12 := (yup_na (by omega))
          have tb2801 := hTq2780.atp 256 12 0 12 rfl
          have es2802 : (yup mq2780 (276 + k.toNat) 11 (mq2780 256 16)) 256 13 = mq2780 256 13 := (yup_na (by omega))
          have tb2803 := hTq2780.atp 256 13 0 8 rfl
          have es2804 : (yup mq2780 (276 + k.toNat) 11 (mq2780 256 16)) (276 + k.toNat) 0 = 1 := ((yup_nk (by decide)).trans ((hFq2780 (276 + k.toNat) 0 (wBo256_n (by omega))).trans ((yup_nk (by decide)).trans ((hFq2756 (276 + k.toNat) 0 wVr256_n276).trans ((yup_na (by omega)).trans (yup_eq _ _ _ _))))))
          have es2805 : (yup mq2780 (276 + k.toNat) 11 (mq2780 256 16)) (276 + k.toNat) 3 = rq2756 := ((yup_nk (by decide)).trans ((hFq2780 (276 + k.toNat) 3 (wBo256_n (by omega))).trans (yup_eq _ _ _ _)))
          have es2806 : (yup mq2780 (276 + k.toNat) 11 (mq2780 256 16)) (276 + k.toNat) 11 = mq2780 256 16 := (yup_eq _ _ _ _)
          refine y_retI c59_85 (y_fit1 (by omega)) ⟨rfl, hT2794, hF2795, by omega, fun z hz => ((yup_na (by omega)).trans ((hZq2780 z (by omega)).trans ((yup_na (by omega)).trans ((hFq2756 265 z rfl).trans ((yup_na (by decide)).trans (yup_na (by omega))))))), fun h1 => ?_⟩
          obtain ⟨g1, n1⟩ := hGq2780 (by omega)
          have g2 := g1.fr (m' := yup mq2780 (276 + k.toNat) 11 (mq2780 256 16)) (c3 := mq2780 256 12) (fun j ja jb q _ => (yup_na (by omega))) (fun z za zb => (yup_na (by omega))) (by omega)
          have n2 := n1.fr (m' := yup mq2780 (276 + k.toNat) 11 (mq2780 256 16)) (c2 := (yup mq2780 (276 + k.toNat) 11 (mq2780 256 16)) 256 16) (fun j ja jb q => (yup_na (by omega))) (by omega)
          refine ⟨cast ?_ g2, cast ?_ n2⟩ <;> congr 1 <;> omega
        · exfalso; omega
      · refine y_iconst 55 c59_54 rfl ?_
        have tb2807 := hTq2780.atp 2 2 0 320 rfl
        have tb2808 := hTq2780.atp 256 16 0 40 rfl
        have tb2809 := hTq2780.atp 256 12 0 12 rfl
        have tb2810 := hTq2780.atp 256 13 0 8 rfl
        have es2811 : mq2780 (276 + k.toNat) 0 = 1 := ((hFq2780 (276 + k.toNat) 0 (wBo256_n (by omega))).trans ((yup_nk (by decide)).trans ((hFq2756 (276 + k.toNat) 0 wVr256_n276).trans ((yup_na (by omega)).trans (yup_eq _ _ _ _)))))
        have es2812 : mq2780 (276 + k.toNat) 3 = rq2756 := ((hFq2780 (276 + k.toNat) 3 (wBo256_n (by omega))).trans (yup_eq _ _ _ _))
        have es2813 : mq2780 (276 + k.toNat) 11 = m (276 + k.toNat) 11 := ((hFq2780 (276 + k.toNat) 11 (wBo256_n (by omega))).trans ((yup_nk (by decide)).trans ((hFq2756 (276 + k.toNat) 11 wVr256_n276).trans ((yup_na (by omega)).trans (yup_nk (by decide))))))
        have tb2814 := hT.atp (276 + k.toNat) 11 0 40 (ft276_11 (by omega))
        exact y_retI c59_55 (y_fit1 (by omega)) ⟨rfl, hTq2780, hF2791, by omega, fun z hz => ((hZq2780 z (by omega)).trans ((yup_na (by omega)).trans ((hFq2756 265 z rfl).trans ((yup_na (by decide)).trans (yup_na (by omega)))))), fun h1 => by omega⟩
  · refine y_iconst 11 c59_10 rfl ?_
    refine y_goto 15 c59_11 rfl ?_
    refine y_putI 18 c59_15 rfl (ff276_0 (by omega)) (y_fit0 _) ?_
    have hT2815 := hT.up (276 + k.toNat) 0 0 0 9 (ft276_0 (by omega)) (by omega)
    have hF2816 := hF.up (276 + k.toNat) 0 0 (wBo256_s (by omega))
    refine y_aload 19 c59_18 rfl rfl rfl ?_
    refine y_dup 20 c59_19 rfl rfl ?_
    refine y_getX 23 (m 2 2) c59_20 rfl kf2_2 (yup_na (by omega)) ?_
    refine y_iconst 24 c59_23 rfl ?_
    refine y_iadd 25 c59_24 rfl ?_
    refine y_putI 28 c59_25 rfl kf2_2 (y_fit0 _) ?_
    have hT2817 := hT2815.up 2 2 ((m 2 2) + 1) 0 320 rfl (by omega)
    have hF2818 := hF2816.up 2 2 ((m 2 2) + 1) rfl
    refine y_aload 29 c59_28 rfl rfl rfl ?_
    refine y_aload 30 c59_29 rfl rfl rfl ?_
    have es2820 : (yup (yup m (276 + k.toNat) 0 0) 2 2 ((m 2 2) + 1)) 2 2 = (m 2 2) + 1 := rfl
    have es2821 : (yup (yup m (276 + k.toNat) 0 0) 2 2 ((m 2 2) + 1)) 2 1 = m 2 1 := ((yup_nk (by decide)).trans (yup_na (by omega)))
    have tb2822 := hT.atp 2 1 ((-1)) 1 rfl
    have es2823 : (yup (yup m (276 + k.toNat) 0 0) 2 2 ((m 2 2) + 1)) 256 10 = m 256 10 := ((yup_na (by decide)).trans (yup_na (by omega)))
    have tb2824 := hT.atp 256 10 0 10 rfl
    have es2825 : (yup (yup m (276 + k.toNat) 0 0) 2 2 ((m 2 2) + 1)) 256 15 = m 256 15 := ((yup_na (by decide)).trans (yup_na (by omega)))
    have tb2826 := hT.atp 256 15 0 48 rfl
    refine y_callIB 33 [.ref 2] [.ref (276 + k.toNat)] c59_30 rfl rfl rfl rfl rfl (ycanO km58 ko2) (t58_256 hT2817 he (by have e1 : (yup (yup m (276 + k.toNat) 0 0) 2 2 ((m 2 2) + 1)) 5 e.toNat = m 5 e.toNat := ((yup_na (by decide)).trans (yup_na (by omega))); omega) (by omega) (by omega) (by omega)) (fun rq2819 mq2819 nq2819 hq2819 => ?_)
    obtain ⟨rfl, hTq2819, hFq2819, hq2819⟩ := hq2819
    have hF2827 := hF2818.tr hFq2819 wVr256_wBo256
    refine y_putI 36 c59_33 rfl (ff276_3 (by omega)) (y_fit0 _) ?_
    have hT2828 := hTq2819.up (276 + k.toNat) 3 rq2819 ((-1)) 47 (ft276_3 (by omega)) (by omega)
    have hF2829 := hF2827.up (276 + k.toNat) 3 rq2819 (wBo256_s (by omega))
    refine y_aload 37 c59_36 rfl rfl rfl ?_
    refine y_getX 40 rq2819 c59_37 rfl (ff276_3 (by omega)) (yup_eq _ _ _ _) ?_
    refine y_iconst 41 c59_40 rfl ?_
    refine y_icmp 54 44 c59_41 rfl rfl (yc_eq (by omega) (by omega)) (fun hb2830 => ?_) (fun hb2830 => ?_)
    · refine y_iconst 55 c59_54 rfl ?_
      have es2831 : (yup mq2819 (276 + k.toNat) 3 rq2819) 2 2 = mq2819 2 2 := (yup_na (by omega))
      have tb2832 := hTq2819.atp 2 2 0 320 rfl
      have es2833 : (yup mq2819 (276 + k.toNat) 3 rq2819) 256 16 = m 256 16 := ((yup_na (by omega)).trans ((hFq2819 256 16 rfl).trans ((yup_na (by decide)).trans (yup_na (by omega)))))
      have tb2834 := hT.atp 256 16 0 40 rfl
      have es2835 : (yup mq2819 (276 + k.toNat) 3 rq2819) 256 12 = m 256 12 := ((yup_na (by omega)).trans ((hFq2819 256 12 rfl).trans ((yup_na (by decide)).trans (yup_na (by omega)))))
      have tb2836 := hT.atp 256 12 0 12 rfl
      have es2837 : (yup mq2819 (276 + k.toNat) 3 rq2819) 256 13 = m 256 13 := ((yup_na (by omega)).trans ((hFq2819 256 13 rfl).trans ((yup_na (by decide)).trans (yup_na (by omega)))))
      have tb2838 := hT.atp 256 13 0 8 rfl
      have es2839 : (yup mq2819 (276 + k.toNat) 3 rq2819) (276 + k.toNat) 0 = 0 := ((yup_nk (by decide)).trans ((hFq2819 (276 + k.toNat) 0 wVr256_n276).trans ((yup_na (by omega)).trans (yup_eq _ _ _ _))))
      have es2840 : (yup mq2819 (276 + k.toNat) 3 rq2819) (276 + k.toNat) 3 = rq2819 := (yup_eq _ _ _ _)
      have es2841 : (yup mq2819 (276 + k.toNat) 3 rq2819) (276 + k.toNat) 11 = m (276 + k.toNat) 11 := ((yup_nk (by decide)).trans ((hFq2819 (276 + k.toNat) 11 wVr256_n276).trans ((yup_na (by omega)).trans (yup_nk (by decide)))))
      have tb2842 := hT.atp (276 + k.toNat) 11 0 40 (ft276_11 (by omega))
      exact y_retI c59_55 (y_fit1 (by omega)) ⟨rfl, hT2828, hF2829, by omega, fun z hz => ((yup_na (by omega)).trans ((hFq2819 265 z rfl).trans ((yup_na (by decide)).trans (yup_na (by omega))))), fun h1 => by omega⟩
    · refine y_aload 45 c59_44 rfl rfl rfl ?_
      refine y_iload 46 c59_45 rfl rfl ?_
      refine y_iconst 47 c59_46 rfl ?_
      refine y_iadd 48 c59_47 rfl ?_
      have es2844 : (yup mq2819 (276 + k.toNat) 3 rq2819) 2 2 = mq2819 2 2 := (yup_na (by omega))
      have tb2845 := hTq2819.atp 2 2 0 320 rfl
      have es2846 : (yup mq2819 (276 + k.toNat) 3 rq2819) 2 1 = m 2 1 := ((yup_na (by omega)).trans ((hFq2819 2 1 rfl).trans ((yup_nk (by decide)).trans (yup_na (by omega)))))
      have es2847 : (yup mq2819 (276 + k.toNat) 3 rq2819) 256 10 = m 256 10 := ((yup_na (by omega)).trans ((hFq2819 256 10 rfl).trans ((yup_na (by decide)).trans (yup_na (by omega)))))
      have es2848 : (yup mq2819 (276 + k.toNat) 3 rq2819) 256 12 = m 256 12 := ((yup_na (by omega)).trans ((hFq2819 256 12 rfl).trans ((yup_na (by decide)).trans (yup_na (by omega)))))
      have tb2849 := hT.atp 256 12 0 12 rfl
      have es2850 : (yup mq2819 (276 + k.toNat) 3 rq2819) 256 13 = m 256 13 := ((yup_na (by omega)).trans ((hFq2819 256 13 rfl).trans ((yup_na (by decide)).trans (yup_na (by omega)))))
      have tb2851 := hT.atp 256 13 0 8 rfl
      have es2852 : (yup mq2819 (276 + k.toNat) 3 rq2819) 256 16 = m 256 16 := ((yup_na (by omega)).trans ((hFq2819 256 16 rfl).trans ((yup_na (by decide)).trans (yup_na (by omega)))))
      have tb2853 := hT.atp 256 16 0 40 rfl
      refine y_callIB 51 [.ref 2, yI (dep + 1)] [] c59_48 rfl rfl rfl rfl rfl (ycanO km69 ko2) (hB _ _ hT2828 (by have e1 : (yup mq2819 (276 + k.toNat) 3 rq2819) 5 e.toNat = m 5 e.toNat := ((yup_na (by omega)).trans ((hFq2819 5 e.toNat rfl).trans ((yup_na (by decide)).trans (yup_na (by omega))))); omega) (by omega) (by omega) (by omega)) (fun rq2843 mq2843 nq2843 hq2843 => ?_)
      obtain ⟨rfl, hTq2843, hFq2843, hq2843, hZq2843, hGq2843⟩ := hq2843
      have hF2854 := hF2829.tr hFq2843 (wBo256_mono (by omega))
      refine y_if 56 54 c59_51 rfl rfl (yz_ne (by omega)) (fun hb2855 => ?_) (fun hb2855 => ?_)
      · refine y_aload 57 c59_56 rfl rfl rfl ?_
        refine y_aload 58 c59_57 rfl rfl rfl ?_
        refine y_getS 61 (B := 256) c59_58 rfl kf2_1 (by rw [show mq2843 2 1 = 0 from by have e : mq2843 2 1 = m 2 1 := ((hFq2843 2 1 ((wBo256_lt (by decide)).trans rfl)).trans ((yup_na (by omega)).trans ((hFq2819 2 1 rfl).trans ((yup_nk (by decide)).trans (yup_na (by omega)))))); omega]; rfl) ?_
        refine y_getX 64 (mq2843 256 16) c59_61 rfl kf256_16 rfl ?_
        have tb2856 := hTq2843.atp 256 16 0 40 rfl
        refine y_putI 67 c59_64 rfl (ff276_11 (by omega)) (y_fit0 _) ?_
        have hT2857 := hTq2843.up (276 + k.toNat) 11 (mq2843 256 16) 0 40 (ft276_11 (by omega)) (by omega)
        have hF2858 := hF2854.up (276 + k.toNat) 11 (mq2843 256 16) (wBo256_s (by omega))
        refine y_aload 68 c59_67 rfl rfl rfl ?_
        refine y_getX 71 0 c59_68 rfl (ff276_0 (by omega)) ((yup_nk (by decide)).trans ((hFq2843 (276 + k.toNat) 0 (wBo256_n (by omega))).trans ((yup_nk (by decide)).trans ((hFq2819 (276 + k.toNat) 0 wVr256_n276).trans ((yup_na (by omega)).trans (yup_eq _ _ _ _)))))) ?_
        refine y_iconst 72 c59_71 rfl ?_
        refine y_icmp 84 75 c59_72 rfl rfl (yc_eq (by omega) (by omega)) (fun hb2859 => ?_) (fun hb2859 => ?_)
        · exfalso; omega
        · refine y_aload 76 c59_75 rfl rfl rfl ?_
          have es2860 : (yup mq2843 (276 + k.toNat) 11 (mq2843 256 16)) 2 2 = mq2843 2 2 := (yup_na (by omega))
          have tb2861 := hTq2843.atp 2 2 0 320 rfl
          refine y_callP 79 [.ref 2] [] c59_76 rfl rfl rfl rfl rfl (ycanO km38 ko2) (t38 hT2857 he (by have e1 : (yup mq2843 (276 + k.toNat) 11 (mq2843 256 16)) 5 e.toNat = m 5 e.toNat := ((yup_na (by omega)).trans ((hFq2843 5 e.toNat ((wBo256_lt (by decide)).trans rfl)).trans ((yup_na (by omega)).trans ((hFq2819 5 e.toNat rfl).trans ((yup_na (by decide)).trans (yup_na (by omega))))))); omega) (by omega)) (fun r2862 hr2862 => ?_)
          refine y_iconst 81 c59_79 rfl ?_
          refine y_icmp 86 84 c59_81 rfl rfl (yc_eq (by omega) (by omega)) (fun hb2863 => ?_) (fun hb2863 => ?_)
          · refine y_aload 87 c59_86 rfl rfl rfl ?_
            refine y_dup 88 c59_87 rfl rfl ?_
            refine y_getX 91 (mq2843 2 2) c59_88 rfl kf2_2 (yup_na (by omega)) ?_
            refine y_iconst 92 c59_91 rfl ?_
            refine y_iadd 93 c59_92 rfl ?_
            refine y_putI 96 c59_93 rfl kf2_2 (y_fit0 _) ?_
            have hT2864 := hT2857.up 2 2 ((mq2843 2 2) + 1) 0 320 rfl (by omega)
            have hF2865 := hF2858.up 2 2 ((mq2843 2 2) + 1) rfl
            refine y_aload 97 c59_96 rfl rfl rfl ?_
            refine y_iload 98 c59_97 rfl rfl ?_
            refine y_iconst 99 c59_98 rfl ?_
            refine y_iadd 100 c59_99 rfl ?_
            have es2867 : (yup (yup mq2843 (276 + k.toNat) 11 (mq2843 256 16)) 2 2 ((mq2843 2 2) + 1)) 2 2 = (mq2843 2 2) + 1 := rfl
            have es2868 : (yup (yup mq2843 (276 + k.toNat) 11 (mq2843 256 16)) 2 2 ((mq2843 2 2) + 1)) 2 1 = m 2 1 := ((yup_nk (by decide)).trans ((yup_na (by omega)).trans ((hFq2843 2 1 ((wBo256_lt (by decide)).trans rfl)).trans ((yup_na (by omega)).trans ((hFq2819 2 1 rfl).trans ((yup_nk (by decide)).trans (yup_na (by omega))))))))
            have es2869 : (yup (yup mq2843 (276 + k.toNat) 11 (mq2843 256 16)) 2 2 ((mq2843 2 2) + 1)) 256 10 = m 256 10 := ((yup_na (by decide)).trans ((yup_na (by omega)).trans ((hFq2843 256 10 ((wBo256_lt (by decide)).trans rfl)).trans ((yup_na (by omega)).trans ((hFq2819 256 10 rfl).trans ((yup_na (by decide)).trans (yup_na (by omega))))))))
            have es2870 : (yup (yup mq2843 (276 + k.toNat) 11 (mq2843 256 16)) 2 2 ((mq2843 2 2) + 1)) 256 12 = mq2843 256 12 := ((yup_na (by decide)).trans (yup_na (by omega)))
            have tb2871 := hTq2843.atp 256 12 0 12 rfl
            have es2872 : (yup (yup mq2843 (276 + k.toNat) 11 (mq2843 256 16)) 2 2 ((mq2843 2 2) + 1)) 256 13 = mq2843 256 13 := ((yup_na (by decide)).trans (yup_na (by omega)))
            have tb2873 := hTq2843.atp 256 13 0 8 rfl
            have es2874 : (yup (yup mq2843 (276 + k.toNat) 11 (mq2843 256 16)) 2 2 ((mq2843 2 2) + 1)) 256 16 = mq2843 256 16 := ((yup_na (by decide)).trans (yup_na (by omega)))
            refine y_callIB 103 [.ref 2, yI (dep + 1)] [] c59_100 rfl rfl rfl rfl rfl (ycanO km69 ko2) (hB _ _ hT2864 (by have e1 : (yup (yup mq2843 (276 + k.toNat) 11 (mq2843 256 16)) 2 2 ((mq2843 2 2) + 1)) 5 e.toNat = m 5 e.toNat := ((yup_na (by decide)).trans ((yup_na (by omega)).trans ((hFq2843 5 e.toNat ((wBo256_lt (by decide)).trans rfl)).trans ((yup_na (by omega)).trans ((hFq2819 5 e.toNat rfl).trans ((yup_na (by decide)).trans (yup_na (by omega)))))))); omega) (by omega) (by omega) (by omega)) (fun rq2866 mq2866 nq2866 hq2866 => ?_)
            obtain ⟨rfl, hTq2866, hFq2866, hq2866, hZq2866, hGq2866⟩ := hq2866
            have hF2875 := hF2865.tr hFq2866 (wBo256_mono (by omega))
            have tb2876 := hTq2866.atp 2 2 0 320 rfl
            have tb2877 := hTq2866.atp 256 16 0 40 rfl
            have tb2878 := hTq2866.atp 256 12 0 12 rfl
            have tb2879 := hTq2866.atp 256 13 0 8 rfl
            have es2880 : mq2866 (276 + k.toNat) 0 = 0 := ((hFq2866 (276 + k.toNat) 0 (wBo256_n (by omega))).trans ((yup_na (by omega)).trans ((yup_nk (by decide)).trans ((hFq2843 (276 + k.toNat) 0 (wBo256_n (by omega))).trans ((yup_nk (by decide)).trans ((hFq2819 (276 + k.toNat) 0 wVr256_n276).trans ((yup_na (by omega)).trans (yup_eq _ _ _ _))))))))
            have es2881 : mq2866 (276 + k.toNat) 3 = rq2819 := ((hFq2866 (276 + k.toNat) 3 (wBo256_n (by omega))).trans ((yup_na (by omega)).trans ((yup_nk (by decide)).trans ((hFq2843 (276 + k.toNat) 3 (wBo256_n (by omega))).trans (yup_eq _ _ _ _)))))
            have es2882 : mq2866 (276 + k.toNat) 11 = mq2843 256 16 := ((hFq2866 (276 + k.toNat) 11 (wBo256_n (by omega))).trans ((yup_na (by omega)).trans (yup_eq _ _ _ _)))
            refine y_retI c59_103 (y_fit1 (by omega)) ⟨rfl, hTq2866, hF2875, by omega, fun z hz => ((hZq2866 z (by omega)).trans ((yup_na (by decide)).trans ((yup_na (by omega)).trans ((hZq2843 z (by omega)).trans ((yup_na (by omega)).trans ((hFq2819 265 z rfl).trans ((yup_na (by decide)).trans (yup_na (by omega))))))))), fun h1 => ?_⟩
            obtain ⟨g1, n1⟩ := hGq2843 (by omega)
            have g2 := g1.fr (m' := mq2866) (c3 := mq2843 256 12) (fun j ja jb q _ => ((hFq2866 _ _ (wBo256_n (by omega))).trans ((yup_na (by omega)).trans (yup_na (by omega))))) (fun z za zb => ((hZq2866 z (by omega)).trans ((yup_na (by decide)).trans (yup_na (by omega))))) (by omega)
            have n2 := n1.fr (m' := mq2866) (c2 := mq2866 256 16) (fun j ja jb q => ((hFq2866 _ _ (wBo256_n (by omega))).trans ((yup_na (by omega)).trans (yup_na (by omega))))) (by omega)
            obtain ⟨g3, n3⟩ := hGq2866 (by omega)
            have g4 := RG.app (c3 := mq2866 256 12) (d3 := mq2866 256 13) (c := mq2866 256 16) g2 (cast (by congr 1 <;> omega) g3) (by omega) (by omega) (by omega)
            have n4 := EN.app (b := mq2843 256 16) n2 (cast (by congr 1 <;> omega) n3)
            refine ⟨cast ?_ g4, cast ?_ n4⟩ <;> congr 1 <;> omega
          · refine y_iconst 85 c59_84 rfl ?_
            have es2883 : (yup mq2843 (276 + k.toNat) 11 (mq2843 256 16)) 2 2 = mq2843 2 2 := (yup_na (by omega))
            have es2884 : (yup mq2843 (276 + k.toNat) 11 (mq2843 256 16)) 256 16 = mq2843 256 16 := (yup_na (by omega))
            have es2885 : (yup mq2843 (276 + k.toNat) 11 (mq2843 256 16)) 256 12 = mq2843 256 12 := (yup_na (by omega))
            have tb2886 := hTq2843.atp 256 12 0 12 rfl
            have es2887 : (yup mq2843 (276 + k.toNat) 11 (mq2843 256 16)) 256 13 = mq2843 256 13 := (yup_na (by omega))
            have tb2888 := hTq2843.atp 256 13 0 8 rfl
            have es2889 : (yup mq2843 (276 + k.toNat) 11 (mq2843 256 16)) (276 + k.toNat) 0 = 0 := ((yup_nk (by decide)).trans ((hFq2843 (276 + k.toNat) 0 (wBo256_n (by omega))).trans ((yup_nk (by decide)).trans ((hFq2819 (276 + k.toNat) 0 wVr256_n276).trans ((yup_na (by omega)).trans (yup_eq _ _ _ _))))))
            have es2890 : (yup mq2843 (276 + k.toNat) 11 (mq2843 256 16)) (276 + k.toNat) 3 = rq2819 := ((yup_nk (by decide)).trans ((hFq2843 (276 + k.toNat) 3 (wBo256_n (by omega))).trans (yup_eq _ _ _ _)))
            have es2891 : (yup mq2843 (276 + k.toNat) 11 (mq2843 256 16)) (276 + k.toNat) 11 = mq2843 256 16 := (yup_eq _ _ _ _)
            refine y_retI c59_85 (y_fit1 (by omega)) ⟨rfl, hT2857, hF2858, by omega, fun z hz => ((yup_na (by omega)).trans ((hZq2843 z (by omega)).trans ((yup_na (by omega)).trans ((hFq2819 265 z rfl).trans ((yup_na (by decide)).trans (yup_na (by omega))))))), fun h1 => ?_⟩
            obtain ⟨g1, n1⟩ := hGq2843 (by omega)
            have g2 := g1.fr (m' := yup mq2843 (276 + k.toNat) 11 (mq2843 256 16)) (c3 := mq2843 256 12) (fun j ja jb q _ => (yup_na (by omega))) (fun z za zb => (yup_na (by omega))) (by omega)
            have n2 := n1.fr (m' := yup mq2843 (276 + k.toNat) 11 (mq2843 256 16)) (c2 := (yup mq2843 (276 + k.toNat) 11 (mq2843 256 16)) 256 16) (fun j ja jb q => (yup_na (by omega))) (by omega)
            refine ⟨cast ?_ g2, cast ?_ n2⟩ <;> congr 1 <;> omega
      · refine y_iconst 55 c59_54 rfl ?_
        have tb2892 := hTq2843.atp 2 2 0 320 rfl
        have tb2893 := hTq2843.atp 256 16 0 40 rfl
        have tb2894 := hTq2843.atp 256 12 0 12 rfl
        have tb2895 := hTq2843.atp 256 13 0 8 rfl
        have es2896 : mq2843 (276 + k.toNat) 0 = 0 := ((hFq2843 (276 + k.toNat) 0 (wBo256_n (by omega))).trans ((yup_nk (by decide)).trans ((hFq2819 (276 + k.toNat) 0 wVr256_n276).trans ((yup_na (by omega)).trans (yup_eq _ _ _ _)))))
        have es2897 : mq2843 (276 + k.toNat) 3 = rq2819 := ((hFq2843 (276 + k.toNat) 3 (wBo256_n (by omega))).trans (yup_eq _ _ _ _))
        have es2898 : mq2843 (276 + k.toNat) 11 = m (276 + k.toNat) 11 := ((hFq2843 (276 + k.toNat) 11 (wBo256_n (by omega))).trans ((yup_nk (by decide)).trans ((hFq2819 (276 + k.toNat) 11 wVr256_n276).trans ((yup_na (by omega)).trans (yup_nk (by decide))))))
        have tb2899 := hT.atp (276 + k.toNat) 11 0 40 (ft276_11 (by omega))
        exact y_retI c59_55 (y_fit1 (by omega)) ⟨rfl, hTq2843, hF2854, by omega, fun z hz => ((hZq2843 z (by omega)).trans ((yup_na (by omega)).trans ((hFq2819 265 z rfl).trans ((yup_na (by decide)).trans (yup_na (by omega)))))), fun h1 => by omega⟩
def wBo0316 (a q : Nat) : Bool := (a == 2 && (q == 2 || q == 4)) || (a == 316 && (decide (12 ≤ q) && decide (q ≤ 16))) || a == 321 || a == 325
def wBo316 (c a q : Nat) : Bool := ((a == 2 && (q == 2 || q == 4)) || (a == 316 && (decide (12 ≤ q) && decide (q ≤ 16))) || a == 321 || a == 325) || decide (336 + c ≤ a ∧ a < 376)
theorem wBo316_lt {c a q : Nat} (h : a < 336) : wBo316 c a q = wBo0316 a q := by
  have e : decide (336 + c ≤ a ∧ a < 376) = false := by simp; omega
  simp only [wBo316, wBo0316, e, Bool.or_false]
theorem wBo316_s {c j q : Nat} (h : c ≤ j ∧ j < 40) : wBo316 c (336 + j) q = true := by
  simp [wBo316]
  omega
theorem wBo316_n {c j q : Nat} (h : j < c) : wBo316 c (336 + j) q = false := by
  cases e : wBo316 c (336 + j) q with
  | false => rfl
  | true => simp [wBo316] at e <;> omega
theorem wFa_wBo316 {c : Nat} : ∀ a q, wFa a q = true → wBo316 c a q = true := by
  intro a q h
  simp [wFa] at h
  simp [wBo316]
  omega
theorem wAt_wBo316 {c : Nat} : ∀ a q, wAt a q = true → wBo316 c a q = true := by
  intro a q h
  simp [wAt] at h
  simp [wBo316]
  omega
theorem wVr316_wBo316 {c : Nat} : ∀ a q, wVr316 a q = true → wBo316 c a q = true := by
  intro a q h
  simp [wVr316] at h
  simp [wBo316]
  omega
theorem wSv316_wBo316 {k c : Nat} (hk : c ≤ k ∧ k < 40) : ∀ a q, wSv316 k a q = true → wBo316 c a q = true := by
  intro a q h
  simp [wSv316] at h
  simp [wBo316]
  omega
theorem wSv316_n {k j q : Nat} (h : j ≠ k) : wSv316 k (336 + j) q = false := by
  cases e : wSv316 k (336 + j) q with
  | false => rfl
  | true => simp [wSv316] at e <;> omega
theorem wSs316_wBo316 {k c : Nat} (hk : c ≤ k ∧ k < 40) : ∀ a q, wSs316 k a q = true → wBo316 c a q = true := by
  intro a q h
  simp [wSs316] at h
  simp [wBo316]
  omega
theorem wSs316_n {k j q : Nat} (h : j ≠ k) : wSs316 k (336 + j) q = false := by
  cases e : wSs316 k (336 + j) q with
  | false => rfl
  | true => simp [wSs316] at e <;> omega
theorem wBo316_mono {c c' : Nat} (hk : c ≤ c') : ∀ a q, wBo316 c' a q = true → wBo316 c a q = true := by
  intro a q h
  simp [wBo316] at h
  simp [wBo316]
  omega
/-- what a body's contract is, at a depth -/
def BS316 (L : Nat) (xs : Nat → Int32) (D : Nat) (dep e : Int) : Prop := ∀ (nn : Nat) (m : yM), Ty gT m → m 5 e.toNat = 0 → m 2 2 ≤ e → m 2 1 = 1 → 1 ≤ m 316 10 → YC (gZ L xs) D 69 [.ref 2, yI dep] m nn (qI (fun r m' n' => n' = nn ∧ Ty gT m' ∧ Fr (wBo316 (m 316 16).toNat) m m' ∧ ((r = 0 ∨ r = 1) ∧ m' 2 2 ≤ e ∧ m 316 16 ≤ m' 316 16 ∧ m 316 12 ≤ m' 316 12 ∧ m 316 13 ≤ m' 316 13) ∧ (∀ z : Nat, (z : Int) < m 316 13 → m' 325 z = m 325 z) ∧ (r = 1 → RG 336 325 m' (m 316 16) (m' 316 16) (m 316 12) (m' 316 12) (m 316 13) (m' 316 13) ∧ EN 336 m' (m 316 16) (m' 316 16) (m' 316 16))))
set_option maxRecDepth 100000 in
theorem t59_316 {L : Nat} {xs : Nat → Int32} {d nn : Nat} {m : yM} {e : Int} (hT : Ty gT m) (he : 0 ≤ e ∧ e ≤ 320) (hE : m 5 e.toNat = 0) (ha : m 2 2 ≤ e) (hp : m 2 1 = 1) {k : Int} (hk : 0 ≤ k ∧ k ≤ 39) (hm : 1 ≤ m 316 10) (h16 : m 316 16 = k + 1) (hlt : m 2 2 < e) {dep : Int} (hdep : 0 ≤ dep ∧ dep ≤ 3) (hB : BS316 L xs (d + 4) (dep + 1) e) : YC (gZ L xs) (d + 5) 59 [.ref 2, .ref (336 + k.toNat), yI dep] m nn (qI (fun r m' n' => n' = nn ∧ Ty gT m' ∧ Fr (wBo316 k.toNat) m m' ∧ ((r = 0 ∨ r = 1) ∧ m' 2 2 ≤ e ∧ m 316 16 ≤ m' 316 16 ∧ m 316 12 ≤ m' 316 12 ∧ m 316 13 ≤ m' 316 13 ∧ (r = 1 → (m' (336 + k.toNat) 0 = 0 ∨ m' (336 + k.toNat) 0 = 1) ∧ 0 ≤ m' (336 + k.toNat) 3 ∧ k < m' (336 + k.toNat) 11 ∧ m' (336 + k.toNat) 11 ≤ m' 316 16)) ∧ (∀ z : Nat, (z : Int) < m 316 13 → m' 325 z = m 325 z) ∧ (r = 1 → RG 336 325 m' (k + 1) (m' 316 16) (m 316 12) (m' 316 12) (m 316 13) (m' 316 13) ∧ EN 336 m' (k + 1) (m' 316 16) (m' 316 16)))) := by
  have tb2 := hT.atp 2 2 0 320 rfl
  have tb12 := hT.atp 316 12 0 12 rfl
  have tb13 := hT.atp 316 13 0 8 rfl
  refine YC.mkB [some (.ref 2), some (.ref (336 + k.toNat)), some (yI dep)] kn59 rfl rfl ?_
  have hF : Fr (wBo316 k.toNat) m m := Fr.rf
  refine y_aload 1 c59_0 rfl rfl rfl ?_
  refine y_aload 2 c59_1 rfl rfl rfl ?_
  have tb3212 := hT.atp 2 2 0 320 rfl
  refine y_callP 5 [.ref 2] [.ref (336 + k.toNat)] c59_2 rfl rfl rfl rfl rfl (ycanO km38 ko2) (t38 hT he hE (by omega)) (fun r3213 hr3213 => ?_)
  refine y_iconst 7 c59_5 rfl ?_
  refine y_icmp 14 10 c59_7 rfl rfl (yc_ne (by omega) (by omega)) (fun hb3214 => ?_) (fun hb3214 => ?_)
  · refine y_iconst 15 c59_14 rfl ?_
    refine y_putI 18 c59_15 rfl (ff336_0 (by omega)) (y_fit0 _) ?_
    have hT3215 := hT.up (336 + k.toNat) 0 1 0 9 (ft336_0 (by omega)) (by omega)
    have hF3216 := hF.up (336 + k.toNat) 0 1 (wBo316_s (by omega))
    refine y_aload 19 c59_18 rfl rfl rfl ?_
    refine y_dup 20 c59_19 rfl rfl ?_
    refine y_getX 23 (m 2 2) c59_20 rfl kf2_2 (yup_na (by omega)) ?_
    refine y_iconst 24 c59_23 rfl ?_
    refine y_iadd 25 c59_24 rfl ?_
    refine y_putI 28 c59_25 rfl kf2_2 (y_fit0 _) ?_
    have hT3217 := hT3215.up 2 2 ((m 2 2) + 1) 0 320 rfl (by omega)
    have hF3218 := hF3216.up 2 2 ((m 2 2) + 1) rfl
    refine y_aload 29 c59_28 rfl rfl rfl ?_
    refine y_aload 30 c59_29 rfl rfl rfl ?_
    have es3220 : (yup (yup m (336 + k.toNat) 0 1) 2 2 ((m 2 2) + 1)) 2 2 = (m 2 2) + 1 := rfl
    have es3221 : (yup (yup m (336 + k.toNat) 0 1) 2 2 ((m 2 2) + 1)) 2 1 = m 2 1 := ((yup_nk (by decide)).trans (yup_na (by omega)))
    have tb3222 := hT.atp 2 1 ((-1)) 1 rfl
    have es3223 : (yup (yup m (336 + k.toNat) 0 1) 2 2 ((m 2 2) + 1)) 316 10 = m 316 10 := ((yup_na (by decide)).trans (yup_na (by omega)))
    have tb3224 := hT.atp 316 10 0 10 rfl
    have es3225 : (yup (yup m (336 + k.toNat) 0 1) 2 2 ((m 2 2) + 1)) 316 15 = m 316 15 := ((yup_na (by decide)).trans (yup_na (by omega)))
    have tb3226 := hT.atp 316 15 0 48 rfl
    refine y_callIB 33 [.ref 2] [.ref (336 + k.toNat)] c59_30 rfl rfl rfl rfl rfl (ycanO km58 ko2) (t58_316 hT3217 he (by have e1 : (yup (yup m (336 + k.toNat) 0 1) 2 2 ((m 2 2) + 1)) 5 e.toNat = m 5 e.toNat := ((yup_na (by decide)).trans (yup_na (by omega))); omega) (by omega) (by omega) (by omega)) (fun rq3219 mq3219 nq3219 hq3219 => ?_)
    obtain ⟨rfl, hTq3219, hFq3219, hq3219⟩ := hq3219
    have hF3227 := hF3218.tr hFq3219 wVr316_wBo316
    refine y_putI 36 c59_33 rfl (ff336_3 (by omega)) (y_fit0 _) ?_
    have hT3228 := hTq3219.up (336 + k.toNat) 3 rq3219 ((-1)) 47 (ft336_3 (by omega)) (by omega)
    have hF3229 := hF3227.up (336 + k.toNat) 3 rq3219 (wBo316_s (by omega))
    refine y_aload 37 c59_36 rfl rfl rfl ?_
    refine y_getX 40 rq3219 c59_37 rfl (ff336_3 (by omega)) (yup_eq _ _ _ _) ?_
    refine y_iconst 41 c59_40 rfl ?_
    refine y_icmp 54 44 c59_41 rfl rfl (yc_eq (by omega) (by omega)) (fun hb3230 => ?_) (fun hb3230 => ?_)
    · refine y_iconst 55 c59_54 rfl ?_
      have es3231 : (yup mq3219 (336 + k.toNat) 3 rq3219) 2 2 = mq3219 2 2 := (yup_na (by omega))
      have tb3232 := hTq3219.atp 2 2 0 320 rfl
      have es3233 : (yup mq3219 (336 + k.toNat) 3 rq3219) 316 16 = m 316 16 := ((yup_na (by omega)).trans ((hFq3219 316 16 rfl).trans ((yup_na (by decide)).trans (yup_na (by omega)))))
      have tb3234 := hT.atp 316 16 0 40 rfl
      have es3235 : (yup mq3219 (336 + k.toNat) 3 rq3219) 316 12 = m 316 12 := ((yup_na (by omega)).trans ((hFq3219 316 12 rfl).trans ((yup_na (by decide)).trans (yup_na (by omega)))))
      have tb3236 := hT.atp 316 12 0 12 rfl
      have es3237 : (yup mq3219 (336 + k.toNat) 3 rq3219) 316 13 = m 316 13 := ((yup_na (by omega)).trans ((hFq3219 316 13 rfl).trans ((yup_na (by decide)).trans (yup_na (by omega)))))
      have tb3238 := hT.atp 316 13 0 8 rfl
      have es3239 : (yup mq3219 (336 + k.toNat) 3 rq3219) (336 + k.toNat) 0 = 1 := ((yup_nk (by decide)).trans ((hFq3219 (336 + k.toNat) 0 wVr316_n336).trans ((yup_na (by omega)).trans (yup_eq _ _ _ _))))
      have es3240 : (yup mq3219 (336 + k.toNat) 3 rq3219) (336 + k.toNat) 3 = rq3219 := (yup_eq _ _ _ _)
      have es3241 : (yup mq3219 (336 + k.toNat) 3 rq3219) (336 + k.toNat) 11 = m (336 + k.toNat) 11 := ((yup_nk (by decide)).trans ((hFq3219 (336 + k.toNat) 11 wVr316_n336).trans ((yup_na (by omega)).trans (yup_nk (by decide)))))
      have tb3242 := hT.atp (336 + k.toNat) 11 0 40 (ft336_11 (by omega))
      exact y_retI c59_55 (y_fit1 (by omega)) ⟨rfl, hT3228, hF3229, by omega, fun z hz => ((yup_na (by omega)).trans ((hFq3219 325 z rfl).trans ((yup_na (by decide)).trans (yup_na (by omega))))), fun h1 => by omega⟩
    · refine y_aload 45 c59_44 rfl rfl rfl ?_
      refine y_iload 46 c59_45 rfl rfl ?_
      refine y_iconst 47 c59_46 rfl ?_
      refine y_iadd 48 c59_47 rfl ?_
      have es3244 : (yup mq3219 (336 + k.toNat) 3 rq3219) 2 2 = mq3219 2 2 := (yup_na (by omega))
      have tb3245 := hTq3219.atp 2 2 0 320 rfl
      have es3246 : (yup mq3219 (336 + k.toNat) 3 rq3219) 2 1 = m 2 1 := ((yup_na (by omega)).trans ((hFq3219 2 1 rfl).trans ((yup_nk (by decide)).trans (yup_na (by omega)))))
      have es3247 : (yup mq3219 (336 + k.toNat) 3 rq3219) 316 10 = m 316 10 := ((yup_na (by omega)).trans ((hFq3219 316 10 rfl).trans ((yup_na (by decide)).trans (yup_na (by omega)))))
      have es3248 : (yup mq3219 (336 + k.toNat) 3 rq3219) 316 12 = m 316 12 := ((yup_na (by omega)).trans ((hFq3219 316 12 rfl).trans ((yup_na (by decide)).trans (yup_na (by omega)))))
      have tb3249 := hT.atp 316 12 0 12 rfl
      have es3250 : (yup mq3219 (336 + k.toNat) 3 rq3219) 316 13 = m 316 13 := ((yup_na (by omega)).trans ((hFq3219 316 13 rfl).trans ((yup_na (by decide)).trans (yup_na (by omega)))))
      have tb3251 := hT.atp 316 13 0 8 rfl
      have es3252 : (yup mq3219 (336 + k.toNat) 3 rq3219) 316 16 = m 316 16 := ((yup_na (by omega)).trans ((hFq3219 316 16 rfl).trans ((yup_na (by decide)).trans (yup_na (by omega)))))
      have tb3253 := hT.atp 316 16 0 40 rfl
      refine y_callIB 51 [.ref 2, yI (dep + 1)] [] c59_48 rfl rfl rfl rfl rfl (ycanO km69 ko2) (hB _ _ hT3228 (by have e1 : (yup mq3219 (336 + k.toNat) 3 rq3219) 5 e.toNat = m 5 e.toNat := ((yup_na (by omega)).trans ((hFq3219 5 e.toNat rfl).trans ((yup_na (by decide)).trans (yup_na (by omega))))); omega) (by omega) (by omega) (by omega)) (fun rq3243 mq3243 nq3243 hq3243 => ?_)
      obtain ⟨rfl, hTq3243, hFq3243, hq3243, hZq3243, hGq3243⟩ := hq3243
      have hF3254 := hF3229.tr hFq3243 (wBo316_mono (by omega))
      refine y_if 56 54 c59_51 rfl rfl (yz_ne (by omega)) (fun hb3255 => ?_) (fun hb3255 => ?_)
      · refine y_aload 57 c59_56 rfl rfl rfl ?_
        refine y_aload 58 c59_57 rfl rfl rfl ?_
        refine y_getS 61 (B := 316) c59_58 rfl kf2_1 (by rw [show mq3243 2 1 = 1 from by have e : mq3243 2 1 = m 2 1 := ((hFq3243 2 1 ((wBo316_lt (by decide)).trans rfl)).trans ((yup_na (by omega)).trans ((hFq3219 2 1 rfl).trans ((yup_nk (by decide)).trans (yup_na (by omega)))))); omega]; rfl) ?_
        refine y_getX 64 (mq3243 316 16) c59_61 rfl kf316_16 rfl ?_
        have tb3256 := hTq3243.atp 316 16 0 40 rfl
        refine y_putI 67 c59_64 rfl (ff336_11 (by omega)) (y_fit0 _) ?_
        have hT3257 := hTq3243.up (336 + k.toNat) 11 (mq3243 316 16) 0 40 (ft336_11 (by omega)) (by omega)
        have hF3258 := hF3254.up (336 + k.toNat) 11 (mq3243 316 16) (wBo316_s (by omega))
        refine y_aload 68 c59_67 rfl rfl rfl ?_
        refine y_getX 71 1 c59_68 rfl (ff336_0 (by omega)) ((yup_nk (by decide)).trans ((hFq3243 (336 + k.toNat) 0 (wBo316_n (by omega))).trans ((yup_nk (by decide)).trans ((hFq3219 (336 + k.toNat) 0 wVr316_n336).trans ((yup_na (by omega)).trans (yup_eq _ _ _ _)))))) ?_
        refine y_iconst 72 c59_71 rfl ?_
        refine y_icmp 84 75 c59_72 rfl rfl (yc_eq (by omega) (by omega)) (fun hb3259 => ?_) (fun hb3259 => ?_)
        · refine y_iconst 85 c59_84 rfl ?_
          have es3260 : (yup mq3243 (336 + k.toNat) 11 (mq3243 316 16)) 2 2 = mq3243 2 2 := (yup_na (by omega))
          have tb3261 := hTq3243.atp 2 2 0 320 rfl
          have es3262 : (yup mq3243 (336 + k.toNat) 11 (mq3243 316 16)) 316 16 = mq3243 316 16 := (yup_na (by omega))
          have es3263 : (yup mq3243 (336 + k.toNat) 11 (mq3243 316 16)) 316 12 = mq3243 316 12 := (yup_na (by omega))
          have tb3264 := hTq3243.atp 316 12 0 12 rfl
          have es3265 : (yup mq3243 (336 + k.toNat) 11 (mq3243 316 16)) 316 13 = mq3243 316 13 := (yup_na (by omega))
          have tb3266 := hTq3243.atp 316 13 0 8 rfl
          have es3267 : (yup mq3243 (336 + k.toNat) 11 (mq3243 316 16)) (336 + k.toNat) 0 = 1 := ((yup_nk (by decide)).trans ((hFq3243 (336 + k.toNat) 0 (wBo316_n (by omega))).trans ((yup_nk (by decide)).trans ((hFq3219 (336 + k.toNat) 0 wVr316_n336).trans ((yup_na (by omega)).trans (yup_eq _ _ _ _))))))
          have es3268 : (yup mq3243 (336 + k.toNat) 11 (mq3243 316 16)) (336 + k.toNat) 3 = rq3219 := ((yup_nk (by decide)).trans ((hFq3243 (336 + k.toNat) 3 (wBo316_n (by omega))).trans (yup_eq _ _ _ _)))
          have es3269 : (yup mq3243 (336 + k.toNat) 11 (mq3243 316 16)) (336 + k.toNat) 11 = mq3243 316 16 := (yup_eq _ _ _ _)
          refine y_retI c59_85 (y_fit1 (by omega)) ⟨rfl, hT3257, hF3258, by omega, fun z hz => ((yup_na (by omega)).trans ((hZq3243 z (by omega)).trans ((yup_na (by omega)).trans ((hFq3219 325 z rfl).trans ((yup_na (by decide)).trans (yup_na (by omega))))))), fun h1 => ?_⟩
          obtain ⟨g1, n1⟩ := hGq3243 (by omega)
          have g2 := g1.fr (m' := yup mq3243 (336 + k.toNat) 11 (mq3243 316 16)) (c3 := mq3243 316 12) (fun j ja jb q _ => (yup_na (by omega))) (fun z za zb => (yup_na (by omega))) (by omega)
          have n2 := n1.fr (m' := yup mq3243 (336 + k.toNat) 11 (mq3243 316 16)) (c2 := (yup mq3243 (336 + k.toNat) 11 (mq3243 316 16)) 316 16) (fun j ja jb q => (yup_na (by omega))) (by omega)
          refine ⟨cast ?_ g2, cast ?_ n2⟩ <;> congr 1 <;> omega
        · exfalso; omega
      · refine y_iconst 55 c59_54 rfl ?_
        have tb3270 := hTq3243.atp 2 2 0 320 rfl
        have tb3271 := hTq3243.atp 316 16 0 40 rfl
        have tb3272 := hTq3243.atp 316 12 0 12 rfl
        have tb3273 := hTq3243.atp 316 13 0 8 rfl
        have es3274 : mq3243 (336 + k.toNat) 0 = 1 := ((hFq3243 (336 + k.toNat) 0 (wBo316_n (by omega))).trans ((yup_nk (by decide)).trans ((hFq3219 (336 + k.toNat) 0 wVr316_n336).trans ((yup_na (by omega)).trans (yup_eq _ _ _ _)))))
        have es3275 : mq3243 (336 + k.toNat) 3 = rq3219 := ((hFq3243 (336 + k.toNat) 3 (wBo316_n (by omega))).trans (yup_eq _ _ _ _))
        have es3276 : mq3243 (336 + k.toNat) 11 = m (336 + k.toNat) 11 := ((hFq3243 (336 + k.toNat) 11 (wBo316_n (by omega))).trans ((yup_nk (by decide)).trans ((hFq3219 (336 + k.toNat) 11 wVr316_n336).trans ((yup_na (by omega)).trans (yup_nk (by decide))))))
        have tb3277 := hT.atp (336 + k.toNat) 11 0 40 (ft336_11 (by omega))
        exact y_retI c59_55 (y_fit1 (by omega)) ⟨rfl, hTq3243, hF3254, by omega, fun z hz => ((hZq3243 z (by omega)).trans ((yup_na (by omega)).trans ((hFq3219 325 z rfl).trans ((yup_na (by decide)).trans (yup_na (by omega)))))), fun h1 => by omega⟩
  · refine y_iconst 11 c59_10 rfl ?_
    refine y_goto 15 c59_11 rfl ?_
    refine y_putI 18 c59_15 rfl (ff336_0 (by omega)) (y_fit0 _) ?_
    have hT3278 := hT.up (336 + k.toNat) 0 0 0 9 (ft336_0 (by omega)) (by omega)
    have hF3279 := hF.up (336 + k.toNat) 0 0 (wBo316_s (by omega))
    refine y_aload 19 c59_18 rfl rfl rfl ?_
    refine y_dup 20 c59_19 rfl rfl ?_
    refine y_getX 23 (m 2 2) c59_20 rfl kf2_2 (yup_na (by omega)) ?_
    refine y_iconst 24 c59_23 rfl ?_
    refine y_iadd 25 c59_24 rfl ?_
    refine y_putI 28 c59_25 rfl kf2_2 (y_fit0 _) ?_
    have hT3280 := hT3278.up 2 2 ((m 2 2) + 1) 0 320 rfl (by omega)
    have hF3281 := hF3279.up 2 2 ((m 2 2) + 1) rfl
    refine y_aload 29 c59_28 rfl rfl rfl ?_
    refine y_aload 30 c59_29 rfl rfl rfl ?_
    have es3283 : (yup (yup m (336 + k.toNat) 0 0) 2 2 ((m 2 2) + 1)) 2 2 = (m 2 2) + 1 := rfl
    have es3284 : (yup (yup m (336 + k.toNat) 0 0) 2 2 ((m 2 2) + 1)) 2 1 = m 2 1 := ((yup_nk (by decide)).trans (yup_na (by omega)))
    have tb3285 := hT.atp 2 1 ((-1)) 1 rfl
    have es3286 : (yup (yup m (336 + k.toNat) 0 0) 2 2 ((m 2 2) + 1)) 316 10 = m 316 10 := ((yup_na (by decide)).trans (yup_na (by omega)))
    have tb3287 := hT.atp 316 10 0 10 rfl
    have es3288 : (yup (yup m (336 + k.toNat) 0 0) 2 2 ((m 2 2) + 1)) 316 15 = m 316 15 := ((yup_na (by decide)).trans (yup_na (by omega)))
    have tb3289 := hT.atp 316 15 0 48 rfl
    refine y_callIB 33 [.ref 2] [.ref (336 + k.toNat)] c59_30 rfl rfl rfl rfl rfl (ycanO km58 ko2) (t58_316 hT3280 he (by have e1 : (yup (yup m (336 + k.toNat) 0 0) 2 2 ((m 2 2) + 1)) 5 e.toNat = m 5 e.toNat := ((yup_na (by decide)).trans (yup_na (by omega))); omega) (by omega) (by omega) (by omega)) (fun rq3282 mq3282 nq3282 hq3282 => ?_)
    obtain ⟨rfl, hTq3282, hFq3282, hq3282⟩ := hq3282
    have hF3290 := hF3281.tr hFq3282 wVr316_wBo316
    refine y_putI 36 c59_33 rfl (ff336_3 (by omega)) (y_fit0 _) ?_
    have hT3291 := hTq3282.up (336 + k.toNat) 3 rq3282 ((-1)) 47 (ft336_3 (by omega)) (by omega)
    have hF3292 := hF3290.up (336 + k.toNat) 3 rq3282 (wBo316_s (by omega))
    refine y_aload 37 c59_36 rfl rfl rfl ?_
    refine y_getX 40 rq3282 c59_37 rfl (ff336_3 (by omega)) (yup_eq _ _ _ _) ?_
    refine y_iconst 41 c59_40 rfl ?_
    refine y_icmp 54 44 c59_41 rfl rfl (yc_eq (by omega) (by omega)) (fun hb3293 => ?_) (fun hb3293 => ?_)
    · refine y_iconst 55 c59_54 rfl ?_
      have es3294 : (yup mq3282 (336 + k.toNat) 3 rq3282) 2 2 = mq3282 2 2 := (yup_na (by omega))
      have tb3295 := hTq3282.atp 2 2 0 320 rfl
      have es3296 : (yup mq3282 (336 + k.toNat) 3 rq3282) 316 16 = m 316 16 := ((yup_na (by omega)).trans ((hFq3282 316 16 rfl).trans ((yup_na (by decide)).trans (yup_na (by omega)))))
      have tb3297 := hT.atp 316 16 0 40 rfl
      have es3298 : (yup mq3282 (336 + k.toNat) 3 rq3282) 316 12 = m 316 12 := ((yup_na (by omega)).trans ((hFq3282 316 12 rfl).trans ((yup_na (by decide)).trans (yup_na (by omega)))))
      have tb3299 := hT.atp 316 12 0 12 rfl
      have es3300 : (yup mq3282 (336 + k.toNat) 3 rq3282) 316 13 = m 316 13 := ((yup_na (by omega)).trans ((hFq3282 316 13 rfl).trans ((yup_na (by decide)).trans (yup_na (by omega)))))
      have tb3301 := hT.atp 316 13 0 8 rfl
      have es3302 : (yup mq3282 (336 + k.toNat) 3 rq3282) (336 + k.toNat) 0 = 0 := ((yup_nk (by decide)).trans ((hFq3282 (336 + k.toNat) 0 wVr316_n336).trans ((yup_na (by omega)).trans (yup_eq _ _ _ _))))
      have es3303 : (yup mq3282 (336 + k.toNat) 3 rq3282) (336 + k.toNat) 3 = rq3282 := (yup_eq _ _ _ _)
      have es3304 : (yup mq3282 (336 + k.toNat) 3 rq3282) (336 + k.toNat) 11 = m (336 + k.toNat) 11 := ((yup_nk (by decide)).trans ((hFq3282 (336 + k.toNat) 11 wVr316_n336).trans ((yup_na (by omega)).trans (yup_nk (by decide)))))
      have tb3305 := hT.atp (336 + k.toNat) 11 0 40 (ft336_11 (by omega))
      exact y_retI c59_55 (y_fit1 (by omega)) ⟨rfl, hT3291, hF3292, by omega, fun z hz => ((yup_na (by omega)).trans ((hFq3282 325 z rfl).trans ((yup_na (by decide)).trans (yup_na (by omega))))), fun h1 => by omega⟩
    · refine y_aload 45 c59_44 rfl rfl rfl ?_
      refine y_iload 46 c59_45 rfl rfl ?_
      refine y_iconst 47 c59_46 rfl ?_
      refine y_iadd 48 c59_47 rfl ?_
      have es3307 : (yup mq3282 (336 + k.toNat) 3 rq3282) 2 2 = mq3282 2 2 := (yup_na (by omega))
      have tb3308 := hTq3282.atp 2 2 0 320 rfl
      have es3309 : (yup mq3282 (336 + k.toNat) 3 rq3282) 2 1 = m 2 1 := ((yup_na (by omega)).trans ((hFq3282 2 1 rfl).trans ((yup_nk (by decide)).trans (yup_na (by omega)))))
      have es3310 : (yup mq3282 (336 + k.toNat) 3 rq3282) 316 10 = m 316 10 := ((yup_na (by omega)).trans ((hFq3282 316 10 rfl).trans ((yup_na (by decide)).trans (yup_na (by omega)))))
      have es3311 : (yup mq3282 (336 + k.toNat) 3 rq3282) 316 12 = m 316 12 := ((yup_na (by omega)).trans ((hFq3282 316 12 rfl).trans ((yup_na (by decide)).trans (yup_na (by omega)))))
      have tb3312 := hT.atp 316 12 0 12 rfl
      have es3313 : (yup mq3282 (336 + k.toNat) 3 rq3282) 316 13 = m 316 13 := ((yup_na (by omega)).trans ((hFq3282 316 13 rfl).trans ((yup_na (by decide)).trans (yup_na (by omega)))))
      have tb3314 := hT.atp 316 13 0 8 rfl
      have es3315 : (yup mq3282 (336 + k.toNat) 3 rq3282) 316 16 = m 316 16 := ((yup_na (by omega)).trans ((hFq3282 316 16 rfl).trans ((yup_na (by decide)).trans (yup_na (by omega)))))
      have tb3316 := hT.atp 316 16 0 40 rfl
      refine y_callIB 51 [.ref 2, yI (dep + 1)] [] c59_48 rfl rfl rfl rfl rfl (ycanO km69 ko2) (hB _ _ hT3291 (by have e1 : (yup mq3282 (336 + k.toNat) 3 rq3282) 5 e.toNat = m 5 e.toNat := ((yup_na (by omega)).trans ((hFq3282 5 e.toNat rfl).trans ((yup_na (by decide)).trans (yup_na (by omega))))); omega) (by omega) (by omega) (by omega)) (fun rq3306 mq3306 nq3306 hq3306 => ?_)
      obtain ⟨rfl, hTq3306, hFq3306, hq3306, hZq3306, hGq3306⟩ := hq3306
      have hF3317 := hF3292.tr hFq3306 (wBo316_mono (by omega))
      refine y_if 56 54 c59_51 rfl rfl (yz_ne (by omega)) (fun hb3318 => ?_) (fun hb3318 => ?_)
      · refine y_aload 57 c59_56 rfl rfl rfl ?_
        refine y_aload 58 c59_57 rfl rfl rfl ?_
        refine y_getS 61 (B := 316) c59_58 rfl kf2_1 (by rw [show mq3306 2 1 = 1 from by have e : mq3306 2 1 = m 2 1 := ((hFq3306 2 1 ((wBo316_lt (by decide)).trans rfl)).trans ((yup_na (by omega)).trans ((hFq3282 2 1 rfl).trans ((yup_nk (by decide)).trans (yup_na (by omega)))))); omega]; rfl) ?_
        refine y_getX 64 (mq3306 316 16) c59_61 rfl kf316_16 rfl ?_
        have tb3319 := hTq3306.atp 316 16 0 40 rfl
        refine y_putI 67 c59_64 rfl (ff336_11 (by omega)) (y_fit0 _) ?_
        have hT3320 := hTq3306.up (336 + k.toNat) 11 (mq3306 316 16) 0 40 (ft336_11 (by omega)) (by omega)
        have hF3321 := hF3317.up (336 + k.toNat) 11 (mq3306 316 16) (wBo316_s (by omega))
        refine y_aload 68 c59_67 rfl rfl rfl ?_
        refine y_getX 71 0 c59_68 rfl (ff336_0 (by omega)) ((yup_nk (by decide)).trans ((hFq3306 (336 + k.toNat) 0 (wBo316_n (by omega))).trans ((yup_nk (by decide)).trans ((hFq3282 (336 + k.toNat) 0 wVr316_n336).trans ((yup_na (by omega)).trans (yup_eq _ _ _ _)))))) ?_
        refine y_iconst 72 c59_71 rfl ?_
        refine y_icmp 84 75 c59_72 rfl rfl (yc_eq (by omega) (by omega)) (fun hb3322 => ?_) (fun hb3322 => ?_)
        · exfalso; omega
        · refine y_aload 76 c59_75 rfl rfl rfl ?_
          have es3323 : (yup mq3306 (336 + k.toNat) 11 (mq3306 316 16)) 2 2 = mq3306 2 2 := (yup_na (by omega))
          have tb3324 := hTq3306.atp 2 2 0 320 rfl
          refine y_callP 79 [.ref 2] [] c59_76 rfl rfl rfl rfl rfl (ycanO km38 ko2) (t38 hT3320 he (by have e1 : (yup mq3306 (336 + k.toNat) 11 (mq3306 316 16)) 5 e.toNat = m 5 e.toNat := ((yup_na (by omega)).trans ((hFq3306 5 e.toNat ((wBo316_lt (by decide)).trans rfl)).trans ((yup_na (by omega)).trans ((hFq3282 5 e.toNat rfl).trans ((yup_na (by decide)).trans (yup_na (by omega))))))); omega) (by omega)) (fun r3325 hr3325 => ?_)
          refine y_iconst 81 c59_79 rfl ?_
          refine y_icmp 86 84 c59_81 rfl rfl (yc_eq (by omega) (by omega)) (fun hb3326 => ?_) (fun hb3326 => ?_)
          · refine y_aload 87 c59_86 rfl rfl rfl ?_
            refine y_dup 88 c59_87 rfl rfl ?_
            refine y_getX 91 (mq3306 2 2) c59_88 rfl kf2_2 (yup_na (by omega)) ?_
            refine y_iconst 92 c59_91 rfl ?_
            refine y_iadd 93 c59_92 rfl ?_
            refine y_putI 96 c59_93 rfl kf2_2 (y_fit0 _) ?_
            have hT3327 := hT3320.up 2 2 ((mq3306 2 2) + 1) 0 320 rfl (by omega)
            have hF3328 := hF3321.up 2 2 ((mq3306 2 2) + 1) rfl
            refine y_aload 97 c59_96 rfl rfl rfl ?_
            refine y_iload 98 c59_97 rfl rfl ?_
            refine y_iconst 99 c59_98 rfl ?_
            refine y_iadd 100 c59_99 rfl ?_
            have es3330 : (yup (yup mq3306 (336 + k.toNat) 11 (mq3306 316 16)) 2 2 ((mq3306 2 2) + 1)) 2 2 = (mq3306 2 2) + 1 := rfl
            have es3331 : (yup (yup mq3306 (336 + k.toNat) 11 (mq3306 316 16)) 2 2 ((mq3306 2 2) + 1)) 2 1 = m 2 1 := ((yup_nk (by decide)).trans ((yup_na (by omega)).trans ((hFq3306 2 1 ((wBo316_lt (by decide)).trans rfl)).trans ((yup_na (by omega)).trans ((hFq3282 2 1 rfl).trans ((yup_nk (by decide)).trans (yup_na (by omega))))))))
            have es3332 : (yup (yup mq3306 (336 + k.toNat) 11 (mq3306 316 16)) 2 2 ((mq3306 2 2) + 1)) 316 10 = m 316 10 := ((yup_na (by decide)).trans ((yup_na (by omega)).trans ((hFq3306 316 10 ((wBo316_lt (by decide)).trans rfl)).trans ((yup_na (by omega)).trans ((hFq3282 316 10 rfl).trans ((yup_na (by decide)).trans (yup_na (by omega))))))))
            have es3333 : (yup (yup mq3306 (336 + k.toNat) 11 (mq3306 316 16)) 2 2 ((mq3306 2 2) + 1)) 316 12 = mq3306 316 12 := ((yup_na (by decide)).trans (yup_na (by omega)))
            have tb3334 := hTq3306.atp 316 12 0 12 rfl
            have es3335 : (yup (yup mq3306 (336 + k.toNat) 11 (mq3306 316 16)) 2 2 ((mq3306 2 2) + 1)) 316 13 = mq3306 316 13 := ((yup_na (by decide)).trans (yup_na (by omega)))
            have tb3336 := hTq3306.atp 316 13 0 8 rfl
            have es3337 : (yup (yup mq3306 (336 + k.toNat) 11 (mq3306 316 16)) 2 2 ((mq3306 2 2) + 1)) 316 16 = mq3306 316 16 := ((yup_na (by decide)).trans (yup_na (by omega)))
            refine y_callIB 103 [.ref 2, yI (dep + 1)] [] c59_100 rfl rfl rfl rfl rfl (ycanO km69 ko2) (hB _ _ hT3327 (by have e1 : (yup (yup mq3306 (336 + k.toNat) 11 (mq3306 316 16)) 2 2 ((mq3306 2 2) + 1)) 5 e.toNat = m 5 e.toNat := ((yup_na (by decide)).trans ((yup_na (by omega)).trans ((hFq3306 5 e.toNat ((wBo316_lt (by decide)).trans rfl)).trans ((yup_na (by omega)).trans ((hFq3282 5 e.toNat rfl).trans ((yup_na (by decide)).trans (yup_na (by omega)))))))); omega) (by omega) (by omega) (by omega)) (fun rq3329 mq3329 nq3329 hq3329 => ?_)
            obtain ⟨rfl, hTq3329, hFq3329, hq3329, hZq3329, hGq3329⟩ := hq3329
            have hF3338 := hF3328.tr hFq3329 (wBo316_mono (by omega))
            have tb3339 := hTq3329.atp 2 2 0 320 rfl
            have tb3340 := hTq3329.atp 316 16 0 40 rfl
            have tb3341 := hTq3329.atp 316 12 0 12 rfl
            have tb3342 := hTq3329.atp 316 13 0 8 rfl
            have es3343 : mq3329 (336 + k.toNat) 0 = 0 := ((hFq3329 (336 + k.toNat) 0 (wBo316_n (by omega))).trans ((yup_na (by omega)).trans ((yup_nk (by decide)).trans ((hFq3306 (336 + k.toNat) 0 (wBo316_n (by omega))).trans ((yup_nk (by decide)).trans ((hFq3282 (336 + k.toNat) 0 wVr316_n336).trans ((yup_na (by omega)).trans (yup_eq _ _ _ _))))))))
            have es3344 : mq3329 (336 + k.toNat) 3 = rq3282 := ((hFq3329 (336 + k.toNat) 3 (wBo316_n (by omega))).trans ((yup_na (by omega)).trans ((yup_nk (by decide)).trans ((hFq3306 (336 + k.toNat) 3 (wBo316_n (by omega))).trans (yup_eq _ _ _ _)))))
            have es3345 : mq3329 (336 + k.toNat) 11 = mq3306 316 16 := ((hFq3329 (336 + k.toNat) 11 (wBo316_n (by omega))).trans ((yup_na (by omega)).trans (yup_eq _ _ _ _)))
            refine y_retI c59_103 (y_fit1 (by omega)) ⟨rfl, hTq3329, hF3338, by omega, fun z hz => ((hZq3329 z (by omega)).trans ((yup_na (by decide)).trans ((yup_na (by omega)).trans ((hZq3306 z (by omega)).trans ((yup_na (by omega)).trans ((hFq3282 325 z rfl).trans ((yup_na (by decide)).trans (yup_na (by omega))))))))), fun h1 => ?_⟩
            obtain ⟨g1, n1⟩ := hGq3306 (by omega)
            have g2 := g1.fr (m' := mq3329) (c3 := mq3306 316 12) (fun j ja jb q _ => ((hFq3329 _ _ (wBo316_n (by omega))).trans ((yup_na (by omega)).trans (yup_na (by omega))))) (fun z za zb => ((hZq3329 z (by omega)).trans ((yup_na (by decide)).trans (yup_na (by omega))))) (by omega)
            have n2 := n1.fr (m' := mq3329) (c2 := mq3329 316 16) (fun j ja jb q => ((hFq3329 _ _ (wBo316_n (by omega))).trans ((yup_na (by omega)).trans (yup_na (by omega))))) (by omega)
            obtain ⟨g3, n3⟩ := hGq3329 (by omega)
            have g4 := RG.app (c3 := mq3329 316 12) (d3 := mq3329 316 13) (c := mq3329 316 16) g2 (cast (by congr 1 <;> omega) g3) (by omega) (by omega) (by omega)
            have n4 := EN.app (b := mq3306 316 16) n2 (cast (by congr 1 <;> omega) n3)
            refine ⟨cast ?_ g4, cast ?_ n4⟩ <;> congr 1 <;> omega
          · refine y_iconst 85 c59_84 rfl ?_
            have es3346 : (yup mq3306 (336 + k.toNat) 11 (mq3306 316 16)) 2 2 = mq3306 2 2 := (yup_na (by omega))
            have es3347 : (yup mq3306 (336 + k.toNat) 11 (mq3306 316 16)) 316 16 = mq3306 316 16 := (yup_na (by omega))
            have es3348 : (yup mq3306 (336 + k.toNat) 11 (mq3306 316 16)) 316 12 = mq3306 316 12 := (yup_na (by omega))
            have tb3349 := hTq3306.atp 316 12 0 12 rfl
            have es3350 : (yup mq3306 (336 + k.toNat) 11 (mq3306 316 16)) 316 13 = mq3306 316 13 := (yup_na (by omega))
            have tb3351 := hTq3306.atp 316 13 0 8 rfl
            have es3352 : (yup mq3306 (336 + k.toNat) 11 (mq3306 316 16)) (336 + k.toNat) 0 = 0 := ((yup_nk (by decide)).trans ((hFq3306 (336 + k.toNat) 0 (wBo316_n (by omega))).trans ((yup_nk (by decide)).trans ((hFq3282 (336 + k.toNat) 0 wVr316_n336).trans ((yup_na (by omega)).trans (yup_eq _ _ _ _))))))
            have es3353 : (yup mq3306 (336 + k.toNat) 11 (mq3306 316 16)) (336 + k.toNat) 3 = rq3282 := ((yup_nk (by decide)).trans ((hFq3306 (336 + k.toNat) 3 (wBo316_n (by omega))).trans (yup_eq _ _ _ _)))
            have es3354 : (yup mq3306 (336 + k.toNat) 11 (mq3306 316 16)) (336 + k.toNat) 11 = mq3306 316 16 := (yup_eq _ _ _ _)
            refine y_retI c59_85 (y_fit1 (by omega)) ⟨rfl, hT3320, hF3321, by omega, fun z hz => ((yup_na (by omega)).trans ((hZq3306 z (by omega)).trans ((yup_na (by omega)).trans ((hFq3282 325 z rfl).trans ((yup_na (by decide)).trans (yup_na (by omega))))))), fun h1 => ?_⟩
            obtain ⟨g1, n1⟩ := hGq3306 (by omega)
            have g2 := g1.fr (m' := yup mq3306 (336 + k.toNat) 11 (mq3306 316 16)) (c3 := mq3306 316 12) (fun j ja jb q _ => (yup_na (by omega))) (fun z za zb => (yup_na (by omega))) (by omega)
            have n2 := n1.fr (m' := yup mq3306 (336 + k.toNat) 11 (mq3306 316 16)) (c2 := (yup mq3306 (336 + k.toNat) 11 (mq3306 316 16)) 316 16) (fun j ja jb q => (yup_na (by omega))) (by omega)
            refine ⟨cast ?_ g2, cast ?_ n2⟩ <;> congr 1 <;> omega
      · refine y_iconst 55 c59_54 rfl ?_
        have tb3355 := hTq3306.atp 2 2 0 320 rfl
        have tb3356 := hTq3306.atp 316 16 0 40 rfl
        have tb3357 := hTq3306.atp 316 12 0 12 rfl
        have tb3358 := hTq3306.atp 316 13 0 8 rfl
        have es3359 : mq3306 (336 + k.toNat) 0 = 0 := ((hFq3306 (336 + k.toNat) 0 (wBo316_n (by omega))).trans ((yup_nk (by decide)).trans ((hFq3282 (336 + k.toNat) 0 wVr316_n336).trans ((yup_na (by omega)).trans (yup_eq _ _ _ _)))))
        have es3360 : mq3306 (336 + k.toNat) 3 = rq3282 := ((hFq3306 (336 + k.toNat) 3 (wBo316_n (by omega))).trans (yup_eq _ _ _ _))
        have es3361 : mq3306 (336 + k.toNat) 11 = m (336 + k.toNat) 11 := ((hFq3306 (336 + k.toNat) 11 (wBo316_n (by omega))).trans ((yup_nk (by decide)).trans ((hFq3282 (336 + k.toNat) 11 wVr316_n336).trans ((yup_na (by omega)).trans (yup_nk (by decide))))))
        have tb3362 := hT.atp (336 + k.toNat) 11 0 40 (ft336_11 (by omega))
        exact y_retI c59_55 (y_fit1 (by omega)) ⟨rfl, hTq3306, hF3317, by omega, fun z hz => ((hZq3306 z (by omega)).trans ((yup_na (by omega)).trans ((hFq3282 325 z rfl).trans ((yup_na (by decide)).trans (yup_na (by omega)))))), fun h1 => by omega⟩
end

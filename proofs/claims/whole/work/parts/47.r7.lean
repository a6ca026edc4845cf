/-! measures of a line: class line j (table I), model trace t (table J) -/
def Li (I : HI) (j : Nat) (J : HI) (t : Nat) : Prop := ∀ h, h < 12 → J 59 (12 * t + h) = I (j + 1) h
theorem R.li {I J : HI} (h : R I J) {t : Nat} (ht : t < ix (I 1 6)) : Li I (6 + 2 * t) J t := fun k hk => h.rad ht hk
theorem plainly_eq (x : Int32) : fX6_plainly x = iAbs x := by
  unfold fX6_plainly iAbs
  rw [Int32.zero_sub]
theorem ahead_eq {h : Nat} (hh : h < 12) : fX5_hourAhead h = (h + 11) % 12 := by
  unfold fX5_hourAhead
  rcases (show h = 0 ∨ h = 1 ∨ h = 2 ∨ h = 3 ∨ h = 4 ∨ h = 5 ∨ h = 6 ∨ h = 7 ∨ h = 8 ∨ h = 9 ∨ h = 10 ∨ h = 11 by omega) with rfl | rfl | rfl | rfl | rfl | rfl | rfl | rfl | rfl | rfl | rfl | rfl <;> rfl
theorem behind_eq {h : Nat} (hh : h < 12) : fX5_hourBehind h = (h + 1) % 12 := by
  unfold fX5_hourBehind
  rcases (show h = 0 ∨ h = 1 ∨ h = 2 ∨ h = 3 ∨ h = 4 ∨ h = 5 ∨ h = 6 ∨ h = 7 ∨ h = 8 ∨ h = 9 ∨ h = 10 ∨ h = 11 by omega) with rfl | rfl | rfl | rfl | rfl | rfl | rfl | rfl | rfl | rfl | rfl | rfl <;> rfl
theorem gap_eq {I J : HI} {j t : Nat} (h : Li I j J t) : fX6_gapOf J t = fX4_gap I j := by
  unfold fX6_gapOf fX4_gap
  rw [plainly_eq, h 11 (by omega), show J 59 (12 * t) = I (j + 1) 0 from h 0 (by omega)]
theorem off_eq {I J : HI} {j t : Nat} (h : Li I j J t) (hs : J 55 0 = I 4 0) : fX6_offOf J t = fX3_offOf I j := by
  unfold fX6_offOf fX6_offOf_x4 fX3_offOf fX4_offBy fX4_offBy_x4
  refine fo_congr _ _ 12 0 0 (fun k s _ hk => ?_)
  unfold fX6_offOf_b4 fX4_offBy_b4
  rw [plainly_eq, h k (by omega), hs]
theorem far_eq {I J : HI} {j o t u : Nat} (h : Li I j J t) (h2 : Li I o J u) : fX6_closeOf J t u = fX4_farFrom I j o := by
  unfold fX6_closeOf fX6_closeOf_x5 fX4_farFrom fX4_farFrom_x4
  refine fo_congr _ _ 12 0 0 (fun k s _ hk => ?_)
  unfold fX6_closeOf_b5 fX4_farFrom_b4
  rw [plainly_eq, h k (by omega), h2 k (by omega)]
theorem bend_eq {I J : HI} {j t : Nat} (h : Li I j J t) {k : Nat} (hk : k < 12) : fX6_wobbleAt J t k = fX4_bendAt I j k := by
  unfold fX6_wobbleAt fX4_bendAt
  rw [plainly_eq, ahead_eq hk, behind_eq hk, h k hk, h _ (by omega), h _ (by omega)]
theorem hour_eq {I J : HI} {j t : Nat} (h : Li I j J t) : fX6_wobbleHour J t = fX4_wobbleHour I j ∧ fX4_wobbleHour I j < 12 := by
  unfold fX6_wobbleHour fX6_wobbleHour_x4 fX4_wobbleHour fX4_wobbleHour_x4
  refine fo_sim (fun i (a b : Nat) => a = b ∧ b < 12) _ _ 11 1 0 0 ⟨rfl, by omega⟩ (fun k a b h1 h2 e => ?_)
  obtain ⟨rfl, hb⟩ := e
  unfold fX6_wobbleHour_b4 fX4_wobbleHour_b4
  rw [bend_eq h (by omega : k < 12), bend_eq h hb]
  split
  · exact ⟨rfl, hb⟩
  · exact ⟨rfl, by omega⟩
theorem flats_eq {I J : HI} {j t : Nat} (h : Li I j J t) (hh : ∀ i, i < 24 → J 53 i = I 2 i) (hf : J 56 t = I j 0) (hf2 : vp_in (I j 0) 2) : fX6_flatsOf J t = fX3_flatsOf I j := by
  unfold fX6_flatsOf fX6_flatsOf_x4 fX3_flatsOf fX3_flatsOf_x4
  refine fo_congr _ _ 12 0 0 (fun k s _ hk => ?_)
  have := vb hf2
  unfold fX6_flatsOf_b4 fX3_flatsOf_b4 fX6_flatsOf_46 fX3_flatsOf_33
  rw [Int32.or_zero, spot_eq, hf, hh _ (by omega), h k (by omega), ahead_eq (by omega), h _ (by omega)]
theorem nI_inj {a b : Nat} (h : nI a = nI b) (ha : a < 2 ^ 31) (hb : b < 2 ^ 31) : a = b := by rw [← ix_nI ha, ← ix_nI hb, h]
theorem max0 {r : Int32} (h : vp_in r 1000) : (if r ≤ 0 then 0 else r) = r := by
  rw [vx h]
  have := vb h
  split
  · rename_i q
    rcases Nat.eq_zero_or_pos (ix r) with e | e
    · rw [e]; rfl
    · exact absurd q (nI_ge (a := 0) e (by omega))
  · rfl
theorem min999 {r : Int32} (h : vp_in r 1000) : (if (999 : Int32) ≤ r then 999 else r) = r := by
  rw [vx h]
  have := vb h
  split
  · rename_i q
    rcases Nat.lt_or_ge (ix r) 999 with e | e
    · exact absurd q (nI_ge (b := 999) e (by omega))
    · rw [show ix r = 999 by omega]; rfl
  · rfl
theorem iMax_if (x r : Int32) : (if r ≤ x then x else r) = iMax x r := by
  unfold iMax
  by_cases h : r ≤ x
  · rw [if_pos h, if_neg (Int32.not_lt.mpr h)]
  · rw [if_neg h, if_pos (Int32.not_le.mp h)]
theorem iMin_if (x r : Int32) : (if x ≤ r then x else r) = iMin x r := by
  unfold iMin
  by_cases h : x ≤ r
  · rw [if_pos h, if_neg (Int32.not_lt.mpr h)]
  · rw [if_neg h, if_pos (Int32.not_le.mp h)]
theorem round6_b {J : HI} {t i : Nat} {x y : Int32} : fX6_roundOf_b9 J t i x y = (iMin x (J 59 (12 * t + i)), iMax y (J 59 (12 * t + i))) := by
  unfold fX6_roundOf_b9 fX6_roundOf_42
  rw [iMax_if, ← iMin_if]
  split <;> rfl
theorem round_eq {I J : HI} {j t : Nat} (h : Li I j J t) (hr : vp_in (I (j + 1) 0) 1000) : fX6_roundOf J t = fX4_roundness I j := by
  unfold fX6_roundOf fX4_roundness
  dsimp only
  rw [show (12 : Nat) = 11 + 1 from rfl, fo_s]
  dsimp only
  rw [round6_b, show J 59 (12 * t + 0) = I (j + 1) 0 from h 0 (by omega), ← iMax_if, max0 hr, ← iMin_if, min999 hr]
  have key := fo_sim (fun _ (a b : Int32 × Int32) => a.1 = b.2 ∧ a.2 = b.1) (fun (i : Nat) (s : Int32 × Int32) => fX6_roundOf_b9 J t i s.1 s.2) (fun (i : Nat) (s : Int32 × Int32) => fX4_roundness_b16 I j i s.1 s.2) 11 1 (I (j + 1) 0, I (j + 1) 0) (I (j + 1) 0, I (j + 1) 0) ⟨rfl, rfl⟩ (fun k a b h1 h2 e => by
    rw [round6_b]
    unfold fX4_roundness_b16
    rw [h k (by omega), e.1, e.2]
    exact ⟨rfl, rfl⟩)
  unfold fX6_roundOf_x9 fX4_roundness_x16
  rw [key.1, key.2]
/-! the latest trace ahead -/
theorem la6_0 {J : HI} {foot : Int32} : fX6_latestAhead J foot 0 = 0 := by
  unfold fX6_latestAhead fX6_latestAhead_x4
  rw [wh_s]
  have e : fX6_latestAhead_b4 J foot 0 = Sum.inl 0 := by unfold fX6_latestAhead_b4; rw [if_pos (by decide)]
  rw [e]; rfl
theorem pred_nn {n : Nat} (hn : n < 1000) : ¬ nI (n + 1) - 1 < 0 := by
  rw [show nI (n + 1) - 1 = nI n from nv_isub (b := 1) rfl rfl (by omega)]
  exact nI_pos (by omega)
theorem la6_s {J : HI} {foot : Int32} {n : Nat} (hn : n < 1000) : fX6_latestAhead J foot (n + 1) = if J 56 n = foot then n + 1 else fX6_latestAhead J foot n := by
  unfold fX6_latestAhead fX6_latestAhead_x4
  rw [wh_s]
  have e : fX6_latestAhead_b4 J foot (n + 1) = if J 56 n = foot then Sum.inl (n + 1) else Sum.inr n := by unfold fX6_latestAhead_b4; rw [if_neg (pred_nn hn)]; rfl
  rw [e]
  split <;> rfl
noncomputable def lat (I : HI) (foot : Int32) (n : Nat) : Option Nat := whE (n + 1) (fun (s : Nat) => fX3_latestAhead_b11 I foot s) none n
theorem lat_0 {I : HI} {foot : Int32} : lat I foot 0 = none := by
  unfold lat
  rw [whE_s]
  have e : fX3_latestAhead_b11 I foot 0 = Sum.inl none := by unfold fX3_latestAhead_b11; rw [if_pos (by decide)]; rfl
  rw [e]; rfl
theorem lat_s {I : HI} {foot : Int32} {n : Nat} (hn : n < 1000) : lat I foot (n + 1) = if I (6 + 2 * n) 0 = foot then some (6 + 2 * n) else lat I foot n := by
  unfold lat
  rw [whE_s]
  have e : fX3_latestAhead_b11 I foot (n + 1) = if I (6 + 2 * n) 0 = foot then Sum.inl (some (6 + 2 * n)) else Sum.inr n := by unfold fX3_latestAhead_b11; rw [if_neg (pred_nn hn)]; rfl
  rw [e]
  split <;> rfl
def lk (k : Nat) : Option Nat := if k = 0 then none else some (6 + 2 * (k - 1))
theorem lat_eq {I J : HI} {foot : Int32} : ∀ n, n < 1000 → (∀ t, t < n → J 56 t = I (6 + 2 * t) 0) → lat I foot n = lk (fX6_latestAhead J foot n)
  | 0, _, _ => by rw [lat_0, la6_0]; rfl
  | n + 1, hn, hf => by
    rw [lat_s (by omega), la6_s (by omega), hf n (by omega)]
    split
    · rfl
    · exact lat_eq n (by omega) (fun t ht => hf t (by omega))
theorem latest3 {I : HI} {foot : Int32} {n : Nat} (hn : n ≤ ix (I 1 6)) : fX3_latestAhead I foot n = lat I foot n := by
  unfold fX3_latestAhead lat
  rw [Nat.min_eq_left hn]
theorem R.latest {I J : HI} (h : R I J) {foot : Int32} {n : Nat} (hn : n ≤ ix (I 1 6)) : fX3_latestAhead I foot n = lk (fX6_latestAhead J foot n) := by
  rw [latest3 hn]
  have := h.d6
  exact lat_eq n (by omega) (fun t ht => h.foot (by omega))
theorem la6_foot {J : HI} {foot : Int32} : ∀ n, n < 1000 → 0 < fX6_latestAhead J foot n → J 56 (fX6_latestAhead J foot n - 1) = foot
  | 0, _, h => by rw [la6_0] at h; omega
  | n + 1, hn, h => by
    rw [la6_s (by omega)] at h ⊢
    by_cases q : J 56 n = foot
    · rw [if_pos q]; exact q
    · rw [if_neg q] at h ⊢
      exact la6_foot n (by omega) h

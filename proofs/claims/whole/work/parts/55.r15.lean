theorem bm {x : Int} (h1 : -2147483648 ≤ x) (h2 : x < 2147483648) : x.bmod (2 ^ 32) = x := by
  rw [Int.bmod_def]
  omega
theorem mid_in {a r : Nat} {q : Int32} {k : Nat} (hq : q = nI k) (hk : k = 2 ∨ k = 4) (ha : a < 1000) (hr : r < 1000) : vp_in (nI a + (nI r - nI a) / q) 1000 := by
  subst hq
  rcases Nat.le_total a r with h | h
  · rw [nv_isub (a := r) (b := a) rfl rfl h, nv_idiv (a := r - a) (b := k) rfl rfl (by omega) (by omega) (by omega), nv_iadd (a := a) (b := (r - a) / k) rfl rfl]
    have := Nat.div_le_self (r - a) k
    exact vp_nI (by omega) (by omega)
  · have e1 : (nI r - nI a).toInt = (r : Int) - a := by
      rw [Int32.toInt_sub, nI_toInt (by omega), nI_toInt (by omega), bm (by omega) (by omega)]
    have hd := Nat.div_le_self (a - r) k
    generalize hD : (a - r) / k = D at hd
    have e2 : ((nI r - nI a) / nI k).toInt = -(D : Int) := by
      rw [Int32.toInt_div, e1, nI_toInt (by omega), show ((r : Int) - a) = -((a - r : Nat) : Int) by omega, Int.neg_tdiv, ← Int.ofNat_tdiv, hD, bm (by omega) (by omega)]
    have e4 : nI a + (nI r - nI a) / nI k = nI (a - D) := by
      apply Int32.toInt_inj.mp
      rw [Int32.toInt_add, nI_toInt (by omega), e2, nI_toInt (by omega), bm (by omega) (by omega)]
      omega
    rw [e4]
    exact vp_nI (by omega) (by omega)
theorem held9 {x : Int32} (h : vp_in x 1000) : fX6_held x 999 = x := by
  unfold fX6_held
  have b := vb h
  rw [vx h, if_pos (nI_pos' (by omega)), if_pos (show nI (ix x) ≤ 999 from nI_le (b := 999) (by omega) (by omega))]
theorem held9_in {x : Int32} : vp_in (fX6_held x 999) 1000 := by
  unfold fX6_held
  split
  · split
    · rename_i h1 h2
      exact vp_of (a := 999) h1 h2 (by omega) (by omega)
    · exact vp_b rfl
  · exact vp_b rfl
theorem sub_in {x y : Int32} {m k : Nat} (hx : vp_in x m) (hy : vp_in y k) (hm : m ≤ 1000) (hk : k ≤ 1000) (h0 : 0 < m) : vp_in (if 0 ≤ x - y then x - y else 0) m := by
  have bx := vb hx
  have by0 := vb hy
  split
  · rename_i h
    rcases Nat.le_total (ix y) (ix x) with q | q
    · rw [nv_isub (vx hx) (vx hy) q]
      exact vp_nI (by omega) (by omega)
    · have e : (x - y).toInt = (ix x : Int) - ix y := by
        rw [Int32.toInt_sub, vx hx, vx hy, nI_toInt (by omega), nI_toInt (by omega), bm (by omega) (by omega), ix_nI (by omega), ix_nI (by omega)]
      have h2 := Int32.le_iff_toInt_le.mp h
      rw [e, show (0 : Int32).toInt = 0 from rfl] at h2
      rw [nv_isub (vx hx) (vx hy) (by omega)]
      exact vp_nI (by omega) (by omega)
  · exact vp_nI (n := 0) h0 (by omega)
theorem fo_end {σ : Type} (f : Nat → σ → σ) : ∀ n i s, fo (n + 1) i f s = f (i + n) (fo n i f s)
  | 0, i, s => by rw [fo_s, fo_0, fo_0]; rfl
  | n + 1, i, s => by
    rw [fo_s, fo_end f n (i + 1) (f i s), fo_s n i f s, show i + 1 + n = i + (n + 1) by omega]
def Ev (I J : HI) : Prop := (J 52 4 = I 1 4 ∧ J 55 0 = I 4 0 ∧ J 55 1 = I 4 1) ∧ (∀ i, i < 24 → J 53 i = I 2 i) ∧ (∀ i, i < 24 → J 54 i = I 3 i) ∧ vp_in (I 1 4) 10 ∧ (∀ i, i < 24 → vp_in (I 2 i) 4) ∧ (∀ i, i < 24 → vp_in (I 3 i) 100) ∧ vp_in (I 4 0) 100 ∧ vp_in (I 4 1) 10
theorem R.ev {I J : HI} (h : R I J) : Ev I J := ⟨⟨h.fig, h.set (by omega), h.set (by omega)⟩, fun i hi => h.hard hi, fun i hi => h.old hi, h.1.2.1.2.1, h.1.2.1.2.2.2.1, h.1.2.1.2.2.2.2.1, h.1.2.1.2.2.2.2.2.1.1, h.1.2.1.2.2.2.2.2.1.2⟩
theorem Ev.c {I J I' J' : HI} (h : Ev I J) (h1 : I' 1 4 = I 1 4) (h2 : Fr (fun a => 2 ≤ a ∧ a ≤ 4) I I') (h3 : J' 52 4 = J 52 4) (h4 : Fr (fun a => 53 ≤ a ∧ a ≤ 55) J J') : Ev I' J' := by
  unfold Ev
  rw [h1, h3, h2 2 (by omega), h2 3 (by omega), h2 4 (by omega), h4 53 (by omega), h4 54 (by omega), h4 55 (by omega)]
  exact h
theorem pace_0 {J : HI} {foot : Nat} {push : Int32} : fX6_paceAt J foot push 0 = 60 * push := by
  unfold fX6_paceAt fX6_paceAt_x9
  rw [show 0 + 1 - 1 = 0 from rfl, fo_0]
theorem pace_s {J : HI} {foot h : Nat} {push : Int32} : fX6_paceAt J foot push (h + 1) = fX6_paceAt_b9 J foot (h + 1) (fX6_paceAt J foot push h) := by
  unfold fX6_paceAt fX6_paceAt_x9
  rw [show h + 1 + 1 - 1 = h + 1 from rfl, show h + 1 - 1 = h from rfl, fo_end, Nat.add_comm 1 h]
theorem Ev.rub {I J : HI} (h : Ev I J) {i : Nat} (hi : i < 24) : vp_in (3 * (J 55 1 + J 53 i)) 37 := by
  obtain ⟨⟨-, -, a3⟩, a4, -, -, a7, -, -, a10⟩ := h
  rw [a3, a4 i hi]
  have b1 := vb a10
  have b2 := vb (a7 i hi)
  rw [show (3 : Int32) * (I 4 1 + I 2 i) = nI (3 * (ix (I 4 1) + ix (I 2 i))) from nv_imul (a := 3) rfl (nv_iadd (vx a10) (vx (a7 i hi)))]
  exact vp_nI (by omega) (by omega)
theorem pace_in {I J : HI} (hE : Ev I J) {foot p : Nat} (hf : foot < 2) (hp : p ≤ 9) : ∀ h, h < 12 → vp_in (fX6_paceAt J foot (nI p) h) 541
  | 0, _ => by
    rw [pace_0, show (60 : Int32) * nI p = nI (60 * p) from nv_imul (a := 60) rfl rfl]
    exact vp_nI (by omega) (by omega)
  | h + 1, hh => by
    rw [pace_s]
    unfold fX6_paceAt_b9
    exact sub_in (pace_in hE hf hp h (by omega)) (hE.rub (by omega)) (by omega) (by omega) (by omega)
theorem iMax0 (x : Int32) : iMax 0 x = if 0 ≤ x then x else 0 := by
  rw [← iMax_if]
  by_cases h : x ≤ 0
  · rw [if_pos h]
    by_cases h2 : 0 ≤ x
    · rw [if_pos h2]; exact Int32.le_antisymm h2 h
    · rw [if_neg h2]
  · rw [if_neg h, if_pos (Int32.le_of_lt (Int32.not_le.mp h))]

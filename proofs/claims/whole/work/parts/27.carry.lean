def la (p : Nat) : Nat := if p < 3 then 52 else if p < 51 then 53 + (p - 3) % 2 else if p < 56 then 55 else if p < 74 then 56 + (p - 56) % 3 else 59
def lb (p : Nat) : Nat := if p < 3 then 3 + p else if p < 51 then (p - 3) / 2 else if p < 56 then p - 51 else if p < 74 then (p - 56) / 3 else p - 74
theorem la_ok {p : Nat} (h : p < 146) : la p ≤ 59 ∧ 52 ≤ la p ∧ (la p = 52 → 3 ≤ lb p ∧ lb p ≤ 5) := by
  unfold la lb
  repeat' split
  all_goals omega
theorem la_inj {p q : Nat} (h1 : p < 146) (h2 : q < 146) (e1 : la p = la q) (e2 : lb p = lb q) : p = q := by
  have h : ∀ p : Fin 146, ∀ q : Fin 146, la p.1 = la q.1 → lb p.1 = lb q.1 → p.1 = q.1 := by decide +kernel
  exact h ⟨p, h1⟩ ⟨q, h2⟩ e1 e2
theorem la53 {i : Nat} (h : i < 24) : la (3 + 2 * i) = 53 := by
  unfold la
  rw [if_neg (by omega), if_pos (by omega)]
  all_goals omega
theorem lb53 {i : Nat} (h : i < 24) : lb (3 + 2 * i) = i := by
  unfold lb
  rw [if_neg (by omega), if_pos (by omega)]
  all_goals omega
theorem la54 {i : Nat} (h : i < 24) : la (3 + 2 * i + 1) = 54 := by
  unfold la
  rw [if_neg (by omega), if_pos (by omega)]
  all_goals omega
theorem lb54 {i : Nat} (h : i < 24) : lb (3 + 2 * i + 1) = i := by
  unfold lb
  rw [if_neg (by omega), if_pos (by omega)]
  all_goals omega
theorem la55 {i : Nat} (h : i < 5) : la (51 + i) = 55 := by
  unfold la
  rw [if_neg (by omega), if_neg (by omega), if_pos (by omega)]
theorem lb55 {i : Nat} (h : i < 5) : lb (51 + i) = i := by
  unfold lb
  rw [if_neg (by omega), if_neg (by omega), if_pos (by omega)]
  all_goals omega
theorem la56 {i : Nat} (h : i < 6) : la (56 + 3 * i) = 56 := by
  unfold la
  rw [if_neg (by omega), if_neg (by omega), if_neg (by omega), if_pos (by omega)]
  all_goals omega
theorem lb56 {i : Nat} (h : i < 6) : lb (56 + 3 * i) = i := by
  unfold lb
  rw [if_neg (by omega), if_neg (by omega), if_neg (by omega), if_pos (by omega)]
  all_goals omega
theorem la57 {i : Nat} (h : i < 6) : la (56 + 3 * i + 1) = 57 := by
  unfold la
  rw [if_neg (by omega), if_neg (by omega), if_neg (by omega), if_pos (by omega)]
  all_goals omega
theorem lb57 {i : Nat} (h : i < 6) : lb (56 + 3 * i + 1) = i := by
  unfold lb
  rw [if_neg (by omega), if_neg (by omega), if_neg (by omega), if_pos (by omega)]
  all_goals omega
theorem la58 {i : Nat} (h : i < 6) : la (56 + 3 * i + 2) = 58 := by
  unfold la
  rw [if_neg (by omega), if_neg (by omega), if_neg (by omega), if_pos (by omega)]
  all_goals omega
theorem lb58 {i : Nat} (h : i < 6) : lb (56 + 3 * i + 2) = i := by
  unfold lb
  rw [if_neg (by omega), if_neg (by omega), if_neg (by omega), if_pos (by omega)]
  all_goals omega
theorem la59 {i : Nat} (h : i < 72) : la (74 + i) = 59 := by
  unfold la
  rw [if_neg (by omega), if_neg (by omega), if_neg (by omega), if_neg (by omega)]
theorem lb59 {i : Nat} (h : i < 72) : lb (74 + i) = i := by
  unfold lb
  rw [if_neg (by omega), if_neg (by omega), if_neg (by omega), if_neg (by omega)]
  all_goals omega
theorem carry_get_a {S : HI} {v : Int32} {p : Nat} (hp : S 52 23 = nI p) (hb : p < 146) : (fX6_carry_a S v).1 = (if S 52 24 = 0 then S 65 p else v) ∧ ∀ a b, (fX6_carry_a S v).2 a b = if a = 52 ∧ b = 23 then nI (p + 1) else if a = 65 ∧ b = p ∧ ¬ S 52 24 = 0 then v else S a b := by
  have e : ix (S 52 23) = p := by rw [hp]; exact ix_nI (by omega)
  have e2 : nI p + 1 = nI (p + 1) := nv_iadd (x := nI p) (y := 1) (a := p) (b := 1) rfl rfl
  unfold fX6_carry_a fX6_carry_a_17
  dsimp only
  rw [e]
  by_cases c : S 52 24 = 0
  · rw [if_pos c]
    refine ⟨(if_pos c).symm, fun a b => ?_⟩
    by_cases d : a = 52 ∧ b = 23
    · rw [if_pos d, d.1, d.2, up_v, hp, e2]
    · rw [if_neg d, up_o d, if_neg (fun h => h.2.2 c)]
  · rw [if_neg c]
    refine ⟨by rw [up_v, if_neg c], fun a b => ?_⟩
    by_cases d : a = 52 ∧ b = 23
    · rw [if_pos d, d.1, d.2, up_v, up_ne2 (by omega), hp, e2]
    · rw [if_neg d, up_o d]
      by_cases d2 : a = 65 ∧ b = p
      · rw [if_pos ⟨d2.1, d2.2, c⟩, d2.1, d2.2, up_v]
      · rw [if_neg (fun h => d2 ⟨h.1, h.2.1⟩), up_o d2]
theorem carryAll_ind_a {I : HI} {takes : Int32} (P : Nat → HI → Prop) (hs : ∀ p (S : HI), p < 146 → P p S → P (p + 1) (up ((fX6_carry_a S (S (la p) (lb p))).2) (la p) (lb p) ((fX6_carry_a S (S (la p) (lb p))).1))) (h0 : P 0 (up (up (up I 52 25 65) 52 24 takes) 52 23 0)) : P 146 (fX6_carryAll_a I takes) := by
  have h1 := hs 0 _ (by omega) h0
  have h2 := hs 1 _ (by omega) h1
  have h3 := hs 2 _ (by omega) h2
  unfold fX6_carryAll_a fX6_carryAll_a_c15 fX6_carryAll_a_c27 fX6_carryAll_a_c39 fX6_carryAll_a_c51
  have h4 := fo_inv (fun i S => P (3 + 2 * i) S) (fun (i : Nat) (s : HI) => fX6_carryAll_a_b53 i s) 24 0 _ h3 (fun i S _ hi h => by
    have a1 := hs (3 + 2 * i) S (by omega) h
    rw [la53 (by omega), lb53 (by omega)] at a1
    have a2 := hs (3 + 2 * i + 1) _ (by omega) a1
    rw [la54 (by omega), lb54 (by omega)] at a2
    exact a2)
  unfold fX6_carryAll_a_x53
  have h5 := fo_inv (fun i S => P (51 + i) S) (fun (i : Nat) (s : HI) => fX6_carryAll_a_b99 i s) 5 0 _ h4 (fun i S _ hi h => by
    have a1 := hs (51 + i) S (by omega) h
    rw [la55 (by omega), lb55 (by omega)] at a1
    exact a1)
  unfold fX6_carryAll_a_x99
  have h6 := fo_inv (fun i S => P (56 + 3 * i) S) (fun (i : Nat) (s : HI) => fX6_carryAll_a_b128 i s) 6 0 _ h5 (fun i S _ hi h => by
    have a1 := hs (56 + 3 * i) S (by omega) h
    rw [la56 (by omega), lb56 (by omega)] at a1
    have a2 := hs (56 + 3 * i + 1) _ (by omega) a1
    rw [la57 (by omega), lb57 (by omega)] at a2
    have a3 := hs (56 + 3 * i + 2) _ (by omega) a2
    rw [la58 (by omega), lb58 (by omega)] at a3
    exact a3)
  unfold fX6_carryAll_a_x128
  have h7 := fo_inv (fun i S => P (74 + i) S) (fun (i : Nat) (s : HI) => fX6_carryAll_a_b190 i s) 72 0 _ h6 (fun i S _ hi h => by
    have a1 := hs (74 + i) S (by omega) h
    rw [la59 (by omega), lb59 (by omega)] at a1
    exact a1)
  unfold fX6_carryAll_a_x190
  exact h7
theorem carryAll_takes_a (I : HI) : (∀ q, q < 146 → fX6_carryAll_a I 1 65 q = I (la q) (lb q)) ∧ ∀ a b, a ≠ 65 → ¬ (a = 52 ∧ 23 ≤ b ∧ b ≤ 25) → fX6_carryAll_a I 1 a b = I a b := by
  have h := carryAll_ind_a (I := I) (takes := 1) (fun p S => S 52 24 = 1 ∧ S 52 23 = nI p ∧ (∀ q, q < p → S 65 q = I (la q) (lb q)) ∧ ∀ a b, a ≠ 65 → ¬ (a = 52 ∧ 23 ≤ b ∧ b ≤ 25) → S a b = I a b) (by
    intro p S hp hP
    obtain ⟨p1, p2, p3, p4⟩ := hP
    obtain ⟨c1, c2⟩ := carry_get_a (v := S (la p) (lb p)) p2 hp
    have n1 : ¬ S 52 24 = 0 := by rw [p1]; decide
    rw [c1, if_neg n1]
    have l := la_ok hp
    refine ⟨?_, ?_, ?_, ?_⟩
    · rw [up_o (by omega), c2, if_neg (by omega), if_neg (by omega), p1]
    · rw [up_o (by omega), c2, if_pos ⟨rfl, rfl⟩]
    · intro q hq
      rw [up_o (by omega), c2, if_neg (by omega)]
      by_cases e : q = p
      · rw [if_pos ⟨rfl, e, n1⟩, e]; exact p4 _ _ (by omega) (by omega)
      · rw [if_neg (fun h => e h.2.1)]; exact p3 q (by omega)
    · intro a b h1 h2
      by_cases d : a = la p ∧ b = lb p
      · rw [d.1, d.2, up_v]; exact p4 _ _ (by omega) (by omega)
      · rw [up_o d, c2, if_neg (by omega), if_neg (by omega)]; exact p4 a b h1 h2) (by
    refine ⟨?_, ?_, ?_, ?_⟩
    · rw [up_k (by omega), up_v]
    · rw [up_v]; rfl
    · intro q hq; exact absurd hq (Nat.not_lt_zero q)
    · intro a b h1 h2; rw [up_o (by omega), up_o (by omega), up_o (by omega)])
  exact ⟨h.2.2.1, h.2.2.2⟩
theorem carryAll_gives_a (I : HI) : (∀ q, q < 146 → fX6_carryAll_a I 0 (la q) (lb q) = I 65 q) ∧ ∀ a b, (∀ q, q < 146 → ¬ (a = la q ∧ b = lb q)) → ¬ (a = 52 ∧ 23 ≤ b ∧ b ≤ 25) → fX6_carryAll_a I 0 a b = I a b := by
  have h := carryAll_ind_a (I := I) (takes := 0) (fun p S => S 52 24 = 0 ∧ S 52 23 = nI p ∧ (∀ q, S 65 q = I 65 q) ∧ (∀ q, q < p → S (la q) (lb q) = I 65 q) ∧ ∀ a b, (∀ q, q < 146 → ¬ (a = la q ∧ b = lb q)) → ¬ (a = 52 ∧ 23 ≤ b ∧ b ≤ 25) → S a b = I a b) (by
    intro p S hp hP
    obtain ⟨p1, p2, p3, p4, p5⟩ := hP
    obtain ⟨c1, c2⟩ := carry_get_a (v := S (la p) (lb p)) p2 hp
    rw [c1, if_pos p1]
    have l := la_ok hp
    refine ⟨?_, ?_, ?_, ?_, ?_⟩
    · rw [up_o (by omega), c2, if_neg (by omega), if_neg (by omega), p1]
    · rw [up_o (by omega), c2, if_pos ⟨rfl, rfl⟩]
    · intro q
      rw [up_o (by omega), c2, if_neg (by omega), if_neg (fun h => h.2.2 p1)]; exact p3 q
    · intro q hq
      by_cases e : q = p
      · rw [e, up_v]; exact p3 p
      · have l2 := la_ok (p := q) (by omega)
        rw [up_o (fun h => e (la_inj (by omega) hp h.1 h.2)), c2, if_neg (by omega), if_neg (fun h => h.2.2 p1)]; exact p4 q (by omega)
    · intro a b h1 h2
      rw [up_o (h1 p hp), c2, if_neg (by omega), if_neg (fun h => h.2.2 p1)]; exact p5 a b h1 h2) (by
    refine ⟨?_, ?_, ?_, ?_, ?_⟩
    · rw [up_k (by omega), up_v]
    · rw [up_v]; rfl
    · intro q; rw [up_ne2 (by omega), up_ne2 (by omega), up_ne2 (by omega)]
    · intro q hq; exact absurd hq (Nat.not_lt_zero q)
    · intro a b h1 h2; rw [up_o (by omega), up_o (by omega), up_o (by omega)])
  exact ⟨h.2.2.2.1, h.2.2.2.2⟩
theorem carry_get_b {S : HI} {v : Int32} {p : Nat} (hp : S 52 23 = nI p) (hb : p < 146) : (fX6_carry_b S v).1 = (if S 52 24 = 0 then S 66 p else v) ∧ ∀ a b, (fX6_carry_b S v).2 a b = if a = 52 ∧ b = 23 then nI (p + 1) else if a = 66 ∧ b = p ∧ ¬ S 52 24 = 0 then v else S a b := by
  have e : ix (S 52 23) = p := by rw [hp]; exact ix_nI (by omega)
  have e2 : nI p + 1 = nI (p + 1) := nv_iadd (x := nI p) (y := 1) (a := p) (b := 1) rfl rfl
  unfold fX6_carry_b fX6_carry_b_17
  dsimp only
  rw [e]
  by_cases c : S 52 24 = 0
  · rw [if_pos c]
    refine ⟨(if_pos c).symm, fun a b => ?_⟩
    by_cases d : a = 52 ∧ b = 23
    · rw [if_pos d, d.1, d.2, up_v, hp, e2]
    · rw [if_neg d, up_o d, if_neg (fun h => h.2.2 c)]
  · rw [if_neg c]
    refine ⟨by rw [up_v, if_neg c], fun a b => ?_⟩
    by_cases d : a = 52 ∧ b = 23
    · rw [if_pos d, d.1, d.2, up_v, up_ne2 (by omega), hp, e2]
    · rw [if_neg d, up_o d]
      by_cases d2 : a = 66 ∧ b = p
      · rw [if_pos ⟨d2.1, d2.2, c⟩, d2.1, d2.2, up_v]
      · rw [if_neg (fun h => d2 ⟨h.1, h.2.1⟩), up_o d2]
theorem carryAll_ind_b {I : HI} {takes : Int32} (P : Nat → HI → Prop) (hs : ∀ p (S : HI), p < 146 → P p S → P (p + 1) (up ((fX6_carry_b S (S (la p) (lb p))).2) (la p) (lb p) ((fX6_carry_b S (S (la p) (lb p))).1))) (h0 : P 0 (up (up (up I 52 25 66) 52 24 takes) 52 23 0)) : P 146 (fX6_carryAll_b I takes) := by
  have h1 := hs 0 _ (by omega) h0
  have h2 := hs 1 _ (by omega) h1
  have h3 := hs 2 _ (by omega) h2
  unfold fX6_carryAll_b fX6_carryAll_b_c15 fX6_carryAll_b_c27 fX6_carryAll_b_c39 fX6_carryAll_b_c51
  have h4 := fo_inv (fun i S => P (3 + 2 * i) S) (fun (i : Nat) (s : HI) => fX6_carryAll_b_b53 i s) 24 0 _ h3 (fun i S _ hi h => by
    have a1 := hs (3 + 2 * i) S (by omega) h
    rw [la53 (by omega), lb53 (by omega)] at a1
    have a2 := hs (3 + 2 * i + 1) _ (by omega) a1
    rw [la54 (by omega), lb54 (by omega)] at a2
    exact a2)
  unfold fX6_carryAll_b_x53
  have h5 := fo_inv (fun i S => P (51 + i) S) (fun (i : Nat) (s : HI) => fX6_carryAll_b_b99 i s) 5 0 _ h4 (fun i S _ hi h => by
    have a1 := hs (51 + i) S (by omega) h
    rw [la55 (by omega), lb55 (by omega)] at a1
    exact a1)
  unfold fX6_carryAll_b_x99
  have h6 := fo_inv (fun i S => P (56 + 3 * i) S) (fun (i : Nat) (s : HI) => fX6_carryAll_b_b128 i s) 6 0 _ h5 (fun i S _ hi h => by
    have a1 := hs (56 + 3 * i) S (by omega) h
    rw [la56 (by omega), lb56 (by omega)] at a1
    have a2 := hs (56 + 3 * i + 1) _ (by omega) a1
    rw [la57 (by omega), lb57 (by omega)] at a2
    have a3 := hs (56 + 3 * i + 2) _ (by omega) a2
    rw [la58 (by omega), lb58 (by omega)] at a3
    exact a3)
  unfold fX6_carryAll_b_x128
  have h7 := fo_inv (fun i S => P (74 + i) S) (fun (i : Nat) (s : HI) => fX6_carryAll_b_b190 i s) 72 0 _ h6 (fun i S _ hi h => by
    have a1 := hs (74 + i) S (by omega) h
    rw [la59 (by omega), lb59 (by omega)] at a1
    exact a1)
  unfold fX6_carryAll_b_x190
  exact h7
theorem carryAll_takes_b (I : HI) : (∀ q, q < 146 → fX6_carryAll_b I 1 66 q = I (la q) (lb q)) ∧ ∀ a b, a ≠ 66 → ¬ (a = 52 ∧ 23 ≤ b ∧ b ≤ 25) → fX6_carryAll_b I 1 a b = I a b := by
  have h := carryAll_ind_b (I := I) (takes := 1) (fun p S => S 52 24 = 1 ∧ S 52 23 = nI p ∧ (∀ q, q < p → S 66 q = I (la q) (lb q)) ∧ ∀ a b, a ≠ 66 → ¬ (a = 52 ∧ 23 ≤ b ∧ b ≤ 25) → S a b = I a b) (by
    intro p S hp hP
    obtain ⟨p1, p2, p3, p4⟩ := hP
    obtain ⟨c1, c2⟩ := carry_get_b (v := S (la p) (lb p)) p2 hp
    have n1 : ¬ S 52 24 = 0 := by rw [p1]; decide
    rw [c1, if_neg n1]
    have l := la_ok hp
    refine ⟨?_, ?_, ?_, ?_⟩
    · rw [up_o (by omega), c2, if_neg (by omega), if_neg (by omega), p1]
    · rw [up_o (by omega), c2, if_pos ⟨rfl, rfl⟩]
    · intro q hq
      rw [up_o (by omega), c2, if_neg (by omega)]
      by_cases e : q = p
      · rw [if_pos ⟨rfl, e, n1⟩, e]; exact p4 _ _ (by omega) (by omega)
      · rw [if_neg (fun h => e h.2.1)]; exact p3 q (by omega)
    · intro a b h1 h2
      by_cases d : a = la p ∧ b = lb p
      · rw [d.1, d.2, up_v]; exact p4 _ _ (by omega) (by omega)
      · rw [up_o d, c2, if_neg (by omega), if_neg (by omega)]; exact p4 a b h1 h2) (by
    refine ⟨?_, ?_, ?_, ?_⟩
    · rw [up_k (by omega), up_v]
    · rw [up_v]; rfl
    · intro q hq; exact absurd hq (Nat.not_lt_zero q)
    · intro a b h1 h2; rw [up_o (by omega), up_o (by omega), up_o (by omega)])
  exact ⟨h.2.2.1, h.2.2.2⟩
theorem carryAll_gives_b (I : HI) : (∀ q, q < 146 → fX6_carryAll_b I 0 (la q) (lb q) = I 66 q) ∧ ∀ a b, (∀ q, q < 146 → ¬ (a = la q ∧ b = lb q)) → ¬ (a = 52 ∧ 23 ≤ b ∧ b ≤ 25) → fX6_carryAll_b I 0 a b = I a b := by
  have h := carryAll_ind_b (I := I) (takes := 0) (fun p S => S 52 24 = 0 ∧ S 52 23 = nI p ∧ (∀ q, S 66 q = I 66 q) ∧ (∀ q, q < p → S (la q) (lb q) = I 66 q) ∧ ∀ a b, (∀ q, q < 146 → ¬ (a = la q ∧ b = lb q)) → ¬ (a = 52 ∧ 23 ≤ b ∧ b ≤ 25) → S a b = I a b) (by
    intro p S hp hP
    obtain ⟨p1, p2, p3, p4, p5⟩ := hP
    obtain ⟨c1, c2⟩ := carry_get_b (v := S (la p) (lb p)) p2 hp
    rw [c1, if_pos p1]
    have l := la_ok hp
    refine ⟨?_, ?_, ?_, ?_, ?_⟩
    · rw [up_o (by omega), c2, if_neg (by omega), if_neg (by omega), p1]
    · rw [up_o (by omega), c2, if_pos ⟨rfl, rfl⟩]
    · intro q
      rw [up_o (by omega), c2, if_neg (by omega), if_neg (fun h => h.2.2 p1)]; exact p3 q
    · intro q hq
      by_cases e : q = p
      · rw [e, up_v]; exact p3 p
      · have l2 := la_ok (p := q) (by omega)
        rw [up_o (fun h => e (la_inj (by omega) hp h.1 h.2)), c2, if_neg (by omega), if_neg (fun h => h.2.2 p1)]; exact p4 q (by omega)
    · intro a b h1 h2
      rw [up_o (h1 p hp), c2, if_neg (by omega), if_neg (fun h => h.2.2 p1)]; exact p5 a b h1 h2) (by
    refine ⟨?_, ?_, ?_, ?_, ?_⟩
    · rw [up_k (by omega), up_v]
    · rw [up_v]; rfl
    · intro q; rw [up_ne2 (by omega), up_ne2 (by omega), up_ne2 (by omega)]
    · intro q hq; exact absurd hq (Nat.not_lt_zero q)
    · intro a b h1 h2; rw [up_o (by omega), up_o (by omega), up_o (by omega)])
  exact ⟨h.2.2.2.1, h.2.2.2.2⟩

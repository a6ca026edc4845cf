noncomputable def fX6_in (a0 : Int64) (a1 : Int64) (a2 : Int64) : Int32 :=
  if lg_cmp a0 a1 < 0 then 0 else (if 0 < lg_cmp a0 a2 then 0 else 1)
theorem zX6_in (a0 : Int64) (a1 : Int64) (a2 : Int64) : (fX6_in a0 a1 a2) = 0 ∨ (fX6_in a0 a1 a2) = 1 := by
  unfold fX6_in
  repeat' (first | (split) | exact Or.inl rfl | exact Or.inr rfl)
theorem knX6_in : Kn yX6_in cX6_in 6 (some .boolean) 3 := ⟨q794, q8, ⟨by decide, by decide⟩, by decide +kernel⟩
set_option maxHeartbeats 400000 in
set_option maxRecDepth 100000 in
theorem kX6_in (I : HI) (a0 : Int64) (a1 : Int64) (a2 : Int64) : Cx yX6_in cX6_in 6 (some .boolean) 0 0 [vl a0, vl a1, vl a2] I ((some (vi ((fX6_in a0 a1 a2))), I)) := by
  refine Cx.mk (lv := [(0, vl a0), (2, vl a1), (4, vl a2)]) (by decide) (Nat.le_of_ble_eq_true rfl) rfl (fun E ok hr => ?_)
  rw [fX6_in]
  refine g_lload_n (n := 1) ok 0 dX6_in_0 rfl rfl rfl ?_
  refine g_lload_n (n := 2) ok 1 dX6_in_1 rfl rfl rfl ?_
  refine g_lcmp (n := 3) ok dX6_in_2 rfl ?_
  refine g_if_lt (n := 6) (tgt := 17) ok dX6_in_3 (by decide) rfl (fun c1 => ?_) (fun c1 => ?_)
  · rw [if_pos c1]
    refine g_iconst (n := 18) (v := 0) ok dX6_in_17 rfl rfl ?_
    exact g_zret (x := 0) ok hr dX6_in_18 (by decide)
  · rw [if_neg c1]
    refine g_lload_n (n := 7) ok 0 dX6_in_6 rfl rfl rfl ?_
    refine g_lload (n := 9) ok 2 dX6_in_7 rfl rfl ?_
    refine g_lcmp (n := 10) ok dX6_in_9 rfl ?_
    refine g_if_gt (n := 13) (tgt := 17) ok dX6_in_10 (by decide) rfl (fun c2 => ?_) (fun c2 => ?_)
    · rw [if_pos c2]
      refine g_iconst (n := 18) (v := 0) ok dX6_in_17 rfl rfl ?_
      exact g_zret (x := 0) ok hr dX6_in_18 (by decide)
    · rw [if_neg c2]
      refine g_iconst (n := 14) (v := 1) ok dX6_in_13 rfl rfl ?_
      refine g_goto (tgt := 18) ok dX6_in_14 (by decide) ?_
      exact g_zret (x := 1) ok hr dX6_in_18 (by decide)
theorem in6_lg {x y : Int64} : (lg_cmp x y < 0 ↔ x < y) ∧ (0 < lg_cmp x y ↔ y < x) := by
  unfold lg_cmp
  split
  · rename_i h
    exact ⟨⟨fun q => absurd q (by decide), fun q => absurd (Int64.lt_trans h q) (Int64.lt_irrefl)⟩, ⟨fun _ => h, fun _ => by decide⟩⟩
  · rename_i h
    split
    · rename_i h2
      subst h2
      exact ⟨⟨fun q => absurd q (by decide), fun q => absurd q h⟩, ⟨fun q => absurd q (by decide), fun q => absurd q h⟩⟩
    · rename_i h2
      exact ⟨⟨fun _ => Int64.lt_of_le_of_ne (Int64.not_lt.mp h) h2, fun _ => by decide⟩, ⟨fun q => absurd q (by decide), fun q => absurd q h⟩⟩
theorem in6_both {v lo hi : Int64} (h : ¬ fX6_in v lo hi = 0) : lo ≤ v ∧ v ≤ hi := by
  unfold fX6_in at h
  split at h
  · exact absurd rfl h
  · rename_i c
    split at h
    · exact absurd rfl h
    · rename_i c2
      exact ⟨Int64.not_lt.mp (fun q => c (in6_lg.1.mpr q)), Int64.not_lt.mp (fun q => c2 (in6_lg.2.mpr q))⟩
theorem toI64 (n : Nat) (h : n < 2 ^ 31) : (nI n).toInt64 = Int64.ofNat n := nI_l h
theorem le64 {a b : Int32} : a.toInt64 ≤ b.toInt64 ↔ a ≤ b := by
  rw [Int64.le_iff_toInt_le, Int32.le_iff_toInt_le, Int32.toInt_toInt64, Int32.toInt_toInt64]
theorem in6_in {x : Int32} {b : Nat} (h : ¬ fX6_in x.toInt64 0 (lN b) = 0) (hb : b < 2 ^ 30) : vp_in x (b + 1) := by
  obtain ⟨h1, h2⟩ := in6_both h
  refine vp_of (a := b) (le64.mp ?_) (le64.mp ?_) (by omega) (by omega)
  · exact h1
  · rw [nI_l (by omega)]; exact h2

noncomputable def fX6_refuse (I : HI) (number : Int32) : Int32 × HI :=
  (number, (up I 60 (ix (-number)) ((I 60 (ix (-number))) + 1)))
theorem knX6_refuse : Kn yX6_refuse cX6_refuse 2 (some .int) 1 := ⟨q773, q8, ⟨by decide, by decide⟩, by decide +kernel⟩
set_option maxHeartbeats 400000 in
set_option maxRecDepth 100000 in
theorem kX6_refuse (I : HI) (number : Int32) (hn : vp_in (-number) 7) : Cx yX6_refuse cX6_refuse 2 (some .int) 0 0 [vr 52, vi number] I ((some (vi (((fX6_refuse I number).1))), (fX6_refuse I number).2)) := by
  refine Cx.mk (lv := [(0, vr 52), (1, vi number)]) (by decide) (Nat.le_of_ble_eq_true rfl) rfl (fun E ok hr => ?_)
  have hn1 := vb hn
  rw [fX6_refuse]
  refine g_aload_n (n := 1) ok 0 dX6_refuse_0 rfl rfl rfl ?_
  refine g_get (n := 4) (v := vr 60) (c := 6) (k := 11) ok dX6_refuse_1 clsX6 (by decide) q689 rfl rfl rfl ?_
  refine g_iload_n (n := 5) ok 1 dX6_refuse_4 rfl rfl rfl ?_
  refine g_ineg (n := 6) ok dX6_refuse_5 rfl ?_
  refine g_dup2 (n := 7) ok dX6_refuse_6 rfl rfl rfl ?_
  refine g_iald (n := 8) (i := ix (-number)) (L := 7) ok dX6_refuse_7 rfl rfl (vx hn) (by omega) rfl ?_
  refine g_iconst (n := 9) (v := 1) ok dX6_refuse_8 rfl rfl ?_
  refine g_iadd (n := 10) ok dX6_refuse_9 rfl ?_
  refine g_iast (n := 11) (i := ix (-number)) (L := 7) ok dX6_refuse_10 rfl rfl (vx hn) (by omega) rfl ?_
  refine g_iload_n (n := 12) ok 1 dX6_refuse_11 rfl rfl rfl ?_
  exact g_iret ok hr dX6_refuse_12

noncomputable def fX6_isFoot (a0 : Int32) : Int32 :=
  fX6_in a0.toInt64 0 1
theorem zX6_isFoot (a0 : Int32) : (fX6_isFoot a0) = 0 ∨ (fX6_isFoot a0) = 1 := by
  unfold fX6_isFoot
  repeat' (first | (split) | exact Or.inl rfl | exact Or.inr rfl | exact zX6_in ..)
theorem knX6_isFoot : Kn yX6_isFoot cX6_isFoot 1 (some .boolean) 1 := ⟨q836, q8, ⟨by decide, by decide⟩, by decide +kernel⟩
set_option maxHeartbeats 400000 in
set_option maxRecDepth 100000 in
theorem kX6_isFoot (I : HI) (a0 : Int32) : Cx yX6_isFoot cX6_isFoot 1 (some .boolean) 1 25 [vi a0] I ((some (vi ((fX6_isFoot a0))), I)) := by
  refine Cx.mk (lv := [(0, vi a0)]) (by decide) (Nat.le_of_ble_eq_true rfl) rfl (fun E ok hr => ?_)
  rw [fX6_isFoot]
  refine g_iload_n (n := 1) ok 0 dX6_isFoot_0 rfl rfl rfl ?_
  refine g_i2l (n := 2) ok dX6_isFoot_1 rfl ?_
  refine g_lconst (n := 3) (v := 0) ok dX6_isFoot_2 rfl rfl ?_
  refine g_lconst (n := 4) (v := 1) ok dX6_isFoot_3 rfl rfl ?_
  refine g_callS (n := 7) (rest := []) (av := [vl a0.toInt64, vl 0, vl 1]) ok (kX6_in I a0.toInt64 0 1) knX6_in q792 q793 dX6_isFoot_4 rfl rfl (Nat.le_of_ble_eq_true rfl) (by decide) (by decide) rfl ?_
  exact g_zret (x := fX6_in a0.toInt64 0 1) ok hr dX6_isFoot_7 (by first | exact zX6_in .. | exact zX6_in)
theorem isFoot6_in {x : Int32} (h : ¬ fX6_isFoot x = 0) : vp_in x 2 := in6_in (b := 1) h (by omega)

noncomputable def fX6_isHour (a0 : Int32) : Int32 :=
  fX6_in a0.toInt64 0 11
theorem zX6_isHour (a0 : Int32) : (fX6_isHour a0) = 0 ∨ (fX6_isHour a0) = 1 := by
  unfold fX6_isHour
  repeat' (first | (split) | exact Or.inl rfl | exact Or.inr rfl | exact zX6_in ..)
theorem knX6_isHour : Kn yX6_isHour cX6_isHour 1 (some .boolean) 1 := ⟨q839, q8, ⟨by decide, by decide⟩, by decide +kernel⟩
set_option maxHeartbeats 400000 in
set_option maxRecDepth 100000 in
theorem kX6_isHour (I : HI) (a0 : Int32) : Cx yX6_isHour cX6_isHour 1 (some .boolean) 1 25 [vi a0] I ((some (vi ((fX6_isHour a0))), I)) := by
  refine Cx.mk (lv := [(0, vi a0)]) (by decide) (Nat.le_of_ble_eq_true rfl) rfl (fun E ok hr => ?_)
  rw [fX6_isHour]
  refine g_iload_n (n := 1) ok 0 dX6_isHour_0 rfl rfl rfl ?_
  refine g_i2l (n := 2) ok dX6_isHour_1 rfl ?_
  refine g_lconst (n := 3) (v := 0) ok dX6_isHour_2 rfl rfl ?_
  refine g_ldc2_w (n := 6) ok dX6_isHour_3 q840 rfl ?_
  refine g_callS (n := 9) (rest := []) (av := [vl a0.toInt64, vl 0, vl 11]) ok (kX6_in I a0.toInt64 0 11) knX6_in q792 q793 dX6_isHour_6 rfl rfl (Nat.le_of_ble_eq_true rfl) (by decide) (by decide) rfl ?_
  exact g_zret (x := fX6_in a0.toInt64 0 11) ok hr dX6_isHour_9 (by first | exact zX6_in .. | exact zX6_in)
theorem isHour6_in {x : Int32} (h : ¬ fX6_isHour x = 0) : vp_in x 12 := in6_in (b := 11) h (by omega)

noncomputable def fX6_isTrace (I : HI) (a0 : Int32) : Int32 :=
  fX6_in a0.toInt64 0 (((I 52 5) - 1).toInt64)
theorem zX6_isTrace (I : HI) (a0 : Int32) : (fX6_isTrace I a0) = 0 ∨ (fX6_isTrace I a0) = 1 := by
  unfold fX6_isTrace
  repeat' (first | (split) | exact Or.inl rfl | exact Or.inr rfl | exact zX6_in ..)
theorem knX6_isTrace : Kn yX6_isTrace cX6_isTrace 2 (some .boolean) 1 := ⟨q922, q8, ⟨by decide, by decide⟩, by decide +kernel⟩
set_option maxHeartbeats 400000 in
set_option maxRecDepth 100000 in
theorem kX6_isTrace (I : HI) (a0 : Int32) : Cx yX6_isTrace cX6_isTrace 2 (some .boolean) 1 25 [vr 52, vi a0] I ((some (vi ((fX6_isTrace I a0))), I)) := by
  refine Cx.mk (lv := [(0, vr 52), (1, vi a0)]) (by decide) (Nat.le_of_ble_eq_true rfl) rfl (fun E ok hr => ?_)
  rw [fX6_isTrace]
  refine g_iload_n (n := 1) ok 1 dX6_isTrace_0 rfl rfl rfl ?_
  refine g_i2l (n := 2) ok dX6_isTrace_1 rfl ?_
  refine g_lconst (n := 3) (v := 0) ok dX6_isTrace_2 rfl rfl ?_
  refine g_aload_n (n := 4) ok 0 dX6_isTrace_3 rfl rfl rfl ?_
  refine g_get (n := 7) (v := vi (I 52 5)) (c := 6) (k := 5) ok dX6_isTrace_4 clsX6 (by decide) q683 rfl rfl rfl ?_
  refine g_iconst (n := 8) (v := 1) ok dX6_isTrace_7 rfl rfl ?_
  refine g_isub (n := 9) ok dX6_isTrace_8 rfl ?_
  refine g_i2l (n := 10) ok dX6_isTrace_9 rfl ?_
  refine g_callS (n := 13) (rest := []) (av := [vl a0.toInt64, vl 0, vl (((I 52 5) - 1).toInt64)]) ok (kX6_in I a0.toInt64 0 (((I 52 5) - 1).toInt64)) knX6_in q792 q793 dX6_isTrace_10 rfl rfl (Nat.le_of_ble_eq_true rfl) (by decide) (by decide) rfl ?_
  exact g_zret (x := fX6_in a0.toInt64 0 (((I 52 5) - 1).toInt64)) ok hr dX6_isTrace_13 (by first | exact zX6_in .. | exact zX6_in)
theorem isTrace6_lt {I : HI} {t : Int32} (hd : vp_in (I 52 5) 7) (h : ¬ fX6_isTrace I t = 0) : vp_in t 6 ∧ ix t < ix (I 52 5) := by
  have hb := vb hd
  have e := vx hd
  unfold fX6_isTrace at h
  obtain ⟨h1, h2⟩ := in6_both h
  have h1 : (0 : Int32) ≤ t := le64.mp h1
  have h2 := le64.mp h2
  obtain ⟨j, hj, rfl⟩ := nI_of (fun q => absurd (Int32.lt_of_lt_of_le q h1) (Int32.lt_irrefl))
  rcases Nat.eq_zero_or_pos (ix (I 52 5)) with z | z
  · rw [e, z] at h2
    exact absurd (Int32.le_trans h1 h2) (by decide +kernel)
  · rw [e, show nI (ix (I 52 5)) - 1 = nI (ix (I 52 5) - 1) from nv_isub (a := ix (I 52 5)) (b := 1) rfl rfl (by omega)] at h2
    have h3 : j ≤ ix (I 52 5) - 1 := (nI_leI hj (by omega)).mp h2
    have h4 : ix (nI j) = j := nI_clamp hj
    exact ⟨vp_in_nI (by omega) (by omega), by rw [h4]; omega⟩
theorem isTrace6_in {I : HI} {t : Int32} (hd : vp_in (I 52 5) 7) (h : ¬ fX6_isTrace I t = 0) : vp_in t 6 := (isTrace6_lt hd h).1

noncomputable def fX6_wrongNumber (a0 : Int32) (a1 : Int32) (a2 : Int32) : Int32 :=
  if a1 ≤ a0 then (if a0 ≤ a2 then 0 else (-6)) else (-4)
theorem knX6_wrongNumber : Kn yX6_wrongNumber cX6_wrongNumber 3 (some .int) 3 := ⟨q897, q8, ⟨by decide, by decide⟩, by decide +kernel⟩
set_option maxHeartbeats 400000 in
set_option maxRecDepth 100000 in
theorem kX6_wrongNumber (I : HI) (a0 : Int32) (a1 : Int32) (a2 : Int32) : Cx yX6_wrongNumber cX6_wrongNumber 3 (some .int) 0 0 [vi a0, vi a1, vi a2] I ((some (vi ((fX6_wrongNumber a0 a1 a2))), I)) := by
  refine Cx.mk (lv := [(0, vi a0), (1, vi a1), (2, vi a2)]) (by decide) (Nat.le_of_ble_eq_true rfl) rfl (fun E ok hr => ?_)
  rw [fX6_wrongNumber]
  refine g_iload_n (n := 1) ok 0 dX6_wrongNumber_0 rfl rfl rfl ?_
  refine g_iload_n (n := 2) ok 1 dX6_wrongNumber_1 rfl rfl rfl ?_
  refine g_icmp_ge (n := 5) (tgt := 10) ok dX6_wrongNumber_2 (by decide) rfl (fun c1 => ?_) (fun c1 => ?_)
  · rw [if_pos c1]
    refine g_iload_n (n := 11) ok 0 dX6_wrongNumber_10 rfl rfl rfl ?_
    refine g_iload_n (n := 12) ok 2 dX6_wrongNumber_11 rfl rfl rfl ?_
    refine g_icmp_le (n := 15) (tgt := 20) ok dX6_wrongNumber_12 (by decide) rfl (fun c2 => ?_) (fun c2 => ?_)
    · rw [if_pos c2]
      refine g_iconst (n := 21) (v := 0) ok dX6_wrongNumber_20 rfl rfl ?_
      exact g_iret ok hr dX6_wrongNumber_21
    · rw [if_neg c2]
      refine g_bipush (n := 17) (v := -6) ok dX6_wrongNumber_15 rfl rfl ?_
      refine g_goto (tgt := 21) ok dX6_wrongNumber_17 (by decide) ?_
      exact g_iret ok hr dX6_wrongNumber_21
  · rw [if_neg c1]
    refine g_bipush (n := 7) (v := -4) ok dX6_wrongNumber_5 rfl rfl ?_
    refine g_goto (tgt := 21) ok dX6_wrongNumber_7 (by decide) ?_
    exact g_iret ok hr dX6_wrongNumber_21
theorem wrongNumber_in {x a b : Int32} : vp_in (-(fX6_wrongNumber x a b)) 7 := by
  unfold fX6_wrongNumber
  split
  · split <;> exact vp_b (by decide +kernel)
  · exact vp_b (by decide +kernel)
theorem wz0 {x : Int32} (h : x = 0) : 0 ≤ x := by rw [h]; decide
theorem wrongNumber_neg {x a b : Int32} (h : ¬ fX6_wrongNumber x a b = 0) : ¬ 0 ≤ fX6_wrongNumber x a b := by
  unfold fX6_wrongNumber at *
  repeat' split at h
  all_goals first | exact absurd rfl h | skip
  all_goals (repeat' split) <;> first | decide | contradiction
theorem wrongNumber_in10 {x k : Int32} {b : Nat} (h : 0 ≤ fX6_wrongNumber x k (nI b)) (hk : 0 ≤ k) (hb : b < 2 ^ 30) : vp_in x (b + 1) := by
  unfold fX6_wrongNumber at h
  split at h
  · rename_i c
    split at h
    · rename_i c2
      exact vp_of (a := b) (Int32.le_trans hk c) c2 (by omega) (by omega)
    · exact absurd h (by decide)
  · exact absurd h (by decide)
theorem wrongNumber_in11 {x k : Int32} {b : Nat} (h : ¬ fX6_wrongNumber x k (nI b) < 0) (hk : 0 ≤ k) (hb : b < 2 ^ 30) : vp_in x (b + 1) := wrongNumber_in10 (Int32.not_lt.mp h) hk hb

noncomputable def fX6_wrongTwo (a0 : Int32) (a1 : Int32) : Int32 :=
  if a0 < 1 then (-4) else (if 1 ≤ a1 then (if 9 < a0 then (-6) else (if a1 ≤ 9 then 0 else (-6))) else (-4))
theorem knX6_wrongTwo : Kn yX6_wrongTwo cX6_wrongTwo 2 (some .int) 2 := ⟨q847, q8, ⟨by decide, by decide⟩, by decide +kernel⟩
set_option maxHeartbeats 400000 in
set_option maxRecDepth 100000 in
theorem kX6_wrongTwo (I : HI) (a0 : Int32) (a1 : Int32) : Cx yX6_wrongTwo cX6_wrongTwo 2 (some .int) 0 0 [vi a0, vi a1] I ((some (vi ((fX6_wrongTwo a0 a1))), I)) := by
  refine Cx.mk (lv := [(0, vi a0), (1, vi a1)]) (by decide) (Nat.le_of_ble_eq_true rfl) rfl (fun E ok hr => ?_)
  rw [fX6_wrongTwo]
  refine g_iload_n (n := 1) ok 0 dX6_wrongTwo_0 rfl rfl rfl ?_
  refine g_iconst (n := 2) (v := 1) ok dX6_wrongTwo_1 rfl rfl ?_
  refine g_icmp_lt (n := 5) (tgt := 10) ok dX6_wrongTwo_2 (by decide) rfl (fun c1 => ?_) (fun c1 => ?_)
  · rw [if_pos c1]
    refine g_bipush (n := 12) (v := -4) ok dX6_wrongTwo_10 rfl rfl ?_
    refine g_goto (tgt := 33) ok dX6_wrongTwo_12 (by decide) ?_
    exact g_iret ok hr dX6_wrongTwo_33
  · rw [if_neg c1]
    refine g_iload_n (n := 6) ok 1 dX6_wrongTwo_5 rfl rfl rfl ?_
    refine g_iconst (n := 7) (v := 1) ok dX6_wrongTwo_6 rfl rfl ?_
    refine g_icmp_ge (n := 10) (tgt := 15) ok dX6_wrongTwo_7 (by decide) rfl (fun c2 => ?_) (fun c2 => ?_)
    · rw [if_pos c2]
      refine g_iload_n (n := 16) ok 0 dX6_wrongTwo_15 rfl rfl rfl ?_
      refine g_bipush (n := 18) (v := 9) ok dX6_wrongTwo_16 rfl rfl ?_
      refine g_icmp_gt (n := 21) (tgt := 27) ok dX6_wrongTwo_18 (by decide) rfl (fun c3 => ?_) (fun c3 => ?_)
      · rw [if_pos c3]
        refine g_bipush (n := 29) (v := -6) ok dX6_wrongTwo_27 rfl rfl ?_
        refine g_goto (tgt := 33) ok dX6_wrongTwo_29 (by decide) ?_
        exact g_iret ok hr dX6_wrongTwo_33
      · rw [if_neg c3]
        refine g_iload_n (n := 22) ok 1 dX6_wrongTwo_21 rfl rfl rfl ?_
        refine g_bipush (n := 24) (v := 9) ok dX6_wrongTwo_22 rfl rfl ?_
        refine g_icmp_le (n := 27) (tgt := 32) ok dX6_wrongTwo_24 (by decide) rfl (fun c4 => ?_) (fun c4 => ?_)
        · rw [if_pos c4]
          refine g_iconst (n := 33) (v := 0) ok dX6_wrongTwo_32 rfl rfl ?_
          exact g_iret ok hr dX6_wrongTwo_33
        · rw [if_neg c4]
          refine g_bipush (n := 29) (v := -6) ok dX6_wrongTwo_27 rfl rfl ?_
          refine g_goto (tgt := 33) ok dX6_wrongTwo_29 (by decide) ?_
          exact g_iret ok hr dX6_wrongTwo_33
    · rw [if_neg c2]
      refine g_bipush (n := 12) (v := -4) ok dX6_wrongTwo_10 rfl rfl ?_
      refine g_goto (tgt := 33) ok dX6_wrongTwo_12 (by decide) ?_
      exact g_iret ok hr dX6_wrongTwo_33
theorem wrongTwo_in {x y : Int32} : vp_in (-(fX6_wrongTwo x y)) 7 := by
  unfold fX6_wrongTwo
  repeat' split
  all_goals exact vp_b (by decide +kernel)
theorem wrongTwo_neg {x y : Int32} (h : ¬ fX6_wrongTwo x y = 0) : ¬ 0 ≤ fX6_wrongTwo x y := by
  unfold fX6_wrongTwo at *
  repeat' split at h
  all_goals first | exact absurd rfl h | skip
  all_goals (repeat' split) <;> first | decide | contradiction
theorem wrongTwo_ne {x y : Int32} (h : 0 ≤ fX6_wrongTwo x y) : ¬ y = 0 := by
  intro e
  subst e
  unfold fX6_wrongTwo at h
  repeat' split at h
  all_goals first | exact absurd h (by decide) | (rename_i c; exact absurd c (by decide)) | (rename_i c _; exact absurd c (by decide)) | (rename_i c _ _; exact absurd c (by decide)) | (rename_i c _ _ _; exact absurd c (by decide))
theorem wrongTwo_ne2 {x y : Int32} (h : ¬ fX6_wrongTwo x y < 0) : ¬ y = 0 := wrongTwo_ne (Int32.not_lt.mp h)

noncomputable def fX6_wrongGrowth (a0 : Int32) (a1 : Int32) (a2 : Int32) : Int32 :=
  if a0 < 1 then (-4) else (if a1 < 1 then (-4) else (if 2 ≤ a2 then (if 9 < a0 then (-6) else (if 9 < a1 then (-6) else (if a2 ≤ 9 then 0 else (-6)))) else (-4)))
theorem knX6_wrongGrowth : Kn yX6_wrongGrowth cX6_wrongGrowth 3 (some .int) 3 := ⟨q993, q8, ⟨by decide, by decide⟩, by decide +kernel⟩
set_option maxHeartbeats 400000 in
set_option maxRecDepth 100000 in
theorem kX6_wrongGrowth (I : HI) (a0 : Int32) (a1 : Int32) (a2 : Int32) : Cx yX6_wrongGrowth cX6_wrongGrowth 3 (some .int) 0 0 [vi a0, vi a1, vi a2] I ((some (vi ((fX6_wrongGrowth a0 a1 a2))), I)) := by
  refine Cx.mk (lv := [(0, vi a0), (1, vi a1), (2, vi a2)]) (by decide) (Nat.le_of_ble_eq_true rfl) rfl (fun E ok hr => ?_)
  rw [fX6_wrongGrowth]
  refine g_iload_n (n := 1) ok 0 dX6_wrongGrowth_0 rfl rfl rfl ?_
  refine g_iconst (n := 2) (v := 1) ok dX6_wrongGrowth_1 rfl rfl ?_
  refine g_icmp_lt (n := 5) (tgt := 15) ok dX6_wrongGrowth_2 (by decide) rfl (fun c1 => ?_) (fun c1 => ?_)
  · rw [if_pos c1]
    refine g_bipush (n := 17) (v := -4) ok dX6_wrongGrowth_15 rfl rfl ?_
    refine g_goto (tgt := 44) ok dX6_wrongGrowth_17 (by decide) ?_
    exact g_iret ok hr dX6_wrongGrowth_44
  · rw [if_neg c1]
    refine g_iload_n (n := 6) ok 1 dX6_wrongGrowth_5 rfl rfl rfl ?_
    refine g_iconst (n := 7) (v := 1) ok dX6_wrongGrowth_6 rfl rfl ?_
    refine g_icmp_lt (n := 10) (tgt := 15) ok dX6_wrongGrowth_7 (by decide) rfl (fun c2 => ?_) (fun c2 => ?_)
    · rw [if_pos c2]
      refine g_bipush (n := 17) (v := -4) ok dX6_wrongGrowth_15 rfl rfl ?_
      refine g_goto (tgt := 44) ok dX6_wrongGrowth_17 (by decide) ?_
      exact g_iret ok hr dX6_wrongGrowth_44
    · rw [if_neg c2]
      refine g_iload_n (n := 11) ok 2 dX6_wrongGrowth_10 rfl rfl rfl ?_
      refine g_iconst (n := 12) (v := 2) ok dX6_wrongGrowth_11 rfl rfl ?_
      refine g_icmp_ge (n := 15) (tgt := 20) ok dX6_wrongGrowth_12 (by decide) rfl (fun c3 => ?_) (fun c3 => ?_)
      · rw [if_pos c3]
        refine g_iload_n (n := 21) ok 0 dX6_wrongGrowth_20 rfl rfl rfl ?_
        refine g_bipush (n := 23) (v := 9) ok dX6_wrongGrowth_21 rfl rfl ?_
        refine g_icmp_gt (n := 26) (tgt := 38) ok dX6_wrongGrowth_23 (by decide) rfl (fun c4 => ?_) (fun c4 => ?_)
        · rw [if_pos c4]
          refine g_bipush (n := 40) (v := -6) ok dX6_wrongGrowth_38 rfl rfl ?_
          refine g_goto (tgt := 44) ok dX6_wrongGrowth_40 (by decide) ?_
          exact g_iret ok hr dX6_wrongGrowth_44
        · rw [if_neg c4]
          refine g_iload_n (n := 27) ok 1 dX6_wrongGrowth_26 rfl rfl rfl ?_
          refine g_bipush (n := 29) (v := 9) ok dX6_wrongGrowth_27 rfl rfl ?_
          refine g_icmp_gt (n := 32) (tgt := 38) ok dX6_wrongGrowth_29 (by decide) rfl (fun c5 => ?_) (fun c5 => ?_)
          · rw [if_pos c5]
            refine g_bipush (n := 40) (v := -6) ok dX6_wrongGrowth_38 rfl rfl ?_
            refine g_goto (tgt := 44) ok dX6_wrongGrowth_40 (by decide) ?_
            exact g_iret ok hr dX6_wrongGrowth_44
          · rw [if_neg c5]
            refine g_iload_n (n := 33) ok 2 dX6_wrongGrowth_32 rfl rfl rfl ?_
            refine g_bipush (n := 35) (v := 9) ok dX6_wrongGrowth_33 rfl rfl ?_
            refine g_icmp_le (n := 38) (tgt := 43) ok dX6_wrongGrowth_35 (by decide) rfl (fun c6 => ?_) (fun c6 => ?_)
            · rw [if_pos c6]
              refine g_iconst (n := 44) (v := 0) ok dX6_wrongGrowth_43 rfl rfl ?_
              exact g_iret ok hr dX6_wrongGrowth_44
            · rw [if_neg c6]
              refine g_bipush (n := 40) (v := -6) ok dX6_wrongGrowth_38 rfl rfl ?_
              refine g_goto (tgt := 44) ok dX6_wrongGrowth_40 (by decide) ?_
              exact g_iret ok hr dX6_wrongGrowth_44
      · rw [if_neg c3]
        refine g_bipush (n := 17) (v := -4) ok dX6_wrongGrowth_15 rfl rfl ?_
        refine g_goto (tgt := 44) ok dX6_wrongGrowth_17 (by decide) ?_
        exact g_iret ok hr dX6_wrongGrowth_44
theorem wrongGrowth_in {x y z : Int32} : vp_in (-(fX6_wrongGrowth x y z)) 7 := by
  unfold fX6_wrongGrowth
  repeat' split
  all_goals exact vp_b (by decide +kernel)

noncomputable def fX6_plainly (a0 : Int32) : Int32 :=
  if 0 ≤ a0 then a0 else -a0
theorem knX6_plainly : Kn yX6_plainly cX6_plainly 1 (some .int) 1 := ⟨q938, q8, ⟨by decide, by decide⟩, by decide +kernel⟩
set_option maxHeartbeats 400000 in
set_option maxRecDepth 100000 in
theorem kX6_plainly (I : HI) (a0 : Int32) : Cx yX6_plainly cX6_plainly 1 (some .int) 0 0 [vi a0] I ((some (vi ((fX6_plainly a0))), I)) := by
  refine Cx.mk (lv := [(0, vi a0)]) (by decide) (Nat.le_of_ble_eq_true rfl) rfl (fun E ok hr => ?_)
  rw [fX6_plainly]
  refine g_iload_n (n := 1) ok 0 dX6_plainly_0 rfl rfl rfl ?_
  refine g_if_ge (n := 4) (tgt := 9) ok dX6_plainly_1 (by decide) rfl (fun c1 => ?_) (fun c1 => ?_)
  · rw [if_pos c1]
    refine g_iload_n (n := 10) ok 0 dX6_plainly_9 rfl rfl rfl ?_
    exact g_iret ok hr dX6_plainly_10
  · rw [if_neg c1]
    refine g_iload_n (n := 5) ok 0 dX6_plainly_4 rfl rfl rfl ?_
    refine g_ineg (n := 6) ok dX6_plainly_5 rfl ?_
    refine g_goto (tgt := 10) ok dX6_plainly_6 (by decide) ?_
    exact g_iret ok hr dX6_plainly_10

noncomputable def fX6_held (a0 : Int32) (a1 : Int32) : Int32 :=
  if 0 ≤ a0 then (if a0 ≤ a1 then a0 else a1) else 0
theorem knX6_held : Kn yX6_held cX6_held 2 (some .int) 2 := ⟨q862, q8, ⟨by decide, by decide⟩, by decide +kernel⟩
set_option maxHeartbeats 400000 in
set_option maxRecDepth 100000 in
theorem kX6_held (I : HI) (a0 : Int32) (a1 : Int32) : Cx yX6_held cX6_held 2 (some .int) 0 0 [vi a0, vi a1] I ((some (vi ((fX6_held a0 a1))), I)) := by
  refine Cx.mk (lv := [(0, vi a0), (1, vi a1)]) (by decide) (Nat.le_of_ble_eq_true rfl) rfl (fun E ok hr => ?_)
  rw [fX6_held]
  refine g_iload_n (n := 1) ok 0 dX6_held_0 rfl rfl rfl ?_
  refine g_if_ge (n := 4) (tgt := 8) ok dX6_held_1 (by decide) rfl (fun c1 => ?_) (fun c1 => ?_)
  · rw [if_pos c1]
    refine g_iload_n (n := 9) ok 0 dX6_held_8 rfl rfl rfl ?_
    refine g_iload_n (n := 10) ok 1 dX6_held_9 rfl rfl rfl ?_
    refine g_icmp_le (n := 13) (tgt := 17) ok dX6_held_10 (by decide) rfl (fun c2 => ?_) (fun c2 => ?_)
    · rw [if_pos c2]
      refine g_iload_n (n := 18) ok 0 dX6_held_17 rfl rfl rfl ?_
      exact g_iret ok hr dX6_held_18
    · rw [if_neg c2]
      refine g_iload_n (n := 14) ok 1 dX6_held_13 rfl rfl rfl ?_
      refine g_goto (tgt := 18) ok dX6_held_14 (by decide) ?_
      exact g_iret ok hr dX6_held_18
  · rw [if_neg c1]
    refine g_iconst (n := 5) (v := 0) ok dX6_held_4 rfl rfl ?_
    refine g_goto (tgt := 18) ok dX6_held_5 (by decide) ?_
    exact g_iret ok hr dX6_held_18

noncomputable def fX6_ones_x4 (x4_2 : Nat) (x4_1 : Int32) : Int32 :=
  x4_1
noncomputable def fX6_ones_b4 (x4_2 : Nat) (x4_1 : Int32) : (Nat × Int32) ⊕ (Nat × Int32) :=
  if nI x4_2 = 0 then Sum.inl (x4_2, x4_1) else Sum.inr (x4_2 &&& (x4_2 - 1), x4_1 + 1)
noncomputable def fX6_ones (bits : Nat) : Int32 :=
  (fun (s : Nat × Int32) => fX6_ones_x4 s.1 s.2) (wh (bits + 1) (fun (s : Nat × Int32) => fX6_ones_b4 s.1 s.2) (bits, 0))
theorem knX6_ones : Kn yX6_ones cX6_ones 3 (some .int) 1 := ⟨q1042, q8, ⟨by decide, by decide⟩, by decide +kernel⟩
set_option maxHeartbeats 400000 in
set_option maxRecDepth 100000 in
theorem kX6_ones (I : HI) (bits : Nat) (hb : bits < 4096) : Cx yX6_ones cX6_ones 3 (some .int) 0 0 [vi (nI bits)] I ((some (vi ((fX6_ones bits))), I)) := by
  refine Cx.mk (lv := [(0, vi (nI bits))]) (by decide) (Nat.le_of_ble_eq_true rfl) rfl (fun E ok hr => ?_)
  rw [fX6_ones]
  refine g_iconst (n := 1) (v := 0) ok dX6_ones_0 rfl rfl ?_
  refine g_istore_n (n := 2) (lv' := [(1, vi 0), (0, vi (nI bits))]) ok dX6_ones_1 rfl (by decide) rfl rfl ?_
  refine g_iload_n (n := 3) ok 1 dX6_ones_2 rfl rfl rfl ?_
  refine g_istore_n (n := 4) (lv' := [(2, vi (nI bits)), (1, vi 0), (0, vi (nI bits))]) ok dX6_ones_3 rfl (by decide) rfl rfl ?_
  have X4 : ∀ (x4_2 : Nat) (x4_1 : Int32) (hx : x4_2 < 4096), G E 3 ((some (vi ((fX6_ones_x4 x4_2 x4_1))), I)) I 20 [(1, vi x4_1)] [] := by
    intro x4_2 x4_1 hx
    rw [fX6_ones_x4]
    refine g_iload_n (n := 21) ok 0 dX6_ones_20 rfl rfl rfl ?_
    exact g_iret ok hr dX6_ones_21
  have L4 : ∀ (n4 : Nat) (x4_2 : Nat) (x4_1 : Int32) (hx : x4_2 < 4096) (hm : x4_2 < n4), G E 3 ((some (vi (((fun (s : Nat × Int32) => fX6_ones_x4 s.1 s.2) (wh n4 (fun (s : Nat × Int32) => fX6_ones_b4 s.1 s.2) (x4_2, x4_1))))), I)) I 4 [(2, vi (nI x4_2)), (1, vi x4_1)] [] := by
    intro n4
    induction n4 with
    | zero =>
      intro x4_2 x4_1 hx hm
      exact absurd hm (Nat.not_lt_zero _)
    | succ n4 ih =>
      intro x4_2 x4_1 hx hm
      rw [wh_s]
      show G E 3 ((some (vi (((fun (s : Nat × Int32) => fX6_ones_x4 s.1 s.2) (Sum.elim id (fun (s : Nat × Int32) => wh n4 (fun (s : Nat × Int32) => fX6_ones_b4 s.1 s.2) s) (fX6_ones_b4 x4_2 x4_1))))), I)) _ _ _ _
      rw [fX6_ones_b4]
      refine g_iload_n (n := 5) ok 0 dX6_ones_4 rfl rfl rfl ?_
      refine g_if_eq (n := 8) (tgt := 20) ok dX6_ones_5 (by decide) rfl (fun c1 => ?_) (fun c1 => ?_)
      · rw [if_pos c1]
        refine g_sub [1] rfl ?_
        exact X4 x4_2 x4_1 hx
      · rw [if_neg c1]
        have hp := pos_of_ne c1
        have hle := Nat.and_le_right (n := x4_2) (m := x4_2 - 1)
        refine g_iinc (n := 11) (v := x4_1 + 1) (lv' := [(1, vi (x4_1 + 1)), (2, vi (nI x4_2))]) ok 1 dX6_ones_8 rfl rfl (by decide) rfl rfl ?_
        refine g_iload_n (n := 12) ok 1 dX6_ones_11 rfl rfl rfl ?_
        refine g_iload_n (n := 13) ok 1 dX6_ones_12 rfl rfl rfl ?_
        refine g_iconst (n := 14) (v := 1) ok dX6_ones_13 rfl rfl ?_
        refine g_isub (n := 15) ok dX6_ones_14 rfl ?_
        refine g_top (nv_isub (a := x4_2) (b := 1) rfl rfl (by omega)) ?_
        refine g_iand (n := 16) ok dX6_ones_15 rfl ?_
        refine g_top (nv_iand (a := x4_2) (b := x4_2 - 1) rfl rfl) ?_
        refine g_istore_n (n := 17) (lv' := [(2, vi (nI (x4_2 &&& (x4_2 - 1)))), (1, vi (x4_1 + 1))]) ok dX6_ones_16 rfl (by decide) rfl rfl ?_
        refine g_goto (tgt := 4) ok dX6_ones_17 (by decide) ?_
        exact ih (x4_2 &&& (x4_2 - 1)) (x4_1 + 1) (by omega) (by omega)
  refine g_sub [0, 1] rfl ?_
  exact L4 (bits + 1) bits 0 (by omega) (by omega)

noncomputable def fX6_paceAt_x9 (x9_4 : Int32) : Int32 :=
  x9_4
noncomputable def fX6_paceAt_b9 (I : HI) (foot : Nat) (i9 : Nat) (x9_4 : Int32) : Int32 :=
  if 0 ≤ x9_4 - (3 * ((I 55 1) + (I 53 ((12 * foot) + i9)))) then x9_4 - (3 * ((I 55 1) + (I 53 ((12 * foot) + i9)))) else 0
noncomputable def fX6_paceAt (I : HI) (foot : Nat) (push : Int32) (h : Nat) : Int32 :=
  fX6_paceAt_x9 (fo ((h + 1) - 1) 1 (fun (i : Nat) (s : Int32) => fX6_paceAt_b9 I foot i s) (60 * push))
theorem knX6_paceAt : Kn yX6_paceAt cX6_paceAt 6 (some .int) 3 := ⟨q859, q8, ⟨by decide, by decide⟩, by decide +kernel⟩
set_option maxHeartbeats 400000 in
set_option maxRecDepth 100000 in
theorem kX6_paceAt (I : HI) (foot : Nat) (push : Int32) (h : Nat) (hf : foot < 2) (hh : h < 12) : Cx yX6_paceAt cX6_paceAt 6 (some .int) 0 0 [vr 52, vi (nI foot), vi push, vi (nI h)] I ((some (vi ((fX6_paceAt I foot push h))), I)) := by
  refine Cx.mk (lv := [(0, vr 52), (1, vi (nI foot)), (2, vi push), (3, vi (nI h))]) (by decide) (Nat.le_of_ble_eq_true rfl) rfl (fun E ok hr => ?_)
  rw [fX6_paceAt]
  refine g_bipush (n := 2) (v := 60) ok dX6_paceAt_0 rfl rfl ?_
  refine g_iload_n (n := 3) ok 2 dX6_paceAt_2 rfl rfl rfl ?_
  refine g_imul (n := 4) ok dX6_paceAt_3 rfl ?_
  refine g_istore (n := 6) (lv' := [(4, vi (60 * push)), (0, vr 52), (1, vi (nI foot)), (2, vi push), (3, vi (nI h))]) ok dX6_paceAt_4 (by decide) rfl rfl ?_
  refine g_iconst (n := 7) (v := 1) ok dX6_paceAt_6 rfl rfl ?_
  refine g_istore (n := 9) (lv' := [(5, vi 1), (4, vi (60 * push)), (0, vr 52), (1, vi (nI foot)), (2, vi push), (3, vi (nI h))]) ok dX6_paceAt_7 (by decide) rfl rfl ?_
  have X9 : ∀ (x9_4 : Int32), G E 6 ((some (vi ((fX6_paceAt_x9 x9_4))), I)) I 60 [(4, vi x9_4)] [] := by
    intro x9_4
    rw [fX6_paceAt_x9]
    refine g_iload (n := 62) ok 0 dX6_paceAt_60 rfl rfl ?_
    exact g_iret ok hr dX6_paceAt_62
  have L9 : ∀ (n9 i9 : Nat) (x9_4 : Int32) (hi : i9 + n9 = h + 1), G E 6 ((some (vi ((fX6_paceAt_x9 (fo n9 i9 (fun (i : Nat) (s : Int32) => fX6_paceAt_b9 I foot i s) x9_4)))), I)) I 9 [(5, vi (nI i9)), (4, vi x9_4), (0, vr 52), (1, vi (nI foot)), (3, vi (nI h))] [] := by
    intro n9
    induction n9 with
    | zero =>
      intro i9 x9_4 hi
      rw [fo_0]
      refine g_iload (n := 11) ok 0 dX6_paceAt_9 rfl rfl ?_
      refine g_iload_n (n := 12) ok 4 dX6_paceAt_11 rfl rfl rfl ?_
      refine g_icmp_gt (n := 15) (tgt := 60) ok dX6_paceAt_12 (by decide) rfl (fun c => ?_) (fun c => absurd (nlt (a := h) (b := i9) rfl rfl (by omega) (by omega)) c)
      refine g_sub [1] rfl ?_
      exact X9 _
    | succ n9 ih =>
      intro i9 x9_4 hi
      refine g_iload (n := 11) ok 0 dX6_paceAt_9 rfl rfl ?_
      refine g_iload_n (n := 12) ok 4 dX6_paceAt_11 rfl rfl rfl ?_
      refine g_icmp_gt (n := 15) (tgt := 60) ok dX6_paceAt_12 (by decide) rfl (fun c => absurd c (nnlt (a := h) (b := i9) rfl rfl (by omega) (by omega))) (fun c => ?_)
      rw [fo_s]
      show G E 6 ((some (vi ((fX6_paceAt_x9 (fo n9 (i9 + 1) (fun (i : Nat) (s : Int32) => fX6_paceAt_b9 I foot i s) (fX6_paceAt_b9 I foot i9 x9_4))))), I)) _ _ _ _
      rw [fX6_paceAt_b9]
      refine g_iload (n := 17) ok 1 dX6_paceAt_15 rfl rfl ?_
      refine g_iconst (n := 18) (v := 3) ok dX6_paceAt_17 rfl rfl ?_
      refine g_aload_n (n := 19) ok 2 dX6_paceAt_18 rfl rfl rfl ?_
      refine g_get (n := 22) (v := vr 55) (c := 6) (k := 2) ok dX6_paceAt_19 clsX6 (by decide) q680 rfl rfl rfl ?_
      refine g_iconst (n := 23) (v := 1) ok dX6_paceAt_22 rfl rfl ?_
      refine g_iald (n := 24) (i := 1) (L := 5) ok dX6_paceAt_23 rfl rfl rfl (by omega) rfl ?_
      refine g_aload_n (n := 25) ok 2 dX6_paceAt_24 rfl rfl rfl ?_
      refine g_get (n := 28) (v := vr 53) (c := 6) (k := 0) ok dX6_paceAt_25 clsX6 (by decide) q678 rfl rfl rfl ?_
      refine g_bipush (n := 30) (v := 12) ok dX6_paceAt_28 rfl rfl ?_
      refine g_iload_n (n := 31) ok 3 dX6_paceAt_30 rfl rfl rfl ?_
      refine g_imul (n := 32) ok dX6_paceAt_31 rfl ?_
      refine g_top (nv_imul (a := 12) (b := foot) rfl rfl) ?_
      refine g_iload (n := 34) ok 0 dX6_paceAt_32 rfl rfl ?_
      refine g_iadd (n := 35) ok dX6_paceAt_34 rfl ?_
      refine g_top (nv_iadd (a := 12 * foot) (b := i9) rfl rfl) ?_
      refine g_iald (n := 36) (i := (12 * foot) + i9) (L := 24) ok dX6_paceAt_35 rfl rfl rfl (by omega) rfl ?_
      refine g_iadd (n := 37) ok dX6_paceAt_36 rfl ?_
      refine g_imul (n := 38) ok dX6_paceAt_37 rfl ?_
      refine g_isub (n := 39) ok dX6_paceAt_38 rfl ?_
      refine g_istore (n := 41) (lv' := [(4, vi (x9_4 - (3 * ((I 55 1) + (I 53 ((12 * foot) + i9)))))), (5, vi (nI i9)), (0, vr 52), (1, vi (nI foot)), (3, vi (nI h))]) ok dX6_paceAt_39 (by decide) rfl rfl ?_
      refine g_iload (n := 43) ok 0 dX6_paceAt_41 rfl rfl ?_
      refine g_if_ge (n := 46) (tgt := 50) ok dX6_paceAt_43 (by decide) rfl (fun c1 => ?_) (fun c1 => ?_)
      · rw [if_pos c1]
        refine g_iload (n := 52) ok 0 dX6_paceAt_50 rfl rfl ?_
        refine g_istore (n := 54) (lv' := [(4, vi (x9_4 - (3 * ((I 55 1) + (I 53 ((12 * foot) + i9)))))), (5, vi (nI i9)), (0, vr 52), (1, vi (nI foot)), (3, vi (nI h))]) ok dX6_paceAt_52 (by decide) rfl rfl ?_
        refine g_iinc (n := 57) (v := nI (i9 + 1)) (lv' := [(5, vi (nI (i9 + 1))), (4, vi (x9_4 - (3 * ((I 55 1) + (I 53 ((12 * foot) + i9)))))), (0, vr 52), (1, vi (nI foot)), (3, vi (nI h))]) ok 1 dX6_paceAt_54 rfl (iinc_n (a := i9) rfl) (by decide) rfl rfl ?_
        refine g_goto (tgt := 9) ok dX6_paceAt_57 (by decide) ?_
        exact ih (i9 + 1) (x9_4 - (3 * ((I 55 1) + (I 53 ((12 * foot) + i9))))) (by omega)
      · rw [if_neg c1]
        refine g_iconst (n := 47) (v := 0) ok dX6_paceAt_46 rfl rfl ?_
        refine g_goto (tgt := 52) ok dX6_paceAt_47 (by decide) ?_
        refine g_istore (n := 54) (lv' := [(4, vi 0), (5, vi (nI i9)), (0, vr 52), (1, vi (nI foot)), (3, vi (nI h))]) ok dX6_paceAt_52 (by decide) rfl rfl ?_
        refine g_iinc (n := 57) (v := nI (i9 + 1)) (lv' := [(5, vi (nI (i9 + 1))), (4, vi 0), (0, vr 52), (1, vi (nI foot)), (3, vi (nI h))]) ok 1 dX6_paceAt_54 rfl (iinc_n (a := i9) rfl) (by decide) rfl rfl ?_
        refine g_goto (tgt := 9) ok dX6_paceAt_57 (by decide) ?_
        exact ih (i9 + 1) 0 (by omega)
  refine g_sub [0, 1, 2, 3, 5] rfl ?_
  exact L9 ((h + 1) - 1) 1 (60 * push) (by omega)

noncomputable def fX6_latestAhead_x4 (x4_3 : Nat) : Nat :=
  x4_3
noncomputable def fX6_latestAhead_b4 (I : HI) (foot : Int32) (x4_3 : Nat) : (Nat) ⊕ (Nat) :=
  if nI x4_3 - 1 < 0 then Sum.inl x4_3 else (if I 56 (x4_3 - 1) = foot then Sum.inl x4_3 else Sum.inr (x4_3 - 1))
noncomputable def fX6_latestAhead (I : HI) (foot : Int32) (t : Nat) : Nat :=
  fX6_latestAhead_x4 (wh (t + 1) (fun (s : Nat) => fX6_latestAhead_b4 I foot s) t)
theorem knX6_latestAhead : Kn yX6_latestAhead cX6_latestAhead 4 (some .int) 2 := ⟨q870, q8, ⟨by decide, by decide⟩, by decide +kernel⟩
set_option maxHeartbeats 400000 in
set_option maxRecDepth 100000 in
theorem kX6_latestAhead (I : HI) (foot : Int32) (t : Nat) (ht : t ≤ 27) : Cx yX6_latestAhead cX6_latestAhead 4 (some .int) 0 0 [vr 52, vi foot, vi (nI t)] I ((some (vi (nI (fX6_latestAhead I foot t) - 1)), I)) := by
  refine Cx.mk (lv := [(0, vr 52), (1, vi foot), (2, vi (nI t))]) (by decide) (Nat.le_of_ble_eq_true rfl) rfl (fun E ok hr => ?_)
  rw [fX6_latestAhead]
  refine g_iload_n (n := 1) ok 2 dX6_latestAhead_0 rfl rfl rfl ?_
  refine g_iconst (n := 2) (v := 1) ok dX6_latestAhead_1 rfl rfl ?_
  refine g_isub (n := 3) ok dX6_latestAhead_2 rfl ?_
  refine g_istore_n (n := 4) (lv' := [(3, vi ((nI t) - 1)), (0, vr 52), (1, vi foot), (2, vi (nI t))]) ok dX6_latestAhead_3 rfl (by decide) rfl rfl ?_
  have X4 : ∀ (x4_3 : Nat) (hk : x4_3 ≤ 27), G E 4 ((some (vi (nI (fX6_latestAhead_x4 x4_3) - 1)), I)) I 24 [(3, vi (nI x4_3 - 1))] [] := by
    intro x4_3 hk
    rw [fX6_latestAhead_x4]
    refine g_iload_n (n := 25) ok 0 dX6_latestAhead_24 rfl rfl rfl ?_
    exact g_iret ok hr dX6_latestAhead_25
  have L4 : ∀ (n4 : Nat) (x4_3 : Nat) (hk : x4_3 ≤ 27) (hm : x4_3 < n4), G E 4 ((some (vi (nI (fX6_latestAhead_x4 (wh n4 (fun (s : Nat) => fX6_latestAhead_b4 I foot s) x4_3)) - 1)), I)) I 4 [(3, vi (nI x4_3 - 1)), (0, vr 52), (1, vi foot)] [] := by
    intro n4
    induction n4 with
    | zero =>
      intro x4_3 hk hm
      exact absurd hm (Nat.not_lt_zero _)
    | succ n4 ih =>
      intro x4_3 hk hm
      rw [wh_s]
      show G E 4 ((some (vi (nI (fX6_latestAhead_x4 (Sum.elim id (fun (s : Nat) => wh n4 (fun (s : Nat) => fX6_latestAhead_b4 I foot s) s) (fX6_latestAhead_b4 I foot x4_3))) - 1)), I)) _ _ _ _
      rw [fX6_latestAhead_b4]
      refine g_iload_n (n := 5) ok 0 dX6_latestAhead_4 rfl rfl rfl ?_
      refine g_if_lt (n := 8) (tgt := 24) ok dX6_latestAhead_5 (by decide) rfl (fun c1 => ?_) (fun c1 => ?_)
      · rw [if_pos c1]
        refine g_sub [0] rfl ?_
        exact X4 x4_3 hk
      · rw [if_neg c1]
        have hp2 : 0 < x4_3 := pred_pos c1
        refine g_aload_n (n := 9) ok 1 dX6_latestAhead_8 rfl rfl rfl ?_
        refine g_get (n := 12) (v := vr 56) (c := 6) (k := 6) ok dX6_latestAhead_9 clsX6 (by decide) q684 rfl rfl rfl ?_
        refine g_iload_n (n := 13) ok 0 dX6_latestAhead_12 rfl rfl rfl ?_
        refine g_iald (n := 14) (i := x4_3 - 1) (L := 27) ok dX6_latestAhead_13 rfl rfl (nv_isub (a := x4_3) (b := 1) rfl rfl (by omega)) (by omega) rfl ?_
        refine g_iload_n (n := 15) ok 2 dX6_latestAhead_14 rfl rfl rfl ?_
        refine g_icmp_eq (n := 18) (tgt := 24) ok dX6_latestAhead_15 (by decide) rfl (fun c3 => ?_) (fun c3 => ?_)
        · rw [if_pos c3]
          refine g_sub [0] rfl ?_
          exact X4 x4_3 hk
        · rw [if_neg c3]
          refine g_iinc (n := 21) (v := nI (x4_3 - 1) - 1) (lv' := [(3, vi (nI (x4_3 - 1) - 1)), (0, vr 52), (1, vi foot)]) ok 0 dX6_latestAhead_18 rfl (iinc_m (a := x4_3 - 1) (nv_isub (a := x4_3) (b := 1) rfl rfl (by omega))) (by decide) rfl rfl ?_
          refine g_goto (tgt := 4) ok dX6_latestAhead_21 (by decide) ?_
          exact ih (x4_3 - 1) (by omega) (by omega)
  refine g_sub [0, 1, 2] rfl ?_
  exact L4 (t + 1) t (by omega) (by omega)
theorem latestAhead6_le {I : HI} {foot : Int32} {t : Nat} : fX6_latestAhead I foot t ≤ t := by
  have h := wh_inv (fun k : Nat => k ≤ t) (fun (s : Nat) => fX6_latestAhead_b4 I foot s) (fun s r hs hr => by
    unfold fX6_latestAhead_b4 at hr
    split at hr
    · cases hr; exact hs
    · split at hr
      · cases hr; exact hs
      · cases hr) (fun s r hs hr => by
    unfold fX6_latestAhead_b4 at hr
    split at hr
    · cases hr
    · split at hr
      · cases hr
      · cases hr; omega) (t + 1) t (Nat.le_refl t)
  unfold fX6_latestAhead fX6_latestAhead_x4
  exact h

noncomputable def fX6_lookedAt (I : HI) (plain : Int32) (foot : Int32) (h : Nat) : Int32 :=
  if 0 ≤ nI (fX6_latestAhead I foot (ix (I 52 5))) - 1 then fX6_held (plain + (((I 59 ((12 * ((fX6_latestAhead I foot (ix (I 52 5))) - 1)) + h)) - plain) / 2)) 999 else plain
theorem knX6_lookedAt : Kn yX6_lookedAt cX6_lookedAt 5 (some .int) 3 := ⟨q866, q8, ⟨by decide, by decide⟩, by decide +kernel⟩
set_option maxHeartbeats 400000 in
set_option maxRecDepth 100000 in
theorem kX6_lookedAt (I : HI) (plain : Int32) (foot : Int32) (h : Nat) (hq : vp_in (I 52 5) 27) (hh : h < 12) : Cx yX6_lookedAt cX6_lookedAt 5 (some .int) 1 23 [vr 52, vi plain, vi foot, vi (nI h)] I ((some (vi ((fX6_lookedAt I plain foot h))), I)) := by
  refine Cx.mk (lv := [(0, vr 52), (1, vi plain), (2, vi foot), (3, vi (nI h))]) (by decide) (Nat.le_of_ble_eq_true rfl) rfl (fun E ok hr => ?_)
  have hq1 := vb hq
  rw [fX6_lookedAt]
  refine g_aload_n (n := 1) ok 0 dX6_lookedAt_0 rfl rfl rfl ?_
  refine g_iload_n (n := 2) ok 2 dX6_lookedAt_1 rfl rfl rfl ?_
  refine g_aload_n (n := 3) ok 0 dX6_lookedAt_2 rfl rfl rfl ?_
  refine g_get (n := 6) (v := vi (I 52 5)) (c := 6) (k := 5) ok dX6_lookedAt_3 clsX6 (by decide) q683 rfl rfl rfl ?_
  refine g_callV (n := 9) (rest := []) (av := [vi foot, vi (nI (ix (I 52 5)))]) (j := 52) ok (kX6_latestAhead I foot (ix (I 52 5)) (by first | with_reducible assumption | omega)) knX6_latestAhead q867 q869 qs42 clsX6 rfl dX6_lookedAt_6 (lcons (congrArg vi (vx hq)) (lcons rfl (lcons rfl rfl))) rfl (Nat.le_of_ble_eq_true rfl) (by decide) (by decide) rfl ?_
  have hp1 : fX6_latestAhead I foot (ix (I 52 5)) ≤ (ix (I 52 5)) := latestAhead6_le
  refine g_istore (n := 11) (lv' := [(4, vi (nI (fX6_latestAhead I foot (ix (I 52 5))) - 1)), (0, vr 52), (1, vi plain), (2, vi foot), (3, vi (nI h))]) ok dX6_lookedAt_9 (by decide) rfl rfl ?_
  refine g_iload (n := 13) ok 0 dX6_lookedAt_11 rfl rfl ?_
  refine g_if_ge (n := 16) (tgt := 20) ok dX6_lookedAt_13 (by decide) rfl (fun c2 => ?_) (fun c2 => ?_)
  · rw [if_pos c2]
    have hp3 : 0 < (fX6_latestAhead I foot (ix (I 52 5))) := pred_pos2 c2
    refine g_iload_n (n := 21) ok 2 dX6_lookedAt_20 rfl rfl rfl ?_
    refine g_aload_n (n := 22) ok 1 dX6_lookedAt_21 rfl rfl rfl ?_
    refine g_get (n := 25) (v := vr 59) (c := 6) (k := 9) ok dX6_lookedAt_22 clsX6 (by decide) q687 rfl rfl rfl ?_
    refine g_bipush (n := 27) (v := 12) ok dX6_lookedAt_25 rfl rfl ?_
    refine g_iload (n := 29) ok 0 dX6_lookedAt_27 rfl rfl ?_
    refine g_imul (n := 30) ok dX6_lookedAt_29 rfl ?_
    refine g_top (nv_imul (a := 12) (b := (fX6_latestAhead I foot (ix (I 52 5))) - 1) rfl (nv_isub (a := fX6_latestAhead I foot (ix (I 52 5))) (b := 1) rfl rfl (by omega))) ?_
    refine g_iload_n (n := 31) ok 4 dX6_lookedAt_30 rfl rfl rfl ?_
    refine g_iadd (n := 32) ok dX6_lookedAt_31 rfl ?_
    refine g_top (nv_iadd (a := 12 * ((fX6_latestAhead I foot (ix (I 52 5))) - 1)) (b := h) rfl rfl) ?_
    refine g_iald (n := 33) (i := (12 * ((fX6_latestAhead I foot (ix (I 52 5))) - 1)) + h) (L := 324) ok dX6_lookedAt_32 rfl rfl rfl (by omega) rfl ?_
    refine g_iload_n (n := 34) ok 2 dX6_lookedAt_33 rfl rfl rfl ?_
    refine g_isub (n := 35) ok dX6_lookedAt_34 rfl ?_
    refine g_iconst (n := 36) (v := 2) ok dX6_lookedAt_35 rfl rfl ?_
    refine g_idiv (n := 37) ok dX6_lookedAt_36 (by decide) rfl ?_
    refine g_iadd (n := 38) ok dX6_lookedAt_37 rfl ?_
    refine g_sipush (n := 41) (v := 999) ok dX6_lookedAt_38 rfl rfl ?_
    refine g_callS (n := 44) (rest := []) (av := [vi (plain + (((I 59 ((12 * ((fX6_latestAhead I foot (ix (I 52 5))) - 1)) + h)) - plain) / 2)), vi 999]) ok (kX6_held I (plain + (((I 59 ((12 * ((fX6_latestAhead I foot (ix (I 52 5))) - 1)) + h)) - plain) / 2)) 999) knX6_held q860 q861 dX6_lookedAt_41 rfl rfl (Nat.le_of_ble_eq_true rfl) (by decide) (by decide) rfl ?_
    exact g_iret ok hr dX6_lookedAt_44
  · rw [if_neg c2]
    refine g_iload_n (n := 17) ok 2 dX6_lookedAt_16 rfl rfl rfl ?_
    refine g_goto (tgt := 44) ok dX6_lookedAt_17 (by decide) ?_
    exact g_iret ok hr dX6_lookedAt_44

noncomputable def fX6_wobbledBy (I : HI) (h : Int32) : Int32 :=
  if h = I 52 4 then I 52 4 else (if h = (I 52 4) + 1 then -(I 52 4) else 0)
theorem knX6_wobbledBy : Kn yX6_wobbledBy cX6_wobbledBy 2 (some .int) 1 := ⟨q874, q8, ⟨by decide, by decide⟩, by decide +kernel⟩
set_option maxHeartbeats 400000 in
set_option maxRecDepth 100000 in
theorem kX6_wobbledBy (I : HI) (h : Int32) : Cx yX6_wobbledBy cX6_wobbledBy 2 (some .int) 0 0 [vr 52, vi h] I ((some (vi ((fX6_wobbledBy I h))), I)) := by
  refine Cx.mk (lv := [(0, vr 52), (1, vi h)]) (by decide) (Nat.le_of_ble_eq_true rfl) rfl (fun E ok hr => ?_)
  rw [fX6_wobbledBy]
  refine g_iload_n (n := 1) ok 1 dX6_wobbledBy_0 rfl rfl rfl ?_
  refine g_aload_n (n := 2) ok 0 dX6_wobbledBy_1 rfl rfl rfl ?_
  refine g_get (n := 5) (v := vi (I 52 4)) (c := 6) (k := 4) ok dX6_wobbledBy_2 clsX6 (by decide) q682 rfl rfl rfl ?_
  refine g_icmp_ne (n := 8) (tgt := 15) ok dX6_wobbledBy_5 (by decide) rfl (fun c1 => ?_) (fun c1 => ?_)
  · rw [if_neg c1]
    refine g_iload_n (n := 16) ok 1 dX6_wobbledBy_15 rfl rfl rfl ?_
    refine g_aload_n (n := 17) ok 0 dX6_wobbledBy_16 rfl rfl rfl ?_
    refine g_get (n := 20) (v := vi (I 52 4)) (c := 6) (k := 4) ok dX6_wobbledBy_17 clsX6 (by decide) q682 rfl rfl rfl ?_
    refine g_iconst (n := 21) (v := 1) ok dX6_wobbledBy_20 rfl rfl ?_
    refine g_iadd (n := 22) ok dX6_wobbledBy_21 rfl ?_
    refine g_icmp_ne (n := 25) (tgt := 33) ok dX6_wobbledBy_22 (by decide) rfl (fun c2 => ?_) (fun c2 => ?_)
    · rw [if_neg c2]
      refine g_iconst (n := 34) (v := 0) ok dX6_wobbledBy_33 rfl rfl ?_
      exact g_iret ok hr dX6_wobbledBy_34
    · rw [if_pos c2]
      refine g_aload_n (n := 26) ok 0 dX6_wobbledBy_25 rfl rfl rfl ?_
      refine g_get (n := 29) (v := vi (I 52 4)) (c := 6) (k := 4) ok dX6_wobbledBy_26 clsX6 (by decide) q682 rfl rfl rfl ?_
      refine g_ineg (n := 30) ok dX6_wobbledBy_29 rfl ?_
      refine g_goto (tgt := 34) ok dX6_wobbledBy_30 (by decide) ?_
      exact g_iret ok hr dX6_wobbledBy_34
  · rw [if_pos c1]
    refine g_aload_n (n := 9) ok 0 dX6_wobbledBy_8 rfl rfl rfl ?_
    refine g_get (n := 12) (v := vi (I 52 4)) (c := 6) (k := 4) ok dX6_wobbledBy_9 clsX6 (by decide) q682 rfl rfl rfl ?_
    refine g_goto (tgt := 34) ok dX6_wobbledBy_12 (by decide) ?_
    exact g_iret ok hr dX6_wobbledBy_34

noncomputable def fX6_strays (I : HI) (looked : Int32) (foot : Nat) (h : Nat) : Int32 :=
  if I 54 ((12 * foot) + h) = 0 then looked else fX6_held (looked + ((((I 54 ((12 * foot) + h)) - looked) * (I 52 4)) / 10)) 999
theorem knX6_strays : Kn yX6_strays cX6_strays 5 (some .int) 3 := ⟨q878, q8, ⟨by decide, by decide⟩, by decide +kernel⟩
set_option maxHeartbeats 400000 in
set_option maxRecDepth 100000 in
theorem kX6_strays (I : HI) (looked : Int32) (foot : Nat) (h : Nat) (hf : foot < 2) (hh : h < 12) : Cx yX6_strays cX6_strays 5 (some .int) 1 21 [vr 52, vi looked, vi (nI foot), vi (nI h)] I ((some (vi ((fX6_strays I looked foot h))), I)) := by
  refine Cx.mk (lv := [(0, vr 52), (1, vi looked), (2, vi (nI foot)), (3, vi (nI h))]) (by decide) (Nat.le_of_ble_eq_true rfl) rfl (fun E ok hr => ?_)
  rw [fX6_strays]
  refine g_aload_n (n := 1) ok 0 dX6_strays_0 rfl rfl rfl ?_
  refine g_get (n := 4) (v := vr 54) (c := 6) (k := 1) ok dX6_strays_1 clsX6 (by decide) q679 rfl rfl rfl ?_
  refine g_bipush (n := 6) (v := 12) ok dX6_strays_4 rfl rfl ?_
  refine g_iload_n (n := 7) ok 2 dX6_strays_6 rfl rfl rfl ?_
  refine g_imul (n := 8) ok dX6_strays_7 rfl ?_
  refine g_top (nv_imul (a := 12) (b := foot) rfl rfl) ?_
  refine g_iload_n (n := 9) ok 3 dX6_strays_8 rfl rfl rfl ?_
  refine g_iadd (n := 10) ok dX6_strays_9 rfl ?_
  refine g_top (nv_iadd (a := 12 * foot) (b := h) rfl rfl) ?_
  refine g_iald (n := 11) (i := (12 * foot) + h) (L := 24) ok dX6_strays_10 rfl rfl rfl (by omega) rfl ?_
  refine g_istore (n := 13) (lv' := [(4, vi (I 54 ((12 * foot) + h))), (0, vr 52), (1, vi looked), (2, vi (nI foot)), (3, vi (nI h))]) ok dX6_strays_11 (by decide) rfl rfl ?_
  refine g_iload (n := 15) ok 0 dX6_strays_13 rfl rfl ?_
  refine g_if_ne (n := 18) (tgt := 22) ok dX6_strays_15 (by decide) rfl (fun c1 => ?_) (fun c1 => ?_)
  · rw [if_neg c1]
    refine g_iload_n (n := 23) ok 2 dX6_strays_22 rfl rfl rfl ?_
    refine g_iload (n := 25) ok 0 dX6_strays_23 rfl rfl ?_
    refine g_iload_n (n := 26) ok 2 dX6_strays_25 rfl rfl rfl ?_
    refine g_isub (n := 27) ok dX6_strays_26 rfl ?_
    refine g_aload_n (n := 28) ok 1 dX6_strays_27 rfl rfl rfl ?_
    refine g_get (n := 31) (v := vi (I 52 4)) (c := 6) (k := 4) ok dX6_strays_28 clsX6 (by decide) q682 rfl rfl rfl ?_
    refine g_imul (n := 32) ok dX6_strays_31 rfl ?_
    refine g_bipush (n := 34) (v := 10) ok dX6_strays_32 rfl rfl ?_
    refine g_idiv (n := 35) ok dX6_strays_34 (by decide) rfl ?_
    refine g_iadd (n := 36) ok dX6_strays_35 rfl ?_
    refine g_sipush (n := 39) (v := 999) ok dX6_strays_36 rfl rfl ?_
    refine g_callS (n := 42) (rest := []) (av := [vi (looked + ((((I 54 ((12 * foot) + h)) - looked) * (I 52 4)) / 10)), vi 999]) ok (kX6_held I (looked + ((((I 54 ((12 * foot) + h)) - looked) * (I 52 4)) / 10)) 999) knX6_held q860 q861 dX6_strays_39 rfl rfl (Nat.le_of_ble_eq_true rfl) (by decide) (by decide) rfl ?_
    exact g_iret ok hr dX6_strays_42
  · rw [if_pos c1]
    refine g_iload_n (n := 19) ok 2 dX6_strays_18 rfl rfl rfl ?_
    refine g_goto (tgt := 42) ok dX6_strays_19 (by decide) ?_
    exact g_iret ok hr dX6_strays_42

noncomputable def fX6_radiusBy (I : HI) (kind : Int32) (foot : Nat) (push : Int32) (lean : Int32) (h : Nat) : Int32 :=
  if kind = 0 then fX6_held ((fX6_paceAt I foot push h) / lean) 999 else (if kind = 1 then fX6_lookedAt I (fX6_held ((fX6_paceAt I foot push h) / lean) 999) (nI foot) h else (if kind = 2 then fX6_held ((fX6_held ((fX6_paceAt I foot push h) / lean) 999) + (((I 55 0) - (fX6_held ((fX6_paceAt I foot push h) / lean) 999)) / 4)) 999 else (if kind = 3 then fX6_lookedAt I (fX6_held ((fX6_paceAt I foot push h) / lean) 999) (nI foot) ((h + 11) % 12) else (if kind = 4 then fX6_held ((fX6_held ((fX6_paceAt I foot push h) / lean) 999) + ((nI h) - (nI h) / 2 * 2)) 999 else (if kind = 5 then fX6_held ((fX6_held ((fX6_held ((fX6_paceAt I foot push h) / lean) 999) + (((I 55 0) - (fX6_held ((fX6_paceAt I foot push h) / lean) 999)) / 4)) 999) + (fX6_wobbledBy I (nI h))) 999 else fX6_strays I (fX6_lookedAt I (fX6_held ((fX6_paceAt I foot push h) / lean) 999) (nI foot) h) foot h)))))
theorem knX6_radiusBy : Kn yX6_radiusBy cX6_radiusBy 8 (some .int) 5 := ⟨q855, q8, ⟨by decide, by decide⟩, by decide +kernel⟩
set_option maxHeartbeats 400000 in
set_option maxRecDepth 100000 in
theorem kX6_radiusBy (I : HI) (kind : Int32) (foot : Nat) (push : Int32) (lean : Int32) (h : Nat) (hq : vp_in (I 52 5) 27) (hf : foot < 2) (hl : ¬ lean = 0) (hh : h < 12) : Cx yX6_radiusBy cX6_radiusBy 8 (some .int) 2 47 [vr 52, vi kind, vi (nI foot), vi push, vi lean, vi (nI h)] I ((some (vi ((fX6_radiusBy I kind foot push lean h))), I)) := by
  refine Cx.mk (lv := [(0, vr 52), (1, vi kind), (2, vi (nI foot)), (3, vi push), (4, vi lean), (5, vi (nI h))]) (by decide) (Nat.le_of_ble_eq_true rfl) rfl (fun E ok hr => ?_)
  rw [fX6_radiusBy]
  refine g_aload_n (n := 1) ok 0 dX6_radiusBy_0 rfl rfl rfl ?_
  refine g_iload_n (n := 2) ok 2 dX6_radiusBy_1 rfl rfl rfl ?_
  refine g_iload_n (n := 3) ok 3 dX6_radiusBy_2 rfl rfl rfl ?_
  refine g_iload (n := 5) ok 5 dX6_radiusBy_3 rfl rfl ?_
  refine g_callV (n := 8) (rest := []) (av := [vi (nI foot), vi push, vi (nI h)]) (j := 52) ok (kX6_paceAt I foot push h (by first | with_reducible assumption | omega) (by first | with_reducible assumption | omega)) knX6_paceAt q856 q858 qs40 clsX6 rfl dX6_radiusBy_5 rfl rfl (Nat.le_of_ble_eq_true rfl) (by decide) (by decide) rfl ?_
  refine g_iload (n := 10) ok 4 dX6_radiusBy_8 rfl rfl ?_
  refine g_idiv (n := 11) ok dX6_radiusBy_10 hl rfl ?_
  refine g_sipush (n := 14) (v := 999) ok dX6_radiusBy_11 rfl rfl ?_
  refine g_callS (n := 17) (rest := []) (av := [vi ((fX6_paceAt I foot push h) / lean), vi 999]) ok (kX6_held I ((fX6_paceAt I foot push h) / lean) 999) knX6_held q860 q861 dX6_radiusBy_14 rfl rfl (Nat.le_of_ble_eq_true rfl) (by decide) (by decide) rfl ?_
  refine g_istore (n := 19) (lv' := [(6, vi (fX6_held ((fX6_paceAt I foot push h) / lean) 999)), (0, vr 52), (1, vi kind), (2, vi (nI foot)), (3, vi push), (4, vi lean), (5, vi (nI h))]) ok dX6_radiusBy_17 (by decide) rfl rfl ?_
  refine g_iload (n := 21) ok 0 dX6_radiusBy_19 rfl rfl ?_
  refine g_aload_n (n := 22) ok 1 dX6_radiusBy_21 rfl rfl rfl ?_
  refine g_get (n := 25) (v := vr 55) (c := 6) (k := 2) ok dX6_radiusBy_22 clsX6 (by decide) q680 rfl rfl rfl ?_
  refine g_iconst (n := 26) (v := 0) ok dX6_radiusBy_25 rfl rfl ?_
  refine g_iald (n := 27) (i := 0) (L := 5) ok dX6_radiusBy_26 rfl rfl rfl (by omega) rfl ?_
  refine g_iload (n := 29) ok 0 dX6_radiusBy_27 rfl rfl ?_
  refine g_isub (n := 30) ok dX6_radiusBy_29 rfl ?_
  refine g_iconst (n := 31) (v := 4) ok dX6_radiusBy_30 rfl rfl ?_
  refine g_idiv (n := 32) ok dX6_radiusBy_31 (by decide) rfl ?_
  refine g_iadd (n := 33) ok dX6_radiusBy_32 rfl ?_
  refine g_sipush (n := 36) (v := 999) ok dX6_radiusBy_33 rfl rfl ?_
  refine g_callS (n := 39) (rest := []) (av := [vi ((fX6_held ((fX6_paceAt I foot push h) / lean) 999) + (((I 55 0) - (fX6_held ((fX6_paceAt I foot push h) / lean) 999)) / 4)), vi 999]) ok (kX6_held I ((fX6_held ((fX6_paceAt I foot push h) / lean) 999) + (((I 55 0) - (fX6_held ((fX6_paceAt I foot push h) / lean) 999)) / 4)) 999) knX6_held q860 q861 dX6_radiusBy_36 rfl rfl (Nat.le_of_ble_eq_true rfl) (by decide) (by decide) rfl ?_
  refine g_istore (n := 41) (lv' := [(7, vi (fX6_held ((fX6_held ((fX6_paceAt I foot push h) / lean) 999) + (((I 55 0) - (fX6_held ((fX6_paceAt I foot push h) / lean) 999)) / 4)) 999)), (6, vi (fX6_held ((fX6_paceAt I foot push h) / lean) 999)), (0, vr 52), (1, vi kind), (2, vi (nI foot)), (3, vi push), (4, vi lean), (5, vi (nI h))]) ok dX6_radiusBy_39 (by decide) rfl rfl ?_
  refine g_iload_n (n := 42) ok 3 dX6_radiusBy_41 rfl rfl rfl ?_
  by_cases c1 : kind = 0
  · rw [if_pos c1]
    refine g_tabIn (off := 38) (tgt := 80) ok dX6_radiusBy_42 (by rw [c1]; decide) (by rw [c1]; decide) (by rw [c1]; rfl) (by decide) ?_
    refine g_iload (n := 82) ok 1 dX6_radiusBy_80 rfl rfl ?_
    exact g_iret ok hr dX6_radiusBy_82
  · rw [if_neg c1]
    by_cases c2 : kind = 1
    · rw [if_pos c2]
      refine g_tabIn (off := 41) (tgt := 83) ok dX6_radiusBy_42 (by rw [c2]; decide) (by rw [c2]; decide) (by rw [c2]; rfl) (by decide) ?_
      refine g_aload_n (n := 84) ok 2 dX6_radiusBy_83 rfl rfl rfl ?_
      refine g_iload (n := 86) ok 1 dX6_radiusBy_84 rfl rfl ?_
      refine g_iload_n (n := 87) ok 4 dX6_radiusBy_86 rfl rfl rfl ?_
      refine g_iload (n := 89) ok 7 dX6_radiusBy_87 rfl rfl ?_
      refine g_callV (n := 92) (rest := []) (av := [vi (fX6_held ((fX6_paceAt I foot push h) / lean) 999), vi (nI foot), vi (nI h)]) (j := 52) ok (kX6_lookedAt I (fX6_held ((fX6_paceAt I foot push h) / lean) 999) (nI foot) h (by first | with_reducible assumption | omega) (by first | with_reducible assumption | omega)) knX6_lookedAt q863 q865 qs41 clsX6 rfl dX6_radiusBy_89 rfl rfl (Nat.le_of_ble_eq_true rfl) (by decide) (by decide) rfl ?_
      exact g_iret ok hr dX6_radiusBy_92
    · rw [if_neg c2]
      by_cases c3 : kind = 2
      · rw [if_pos c3]
        refine g_tabIn (off := 51) (tgt := 93) ok dX6_radiusBy_42 (by rw [c3]; decide) (by rw [c3]; decide) (by rw [c3]; rfl) (by decide) ?_
        refine g_iload (n := 95) ok 0 dX6_radiusBy_93 rfl rfl ?_
        exact g_iret ok hr dX6_radiusBy_95
      · rw [if_neg c3]
        by_cases c4 : kind = 3
        · rw [if_pos c4]
          refine g_tabIn (off := 54) (tgt := 96) ok dX6_radiusBy_42 (by rw [c4]; decide) (by rw [c4]; decide) (by rw [c4]; rfl) (by decide) ?_
          refine g_aload_n (n := 97) ok 2 dX6_radiusBy_96 rfl rfl rfl ?_
          refine g_iload (n := 99) ok 1 dX6_radiusBy_97 rfl rfl ?_
          refine g_iload_n (n := 100) ok 4 dX6_radiusBy_99 rfl rfl rfl ?_
          refine g_iload (n := 102) ok 7 dX6_radiusBy_100 rfl rfl ?_
          refine g_bipush (n := 104) (v := 11) ok dX6_radiusBy_102 rfl rfl ?_
          refine g_iadd (n := 105) ok dX6_radiusBy_104 rfl ?_
          refine g_top (nv_iadd (a := h) (b := 11) rfl rfl) ?_
          refine g_bipush (n := 107) (v := 12) ok dX6_radiusBy_105 rfl rfl ?_
          refine g_irem (n := 108) ok dX6_radiusBy_107 (by decide) rfl ?_
          refine g_top (nv_irem (a := h + 11) (b := 12) rfl rfl (by omega) (by omega) (by omega)) ?_
          refine g_callV (n := 111) (rest := []) (av := [vi (fX6_held ((fX6_paceAt I foot push h) / lean) 999), vi (nI foot), vi (nI ((h + 11) % 12))]) (j := 52) ok (kX6_lookedAt I (fX6_held ((fX6_paceAt I foot push h) / lean) 999) (nI foot) ((h + 11) % 12) (by first | with_reducible assumption | omega) (by first | with_reducible assumption | omega)) knX6_lookedAt q863 q865 qs41 clsX6 rfl dX6_radiusBy_108 rfl rfl (Nat.le_of_ble_eq_true rfl) (by decide) (by decide) rfl ?_
          exact g_iret ok hr dX6_radiusBy_111
        · rw [if_neg c4]
          by_cases c5 : kind = 4
          · rw [if_pos c5]
            refine g_tabIn (off := 70) (tgt := 112) ok dX6_radiusBy_42 (by rw [c5]; decide) (by rw [c5]; decide) (by rw [c5]; rfl) (by decide) ?_
            refine g_iload (n := 114) ok 1 dX6_radiusBy_112 rfl rfl ?_
            refine g_iload (n := 116) ok 7 dX6_radiusBy_114 rfl rfl ?_
            refine g_iconst (n := 117) (v := 2) ok dX6_radiusBy_116 rfl rfl ?_
            refine g_irem (n := 118) ok dX6_radiusBy_117 (by decide) rfl ?_
            refine g_iadd (n := 119) ok dX6_radiusBy_118 rfl ?_
            refine g_sipush (n := 122) (v := 999) ok dX6_radiusBy_119 rfl rfl ?_
            refine g_callS (n := 125) (rest := []) (av := [vi ((fX6_held ((fX6_paceAt I foot push h) / lean) 999) + ((nI h) - (nI h) / 2 * 2)), vi 999]) ok (kX6_held I ((fX6_held ((fX6_paceAt I foot push h) / lean) 999) + ((nI h) - (nI h) / 2 * 2)) 999) knX6_held q860 q861 dX6_radiusBy_122 rfl rfl (Nat.le_of_ble_eq_true rfl) (by decide) (by decide) rfl ?_
            exact g_iret ok hr dX6_radiusBy_125
          · rw [if_neg c5]
            by_cases c6 : kind = 5
            · rw [if_pos c6]
              refine g_tabIn (off := 84) (tgt := 126) ok dX6_radiusBy_42 (by rw [c6]; decide) (by rw [c6]; decide) (by rw [c6]; rfl) (by decide) ?_
              refine g_iload (n := 128) ok 0 dX6_radiusBy_126 rfl rfl ?_
              refine g_aload_n (n := 129) ok 2 dX6_radiusBy_128 rfl rfl rfl ?_
              refine g_iload (n := 131) ok 7 dX6_radiusBy_129 rfl rfl ?_
              refine g_callV (n := 134) (rest := [vi (fX6_held ((fX6_held ((fX6_paceAt I foot push h) / lean) 999) + (((I 55 0) - (fX6_held ((fX6_paceAt I foot push h) / lean) 999)) / 4)) 999)]) (av := [vi (nI h)]) (j := 52) ok (kX6_wobbledBy I (nI h)) knX6_wobbledBy q871 q873 qs43 clsX6 rfl dX6_radiusBy_131 rfl rfl (Nat.le_of_ble_eq_true rfl) (by decide) (by decide) rfl ?_
              refine g_iadd (n := 135) ok dX6_radiusBy_134 rfl ?_
              refine g_sipush (n := 138) (v := 999) ok dX6_radiusBy_135 rfl rfl ?_
              refine g_callS (n := 141) (rest := []) (av := [vi ((fX6_held ((fX6_held ((fX6_paceAt I foot push h) / lean) 999) + (((I 55 0) - (fX6_held ((fX6_paceAt I foot push h) / lean) 999)) / 4)) 999) + (fX6_wobbledBy I (nI h))), vi 999]) ok (kX6_held I ((fX6_held ((fX6_held ((fX6_paceAt I foot push h) / lean) 999) + (((I 55 0) - (fX6_held ((fX6_paceAt I foot push h) / lean) 999)) / 4)) 999) + (fX6_wobbledBy I (nI h))) 999) knX6_held q860 q861 dX6_radiusBy_138 rfl rfl (Nat.le_of_ble_eq_true rfl) (by decide) (by decide) rfl ?_
              exact g_iret ok hr dX6_radiusBy_141
            · rw [if_neg c6]
              refine g_tabOut (tgt := 142) ok dX6_radiusBy_42 (by have h0 : kind.toInt ≠ 0 := ne_toInt c1; have h1 : kind.toInt ≠ 1 := ne_toInt c2; have h2 : kind.toInt ≠ 2 := ne_toInt c3; have h3 : kind.toInt ≠ 3 := ne_toInt c4; have h4 : kind.toInt ≠ 4 := ne_toInt c5; have h5 : kind.toInt ≠ 5 := ne_toInt c6; omega) (by decide) ?_
              refine g_aload_n (n := 143) ok 2 dX6_radiusBy_142 rfl rfl rfl ?_
              refine g_aload_n (n := 144) ok 2 dX6_radiusBy_143 rfl rfl rfl ?_
              refine g_iload (n := 146) ok 1 dX6_radiusBy_144 rfl rfl ?_
              refine g_iload_n (n := 147) ok 4 dX6_radiusBy_146 rfl rfl rfl ?_
              refine g_iload (n := 149) ok 7 dX6_radiusBy_147 rfl rfl ?_
              refine g_callV (n := 152) (rest := [vr 52]) (av := [vi (fX6_held ((fX6_paceAt I foot push h) / lean) 999), vi (nI foot), vi (nI h)]) (j := 52) ok (kX6_lookedAt I (fX6_held ((fX6_paceAt I foot push h) / lean) 999) (nI foot) h (by first | with_reducible assumption | omega) (by first | with_reducible assumption | omega)) knX6_lookedAt q863 q865 qs41 clsX6 rfl dX6_radiusBy_149 rfl rfl (Nat.le_of_ble_eq_true rfl) (by decide) (by decide) rfl ?_
              refine g_iload_n (n := 153) ok 4 dX6_radiusBy_152 rfl rfl rfl ?_
              refine g_iload (n := 155) ok 7 dX6_radiusBy_153 rfl rfl ?_
              refine g_callV (n := 158) (rest := []) (av := [vi (fX6_lookedAt I (fX6_held ((fX6_paceAt I foot push h) / lean) 999) (nI foot) h), vi (nI foot), vi (nI h)]) (j := 52) ok (kX6_strays I (fX6_lookedAt I (fX6_held ((fX6_paceAt I foot push h) / lean) 999) (nI foot) h) foot h (by first | with_reducible assumption | omega) (by first | with_reducible assumption | omega)) knX6_strays q875 q877 qs44 clsX6 rfl dX6_radiusBy_155 rfl rfl (Nat.le_of_ble_eq_true rfl) (by decide) (by decide) rfl ?_
              exact g_iret ok hr dX6_radiusBy_158

noncomputable def fX6_drawBy_x9 (I : HI) (foot : Nat) (push : Int32) (lean : Int32) (J9 : HI) : Nat × HI :=
  (ix (I 52 5), (up (up (up (up J9 56 (ix (I 52 5)) (nI foot)) 57 (ix (I 52 5)) push) 58 (ix (I 52 5)) lean) 52 5 ((J9 52 5) + 1)))
noncomputable def fX6_drawBy_b9 (I : HI) (kind : Int32) (foot : Nat) (push : Int32) (lean : Int32) (i9 : Nat) (J9 : HI) : HI :=
  (up J9 59 ((12 * (ix (I 52 5))) + i9) (fX6_radiusBy J9 kind foot push lean i9))
noncomputable def fX6_drawBy (I : HI) (kind : Int32) (foot : Nat) (push : Int32) (lean : Int32) : Nat × HI :=
  fX6_drawBy_x9 I foot push lean (fo 12 0 (fun (i : Nat) (s : HI) => fX6_drawBy_b9 I kind foot push lean i s) I)
theorem knX6_drawBy : Kn yX6_drawBy cX6_drawBy 7 (some .int) 4 := ⟨q851, q8, ⟨by decide, by decide⟩, by decide +kernel⟩
set_option maxHeartbeats 400000 in
set_option maxRecDepth 100000 in
theorem kX6_drawBy (I : HI) (kind : Int32) (foot : Nat) (push : Int32) (lean : Int32) (hq : vp_in (I 52 5) 27) (hf : foot < 2) (hl : ¬ lean = 0) : Cx yX6_drawBy cX6_drawBy 7 (some .int) 3 74 [vr 52, vi kind, vi (nI foot), vi push, vi lean] I ((some (vi (nI ((fX6_drawBy I kind foot push lean).1))), (fX6_drawBy I kind foot push lean).2)) := by
  refine Cx.mk (lv := [(0, vr 52), (1, vi kind), (2, vi (nI foot)), (3, vi push), (4, vi lean)]) (by decide) (Nat.le_of_ble_eq_true rfl) rfl (fun E ok hr => ?_)
  have hq1 := vb hq
  rw [fX6_drawBy]
  refine g_aload_n (n := 1) ok 0 dX6_drawBy_0 rfl rfl rfl ?_
  refine g_get (n := 4) (v := vi (I 52 5)) (c := 6) (k := 5) ok dX6_drawBy_1 clsX6 (by decide) q683 rfl rfl rfl ?_
  refine g_istore (n := 6) (lv' := [(5, vi (I 52 5)), (0, vr 52), (1, vi kind), (2, vi (nI foot)), (3, vi push), (4, vi lean)]) ok dX6_drawBy_4 (by decide) rfl rfl ?_
  refine g_iconst (n := 7) (v := 0) ok dX6_drawBy_6 rfl rfl ?_
  refine g_istore (n := 9) (lv' := [(6, vi 0), (5, vi (I 52 5)), (0, vr 52), (1, vi kind), (2, vi (nI foot)), (3, vi push), (4, vi lean)]) ok dX6_drawBy_7 (by decide) rfl rfl ?_
  have X9 : ∀ (J9 : HI) (hJ : ∀ a, a ≠ 59 → J9 a = I a), G E 7 ((some (vi (nI ((fX6_drawBy_x9 I foot push lean J9).1))), (fX6_drawBy_x9 I foot push lean J9).2)) J9 46 [(5, vi (I 52 5)), (0, vr 52), (2, vi (nI foot)), (3, vi push), (4, vi lean)] [] := by
    intro J9 hJ
    rw [fX6_drawBy_x9]
    refine g_aload_n (n := 47) ok 1 dX6_drawBy_46 rfl rfl rfl ?_
    refine g_get (n := 50) (v := vr 56) (c := 6) (k := 6) ok dX6_drawBy_47 clsX6 (by decide) q684 rfl rfl rfl ?_
    refine g_iload (n := 52) ok 0 dX6_drawBy_50 rfl rfl ?_
    refine g_iload_n (n := 53) ok 2 dX6_drawBy_52 rfl rfl rfl ?_
    refine g_iast (n := 54) (i := ix (I 52 5)) (L := 27) ok dX6_drawBy_53 rfl rfl (vx hq) (by omega) rfl ?_
    refine g_aload_n (n := 55) ok 1 dX6_drawBy_54 rfl rfl rfl ?_
    refine g_get (n := 58) (v := vr 57) (c := 6) (k := 7) ok dX6_drawBy_55 clsX6 (by decide) q685 rfl rfl rfl ?_
    refine g_iload (n := 60) ok 0 dX6_drawBy_58 rfl rfl ?_
    refine g_iload_n (n := 61) ok 3 dX6_drawBy_60 rfl rfl rfl ?_
    refine g_iast (n := 62) (i := ix (I 52 5)) (L := 27) ok dX6_drawBy_61 rfl rfl (vx hq) (by omega) rfl ?_
    refine g_aload_n (n := 63) ok 1 dX6_drawBy_62 rfl rfl rfl ?_
    refine g_get (n := 66) (v := vr 58) (c := 6) (k := 8) ok dX6_drawBy_63 clsX6 (by decide) q686 rfl rfl rfl ?_
    refine g_iload (n := 68) ok 0 dX6_drawBy_66 rfl rfl ?_
    refine g_iload (n := 70) ok 4 dX6_drawBy_68 rfl rfl ?_
    refine g_iast (n := 71) (i := ix (I 52 5)) (L := 27) ok dX6_drawBy_70 rfl rfl (vx hq) (by omega) rfl ?_
    refine g_aload_n (n := 72) ok 1 dX6_drawBy_71 rfl rfl rfl ?_
    refine g_dup (n := 73) ok dX6_drawBy_72 rfl rfl ?_
    refine g_get (n := 76) (v := vi ((up (up (up J9 56 (ix (I 52 5)) (nI foot)) 57 (ix (I 52 5)) push) 58 (ix (I 52 5)) lean) 52 5)) (c := 6) (k := 5) ok dX6_drawBy_73 clsX6 (by decide) q683 rfl rfl rfl ?_
    refine g_top (up_ne2 (by decide)) ?_
    refine g_top (up_ne2 (by decide)) ?_
    refine g_top (up_ne2 (by decide)) ?_
    refine g_iconst (n := 77) (v := 1) ok dX6_drawBy_76 rfl rfl ?_
    refine g_iadd (n := 78) ok dX6_drawBy_77 rfl ?_
    refine g_put (n := 81) (J := up (up (up (up J9 56 (ix (I 52 5)) (nI foot)) 57 (ix (I 52 5)) push) 58 (ix (I 52 5)) lean) 52 5 ((J9 52 5) + 1)) (c := 6) (k := 5) ok dX6_drawBy_78 clsX6 tyX6 tyX6_ok nmX6 (by decide) q683 rfl rfl (fun _ => rfl) (fun _ => rfl) (Nat.le_of_ble_eq_true rfl) (fs_6_5 _ _ _) up_ne rfl ?_
    refine g_iload (n := 83) ok 0 dX6_drawBy_81 rfl rfl ?_
    refine g_top (vx hq) ?_
    exact g_iret ok hr dX6_drawBy_83
  have L9 : ∀ (n9 i9 : Nat) (J9 : HI) (hJ : ∀ a, a ≠ 59 → J9 a = I a) (hi : i9 + n9 = 12), G E 7 ((some (vi (nI ((fX6_drawBy_x9 I foot push lean (fo n9 i9 (fun (i : Nat) (s : HI) => fX6_drawBy_b9 I kind foot push lean i s) J9)).1))), (fX6_drawBy_x9 I foot push lean (fo n9 i9 (fun (i : Nat) (s : HI) => fX6_drawBy_b9 I kind foot push lean i s) J9)).2)) J9 9 [(6, vi (nI i9)), (5, vi (I 52 5)), (0, vr 52), (1, vi kind), (2, vi (nI foot)), (3, vi push), (4, vi lean)] [] := by
    intro n9
    induction n9 with
    | zero =>
      intro i9 J9 hJ hi
      rw [fo_0]
      refine g_iload (n := 11) ok 0 dX6_drawBy_9 rfl rfl ?_
      refine g_bipush (n := 13) (v := 12) ok dX6_drawBy_11 rfl rfl ?_
      refine g_icmp_ge (n := 16) (tgt := 46) ok dX6_drawBy_13 (by decide) rfl (fun c => ?_) (fun c => absurd (nle (a := 12) (b := i9) rfl rfl (by omega) (by omega)) c)
      refine g_sub [1, 2, 4, 5, 6] rfl ?_
      exact X9 _ hJ
    | succ n9 ih =>
      intro i9 J9 hJ hi
      refine g_iload (n := 11) ok 0 dX6_drawBy_9 rfl rfl ?_
      refine g_bipush (n := 13) (v := 12) ok dX6_drawBy_11 rfl rfl ?_
      refine g_icmp_ge (n := 16) (tgt := 46) ok dX6_drawBy_13 (by decide) rfl (fun c => absurd c (nnle (a := 12) (b := i9) rfl rfl (by omega) (by omega))) (fun c => ?_)
      rw [fo_s]
      show G E 7 ((some (vi (nI ((fX6_drawBy_x9 I foot push lean (fo n9 (i9 + 1) (fun (i : Nat) (s : HI) => fX6_drawBy_b9 I kind foot push lean i s) (fX6_drawBy_b9 I kind foot push lean i9 J9))).1))), (fX6_drawBy_x9 I foot push lean (fo n9 (i9 + 1) (fun (i : Nat) (s : HI) => fX6_drawBy_b9 I kind foot push lean i s) (fX6_drawBy_b9 I kind foot push lean i9 J9))).2)) _ _ _ _
      rw [fX6_drawBy_b9]
      refine g_aload_n (n := 17) ok 2 dX6_drawBy_16 rfl rfl rfl ?_
      refine g_get (n := 20) (v := vr 59) (c := 6) (k := 9) ok dX6_drawBy_17 clsX6 (by decide) q687 rfl rfl rfl ?_
      refine g_bipush (n := 22) (v := 12) ok dX6_drawBy_20 rfl rfl ?_
      refine g_iload (n := 24) ok 1 dX6_drawBy_22 rfl rfl ?_
      refine g_imul (n := 25) ok dX6_drawBy_24 rfl ?_
      refine g_top (nv_imul (a := 12) (b := ix (I 52 5)) rfl (vx hq)) ?_
      refine g_iload (n := 27) ok 0 dX6_drawBy_25 rfl rfl ?_
      refine g_iadd (n := 28) ok dX6_drawBy_27 rfl ?_
      refine g_top (nv_iadd (a := 12 * (ix (I 52 5))) (b := i9) rfl rfl) ?_
      refine g_aload_n (n := 29) ok 2 dX6_drawBy_28 rfl rfl rfl ?_
      refine g_iload_n (n := 30) ok 3 dX6_drawBy_29 rfl rfl rfl ?_
      refine g_iload_n (n := 31) ok 4 dX6_drawBy_30 rfl rfl rfl ?_
      refine g_iload_n (n := 32) ok 5 dX6_drawBy_31 rfl rfl rfl ?_
      refine g_iload (n := 34) ok 6 dX6_drawBy_32 rfl rfl ?_
      refine g_iload (n := 36) ok 0 dX6_drawBy_34 rfl rfl ?_
      refine g_callV (n := 39) (rest := [vi (nI ((12 * (ix (I 52 5))) + i9)), vr 59]) (av := [vi kind, vi (nI foot), vi push, vi lean, vi (nI i9)]) (j := 52) ok (kX6_radiusBy J9 kind foot push lean i9 (by rw [hJ 52 (by omega)]; exact hq) (by first | with_reducible assumption | omega) (by first | with_reducible assumption | omega) (by first | with_reducible assumption | omega)) knX6_radiusBy q852 q854 qs39 clsX6 rfl dX6_drawBy_36 rfl rfl (Nat.le_of_ble_eq_true rfl) (by decide) (by decide) rfl ?_
      refine g_iast (n := 40) (i := (12 * (ix (I 52 5))) + i9) (L := 324) ok dX6_drawBy_39 rfl rfl rfl (by omega) rfl ?_
      refine g_iinc (n := 43) (v := nI (i9 + 1)) (lv' := [(6, vi (nI (i9 + 1))), (5, vi (I 52 5)), (0, vr 52), (1, vi kind), (2, vi (nI foot)), (3, vi push), (4, vi lean)]) ok 0 dX6_drawBy_40 rfl (iinc_n (a := i9) rfl) (by decide) rfl rfl ?_
      refine g_goto (tgt := 9) ok dX6_drawBy_43 (by decide) ?_
      exact ih (i9 + 1) _ (fun a h => (up_ne a h).trans (hJ a h)) (by omega)
  exact L9 12 0 _ (fun _ _ => rfl) (by omega)
theorem drawBy_tr {I : HI} {kind push lean : Int32} {foot : Nat} : (fX6_drawBy I kind foot push lean).2 52 5 = I 52 5 + 1 := by
  have h2 := fo_inv (fun _ (s : HI) => s 52 5 = I 52 5) (fun (i : Nat) (s : HI) => fX6_drawBy_b9 I kind foot push lean i s) 12 0 I rfl (fun k s _ _ hs => by
    show (up s 59 _ _) 52 5 = I 52 5
    rw [up_ne2 (by omega)]
    exact hs)
  unfold fX6_drawBy fX6_drawBy_x9
  dsimp only
  rw [up_v, h2]

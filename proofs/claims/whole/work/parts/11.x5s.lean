noncomputable def fX5_within (a0 : Int32) (a1 : Int32) (a2 : Int32) : Int32 :=
  if a0 < a1 then 0 else (if a2 < a0 then 0 else 1)
theorem zX5_within (a0 : Int32) (a1 : Int32) (a2 : Int32) : (fX5_within a0 a1 a2) = 0 ∨ (fX5_within a0 a1 a2) = 1 := by
  unfold fX5_within
  repeat' (first | (split) | exact Or.inl rfl | exact Or.inr rfl)
theorem knX5_within : Kn yX5_within cX5_within 3 (some .boolean) 3 := ⟨q195, q1, ⟨by decide, by decide⟩, by decide +kernel⟩
set_option maxHeartbeats 400000 in
set_option maxRecDepth 100000 in
theorem kX5_within (I : HI) (a0 : Int32) (a1 : Int32) (a2 : Int32) : Cx yX5_within cX5_within 3 (some .boolean) 0 0 [vi a0, vi a1, vi a2] I ((some (vi ((fX5_within a0 a1 a2))), I)) := by
  refine Cx.mk (lv := [(0, vi a0), (1, vi a1), (2, vi a2)]) (by decide) (Nat.le_of_ble_eq_true rfl) rfl (fun E ok hr => ?_)
  rw [fX5_within]
  refine g_iload_n (n := 1) ok 0 dX5_within_0 rfl rfl rfl ?_
  refine g_iload_n (n := 2) ok 1 dX5_within_1 rfl rfl rfl ?_
  refine g_icmp_lt (n := 5) (tgt := 14) ok dX5_within_2 (by decide) rfl (fun c1 => ?_) (fun c1 => ?_)
  · rw [if_pos c1]
    refine g_iconst (n := 15) (v := 0) ok dX5_within_14 rfl rfl ?_
    exact g_zret (x := 0) ok hr dX5_within_15 (by decide)
  · rw [if_neg c1]
    refine g_iload_n (n := 6) ok 0 dX5_within_5 rfl rfl rfl ?_
    refine g_iload_n (n := 7) ok 2 dX5_within_6 rfl rfl rfl ?_
    refine g_icmp_gt (n := 10) (tgt := 14) ok dX5_within_7 (by decide) rfl (fun c2 => ?_) (fun c2 => ?_)
    · rw [if_pos c2]
      refine g_iconst (n := 15) (v := 0) ok dX5_within_14 rfl rfl ?_
      exact g_zret (x := 0) ok hr dX5_within_15 (by decide)
    · rw [if_neg c2]
      refine g_iconst (n := 11) (v := 1) ok dX5_within_10 rfl rfl ?_
      refine g_goto (tgt := 15) ok dX5_within_11 (by decide) ?_
      exact g_zret (x := 1) ok hr dX5_within_15 (by decide)
theorem within_in2 {x : Int32} {a b : Nat} (h : ¬ fX5_within x (nI a) (nI b) = 0) (ha : a < 2 ^ 30) (hb : b < 2 ^ 30) : vp_in x (b + 1) := by
  unfold fX5_within at h
  split at h
  · exact absurd rfl h
  · rename_i c
    split at h
    · exact absurd rfl h
    · rename_i c2
      exact vp_of (a := b) (Int32.le_trans (nI_pos' (by omega)) (Int32.not_lt.mp c)) (Int32.not_lt.mp c2) (by omega) (by omega)
theorem within_ge {x : Int32} {a b : Nat} (h : ¬ fX5_within x (nI a) (nI b) = 0) (ha : a < 2 ^ 30) (hb : b < 2 ^ 30) : a ≤ ix x := by
  have h1 := within_in2 h ha hb
  unfold fX5_within at h
  split at h
  · exact absurd rfl h
  · rename_i c
    have c2 := Int32.not_lt.mp c
    rw [vx h1] at c2
    exact (nI_leI (by omega) (by have := vb h1; omega)).mp c2
theorem within_in1 {x : Int32} (h : ¬ fX5_within x 1 6 = 0) : vp_in x 7 := by
  unfold fX5_within at h
  split at h
  · exact absurd rfl h
  · rename_i c
    split at h
    · exact absurd rfl h
    · rename_i c2
      exact vp_of (a := 6) (Int32.le_of_lt (Int32.lt_of_lt_of_le (show (0 : Int32) < 1 by decide) (Int32.not_lt.mp c))) (Int32.not_lt.mp c2) (by omega) (by omega)
theorem within_in {x : Int32} {b : Nat} (h : ¬ fX5_within x 0 (nI b) = 0) (hb : b < 2 ^ 30) : vp_in x (b + 1) := by
  unfold fX5_within at h
  split at h
  · exact absurd rfl h
  · rename_i c
    split at h
    · exact absurd rfl h
    · rename_i c2
      exact vp_of (a := b) (Int32.not_lt.mp c) (Int32.not_lt.mp c2) (by omega) (by omega)

noncomputable def fX5_isFoot (a0 : Int32) : Int32 :=
  fX5_within a0 0 1
theorem zX5_isFoot (a0 : Int32) : (fX5_isFoot a0) = 0 ∨ (fX5_isFoot a0) = 1 := by
  unfold fX5_isFoot
  repeat' (first | (split) | exact Or.inl rfl | exact Or.inr rfl | exact zX5_within ..)
theorem knX5_isFoot : Kn yX5_isFoot cX5_isFoot 1 (some .boolean) 1 := ⟨q265, q1, ⟨by decide, by decide⟩, by decide +kernel⟩
set_option maxHeartbeats 400000 in
set_option maxRecDepth 100000 in
theorem kX5_isFoot (I : HI) (a0 : Int32) : Cx yX5_isFoot cX5_isFoot 1 (some .boolean) 1 22 [vi a0] I ((some (vi ((fX5_isFoot a0))), I)) := by
  refine Cx.mk (lv := [(0, vi a0)]) (by decide) (Nat.le_of_ble_eq_true rfl) rfl (fun E ok hr => ?_)
  rw [fX5_isFoot]
  refine g_iload_n (n := 1) ok 0 dX5_isFoot_0 rfl rfl rfl ?_
  refine g_iconst (n := 2) (v := 0) ok dX5_isFoot_1 rfl rfl ?_
  refine g_iconst (n := 3) (v := 1) ok dX5_isFoot_2 rfl rfl ?_
  refine g_callS (n := 6) (rest := []) (av := [vi a0, vi 0, vi 1]) ok (kX5_within I a0 0 1) knX5_within q193 q194 dX5_isFoot_3 rfl rfl (Nat.le_of_ble_eq_true rfl) (by decide) (by decide) rfl ?_
  exact g_zret (x := fX5_within a0 0 1) ok hr dX5_isFoot_6 (by first | exact zX5_within .. | exact zX5_within)
theorem isFoot_in {x : Int32} (h : ¬ fX5_isFoot x = 0) : vp_in x 2 := within_in (b := 1) h (by omega)

noncomputable def fX5_isHour (a0 : Int32) : Int32 :=
  fX5_within a0 0 11
theorem zX5_isHour (a0 : Int32) : (fX5_isHour a0) = 0 ∨ (fX5_isHour a0) = 1 := by
  unfold fX5_isHour
  repeat' (first | (split) | exact Or.inl rfl | exact Or.inr rfl | exact zX5_within ..)
theorem knX5_isHour : Kn yX5_isHour cX5_isHour 1 (some .boolean) 1 := ⟨q268, q1, ⟨by decide, by decide⟩, by decide +kernel⟩
set_option maxHeartbeats 400000 in
set_option maxRecDepth 100000 in
theorem kX5_isHour (I : HI) (a0 : Int32) : Cx yX5_isHour cX5_isHour 1 (some .boolean) 1 22 [vi a0] I ((some (vi ((fX5_isHour a0))), I)) := by
  refine Cx.mk (lv := [(0, vi a0)]) (by decide) (Nat.le_of_ble_eq_true rfl) rfl (fun E ok hr => ?_)
  rw [fX5_isHour]
  refine g_iload_n (n := 1) ok 0 dX5_isHour_0 rfl rfl rfl ?_
  refine g_iconst (n := 2) (v := 0) ok dX5_isHour_1 rfl rfl ?_
  refine g_bipush (n := 4) (v := 11) ok dX5_isHour_2 rfl rfl ?_
  refine g_callS (n := 7) (rest := []) (av := [vi a0, vi 0, vi 11]) ok (kX5_within I a0 0 11) knX5_within q193 q194 dX5_isHour_4 rfl rfl (Nat.le_of_ble_eq_true rfl) (by decide) (by decide) rfl ?_
  exact g_zret (x := fX5_within a0 0 11) ok hr dX5_isHour_7 (by first | exact zX5_within .. | exact zX5_within)
theorem isHour_in {x : Int32} (h : ¬ fX5_isHour x = 0) : vp_in x 12 := within_in (b := 11) h (by omega)

noncomputable def fX5_isSpot (a0 : Int32) (a1 : Int32) : Int32 :=
  if fX5_isFoot a0 = 0 then 0 else (if fX5_isHour a1 = 0 then 0 else 1)
theorem zX5_isSpot (a0 : Int32) (a1 : Int32) : (fX5_isSpot a0 a1) = 0 ∨ (fX5_isSpot a0 a1) = 1 := by
  unfold fX5_isSpot
  repeat' (first | (split) | exact Or.inl rfl | exact Or.inr rfl | exact zX5_isFoot .. | exact zX5_isHour ..)
theorem knX5_isSpot : Kn yX5_isSpot cX5_isSpot 2 (some .boolean) 2 := ⟨q262, q1, ⟨by decide, by decide⟩, by decide +kernel⟩
set_option maxHeartbeats 400000 in
set_option maxRecDepth 100000 in
theorem kX5_isSpot (I : HI) (a0 : Int32) (a1 : Int32) : Cx yX5_isSpot cX5_isSpot 2 (some .boolean) 2 42 [vi a0, vi a1] I ((some (vi ((fX5_isSpot a0 a1))), I)) := by
  refine Cx.mk (lv := [(0, vi a0), (1, vi a1)]) (by decide) (Nat.le_of_ble_eq_true rfl) rfl (fun E ok hr => ?_)
  rw [fX5_isSpot]
  refine g_iload_n (n := 1) ok 0 dX5_isSpot_0 rfl rfl rfl ?_
  refine g_callS (n := 4) (rest := []) (av := [vi a0]) ok (kX5_isFoot I a0) knX5_isFoot q263 q264 dX5_isSpot_1 rfl rfl (Nat.le_of_ble_eq_true rfl) (by decide) (by decide) rfl ?_
  refine g_if_eq (n := 7) (tgt := 18) ok dX5_isSpot_4 (by decide) rfl (fun c1 => ?_) (fun c1 => ?_)
  · rw [if_pos c1]
    refine g_iconst (n := 19) (v := 0) ok dX5_isSpot_18 rfl rfl ?_
    exact g_zret (x := 0) ok hr dX5_isSpot_19 (by decide)
  · rw [if_neg c1]
    have ha2 : vp_in a0 2 := isFoot_in c1
    have ha2b := vb ha2
    refine g_iload_n (n := 8) ok 1 dX5_isSpot_7 rfl rfl rfl ?_
    refine g_callS (n := 11) (rest := []) (av := [vi a1]) ok (kX5_isHour I a1) knX5_isHour q266 q267 dX5_isSpot_8 rfl rfl (Nat.le_of_ble_eq_true rfl) (by decide) (by decide) rfl ?_
    refine g_if_eq (n := 14) (tgt := 18) ok dX5_isSpot_11 (by decide) rfl (fun c3 => ?_) (fun c3 => ?_)
    · rw [if_pos c3]
      refine g_iconst (n := 19) (v := 0) ok dX5_isSpot_18 rfl rfl ?_
      exact g_zret (x := 0) ok hr dX5_isSpot_19 (by decide)
    · rw [if_neg c3]
      have ha4 : vp_in a1 12 := isHour_in c3
      have ha4b := vb ha4
      refine g_iconst (n := 15) (v := 1) ok dX5_isSpot_14 rfl rfl ?_
      refine g_goto (tgt := 19) ok dX5_isSpot_15 (by decide) ?_
      exact g_zret (x := 1) ok hr dX5_isSpot_19 (by decide)
theorem isSpot_in1 {x y : Int32} (h : ¬ fX5_isSpot x y = 0) : vp_in x 2 := by
  unfold fX5_isSpot at h
  split at h
  · exact absurd rfl h
  · rename_i c
    exact isFoot_in c
theorem isSpot_in2 {x y : Int32} (h : ¬ fX5_isSpot x y = 0) : vp_in y 12 := by
  unfold fX5_isSpot at h
  split at h
  · exact absurd rfl h
  · split at h
    · exact absurd rfl h
    · rename_i c
      exact isHour_in c

noncomputable def fX5_strokeFault (a0 : Int32) (a1 : Int32) : Int32 :=
  if a0 < 1 then (-4) else (if 1 ≤ a1 then (if 9 < a0 then (-6) else (if a1 ≤ 9 then 0 else (-6))) else (-4))
theorem knX5_strokeFault : Kn yX5_strokeFault cX5_strokeFault 2 (some .int) 2 := ⟨q272, q1, ⟨by decide, by decide⟩, by decide +kernel⟩
set_option maxHeartbeats 400000 in
set_option maxRecDepth 100000 in
theorem kX5_strokeFault (I : HI) (a0 : Int32) (a1 : Int32) : Cx yX5_strokeFault cX5_strokeFault 2 (some .int) 0 0 [vi a0, vi a1] I ((some (vi ((fX5_strokeFault a0 a1))), I)) := by
  refine Cx.mk (lv := [(0, vi a0), (1, vi a1)]) (by decide) (Nat.le_of_ble_eq_true rfl) rfl (fun E ok hr => ?_)
  rw [fX5_strokeFault]
  refine g_iload_n (n := 1) ok 0 dX5_strokeFault_0 rfl rfl rfl ?_
  refine g_iconst (n := 2) (v := 1) ok dX5_strokeFault_1 rfl rfl ?_
  refine g_icmp_lt (n := 5) (tgt := 10) ok dX5_strokeFault_2 (by decide) rfl (fun c1 => ?_) (fun c1 => ?_)
  · rw [if_pos c1]
    refine g_bipush (n := 12) (v := -4) ok dX5_strokeFault_10 rfl rfl ?_
    exact g_iret ok hr dX5_strokeFault_12
  · rw [if_neg c1]
    refine g_iload_n (n := 6) ok 1 dX5_strokeFault_5 rfl rfl rfl ?_
    refine g_iconst (n := 7) (v := 1) ok dX5_strokeFault_6 rfl rfl ?_
    refine g_icmp_ge (n := 10) (tgt := 13) ok dX5_strokeFault_7 (by decide) rfl (fun c2 => ?_) (fun c2 => ?_)
    · rw [if_pos c2]
      refine g_iload_n (n := 14) ok 0 dX5_strokeFault_13 rfl rfl rfl ?_
      refine g_bipush (n := 16) (v := 9) ok dX5_strokeFault_14 rfl rfl ?_
      refine g_icmp_gt (n := 19) (tgt := 25) ok dX5_strokeFault_16 (by decide) rfl (fun c3 => ?_) (fun c3 => ?_)
      · rw [if_pos c3]
        refine g_bipush (n := 27) (v := -6) ok dX5_strokeFault_25 rfl rfl ?_
        refine g_goto (tgt := 31) ok dX5_strokeFault_27 (by decide) ?_
        exact g_iret ok hr dX5_strokeFault_31
      · rw [if_neg c3]
        refine g_iload_n (n := 20) ok 1 dX5_strokeFault_19 rfl rfl rfl ?_
        refine g_bipush (n := 22) (v := 9) ok dX5_strokeFault_20 rfl rfl ?_
        refine g_icmp_le (n := 25) (tgt := 30) ok dX5_strokeFault_22 (by decide) rfl (fun c4 => ?_) (fun c4 => ?_)
        · rw [if_pos c4]
          refine g_iconst (n := 31) (v := 0) ok dX5_strokeFault_30 rfl rfl ?_
          exact g_iret ok hr dX5_strokeFault_31
        · rw [if_neg c4]
          refine g_bipush (n := 27) (v := -6) ok dX5_strokeFault_25 rfl rfl ?_
          refine g_goto (tgt := 31) ok dX5_strokeFault_27 (by decide) ?_
          exact g_iret ok hr dX5_strokeFault_31
    · rw [if_neg c2]
      refine g_bipush (n := 12) (v := -4) ok dX5_strokeFault_10 rfl rfl ?_
      exact g_iret ok hr dX5_strokeFault_12

noncomputable def fX5_rangeFault (a0 : Int32) (a1 : Int32) (a2 : Int32) : Int32 :=
  if a1 ≤ a0 then (if a0 ≤ a2 then 0 else (-6)) else (-4)
theorem knX5_rangeFault : Kn yX5_rangeFault cX5_rangeFault 3 (some .int) 3 := ⟨q188, q1, ⟨by decide, by decide⟩, by decide +kernel⟩
set_option maxHeartbeats 400000 in
set_option maxRecDepth 100000 in
theorem kX5_rangeFault (I : HI) (a0 : Int32) (a1 : Int32) (a2 : Int32) : Cx yX5_rangeFault cX5_rangeFault 3 (some .int) 0 0 [vi a0, vi a1, vi a2] I ((some (vi ((fX5_rangeFault a0 a1 a2))), I)) := by
  refine Cx.mk (lv := [(0, vi a0), (1, vi a1), (2, vi a2)]) (by decide) (Nat.le_of_ble_eq_true rfl) rfl (fun E ok hr => ?_)
  rw [fX5_rangeFault]
  refine g_iload_n (n := 1) ok 0 dX5_rangeFault_0 rfl rfl rfl ?_
  refine g_iload_n (n := 2) ok 1 dX5_rangeFault_1 rfl rfl rfl ?_
  refine g_icmp_ge (n := 5) (tgt := 8) ok dX5_rangeFault_2 (by decide) rfl (fun c1 => ?_) (fun c1 => ?_)
  · rw [if_pos c1]
    refine g_iload_n (n := 9) ok 0 dX5_rangeFault_8 rfl rfl rfl ?_
    refine g_iload_n (n := 10) ok 2 dX5_rangeFault_9 rfl rfl rfl ?_
    refine g_icmp_le (n := 13) (tgt := 18) ok dX5_rangeFault_10 (by decide) rfl (fun c2 => ?_) (fun c2 => ?_)
    · rw [if_pos c2]
      refine g_iconst (n := 19) (v := 0) ok dX5_rangeFault_18 rfl rfl ?_
      exact g_iret ok hr dX5_rangeFault_19
    · rw [if_neg c2]
      refine g_bipush (n := 15) (v := -6) ok dX5_rangeFault_13 rfl rfl ?_
      refine g_goto (tgt := 19) ok dX5_rangeFault_15 (by decide) ?_
      exact g_iret ok hr dX5_rangeFault_19
  · rw [if_neg c1]
    refine g_bipush (n := 7) (v := -4) ok dX5_rangeFault_5 rfl rfl ?_
    exact g_iret ok hr dX5_rangeFault_7
theorem rangeFault_in {x k : Int32} {b : Nat} (h : fX5_rangeFault x k (nI b) = 0) (hk : 0 ≤ k) (hb : b < 2 ^ 30) : vp_in x (b + 1) := by
  unfold fX5_rangeFault at h
  split at h
  · rename_i c
    split at h
    · rename_i c2
      exact vp_of (a := b) (Int32.le_trans hk c) c2 (by omega) (by omega)
    · exact absurd h (by decide)
  · exact absurd h (by decide)

noncomputable def fX5_footAndStrokeFault (a0 : Int32) (a1 : Int32) (a2 : Int32) : Int32 :=
  if fX5_isFoot a0 = 0 then (-1) else fX5_strokeFault a1 a2
theorem knX5_footAndStrokeFault : Kn yX5_footAndStrokeFault cX5_footAndStrokeFault 3 (some .int) 3 := ⟨q359, q1, ⟨by decide, by decide⟩, by decide +kernel⟩
set_option maxHeartbeats 400000 in
set_option maxRecDepth 100000 in
theorem kX5_footAndStrokeFault (I : HI) (a0 : Int32) (a1 : Int32) (a2 : Int32) : Cx yX5_footAndStrokeFault cX5_footAndStrokeFault 3 (some .int) 2 42 [vi a0, vi a1, vi a2] I ((some (vi ((fX5_footAndStrokeFault a0 a1 a2))), I)) := by
  refine Cx.mk (lv := [(0, vi a0), (1, vi a1), (2, vi a2)]) (by decide) (Nat.le_of_ble_eq_true rfl) rfl (fun E ok hr => ?_)
  rw [fX5_footAndStrokeFault]
  refine g_iload_n (n := 1) ok 0 dX5_footAndStrokeFault_0 rfl rfl rfl ?_
  refine g_callS (n := 4) (rest := []) (av := [vi a0]) ok (kX5_isFoot I a0) knX5_isFoot q263 q264 dX5_footAndStrokeFault_1 rfl rfl (Nat.le_of_ble_eq_true rfl) (by decide) (by decide) rfl ?_
  refine g_if_eq (n := 7) (tgt := 15) ok dX5_footAndStrokeFault_4 (by decide) rfl (fun c1 => ?_) (fun c1 => ?_)
  · rw [if_pos c1]
    refine g_iconst (n := 16) (v := -1) ok dX5_footAndStrokeFault_15 rfl rfl ?_
    exact g_iret ok hr dX5_footAndStrokeFault_16
  · rw [if_neg c1]
    have ha2 : vp_in a0 2 := isFoot_in c1
    have ha2b := vb ha2
    refine g_iload_n (n := 8) ok 1 dX5_footAndStrokeFault_7 rfl rfl rfl ?_
    refine g_iload_n (n := 9) ok 2 dX5_footAndStrokeFault_8 rfl rfl rfl ?_
    refine g_callS (n := 12) (rest := []) (av := [vi a1, vi a2]) ok (kX5_strokeFault I a1 a2) knX5_strokeFault q360 q271 dX5_footAndStrokeFault_9 rfl rfl (Nat.le_of_ble_eq_true rfl) (by decide) (by decide) rfl ?_
    refine g_goto (tgt := 16) ok dX5_footAndStrokeFault_12 (by decide) ?_
    exact g_iret ok hr dX5_footAndStrokeFault_16
theorem footFault_in {x y z : Int32} (h : fX5_footAndStrokeFault x y z = 0) : vp_in x 2 := by
  unfold fX5_footAndStrokeFault at h
  split at h
  · exact absurd h (by decide)
  · rename_i c
    exact isFoot_in c

noncomputable def fX5_growthFault (a0 : Int32) (a1 : Int32) (a2 : Int32) : Int32 :=
  if fX5_strokeFault a0 a1 = (-4) then (-4) else (if fX5_rangeFault a2 2 9 = (-4) then (-4) else (if fX5_strokeFault a0 a1 = 0 then fX5_rangeFault a2 2 9 else fX5_strokeFault a0 a1))
theorem knX5_growthFault : Kn yX5_growthFault cX5_growthFault 5 (some .int) 3 := ⟨q477, q1, ⟨by decide, by decide⟩, by decide +kernel⟩
set_option maxHeartbeats 400000 in
set_option maxRecDepth 100000 in
theorem kX5_growthFault (I : HI) (a0 : Int32) (a1 : Int32) (a2 : Int32) : Cx yX5_growthFault cX5_growthFault 5 (some .int) 1 22 [vi a0, vi a1, vi a2] I ((some (vi ((fX5_growthFault a0 a1 a2))), I)) := by
  refine Cx.mk (lv := [(0, vi a0), (1, vi a1), (2, vi a2)]) (by decide) (Nat.le_of_ble_eq_true rfl) rfl (fun E ok hr => ?_)
  rw [fX5_growthFault]
  refine g_iload_n (n := 1) ok 0 dX5_growthFault_0 rfl rfl rfl ?_
  refine g_iload_n (n := 2) ok 1 dX5_growthFault_1 rfl rfl rfl ?_
  refine g_callS (n := 5) (rest := []) (av := [vi a0, vi a1]) ok (kX5_strokeFault I a0 a1) knX5_strokeFault q360 q271 dX5_growthFault_2 rfl rfl (Nat.le_of_ble_eq_true rfl) (by decide) (by decide) rfl ?_
  refine g_istore_n (n := 6) (lv' := [(3, vi (fX5_strokeFault a0 a1)), (0, vi a0), (1, vi a1), (2, vi a2)]) ok dX5_growthFault_5 rfl (by decide) rfl rfl ?_
  refine g_iload_n (n := 7) ok 3 dX5_growthFault_6 rfl rfl rfl ?_
  refine g_iconst (n := 8) (v := 2) ok dX5_growthFault_7 rfl rfl ?_
  refine g_bipush (n := 10) (v := 9) ok dX5_growthFault_8 rfl rfl ?_
  refine g_callS (n := 13) (rest := []) (av := [vi a2, vi 2, vi 9]) ok (kX5_rangeFault I a2 2 9) knX5_rangeFault q186 q187 dX5_growthFault_10 rfl rfl (Nat.le_of_ble_eq_true rfl) (by decide) (by decide) rfl ?_
  refine g_istore (n := 15) (lv' := [(4, vi (fX5_rangeFault a2 2 9)), (3, vi (fX5_strokeFault a0 a1)), (0, vi a0), (1, vi a1), (2, vi a2)]) ok dX5_growthFault_13 (by decide) rfl rfl ?_
  refine g_iload_n (n := 16) ok 1 dX5_growthFault_15 rfl rfl rfl ?_
  refine g_bipush (n := 18) (v := -4) ok dX5_growthFault_16 rfl rfl ?_
  refine g_icmp_eq (n := 21) (tgt := 28) ok dX5_growthFault_18 (by decide) rfl (fun c1 => ?_) (fun c1 => ?_)
  · rw [if_pos c1]
    refine g_bipush (n := 30) (v := -4) ok dX5_growthFault_28 rfl rfl ?_
    exact g_iret ok hr dX5_growthFault_30
  · rw [if_neg c1]
    refine g_iload (n := 23) ok 0 dX5_growthFault_21 rfl rfl ?_
    refine g_bipush (n := 25) (v := -4) ok dX5_growthFault_23 rfl rfl ?_
    refine g_icmp_ne (n := 28) (tgt := 31) ok dX5_growthFault_25 (by decide) rfl (fun c2 => ?_) (fun c2 => ?_)
    · rw [if_neg c2]
      refine g_iload_n (n := 32) ok 1 dX5_growthFault_31 rfl rfl rfl ?_
      refine g_if_eq (n := 35) (tgt := 39) ok dX5_growthFault_32 (by decide) rfl (fun c3 => ?_) (fun c3 => ?_)
      · rw [if_pos c3]
        refine g_iload (n := 41) ok 0 dX5_growthFault_39 rfl rfl ?_
        exact g_iret ok hr dX5_growthFault_41
      · rw [if_neg c3]
        refine g_iload_n (n := 36) ok 1 dX5_growthFault_35 rfl rfl rfl ?_
        refine g_goto (tgt := 41) ok dX5_growthFault_36 (by decide) ?_
        exact g_iret ok hr dX5_growthFault_41
    · rw [if_pos c2]
      refine g_bipush (n := 30) (v := -4) ok dX5_growthFault_28 rfl rfl ?_
      exact g_iret ok hr dX5_growthFault_30
theorem growthFault_r {x y z : Int32} (h : fX5_growthFault x y z = 0) : fX5_rangeFault z 2 9 = 0 := by
  unfold fX5_growthFault at h
  split at h
  · exact absurd h (by decide)
  · split at h
    · exact absurd h (by decide)
    · split at h
      · exact h
      · rename_i c
        exact absurd h c
theorem growthFault_in {x y z : Int32} (h : fX5_growthFault x y z = 0) : vp_in z 10 := rangeFault_in (b := 9) (growthFault_r h) (by decide) (by omega)
theorem growthFault_ge {x y z : Int32} (h : fX5_growthFault x y z = 0) : 2 ≤ ix z := by
  have h1 := growthFault_in h
  have h2 := growthFault_r h
  unfold fX5_rangeFault at h2
  split at h2
  · rename_i c
    rw [vx h1] at c
    exact (nI_leI (by omega) (by have := vb h1; omega)).mp c
  · exact absurd h2 (by decide)

noncomputable def fX5_bounded (a0 : Int32) (a1 : Int32) : Int32 :=
  iMax 0 (iMin a0 a1)
theorem knX5_bounded : Kn yX5_bounded cX5_bounded 2 (some .int) 2 := ⟨q332, q1, ⟨by decide, by decide⟩, by decide +kernel⟩
set_option maxHeartbeats 400000 in
set_option maxRecDepth 100000 in
theorem kX5_bounded (I : HI) (a0 : Int32) (a1 : Int32) : Cx yX5_bounded cX5_bounded 2 (some .int) 1 21 [vi a0, vi a1] I ((some (vi ((fX5_bounded a0 a1))), I)) := by
  refine Cx.mk (lv := [(0, vi a0), (1, vi a1)]) (by decide) (Nat.le_of_ble_eq_true rfl) rfl (fun E ok hr => ?_)
  rw [fX5_bounded]
  refine g_iconst (n := 1) (v := 0) ok dX5_bounded_0 rfl rfl ?_
  refine g_iload_n (n := 2) ok 0 dX5_bounded_1 rfl rfl rfl ?_
  refine g_iload_n (n := 3) ok 1 dX5_bounded_2 rfl rfl rfl ?_
  refine g_mmin (n := 6) (rest := [vi 0]) ok dX5_bounded_3 q333 q297 q298 (Nat.le_of_ble_eq_true rfl) (by decide) (by decide) rfl ?_
  refine g_mmax (n := 9) (rest := []) ok dX5_bounded_6 q334 q305 q306 (Nat.le_of_ble_eq_true rfl) (by decide) (by decide) rfl ?_
  exact g_iret ok hr dX5_bounded_9

noncomputable def fX5_spot (p : Nat) (h : Nat) : Nat :=
  (p * 12) + h
theorem knX5_spot : Kn yX5_spot cX5_spot 2 (some .int) 2 := ⟨q279, q1, ⟨by decide, by decide⟩, by decide +kernel⟩
set_option maxHeartbeats 400000 in
set_option maxRecDepth 100000 in
theorem kX5_spot (I : HI) (p : Nat) (h : Nat) : Cx yX5_spot cX5_spot 2 (some .int) 0 0 [vi (nI p), vi (nI h)] I ((some (vi (nI (fX5_spot p h))), I)) := by
  refine Cx.mk (lv := [(0, vi (nI p)), (1, vi (nI h))]) (by decide) (Nat.le_of_ble_eq_true rfl) rfl (fun E ok hr => ?_)
  rw [fX5_spot]
  refine g_iload_n (n := 1) ok 0 dX5_spot_0 rfl rfl rfl ?_
  refine g_bipush (n := 3) (v := 12) ok dX5_spot_1 rfl rfl ?_
  refine g_imul (n := 4) ok dX5_spot_3 rfl ?_
  refine g_top (nv_imul (a := p) (b := 12) rfl rfl) ?_
  refine g_iload_n (n := 5) ok 1 dX5_spot_4 rfl rfl rfl ?_
  refine g_iadd (n := 6) ok dX5_spot_5 rfl ?_
  refine g_top (nv_iadd (a := p * 12) (b := h) rfl rfl) ?_
  exact g_iret ok hr dX5_spot_6

noncomputable def fX5_hourAhead (h : Nat) : Nat :=
  if nI h = 0 then 11 else h - 1
theorem knX5_hourAhead : Kn yX5_hourAhead cX5_hourAhead 1 (some .int) 1 := ⟨q321, q1, ⟨by decide, by decide⟩, by decide +kernel⟩
set_option maxHeartbeats 400000 in
set_option maxRecDepth 100000 in
theorem kX5_hourAhead (I : HI) (h : Nat) (hh : h < 12) : Cx yX5_hourAhead cX5_hourAhead 1 (some .int) 0 0 [vi (nI h)] I ((some (vi (nI (fX5_hourAhead h))), I)) := by
  refine Cx.mk (lv := [(0, vi (nI h))]) (by decide) (Nat.le_of_ble_eq_true rfl) rfl (fun E ok hr => ?_)
  rw [fX5_hourAhead]
  refine g_iload_n (n := 1) ok 0 dX5_hourAhead_0 rfl rfl rfl ?_
  refine g_if_ne (n := 4) (tgt := 9) ok dX5_hourAhead_1 (by decide) rfl (fun c1 => ?_) (fun c1 => ?_)
  · rw [if_neg c1]
    have h0 : h ≠ 0 := fun e => c1 (by rw [e]; rfl)
    refine g_iload_n (n := 10) ok 0 dX5_hourAhead_9 rfl rfl rfl ?_
    refine g_iconst (n := 11) (v := 1) ok dX5_hourAhead_10 rfl rfl ?_
    refine g_isub (n := 12) ok dX5_hourAhead_11 rfl ?_
    refine g_top (nv_isub (a := h) (b := 1) rfl rfl (by omega)) ?_
    exact g_iret ok hr dX5_hourAhead_12
  · rw [if_pos c1]
    refine g_bipush (n := 6) (v := 11) ok dX5_hourAhead_4 rfl rfl ?_
    refine g_goto (tgt := 12) ok dX5_hourAhead_6 (by decide) ?_
    exact g_iret ok hr dX5_hourAhead_12
theorem fX5_hourAhead_lt (h : Nat) (hh : h < 12) : fX5_hourAhead h < 12 := by
  unfold fX5_hourAhead
  split <;> omega

noncomputable def fX5_hourBehind (h : Nat) : Nat :=
  if nI h = 11 then 0 else h + 1
theorem knX5_hourBehind : Kn yX5_hourBehind cX5_hourBehind 1 (some .int) 1 := ⟨q411, q1, ⟨by decide, by decide⟩, by decide +kernel⟩
set_option maxHeartbeats 400000 in
set_option maxRecDepth 100000 in
theorem kX5_hourBehind (I : HI) (h : Nat) (hh : h < 12) : Cx yX5_hourBehind cX5_hourBehind 1 (some .int) 0 0 [vi (nI h)] I ((some (vi (nI (fX5_hourBehind h))), I)) := by
  refine Cx.mk (lv := [(0, vi (nI h))]) (by decide) (Nat.le_of_ble_eq_true rfl) rfl (fun E ok hr => ?_)
  rw [fX5_hourBehind]
  refine g_iload_n (n := 1) ok 0 dX5_hourBehind_0 rfl rfl rfl ?_
  refine g_bipush (n := 3) (v := 11) ok dX5_hourBehind_1 rfl rfl ?_
  refine g_icmp_ne (n := 6) (tgt := 10) ok dX5_hourBehind_3 (by decide) rfl (fun c1 => ?_) (fun c1 => ?_)
  · rw [if_neg c1]
    refine g_iload_n (n := 11) ok 0 dX5_hourBehind_10 rfl rfl rfl ?_
    refine g_iconst (n := 12) (v := 1) ok dX5_hourBehind_11 rfl rfl ?_
    refine g_iadd (n := 13) ok dX5_hourBehind_12 rfl ?_
    refine g_top (nv_iadd (a := h) (b := 1) rfl rfl) ?_
    exact g_iret ok hr dX5_hourBehind_13
  · rw [if_pos c1]
    refine g_iconst (n := 7) (v := 0) ok dX5_hourBehind_6 rfl rfl ?_
    refine g_goto (tgt := 13) ok dX5_hourBehind_7 (by decide) ?_
    exact g_iret ok hr dX5_hourBehind_13
theorem fX5_hourBehind_lt (h : Nat) (hh : h < 12) : fX5_hourBehind h < 12 := by
  unfold fX5_hourBehind
  split
  · omega
  · rename_i c
    have : h ≠ 11 := fun e => c (by rw [e]; rfl)
    omega

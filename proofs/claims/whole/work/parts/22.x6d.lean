theorem rem_lt (x : Int32) {y : Int32} (h : ¬ y = 0) : ((x - x / y * y).toInt).natAbs < (y.toInt).natAbs := by
  rw [rem_toInt, Int.natAbs_tmod]
  refine Nat.mod_lt _ ?_
  rcases Nat.eq_zero_or_pos (y.toInt).natAbs with e | e
  · exact absurd (Int32.toInt_inj.mp (show y.toInt = (0 : Int32).toInt from Int.natAbs_eq_zero.mp e)) h
  · exact e
theorem in6_in2 {x : Int32} {a b : Nat} (h : ¬ fX6_in x.toInt64 (lN a) (lN b) = 0) (ha : a < 2 ^ 30) (hb : b < 2 ^ 30) : vp_in x (b + 1) := by
  obtain ⟨h1, h2⟩ := in6_both h
  refine vp_of (a := b) (Int32.le_trans (nI_pos' (n := a) (by omega)) (le64.mp ?_)) (le64.mp ?_) (by omega) (by omega)
  · rw [nI_l (by omega)]; exact h1
  · rw [nI_l (by omega)]; exact h2
theorem in6_ge {x : Int32} {a b : Nat} (h : ¬ fX6_in x.toInt64 (lN a) (lN b) = 0) (ha : a < 2 ^ 30) (hb : b < 2 ^ 30) : a ≤ ix x := by
  have h3 := in6_in2 h ha hb
  obtain ⟨h1, h2⟩ := in6_both h
  have h4 : nI a ≤ x := le64.mp (by rw [nI_l (by omega)]; exact h1)
  rw [vx h3] at h4
  exact (nI_leI (by omega) (by have := vb h3; omega)).mp h4
theorem in6_hi {x : Int32} {lo : Int64} (h : ¬ fX6_in x.toInt64 lo 11 = 0) (h0 : 0 ≤ x) : vp_in x 12 := by
  obtain ⟨h1, h2⟩ := in6_both h
  refine vp_of (a := 11) h0 (le64.mp ?_) (by omega) (by omega)
  rw [nI_l (by omega)]; exact h2
theorem wrongGrowth_ne {x y z : Int32} (h : 0 ≤ fX6_wrongGrowth x y z) : ¬ y = 0 := by
  intro e
  subst e
  unfold fX6_wrongGrowth at h
  split at h
  · exact absurd h (by decide)
  · rw [if_pos (by decide)] at h
    exact absurd h (by decide)
theorem wrongGrowth_z {x y z : Int32} (h : 0 ≤ fX6_wrongGrowth x y z) : 2 ≤ z ∧ z ≤ 9 := by
  unfold fX6_wrongGrowth at h
  split at h
  · exact absurd h (by decide)
  · split at h
    · exact absurd h (by decide)
    · split at h
      · rename_i c
        refine ⟨c, ?_⟩
        split at h
        · exact absurd h (by decide)
        · split at h
          · exact absurd h (by decide)
          · split at h
            · assumption
            · exact absurd h (by decide)
      · exact absurd h (by decide)
theorem wrongGrowth_in10 {x y z : Int32} (h : 0 ≤ fX6_wrongGrowth x y z) : vp_in z 10 := by
  obtain ⟨h1, h2⟩ := wrongGrowth_z h
  exact vp_of (a := 9) (Int32.le_trans (by decide) h1) h2 (by omega) (by omega)
theorem wrongGrowth_ge {x y z : Int32} (h : 0 ≤ fX6_wrongGrowth x y z) : 2 ≤ ix z := ixge (n := 2) (wrongGrowth_in10 h) (wrongGrowth_z h).1 (by omega) (by omega)
theorem add_sub1 (x : Int32) : x + 1 - 1 = x := Int32.add_sub_cancel x 1
noncomputable def fX6_divisor_x4 (x4_3 : Int32) (x4_2 : Int32) : Int32 :=
  x4_2
noncomputable def fX6_divisor_b4 (x4_3 : Int32) (x4_2 : Int32) : (Int32 × Int32) ⊕ (Int32 × Int32) :=
  if x4_3 = 0 then Sum.inl (x4_3, x4_2) else Sum.inr (x4_2 - x4_2 / x4_3 * x4_3, x4_3)
noncomputable def fX6_divisor (a : Int32) (b : Int32) : Int32 :=
  (fun (s : Int32 × Int32) => fX6_divisor_x4 s.1 s.2) (wh ((b.toInt).natAbs + 1) (fun (s : Int32 × Int32) => fX6_divisor_b4 s.1 s.2) (b, a))
theorem knX6_divisor : Kn yX6_divisor cX6_divisor 5 (some .int) 2 := ⟨q965, q8, ⟨by decide, by decide⟩, by decide +kernel⟩
set_option maxHeartbeats 400000 in
set_option maxRecDepth 100000 in
theorem kX6_divisor (I : HI) (a : Int32) (b : Int32) : Cx yX6_divisor cX6_divisor 5 (some .int) 0 0 [vi a, vi b] I ((some (vi ((fX6_divisor a b))), I)) := by
  refine Cx.mk (lv := [(0, vi a), (1, vi b)]) (by decide) (Nat.le_of_ble_eq_true rfl) rfl (fun E ok hr => ?_)
  rw [fX6_divisor]
  refine g_iload_n (n := 1) ok 0 dX6_divisor_0 rfl rfl rfl ?_
  refine g_istore_n (n := 2) (lv' := [(2, vi a), (0, vi a), (1, vi b)]) ok dX6_divisor_1 rfl (by decide) rfl rfl ?_
  refine g_iload_n (n := 3) ok 2 dX6_divisor_2 rfl rfl rfl ?_
  refine g_istore_n (n := 4) (lv' := [(3, vi b), (2, vi a), (0, vi a), (1, vi b)]) ok dX6_divisor_3 rfl (by decide) rfl rfl ?_
  have X4 : ∀ (x4_3 : Int32) (x4_2 : Int32), G E 5 ((some (vi ((fX6_divisor_x4 x4_3 x4_2))), I)) I 21 [(2, vi x4_2)] [] := by
    intro x4_3 x4_2
    rw [fX6_divisor_x4]
    refine g_iload_n (n := 22) ok 0 dX6_divisor_21 rfl rfl rfl ?_
    exact g_iret ok hr dX6_divisor_22
  have L4 : ∀ (n4 : Nat) (x4_3 : Int32) (x4_2 : Int32) (hm : (x4_3.toInt).natAbs < n4), G E 5 ((some (vi (((fun (s : Int32 × Int32) => fX6_divisor_x4 s.1 s.2) (wh n4 (fun (s : Int32 × Int32) => fX6_divisor_b4 s.1 s.2) (x4_3, x4_2))))), I)) I 4 [(3, vi x4_3), (2, vi x4_2)] [] := by
    intro n4
    induction n4 with
    | zero =>
      intro x4_3 x4_2 hm
      exact absurd hm (Nat.not_lt_zero _)
    | succ n4 ih =>
      intro x4_3 x4_2 hm
      rw [wh_s]
      show G E 5 ((some (vi (((fun (s : Int32 × Int32) => fX6_divisor_x4 s.1 s.2) (Sum.elim id (fun (s : Int32 × Int32) => wh n4 (fun (s : Int32 × Int32) => fX6_divisor_b4 s.1 s.2) s) (fX6_divisor_b4 x4_3 x4_2))))), I)) _ _ _ _
      rw [fX6_divisor_b4]
      refine g_iload_n (n := 5) ok 0 dX6_divisor_4 rfl rfl rfl ?_
      refine g_if_eq (n := 8) (tgt := 21) ok dX6_divisor_5 (by decide) rfl (fun c1 => ?_) (fun c1 => ?_)
      · rw [if_pos c1]
        refine g_sub [1] rfl ?_
        exact X4 x4_3 x4_2
      · rw [if_neg c1]
        have c10 := c1
        have hml := rem_lt x4_2 c1
        refine g_iload_n (n := 9) ok 1 dX6_divisor_8 rfl rfl rfl ?_
        refine g_iload_n (n := 10) ok 0 dX6_divisor_9 rfl rfl rfl ?_
        refine g_irem (n := 11) ok dX6_divisor_10 c10 rfl ?_
        refine g_istore (n := 13) (lv' := [(4, vi (x4_2 - x4_2 / x4_3 * x4_3)), (3, vi x4_3), (2, vi x4_2)]) ok dX6_divisor_11 (by decide) rfl rfl ?_
        refine g_iload_n (n := 14) ok 1 dX6_divisor_13 rfl rfl rfl ?_
        refine g_istore_n (n := 15) (lv' := [(2, vi x4_3), (4, vi (x4_2 - x4_2 / x4_3 * x4_3)), (3, vi x4_3)]) ok dX6_divisor_14 rfl (by decide) rfl rfl ?_
        refine g_iload (n := 17) ok 1 dX6_divisor_15 rfl rfl ?_
        refine g_istore_n (n := 18) (lv' := [(3, vi (x4_2 - x4_2 / x4_3 * x4_3)), (2, vi x4_3), (4, vi (x4_2 - x4_2 / x4_3 * x4_3))]) ok dX6_divisor_17 rfl (by decide) rfl rfl ?_
        refine g_goto (tgt := 4) ok dX6_divisor_18 (by decide) ?_
        refine g_sub [0, 1] rfl ?_
        exact ih (x4_2 - x4_2 / x4_3 * x4_3) x4_3 (by omega)
  refine g_sub [0, 1] rfl ?_
  exact L4 ((b.toInt).natAbs + 1) b a (by omega)
theorem divisor_ne {a b : Int32} (h : ¬ a = 0) : ¬ fX6_divisor a b = 0 := by
  have h2 := wh_inv (fun s : Int32 × Int32 => ¬ s.2 = 0) (fun (s : Int32 × Int32) => fX6_divisor_b4 s.1 s.2) (fun s t hs ht => by
    try dsimp only at ht
    unfold fX6_divisor_b4 at ht
    split at ht
    · cases ht; exact hs
    · cases ht) (fun s t hs ht => by
    try dsimp only at ht
    unfold fX6_divisor_b4 at ht
    split at ht
    · cases ht
    · rename_i c
      cases ht
      exact c) ((b.toInt).natAbs + 1) (b, a) h
  unfold fX6_divisor fX6_divisor_x4
  exact h2

noncomputable def fX6_partOf (above : Int32) (below : Int32) (part : Int32) : Int64 :=
  if above = 0 then part.toInt64 else (if part = 0 then (above / (fX6_divisor above below)).toInt64 else (below / (fX6_divisor above below)).toInt64)
theorem knX6_partOf : Kn yX6_partOf cX6_partOf 4 (some .long) 3 := ⟨q962, q8, ⟨by decide, by decide⟩, by decide +kernel⟩
set_option maxHeartbeats 400000 in
set_option maxRecDepth 100000 in
theorem kX6_partOf (I : HI) (above : Int32) (below : Int32) (part : Int32) : Cx yX6_partOf cX6_partOf 4 (some .long) 1 24 [vi above, vi below, vi part] I ((some (vl ((fX6_partOf above below part))), I)) := by
  refine Cx.mk (lv := [(0, vi above), (1, vi below), (2, vi part)]) (by decide) (Nat.le_of_ble_eq_true rfl) rfl (fun E ok hr => ?_)
  rw [fX6_partOf]
  refine g_iload_n (n := 1) ok 0 dX6_partOf_0 rfl rfl rfl ?_
  refine g_if_ne (n := 4) (tgt := 7) ok dX6_partOf_1 (by decide) rfl (fun c1 => ?_) (fun c1 => ?_)
  · rw [if_neg c1]
    have hne := divisor_ne (b := below) c1
    refine g_iload_n (n := 8) ok 0 dX6_partOf_7 rfl rfl rfl ?_
    refine g_iload_n (n := 9) ok 1 dX6_partOf_8 rfl rfl rfl ?_
    refine g_callS (n := 12) (rest := []) (av := [vi above, vi below]) ok (kX6_divisor I above below) knX6_divisor q963 q964 dX6_partOf_9 rfl rfl (Nat.le_of_ble_eq_true rfl) (by decide) (by decide) rfl ?_
    refine g_istore_n (n := 13) (lv' := [(3, vi (fX6_divisor above below)), (0, vi above), (1, vi below), (2, vi part)]) ok dX6_partOf_12 rfl (by decide) rfl rfl ?_
    refine g_iload_n (n := 14) ok 3 dX6_partOf_13 rfl rfl rfl ?_
    refine g_if_ne (n := 17) (tgt := 24) ok dX6_partOf_14 (by decide) rfl (fun c2 => ?_) (fun c2 => ?_)
    · rw [if_neg c2]
      refine g_iload_n (n := 25) ok 2 dX6_partOf_24 rfl rfl rfl ?_
      refine g_iload_n (n := 26) ok 0 dX6_partOf_25 rfl rfl rfl ?_
      refine g_idiv (n := 27) ok dX6_partOf_26 hne rfl ?_
      refine g_i2l (n := 28) ok dX6_partOf_27 rfl ?_
      exact g_lret ok hr dX6_partOf_28
    · rw [if_pos c2]
      refine g_iload_n (n := 18) ok 1 dX6_partOf_17 rfl rfl rfl ?_
      refine g_iload_n (n := 19) ok 0 dX6_partOf_18 rfl rfl rfl ?_
      refine g_idiv (n := 20) ok dX6_partOf_19 hne rfl ?_
      refine g_i2l (n := 21) ok dX6_partOf_20 rfl ?_
      refine g_goto (tgt := 28) ok dX6_partOf_21 (by decide) ?_
      exact g_lret ok hr dX6_partOf_28
  · rw [if_pos c1]
    refine g_iload_n (n := 5) ok 2 dX6_partOf_4 rfl rfl rfl ?_
    refine g_i2l (n := 6) ok dX6_partOf_5 rfl ?_
    exact g_lret ok hr dX6_partOf_6

noncomputable def fX6_mean_x52 (part : Int32) (K5 : HI) (x52_3 : Int32) : Int64 × HI :=
  (fX6_partOf x52_3 12 part, K5)
noncomputable def fX6_mean_b52 (t : Int32) (K5 : HI) (i52 : Nat) (x52_3 : Int32) : Int32 :=
  x52_3 + (K5 59 ((12 * (ix t)) + i52))
noncomputable def fX6_mean_c5 (t : Int32) (part : Int32) (K5 : HI) : Int64 × HI :=
  if fX6_isTrace K5 t = 0 then (4000000000000000000 - (((fX6_refuse K5 (-1)).1).toInt64), ((fX6_refuse K5 (-1)).2)) else (if fX6_in part.toInt64 0 1 = 0 then (4000000000000000000 - (((fX6_refuse K5 (-2)).1).toInt64), ((fX6_refuse K5 (-2)).2)) else fX6_mean_x52 part K5 (fo 12 0 (fun (i : Nat) (s : Int32) => fX6_mean_b52 t K5 i s) 0))
noncomputable def fX6_mean (I : HI) (t : Int32) (part : Int32) : Int64 × HI :=
  fX6_mean_c5 t part (up I 52 10 0)
theorem knX6_mean : Kn yX6_mean cX6_mean 5 (some .long) 2 := ⟨q958, q8, ⟨by decide, by decide⟩, by decide +kernel⟩
set_option maxHeartbeats 400000 in
set_option maxRecDepth 100000 in
theorem kX6_mean (I : HI) (t : Int32) (part : Int32) (hd : vp_in (I 52 5) 7) : Cx yX6_mean cX6_mean 5 (some .long) 2 47 [vr 52, vi t, vi part] I ((some (vl (((fX6_mean I t part).1))), (fX6_mean I t part).2)) := by
  refine Cx.mk (lv := [(0, vr 52), (1, vi t), (2, vi part)]) (by decide) (Nat.le_of_ble_eq_true rfl) rfl (fun E ok hr => ?_)
  rw [fX6_mean]
  refine g_aload_n (n := 1) ok 0 dX6_mean_0 rfl rfl rfl ?_
  refine g_iconst (n := 2) (v := 0) ok dX6_mean_1 rfl rfl ?_
  refine g_put (n := 5) (J := up I 52 10 0) (c := 6) (k := 10) ok dX6_mean_2 clsX6 tyX6 tyX6_ok nmX6 (by decide) q688 rfl rfl (fun _ => rfl) (fun _ => rfl) (Nat.le_of_ble_eq_true rfl) (fs_6_10 _ _ _) up_ne rfl ?_
  have C5_10 : ∀ (K5 : HI) (hd2 : vp_in (K5 52 5) 7), G E 5 ((some (vl (((fX6_mean_c5 t part K5).1))), (fX6_mean_c5 t part K5).2)) K5 5 [(0, vr 52), (1, vi t), (2, vi part)] [] := by
    intro K5 hd2
    rw [fX6_mean_c5]
    have hd3 := vb hd2
    refine g_aload_n (n := 6) ok 0 dX6_mean_5 rfl rfl rfl ?_
    refine g_iload_n (n := 7) ok 1 dX6_mean_6 rfl rfl rfl ?_
    refine g_callV (n := 10) (rest := []) (av := [vi t]) (j := 52) ok (kX6_isTrace K5 t) knX6_isTrace q919 q921 qs45 clsX6 rfl dX6_mean_7 rfl rfl (Nat.le_of_ble_eq_true rfl) (by decide) (by decide) rfl ?_
    refine g_if_eq (n := 13) (tgt := 23) ok dX6_mean_10 (by decide) rfl (fun c4 => ?_) (fun c4 => ?_)
    · rw [if_pos c4]
      refine g_ldc2_w (n := 26) ok dX6_mean_23 q959 rfl ?_
      refine g_aload_n (n := 27) ok 0 dX6_mean_26 rfl rfl rfl ?_
      refine g_aload_n (n := 28) ok 0 dX6_mean_27 rfl rfl rfl ?_
      refine g_iload_n (n := 29) ok 1 dX6_mean_28 rfl rfl rfl ?_
      refine g_callV (n := 32) (rest := [vr 52, vl 4000000000000000000]) (av := [vi t]) (j := 52) ok (kX6_isTrace K5 t) knX6_isTrace q919 q921 qs45 clsX6 rfl dX6_mean_29 rfl rfl (Nat.le_of_ble_eq_true rfl) (by decide) (by decide) rfl ?_
      refine g_if_eq (n := 35) (tgt := 40) ok dX6_mean_32 (by decide) rfl (fun c5 => ?_) (fun c5 => ?_)
      · refine g_iconst (n := 41) (v := -1) ok dX6_mean_40 rfl rfl ?_
        refine g_callV (n := 44) (rest := [vl 4000000000000000000]) (av := [vi (-1)]) (j := 52) ok (kX6_refuse K5 (-1) (vp_b (by decide +kernel))) knX6_refuse q770 q772 qs25 clsX6 rfl dX6_mean_41 rfl rfl (Nat.le_of_ble_eq_true rfl) (by decide) (by decide) rfl ?_
        refine g_i2l (n := 45) ok dX6_mean_44 rfl ?_
        refine g_lsub (n := 46) ok dX6_mean_45 rfl ?_
        exact g_lret ok hr dX6_mean_46
      · exact absurd c4 c5
    · rw [if_neg c4]
      have ha6 : vp_in t 6 := isTrace6_in (by with_reducible assumption) c4
      have ha6b := vb ha6
      refine g_iload_n (n := 14) ok 2 dX6_mean_13 rfl rfl rfl ?_
      refine g_i2l (n := 15) ok dX6_mean_14 rfl ?_
      refine g_lconst (n := 16) (v := 0) ok dX6_mean_15 rfl rfl ?_
      refine g_lconst (n := 17) (v := 1) ok dX6_mean_16 rfl rfl ?_
      refine g_callS (n := 20) (rest := []) (av := [vl part.toInt64, vl 0, vl 1]) ok (kX6_in K5 part.toInt64 0 1) knX6_in q792 q793 dX6_mean_17 rfl rfl (Nat.le_of_ble_eq_true rfl) (by decide) (by decide) rfl ?_
      refine g_if_ne (n := 23) (tgt := 47) ok dX6_mean_20 (by decide) rfl (fun c7 => ?_) (fun c7 => ?_)
      · rw [if_neg c7]
        have ha8 : vp_in part 2 := in6_in (b := 1) c7 (by omega)
        have ha8b := vb ha8
        refine g_iconst (n := 48) (v := 0) ok dX6_mean_47 rfl rfl ?_
        refine g_istore_n (n := 49) (lv' := [(3, vi 0), (0, vr 52), (1, vi t), (2, vi part)]) ok dX6_mean_48 rfl (by decide) rfl rfl ?_
        refine g_iconst (n := 50) (v := 0) ok dX6_mean_49 rfl rfl ?_
        refine g_istore (n := 52) (lv' := [(4, vi 0), (3, vi 0), (0, vr 52), (1, vi t), (2, vi part)]) ok dX6_mean_50 (by decide) rfl rfl ?_
        have X52 : ∀ (x52_3 : Int32), G E 5 ((some (vl (((fX6_mean_x52 part K5 x52_3).1))), (fX6_mean_x52 part K5 x52_3).2)) K5 80 [(3, vi x52_3), (2, vi part)] [] := by
          intro x52_3
          rw [fX6_mean_x52]
          refine g_iload_n (n := 81) ok 0 dX6_mean_80 rfl rfl rfl ?_
          refine g_bipush (n := 83) (v := 12) ok dX6_mean_81 rfl rfl ?_
          refine g_iload_n (n := 84) ok 1 dX6_mean_83 rfl rfl rfl ?_
          refine g_callS (n := 87) (rest := []) (av := [vi x52_3, vi 12, vi part]) ok (kX6_partOf K5 x52_3 12 part) knX6_partOf q960 q961 dX6_mean_84 rfl rfl (Nat.le_of_ble_eq_true rfl) (by decide) (by decide) rfl ?_
          exact g_lret ok hr dX6_mean_87
        have L52 : ∀ (n52 i52 : Nat) (x52_3 : Int32) (hi : i52 + n52 = 12), G E 5 ((some (vl (((fX6_mean_x52 part K5 (fo n52 i52 (fun (i : Nat) (s : Int32) => fX6_mean_b52 t K5 i s) x52_3)).1))), (fX6_mean_x52 part K5 (fo n52 i52 (fun (i : Nat) (s : Int32) => fX6_mean_b52 t K5 i s) x52_3)).2)) K5 52 [(4, vi (nI i52)), (3, vi x52_3), (0, vr 52), (1, vi t), (2, vi part)] [] := by
          intro n52
          induction n52 with
          | zero =>
            intro i52 x52_3 hi
            rw [fo_0]
            refine g_iload (n := 54) ok 0 dX6_mean_52 rfl rfl ?_
            refine g_bipush (n := 56) (v := 12) ok dX6_mean_54 rfl rfl ?_
            refine g_icmp_ge (n := 59) (tgt := 80) ok dX6_mean_56 (by decide) rfl (fun c => ?_) (fun c => absurd (nle (a := 12) (b := i52) rfl rfl (by omega) (by omega)) c)
            refine g_sub [1, 4] rfl ?_
            exact X52 _
          | succ n52 ih =>
            intro i52 x52_3 hi
            refine g_iload (n := 54) ok 0 dX6_mean_52 rfl rfl ?_
            refine g_bipush (n := 56) (v := 12) ok dX6_mean_54 rfl rfl ?_
            refine g_icmp_ge (n := 59) (tgt := 80) ok dX6_mean_56 (by decide) rfl (fun c => absurd c (nnle (a := 12) (b := i52) rfl rfl (by omega) (by omega))) (fun c => ?_)
            rw [fo_s]
            show G E 5 ((some (vl (((fX6_mean_x52 part K5 (fo n52 (i52 + 1) (fun (i : Nat) (s : Int32) => fX6_mean_b52 t K5 i s) (fX6_mean_b52 t K5 i52 x52_3))).1))), (fX6_mean_x52 part K5 (fo n52 (i52 + 1) (fun (i : Nat) (s : Int32) => fX6_mean_b52 t K5 i s) (fX6_mean_b52 t K5 i52 x52_3))).2)) _ _ _ _
            rw [fX6_mean_b52]
            refine g_iload_n (n := 60) ok 1 dX6_mean_59 rfl rfl rfl ?_
            refine g_aload_n (n := 61) ok 2 dX6_mean_60 rfl rfl rfl ?_
            refine g_get (n := 64) (v := vr 59) (c := 6) (k := 9) ok dX6_mean_61 clsX6 (by decide) q687 rfl rfl rfl ?_
            refine g_bipush (n := 66) (v := 12) ok dX6_mean_64 rfl rfl ?_
            refine g_iload_n (n := 67) ok 3 dX6_mean_66 rfl rfl rfl ?_
            refine g_imul (n := 68) ok dX6_mean_67 rfl ?_
            refine g_top (nv_imul (a := 12) (b := ix t) rfl (vx ha6)) ?_
            refine g_iload (n := 70) ok 0 dX6_mean_68 rfl rfl ?_
            refine g_iadd (n := 71) ok dX6_mean_70 rfl ?_
            refine g_top (nv_iadd (a := 12 * (ix t)) (b := i52) rfl rfl) ?_
            refine g_iald (n := 72) (i := (12 * (ix t)) + i52) (L := 324) ok dX6_mean_71 rfl rfl rfl (by omega) rfl ?_
            refine g_iadd (n := 73) ok dX6_mean_72 rfl ?_
            refine g_istore_n (n := 74) (lv' := [(3, vi (x52_3 + (K5 59 ((12 * (ix t)) + i52)))), (4, vi (nI i52)), (0, vr 52), (1, vi t), (2, vi part)]) ok dX6_mean_73 rfl (by decide) rfl rfl ?_
            refine g_iinc (n := 77) (v := nI (i52 + 1)) (lv' := [(4, vi (nI (i52 + 1))), (3, vi (x52_3 + (K5 59 ((12 * (ix t)) + i52)))), (0, vr 52), (1, vi t), (2, vi part)]) ok 1 dX6_mean_74 rfl (iinc_n (a := i52) rfl) (by decide) rfl rfl ?_
            refine g_goto (tgt := 52) ok dX6_mean_77 (by decide) ?_
            exact ih (i52 + 1) (x52_3 + (K5 59 ((12 * (ix t)) + i52))) (by omega)
        exact L52 12 0 0 (by omega)
      · rw [if_pos c7]
        refine g_ldc2_w (n := 26) ok dX6_mean_23 q959 rfl ?_
        refine g_aload_n (n := 27) ok 0 dX6_mean_26 rfl rfl rfl ?_
        refine g_aload_n (n := 28) ok 0 dX6_mean_27 rfl rfl rfl ?_
        refine g_iload_n (n := 29) ok 1 dX6_mean_28 rfl rfl rfl ?_
        refine g_callV (n := 32) (rest := [vr 52, vl 4000000000000000000]) (av := [vi t]) (j := 52) ok (kX6_isTrace K5 t) knX6_isTrace q919 q921 qs45 clsX6 rfl dX6_mean_29 rfl rfl (Nat.le_of_ble_eq_true rfl) (by decide) (by decide) rfl ?_
        refine g_if_eq (n := 35) (tgt := 40) ok dX6_mean_32 (by decide) rfl (fun c9 => ?_) (fun c9 => ?_)
        · exact absurd c9 c4
        · refine g_bipush (n := 37) (v := -2) ok dX6_mean_35 rfl rfl ?_
          refine g_goto (tgt := 41) ok dX6_mean_37 (by decide) ?_
          refine g_callV (n := 44) (rest := [vl 4000000000000000000]) (av := [vi (-2)]) (j := 52) ok (kX6_refuse K5 (-2) (vp_b (by decide +kernel))) knX6_refuse q770 q772 qs25 clsX6 rfl dX6_mean_41 rfl rfl (Nat.le_of_ble_eq_true rfl) (by decide) (by decide) rfl ?_
          refine g_i2l (n := 45) ok dX6_mean_44 rfl ?_
          refine g_lsub (n := 46) ok dX6_mean_45 rfl ?_
          exact g_lret ok hr dX6_mean_46
  exact C5_10 _ (by rw [up_k (by omega)]; exact hd)

noncomputable def fX6_close_c5 (a : Int32) (b : Int32) (K5 : HI) : Int32 × HI :=
  if fX6_isTrace K5 a = 0 then ((fX6_refuse K5 (-1)).1, ((fX6_refuse K5 (-1)).2)) else (if fX6_isTrace K5 b = 0 then ((fX6_refuse K5 (-1)).1, ((fX6_refuse K5 (-1)).2)) else (fX6_closeOf K5 (ix a) (ix b), K5))
noncomputable def fX6_close (I : HI) (a : Int32) (b : Int32) : Int32 × HI :=
  fX6_close_c5 a b (up I 52 10 0)
theorem knX6_close : Kn yX6_close cX6_close 3 (some .int) 2 := ⟨q969, q8, ⟨by decide, by decide⟩, by decide +kernel⟩
set_option maxHeartbeats 400000 in
set_option maxRecDepth 100000 in
theorem kX6_close (I : HI) (a : Int32) (b : Int32) (hd : vp_in (I 52 5) 7) : Cx yX6_close cX6_close 3 (some .int) 2 46 [vr 52, vi a, vi b] I ((some (vi (((fX6_close I a b).1))), (fX6_close I a b).2)) := by
  refine Cx.mk (lv := [(0, vr 52), (1, vi a), (2, vi b)]) (by decide) (Nat.le_of_ble_eq_true rfl) rfl (fun E ok hr => ?_)
  rw [fX6_close]
  refine g_aload_n (n := 1) ok 0 dX6_close_0 rfl rfl rfl ?_
  refine g_iconst (n := 2) (v := 0) ok dX6_close_1 rfl rfl ?_
  refine g_put (n := 5) (J := up I 52 10 0) (c := 6) (k := 10) ok dX6_close_2 clsX6 tyX6 tyX6_ok nmX6 (by decide) q688 rfl rfl (fun _ => rfl) (fun _ => rfl) (Nat.le_of_ble_eq_true rfl) (fs_6_10 _ _ _) up_ne rfl ?_
  have C5_8 : ∀ (K5 : HI) (hd2 : vp_in (K5 52 5) 7), G E 3 ((some (vi (((fX6_close_c5 a b K5).1))), (fX6_close_c5 a b K5).2)) K5 5 [(0, vr 52), (1, vi a), (2, vi b)] [] := by
    intro K5 hd2
    rw [fX6_close_c5]
    have hd3 := vb hd2
    refine g_aload_n (n := 6) ok 0 dX6_close_5 rfl rfl rfl ?_
    refine g_iload_n (n := 7) ok 1 dX6_close_6 rfl rfl rfl ?_
    refine g_callV (n := 10) (rest := []) (av := [vi a]) (j := 52) ok (kX6_isTrace K5 a) knX6_isTrace q919 q921 qs45 clsX6 rfl dX6_close_7 rfl rfl (Nat.le_of_ble_eq_true rfl) (by decide) (by decide) rfl ?_
    refine g_if_eq (n := 13) (tgt := 30) ok dX6_close_10 (by decide) rfl (fun c4 => ?_) (fun c4 => ?_)
    · rw [if_pos c4]
      refine g_aload_n (n := 31) ok 0 dX6_close_30 rfl rfl rfl ?_
      refine g_iconst (n := 32) (v := -1) ok dX6_close_31 rfl rfl ?_
      refine g_callV (n := 35) (rest := []) (av := [vi (-1)]) (j := 52) ok (kX6_refuse K5 (-1) (vp_b (by decide +kernel))) knX6_refuse q770 q772 qs25 clsX6 rfl dX6_close_32 rfl rfl (Nat.le_of_ble_eq_true rfl) (by decide) (by decide) rfl ?_
      exact g_iret ok hr dX6_close_35
    · rw [if_neg c4]
      have ha5 : vp_in a 6 := isTrace6_in (by with_reducible assumption) c4
      have ha5b := vb ha5
      refine g_aload_n (n := 14) ok 0 dX6_close_13 rfl rfl rfl ?_
      refine g_iload_n (n := 15) ok 2 dX6_close_14 rfl rfl rfl ?_
      refine g_callV (n := 18) (rest := []) (av := [vi b]) (j := 52) ok (kX6_isTrace K5 b) knX6_isTrace q919 q921 qs45 clsX6 rfl dX6_close_15 rfl rfl (Nat.le_of_ble_eq_true rfl) (by decide) (by decide) rfl ?_
      refine g_if_eq (n := 21) (tgt := 30) ok dX6_close_18 (by decide) rfl (fun c6 => ?_) (fun c6 => ?_)
      · rw [if_pos c6]
        refine g_aload_n (n := 31) ok 0 dX6_close_30 rfl rfl rfl ?_
        refine g_iconst (n := 32) (v := -1) ok dX6_close_31 rfl rfl ?_
        refine g_callV (n := 35) (rest := []) (av := [vi (-1)]) (j := 52) ok (kX6_refuse K5 (-1) (vp_b (by decide +kernel))) knX6_refuse q770 q772 qs25 clsX6 rfl dX6_close_32 rfl rfl (Nat.le_of_ble_eq_true rfl) (by decide) (by decide) rfl ?_
        exact g_iret ok hr dX6_close_35
      · rw [if_neg c6]
        have ha7 : vp_in b 6 := isTrace6_in (by with_reducible assumption) c6
        have ha7b := vb ha7
        refine g_aload_n (n := 22) ok 0 dX6_close_21 rfl rfl rfl ?_
        refine g_iload_n (n := 23) ok 1 dX6_close_22 rfl rfl rfl ?_
        refine g_iload_n (n := 24) ok 2 dX6_close_23 rfl rfl rfl ?_
        refine g_callV (n := 27) (rest := []) (av := [vi (nI (ix a)), vi (nI (ix b))]) (j := 52) ok (kX6_closeOf K5 (ix a) (ix b) (by first | with_reducible assumption | omega) (by first | with_reducible assumption | omega)) knX6_closeOf q970 q972 qs52 clsX6 rfl dX6_close_24 (lcons (congrArg vi (vx ha7)) (lcons (congrArg vi (vx ha5)) (lcons rfl rfl))) rfl (Nat.le_of_ble_eq_true rfl) (by decide) (by decide) rfl ?_
        refine g_goto (tgt := 35) ok dX6_close_27 (by decide) ?_
        exact g_iret ok hr dX6_close_35
  exact C5_8 _ (by rw [up_k (by omega)]; exact hd)

noncomputable def fX6_spread_x37 (K5 : HI) (x37_2 : Int32) : Int32 × HI :=
  (x37_2, K5)
noncomputable def fX6_spread_x54 (x37_2 : Int32) (x54_5 : Int32) (x54_4 : Int32) : Int32 :=
  x37_2 + (x54_4 - x54_5)
noncomputable def fX6_spread_102 (foot : Int32) (K5 : HI) (i37 : Nat) (x54_5 : Int32) (i54 : Nat) (v17 : Int32) : Int32 × Int32 :=
  if K5 56 i54 = foot then (if x54_5 ≤ K5 59 ((12 * i54) + i37) then (x54_5, v17) else (K5 59 ((12 * i54) + i37), v17)) else (x54_5, v17)
noncomputable def fX6_spread_b54 (foot : Int32) (K5 : HI) (i37 : Nat) (i54 : Nat) (x54_5 : Int32) (x54_4 : Int32) : Int32 × Int32 :=
  fX6_spread_102 foot K5 i37 x54_5 i54 (if K5 56 i54 = foot then (if K5 59 ((12 * i54) + i37) ≤ x54_4 then x54_4 else K5 59 ((12 * i54) + i37)) else x54_4)
noncomputable def fX6_spread_b37 (foot : Int32) (K5 : HI) (i37 : Nat) (x37_2 : Int32) : Int32 :=
  (fun (s : Int32 × Int32) => fX6_spread_x54 x37_2 s.1 s.2) (fo (ix (K5 52 5)) 0 (fun (i : Nat) (s : Int32 × Int32) => fX6_spread_b54 foot K5 i37 i s.1 s.2) (999, 0))
noncomputable def fX6_spread_c5 (foot : Int32) (K5 : HI) : Int32 × HI :=
  if fX6_isFoot foot = 0 then ((fX6_refuse K5 (-1)).1, ((fX6_refuse K5 (-1)).2)) else (if 0 ≤ nI (fX6_latestAhead K5 foot (ix (K5 52 5))) - 1 then fX6_spread_x37 K5 (fo 12 0 (fun (i : Nat) (s : Int32) => fX6_spread_b37 foot K5 i s) 0) else ((-9), K5))
noncomputable def fX6_spread (I : HI) (foot : Int32) : Int32 × HI :=
  fX6_spread_c5 foot (up I 52 10 0)
theorem knX6_spread : Kn yX6_spread cX6_spread 8 (some .int) 1 := ⟨q977, q8, ⟨by decide, by decide⟩, by decide +kernel⟩
set_option maxHeartbeats 400000 in
set_option maxRecDepth 100000 in
theorem kX6_spread (I : HI) (foot : Int32) (hd : vp_in (I 52 5) 7) : Cx yX6_spread cX6_spread 8 (some .int) 2 45 [vr 52, vi foot] I ((some (vi (((fX6_spread I foot).1))), (fX6_spread I foot).2)) := by
  refine Cx.mk (lv := [(0, vr 52), (1, vi foot)]) (by decide) (Nat.le_of_ble_eq_true rfl) rfl (fun E ok hr => ?_)
  rw [fX6_spread]
  refine g_aload_n (n := 1) ok 0 dX6_spread_0 rfl rfl rfl ?_
  refine g_iconst (n := 2) (v := 0) ok dX6_spread_1 rfl rfl ?_
  refine g_put (n := 5) (J := up I 52 10 0) (c := 6) (k := 10) ok dX6_spread_2 clsX6 tyX6 tyX6_ok nmX6 (by decide) q688 rfl rfl (fun _ => rfl) (fun _ => rfl) (Nat.le_of_ble_eq_true rfl) (fs_6_10 _ _ _) up_ne rfl ?_
  have C5_21 : ∀ (K5 : HI) (hd2 : vp_in (K5 52 5) 7), G E 8 ((some (vi (((fX6_spread_c5 foot K5).1))), (fX6_spread_c5 foot K5).2)) K5 5 [(0, vr 52), (1, vi foot)] [] := by
    intro K5 hd2
    rw [fX6_spread_c5]
    have hd3 := vb hd2
    refine g_iload_n (n := 6) ok 1 dX6_spread_5 rfl rfl rfl ?_
    refine g_callS (n := 9) (rest := []) (av := [vi foot]) ok (kX6_isFoot K5 foot) knX6_isFoot q834 q835 dX6_spread_6 rfl rfl (Nat.le_of_ble_eq_true rfl) (by decide) (by decide) rfl ?_
    refine g_if_ne (n := 12) (tgt := 18) ok dX6_spread_9 (by decide) rfl (fun c3 => ?_) (fun c3 => ?_)
    · rw [if_neg c3]
      have ha4 : vp_in foot 2 := isFoot6_in c3
      have ha4b := vb ha4
      refine g_aload_n (n := 19) ok 0 dX6_spread_18 rfl rfl rfl ?_
      refine g_iload_n (n := 20) ok 1 dX6_spread_19 rfl rfl rfl ?_
      refine g_aload_n (n := 21) ok 0 dX6_spread_20 rfl rfl rfl ?_
      refine g_get (n := 24) (v := vi (K5 52 5)) (c := 6) (k := 5) ok dX6_spread_21 clsX6 (by decide) q683 rfl rfl rfl ?_
      refine g_callV (n := 27) (rest := []) (av := [vi foot, vi (nI (ix (K5 52 5)))]) (j := 52) ok (kX6_latestAhead K5 foot (ix (K5 52 5)) (by first | with_reducible assumption | omega)) knX6_latestAhead q867 q869 qs42 clsX6 rfl dX6_spread_24 (lcons (congrArg vi (vx hd2)) (lcons rfl (lcons rfl rfl))) rfl (Nat.le_of_ble_eq_true rfl) (by decide) (by decide) rfl ?_
      have hp5 : fX6_latestAhead K5 foot (ix (K5 52 5)) ≤ (ix (K5 52 5)) := latestAhead6_le
      refine g_if_ge (n := 30) (tgt := 33) ok dX6_spread_27 (by decide) rfl (fun c6 => ?_) (fun c6 => ?_)
      · rw [if_pos c6]
        have hp7 : 0 < (fX6_latestAhead K5 foot (ix (K5 52 5))) := pred_pos2 c6
        refine g_iconst (n := 34) (v := 0) ok dX6_spread_33 rfl rfl ?_
        refine g_istore_n (n := 35) (lv' := [(2, vi 0), (0, vr 52), (1, vi foot)]) ok dX6_spread_34 rfl (by decide) rfl rfl ?_
        refine g_iconst (n := 36) (v := 0) ok dX6_spread_35 rfl rfl ?_
        refine g_istore_n (n := 37) (lv' := [(3, vi 0), (2, vi 0), (0, vr 52), (1, vi foot)]) ok dX6_spread_36 rfl (by decide) rfl rfl ?_
        have X37 : ∀ (x37_2 : Int32), G E 8 ((some (vi (((fX6_spread_x37 K5 x37_2).1))), (fX6_spread_x37 K5 x37_2).2)) K5 151 [(2, vi x37_2)] [] := by
          intro x37_2
          rw [fX6_spread_x37]
          refine g_iload_n (n := 152) ok 0 dX6_spread_151 rfl rfl rfl ?_
          exact g_iret ok hr dX6_spread_152
        have L37 : ∀ (n37 i37 : Nat) (x37_2 : Int32) (hi : i37 + n37 = 12), G E 8 ((some (vi (((fX6_spread_x37 K5 (fo n37 i37 (fun (i : Nat) (s : Int32) => fX6_spread_b37 foot K5 i s) x37_2)).1))), (fX6_spread_x37 K5 (fo n37 i37 (fun (i : Nat) (s : Int32) => fX6_spread_b37 foot K5 i s) x37_2)).2)) K5 37 [(3, vi (nI i37)), (2, vi x37_2), (0, vr 52), (1, vi foot)] [] := by
          intro n37
          induction n37 with
          | zero =>
            intro i37 x37_2 hi
            rw [fo_0]
            refine g_iload_n (n := 38) ok 0 dX6_spread_37 rfl rfl rfl ?_
            refine g_bipush (n := 40) (v := 12) ok dX6_spread_38 rfl rfl ?_
            refine g_icmp_ge (n := 43) (tgt := 151) ok dX6_spread_40 (by decide) rfl (fun c => ?_) (fun c => absurd (nle (a := 12) (b := i37) rfl rfl (by omega) (by omega)) c)
            refine g_sub [1] rfl ?_
            exact X37 _
          | succ n37 ih =>
            intro i37 x37_2 hi
            refine g_iload_n (n := 38) ok 0 dX6_spread_37 rfl rfl rfl ?_
            refine g_bipush (n := 40) (v := 12) ok dX6_spread_38 rfl rfl ?_
            refine g_icmp_ge (n := 43) (tgt := 151) ok dX6_spread_40 (by decide) rfl (fun c => absurd c (nnle (a := 12) (b := i37) rfl rfl (by omega) (by omega))) (fun c => ?_)
            rw [fo_s]
            show G E 8 ((some (vi (((fX6_spread_x37 K5 (fo n37 (i37 + 1) (fun (i : Nat) (s : Int32) => fX6_spread_b37 foot K5 i s) (fX6_spread_b37 foot K5 i37 x37_2))).1))), (fX6_spread_x37 K5 (fo n37 (i37 + 1) (fun (i : Nat) (s : Int32) => fX6_spread_b37 foot K5 i s) (fX6_spread_b37 foot K5 i37 x37_2))).2)) _ _ _ _
            rw [fX6_spread_b37]
            refine g_iconst (n := 44) (v := 0) ok dX6_spread_43 rfl rfl ?_
            refine g_istore (n := 46) (lv' := [(4, vi 0), (3, vi (nI i37)), (2, vi x37_2), (0, vr 52), (1, vi foot)]) ok dX6_spread_44 (by decide) rfl rfl ?_
            refine g_sipush (n := 49) (v := 999) ok dX6_spread_46 rfl rfl ?_
            refine g_istore (n := 51) (lv' := [(5, vi 999), (4, vi 0), (3, vi (nI i37)), (2, vi x37_2), (0, vr 52), (1, vi foot)]) ok dX6_spread_49 (by decide) rfl rfl ?_
            refine g_iconst (n := 52) (v := 0) ok dX6_spread_51 rfl rfl ?_
            refine g_istore (n := 54) (lv' := [(6, vi 0), (5, vi 999), (4, vi 0), (3, vi (nI i37)), (2, vi x37_2), (0, vr 52), (1, vi foot)]) ok dX6_spread_52 (by decide) rfl rfl ?_
            have X54 : ∀ (x54_5 : Int32) (x54_4 : Int32), G E 8 ((some (vi (((fX6_spread_x37 K5 (fo n37 (i37 + 1) (fun (i : Nat) (s : Int32) => fX6_spread_b37 foot K5 i s) (fX6_spread_x54 x37_2 x54_5 x54_4))).1))), (fX6_spread_x37 K5 (fo n37 (i37 + 1) (fun (i : Nat) (s : Int32) => fX6_spread_b37 foot K5 i s) (fX6_spread_x54 x37_2 x54_5 x54_4))).2)) K5 137 [(5, vi x54_5), (4, vi x54_4), (3, vi (nI i37)), (2, vi x37_2), (0, vr 52), (1, vi foot)] [] := by
              intro x54_5 x54_4
              rw [fX6_spread_x54]
              refine g_iload_n (n := 138) ok 3 dX6_spread_137 rfl rfl rfl ?_
              refine g_iload (n := 140) ok 1 dX6_spread_138 rfl rfl ?_
              refine g_iload (n := 142) ok 0 dX6_spread_140 rfl rfl ?_
              refine g_isub (n := 143) ok dX6_spread_142 rfl ?_
              refine g_iadd (n := 144) ok dX6_spread_143 rfl ?_
              refine g_istore_n (n := 145) (lv' := [(2, vi (x37_2 + (x54_4 - x54_5))), (5, vi x54_5), (4, vi x54_4), (3, vi (nI i37)), (0, vr 52), (1, vi foot)]) ok dX6_spread_144 rfl (by decide) rfl rfl ?_
              refine g_iinc (n := 148) (v := nI (i37 + 1)) (lv' := [(3, vi (nI (i37 + 1))), (2, vi (x37_2 + (x54_4 - x54_5))), (5, vi x54_5), (4, vi x54_4), (0, vr 52), (1, vi foot)]) ok 3 dX6_spread_145 rfl (iinc_n (a := i37) rfl) (by decide) rfl rfl ?_
              refine g_goto (tgt := 37) ok dX6_spread_148 (by decide) ?_
              refine g_sub [0, 1, 4, 5] rfl ?_
              exact ih (i37 + 1) (x37_2 + (x54_4 - x54_5)) (by omega)
            have L54 : ∀ (n54 i54 : Nat) (x54_5 : Int32) (x54_4 : Int32) (hi : i54 + n54 = ix (K5 52 5)), G E 8 ((some (vi (((fX6_spread_x37 K5 (fo n37 (i37 + 1) (fun (i : Nat) (s : Int32) => fX6_spread_b37 foot K5 i s) ((fun (s : Int32 × Int32) => fX6_spread_x54 x37_2 s.1 s.2) (fo n54 i54 (fun (i : Nat) (s : Int32 × Int32) => fX6_spread_b54 foot K5 i37 i s.1 s.2) (x54_5, x54_4))))).1))), (fX6_spread_x37 K5 (fo n37 (i37 + 1) (fun (i : Nat) (s : Int32) => fX6_spread_b37 foot K5 i s) ((fun (s : Int32 × Int32) => fX6_spread_x54 x37_2 s.1 s.2) (fo n54 i54 (fun (i : Nat) (s : Int32 × Int32) => fX6_spread_b54 foot K5 i37 i s.1 s.2) (x54_5, x54_4))))).2)) K5 54 [(6, vi (nI i54)), (5, vi x54_5), (4, vi x54_4), (3, vi (nI i37)), (2, vi x37_2), (0, vr 52), (1, vi foot)] [] := by
              intro n54
              induction n54 with
              | zero =>
                intro i54 x54_5 x54_4 hi
                rw [fo_0]
                refine g_iload (n := 56) ok 0 dX6_spread_54 rfl rfl ?_
                refine g_aload_n (n := 57) ok 5 dX6_spread_56 rfl rfl rfl ?_
                refine g_get (n := 60) (v := vi (K5 52 5)) (c := 6) (k := 5) ok dX6_spread_57 clsX6 (by decide) q683 rfl rfl rfl ?_
                refine g_icmp_ge (n := 63) (tgt := 137) ok dX6_spread_60 (by decide) rfl (fun c => ?_) (fun c => absurd (nle (a := ix (K5 52 5)) (b := i54) (vx hd2) rfl (by omega) (by omega)) c)
                refine g_sub [1, 2, 3, 4, 5, 6] rfl ?_
                exact X54 _ _
              | succ n54 ih =>
                intro i54 x54_5 x54_4 hi
                refine g_iload (n := 56) ok 0 dX6_spread_54 rfl rfl ?_
                refine g_aload_n (n := 57) ok 5 dX6_spread_56 rfl rfl rfl ?_
                refine g_get (n := 60) (v := vi (K5 52 5)) (c := 6) (k := 5) ok dX6_spread_57 clsX6 (by decide) q683 rfl rfl rfl ?_
                refine g_icmp_ge (n := 63) (tgt := 137) ok dX6_spread_60 (by decide) rfl (fun c => absurd c (nnle (a := ix (K5 52 5)) (b := i54) (vx hd2) rfl (by omega) (by omega))) (fun c => ?_)
                rw [fo_s]
                show G E 8 ((some (vi (((fX6_spread_x37 K5 (fo n37 (i37 + 1) (fun (i : Nat) (s : Int32) => fX6_spread_b37 foot K5 i s) ((fun (s : Int32 × Int32) => fX6_spread_x54 x37_2 s.1 s.2) (fo n54 (i54 + 1) (fun (i : Nat) (s : Int32 × Int32) => fX6_spread_b54 foot K5 i37 i s.1 s.2) (fX6_spread_b54 foot K5 i37 i54 x54_5 x54_4))))).1))), (fX6_spread_x37 K5 (fo n37 (i37 + 1) (fun (i : Nat) (s : Int32) => fX6_spread_b37 foot K5 i s) ((fun (s : Int32 × Int32) => fX6_spread_x54 x37_2 s.1 s.2) (fo n54 (i54 + 1) (fun (i : Nat) (s : Int32 × Int32) => fX6_spread_b54 foot K5 i37 i s.1 s.2) (fX6_spread_b54 foot K5 i37 i54 x54_5 x54_4))))).2)) _ _ _ _
                rw [fX6_spread_b54]
                refine g_aload_n (n := 64) ok 5 dX6_spread_63 rfl rfl rfl ?_
                refine g_get (n := 67) (v := vr 59) (c := 6) (k := 9) ok dX6_spread_64 clsX6 (by decide) q687 rfl rfl rfl ?_
                refine g_bipush (n := 69) (v := 12) ok dX6_spread_67 rfl rfl ?_
                refine g_iload (n := 71) ok 0 dX6_spread_69 rfl rfl ?_
                refine g_imul (n := 72) ok dX6_spread_71 rfl ?_
                refine g_top (nv_imul (a := 12) (b := i54) rfl rfl) ?_
                refine g_iload_n (n := 73) ok 3 dX6_spread_72 rfl rfl rfl ?_
                refine g_iadd (n := 74) ok dX6_spread_73 rfl ?_
                refine g_top (nv_iadd (a := 12 * i54) (b := i37) rfl rfl) ?_
                refine g_iald (n := 75) (i := (12 * i54) + i37) (L := 324) ok dX6_spread_74 rfl rfl rfl (by omega) rfl ?_
                refine g_istore (n := 77) (lv' := [(7, vi (K5 59 ((12 * i54) + i37))), (6, vi (nI i54)), (5, vi x54_5), (4, vi x54_4), (3, vi (nI i37)), (2, vi x37_2), (0, vr 52), (1, vi foot)]) ok dX6_spread_75 (by decide) rfl rfl ?_
                refine g_aload_n (n := 78) ok 6 dX6_spread_77 rfl rfl rfl ?_
                refine g_get (n := 81) (v := vr 56) (c := 6) (k := 6) ok dX6_spread_78 clsX6 (by decide) q684 rfl rfl rfl ?_
                refine g_iload (n := 83) ok 1 dX6_spread_81 rfl rfl ?_
                refine g_iald (n := 84) (i := i54) (L := 27) ok dX6_spread_83 rfl rfl rfl (by omega) rfl ?_
                refine g_iload_n (n := 85) ok 7 dX6_spread_84 rfl rfl rfl ?_
                have J102_18 : ∀ (v17 : Int32), G E 8 ((some (vi (((fX6_spread_x37 K5 (fo n37 (i37 + 1) (fun (i : Nat) (s : Int32) => fX6_spread_b37 foot K5 i s) ((fun (s : Int32 × Int32) => fX6_spread_x54 x37_2 s.1 s.2) (fo n54 (i54 + 1) (fun (i : Nat) (s : Int32 × Int32) => fX6_spread_b54 foot K5 i37 i s.1 s.2) (fX6_spread_102 foot K5 i37 x54_5 i54 v17))))).1))), (fX6_spread_x37 K5 (fo n37 (i37 + 1) (fun (i : Nat) (s : Int32) => fX6_spread_b37 foot K5 i s) ((fun (s : Int32 × Int32) => fX6_spread_x54 x37_2 s.1 s.2) (fo n54 (i54 + 1) (fun (i : Nat) (s : Int32 × Int32) => fX6_spread_b54 foot K5 i37 i s.1 s.2) (fX6_spread_102 foot K5 i37 x54_5 i54 v17))))).2)) K5 102 [(7, vi (K5 59 ((12 * i54) + i37))), (6, vi (nI i54)), (5, vi x54_5), (3, vi (nI i37)), (2, vi x37_2), (0, vr 52), (1, vi foot)] [vi v17] := by
                  intro v17
                  rw [fX6_spread_102]
                  refine g_istore (n := 104) (lv' := [(4, vi v17), (7, vi (K5 59 ((12 * i54) + i37))), (6, vi (nI i54)), (5, vi x54_5), (3, vi (nI i37)), (2, vi x37_2), (0, vr 52), (1, vi foot)]) ok dX6_spread_102 (by decide) rfl rfl ?_
                  refine g_aload_n (n := 105) ok 6 dX6_spread_104 rfl rfl rfl ?_
                  refine g_get (n := 108) (v := vr 56) (c := 6) (k := 6) ok dX6_spread_105 clsX6 (by decide) q684 rfl rfl rfl ?_
                  refine g_iload (n := 110) ok 2 dX6_spread_108 rfl rfl ?_
                  refine g_iald (n := 111) (i := i54) (L := 27) ok dX6_spread_110 rfl rfl rfl (by omega) rfl ?_
                  refine g_iload_n (n := 112) ok 7 dX6_spread_111 rfl rfl rfl ?_
                  refine g_icmp_ne (n := 115) (tgt := 127) ok dX6_spread_112 (by decide) rfl (fun c19 => ?_) (fun c19 => ?_)
                  · rw [if_neg c19]
                    refine g_iload (n := 129) ok 3 dX6_spread_127 rfl rfl ?_
                    refine g_istore (n := 131) (lv' := [(5, vi x54_5), (4, vi v17), (7, vi (K5 59 ((12 * i54) + i37))), (6, vi (nI i54)), (3, vi (nI i37)), (2, vi x37_2), (0, vr 52), (1, vi foot)]) ok dX6_spread_129 (by decide) rfl rfl ?_
                    refine g_iinc (n := 134) (v := nI (i54 + 1)) (lv' := [(6, vi (nI (i54 + 1))), (5, vi x54_5), (4, vi v17), (7, vi (K5 59 ((12 * i54) + i37))), (3, vi (nI i37)), (2, vi x37_2), (0, vr 52), (1, vi foot)]) ok 3 dX6_spread_131 rfl (iinc_n (a := i54) rfl) (by decide) rfl rfl ?_
                    refine g_goto (tgt := 54) ok dX6_spread_134 (by decide) ?_
                    refine g_sub [0, 1, 2, 4, 5, 6, 7] rfl ?_
                    exact ih (i54 + 1) x54_5 v17 (by omega)
                  · rw [if_pos c19]
                    refine g_iload (n := 117) ok 1 dX6_spread_115 rfl rfl ?_
                    refine g_iload (n := 119) ok 3 dX6_spread_117 rfl rfl ?_
                    refine g_icmp_ge (n := 122) (tgt := 127) ok dX6_spread_119 (by decide) rfl (fun c20 => ?_) (fun c20 => ?_)
                    · rw [if_pos c20]
                      refine g_iload (n := 129) ok 3 dX6_spread_127 rfl rfl ?_
                      refine g_istore (n := 131) (lv' := [(5, vi x54_5), (4, vi v17), (7, vi (K5 59 ((12 * i54) + i37))), (6, vi (nI i54)), (3, vi (nI i37)), (2, vi x37_2), (0, vr 52), (1, vi foot)]) ok dX6_spread_129 (by decide) rfl rfl ?_
                      refine g_iinc (n := 134) (v := nI (i54 + 1)) (lv' := [(6, vi (nI (i54 + 1))), (5, vi x54_5), (4, vi v17), (7, vi (K5 59 ((12 * i54) + i37))), (3, vi (nI i37)), (2, vi x37_2), (0, vr 52), (1, vi foot)]) ok 3 dX6_spread_131 rfl (iinc_n (a := i54) rfl) (by decide) rfl rfl ?_
                      refine g_goto (tgt := 54) ok dX6_spread_134 (by decide) ?_
                      refine g_sub [0, 1, 2, 4, 5, 6, 7] rfl ?_
                      exact ih (i54 + 1) x54_5 v17 (by omega)
                    · rw [if_neg c20]
                      refine g_iload (n := 124) ok 1 dX6_spread_122 rfl rfl ?_
                      refine g_goto (tgt := 129) ok dX6_spread_124 (by decide) ?_
                      refine g_istore (n := 131) (lv' := [(5, vi (K5 59 ((12 * i54) + i37))), (4, vi v17), (7, vi (K5 59 ((12 * i54) + i37))), (6, vi (nI i54)), (3, vi (nI i37)), (2, vi x37_2), (0, vr 52), (1, vi foot)]) ok dX6_spread_129 (by decide) rfl rfl ?_
                      refine g_iinc (n := 134) (v := nI (i54 + 1)) (lv' := [(6, vi (nI (i54 + 1))), (5, vi (K5 59 ((12 * i54) + i37))), (4, vi v17), (7, vi (K5 59 ((12 * i54) + i37))), (3, vi (nI i37)), (2, vi x37_2), (0, vr 52), (1, vi foot)]) ok 3 dX6_spread_131 rfl (iinc_n (a := i54) rfl) (by decide) rfl rfl ?_
                      refine g_goto (tgt := 54) ok dX6_spread_134 (by decide) ?_
                      refine g_sub [0, 1, 2, 4, 5, 6, 7] rfl ?_
                      exact ih (i54 + 1) (K5 59 ((12 * i54) + i37)) v17 (by omega)
                refine g_icmp_ne (n := 88) (tgt := 100) ok dX6_spread_85 (by decide) rfl (fun c8 => ?_) (fun c8 => ?_)
                · try simp only [if_neg c8]
                  refine g_iload (n := 102) ok 3 dX6_spread_100 rfl rfl ?_
                  refine g_sub [0, 1, 2, 4, 5, 6, 7] rfl ?_
                  exact J102_18 _
                · try simp only [if_pos c8]
                  refine g_iload (n := 90) ok 0 dX6_spread_88 rfl rfl ?_
                  refine g_iload (n := 92) ok 3 dX6_spread_90 rfl rfl ?_
                  refine g_icmp_le (n := 95) (tgt := 100) ok dX6_spread_92 (by decide) rfl (fun c9 => ?_) (fun c9 => ?_)
                  · rw [if_pos c9]
                    refine g_iload (n := 102) ok 3 dX6_spread_100 rfl rfl ?_
                    refine g_sub [0, 1, 2, 4, 5, 6, 7] rfl ?_
                    exact J102_18 _
                  · rw [if_neg c9]
                    refine g_iload (n := 97) ok 0 dX6_spread_95 rfl rfl ?_
                    refine g_goto (tgt := 102) ok dX6_spread_97 (by decide) ?_
                    refine g_sub [0, 1, 2, 4, 5, 6, 7] rfl ?_
                    exact J102_18 _
            exact L54 (ix (K5 52 5)) 0 999 0 (by omega)
        exact L37 12 0 0 (by omega)
      · rw [if_neg c6]
        refine g_bipush (n := 32) (v := -9) ok dX6_spread_30 rfl rfl ?_
        exact g_iret ok hr dX6_spread_32
    · rw [if_pos c3]
      refine g_aload_n (n := 13) ok 0 dX6_spread_12 rfl rfl rfl ?_
      refine g_iconst (n := 14) (v := -1) ok dX6_spread_13 rfl rfl ?_
      refine g_callV (n := 17) (rest := []) (av := [vi (-1)]) (j := 52) ok (kX6_refuse K5 (-1) (vp_b (by decide +kernel))) knX6_refuse q770 q772 qs25 clsX6 rfl dX6_spread_14 rfl rfl (Nat.le_of_ble_eq_true rfl) (by decide) (by decide) rfl ?_
      exact g_iret ok hr dX6_spread_17
  exact C5_21 _ (by rw [up_k (by omega)]; exact hd)

noncomputable def fX6_offBy (I : HI) (kind : Int32) (foot : Nat) (push : Int32) (lean : Int32) : Int32 × HI :=
  (fX6_offOf (up ((fX6_drawBy I kind foot push lean).2) 52 5 ((((fX6_drawBy I kind foot push lean).2) 52 5) - 1)) ((fX6_drawBy I kind foot push lean).1), (up ((fX6_drawBy I kind foot push lean).2) 52 5 ((((fX6_drawBy I kind foot push lean).2) 52 5) - 1)))
theorem knX6_offBy : Kn yX6_offBy cX6_offBy 6 (some .int) 4 := ⟨q986, q8, ⟨by decide, by decide⟩, by decide +kernel⟩
set_option maxHeartbeats 400000 in
set_option maxRecDepth 100000 in
theorem kX6_offBy (I : HI) (kind : Int32) (foot : Nat) (push : Int32) (lean : Int32) (hq : vp_in (I 52 5) 27) (hf : foot < 2) (hl : ¬ lean = 0) : Cx yX6_offBy cX6_offBy 6 (some .int) 4 100 [vr 52, vi kind, vi (nI foot), vi push, vi lean] I ((some (vi (((fX6_offBy I kind foot push lean).1))), (fX6_offBy I kind foot push lean).2)) := by
  refine Cx.mk (lv := [(0, vr 52), (1, vi kind), (2, vi (nI foot)), (3, vi push), (4, vi lean)]) (by decide) (Nat.le_of_ble_eq_true rfl) rfl (fun E ok hr => ?_)
  have hq1 := vb hq
  rw [fX6_offBy]
  refine g_aload_n (n := 1) ok 0 dX6_offBy_0 rfl rfl rfl ?_
  refine g_iload_n (n := 2) ok 1 dX6_offBy_1 rfl rfl rfl ?_
  refine g_iload_n (n := 3) ok 2 dX6_offBy_2 rfl rfl rfl ?_
  refine g_iload_n (n := 4) ok 3 dX6_offBy_3 rfl rfl rfl ?_
  refine g_iload (n := 6) ok 4 dX6_offBy_4 rfl rfl ?_
  refine g_callV (n := 9) (rest := []) (av := [vi kind, vi (nI foot), vi push, vi lean]) (j := 52) ok (kX6_drawBy I kind foot push lean (by first | with_reducible assumption | omega) (by first | with_reducible assumption | omega) (by first | with_reducible assumption | omega)) knX6_drawBy q848 q850 qs38 clsX6 rfl dX6_offBy_6 rfl rfl (Nat.le_of_ble_eq_true rfl) (by decide) (by decide) rfl ?_
  have hp1 : (fX6_drawBy I kind foot push lean).1 = ix (I 52 5) := rfl
  refine g_istore (n := 11) (lv' := [(5, vi (nI ((fX6_drawBy I kind foot push lean).1))), (0, vr 52), (1, vi kind), (2, vi (nI foot)), (3, vi push), (4, vi lean)]) ok dX6_offBy_9 (by decide) rfl rfl ?_
  refine g_aload_n (n := 12) ok 1 dX6_offBy_11 rfl rfl rfl ?_
  refine g_dup (n := 13) ok dX6_offBy_12 rfl rfl ?_
  refine g_get (n := 16) (v := vi (((fX6_drawBy I kind foot push lean).2) 52 5)) (c := 6) (k := 5) ok dX6_offBy_13 clsX6 (by decide) q683 rfl rfl rfl ?_
  refine g_iconst (n := 17) (v := 1) ok dX6_offBy_16 rfl rfl ?_
  refine g_isub (n := 18) ok dX6_offBy_17 rfl ?_
  refine g_put (n := 21) (J := up ((fX6_drawBy I kind foot push lean).2) 52 5 ((((fX6_drawBy I kind foot push lean).2) 52 5) - 1)) (c := 6) (k := 5) ok dX6_offBy_18 clsX6 tyX6 tyX6_ok nmX6 (by decide) q683 rfl rfl (fun _ => rfl) (fun _ => rfl) (Nat.le_of_ble_eq_true rfl) (fs_6_5 _ _ _) up_ne rfl ?_
  refine g_aload_n (n := 22) ok 1 dX6_offBy_21 rfl rfl rfl ?_
  refine g_iload (n := 24) ok 0 dX6_offBy_22 rfl rfl ?_
  refine g_callV (n := 27) (rest := []) (av := [vi (nI ((fX6_drawBy I kind foot push lean).1))]) (j := 52) ok (kX6_offOf (up ((fX6_drawBy I kind foot push lean).2) 52 5 ((((fX6_drawBy I kind foot push lean).2) 52 5) - 1)) ((fX6_drawBy I kind foot push lean).1) (by first | with_reducible assumption | omega)) knX6_offOf q939 q941 qs48 clsX6 rfl dX6_offBy_24 rfl rfl (Nat.le_of_ble_eq_true rfl) (by decide) (by decide) rfl ?_
  exact g_iret ok hr dX6_offBy_27
theorem offBy_tr {I : HI} {kind push lean : Int32} {foot : Nat} : (fX6_offBy I kind foot push lean).2 52 5 = I 52 5 := by
  unfold fX6_offBy
  dsimp only
  rw [up_v, drawBy_tr]
  exact Int32.add_sub_cancel _ _

noncomputable def fX6_next_c5 (foot : Int32) (push : Int32) (lean : Int32) (hour : Int32) (K5 : HI) : Int32 × HI :=
  if fX6_isFoot foot = 0 then ((fX6_refuse K5 (-1)).1, ((fX6_refuse K5 (-1)).2)) else (if fX6_in hour.toInt64 (-1) 11 = 0 then ((fX6_refuse K5 (-1)).1, ((fX6_refuse K5 (-1)).2)) else (if 0 ≤ fX6_wrongTwo push lean then (if 0 ≤ hour then (fX6_radiusBy K5 (K5 52 3) (ix foot) push lean (ix hour), K5) else ((fX6_offBy K5 (K5 52 3) (ix foot) push lean).1, ((fX6_offBy K5 (K5 52 3) (ix foot) push lean).2))) else ((fX6_refuse K5 (fX6_wrongTwo push lean)).1, ((fX6_refuse K5 (fX6_wrongTwo push lean)).2))))
noncomputable def fX6_next (I : HI) (foot : Int32) (push : Int32) (lean : Int32) (hour : Int32) : Int32 × HI :=
  fX6_next_c5 foot push lean hour (up I 52 10 0)
theorem knX6_next : Kn yX6_next cX6_next 6 (some .int) 4 := ⟨q981, q8, ⟨by decide, by decide⟩, by decide +kernel⟩
set_option maxHeartbeats 400000 in
set_option maxRecDepth 100000 in
theorem kX6_next (I : HI) (foot : Int32) (push : Int32) (lean : Int32) (hour : Int32) (hd : vp_in (I 52 5) 7) : Cx yX6_next cX6_next 6 (some .int) 5 125 [vr 52, vi foot, vi push, vi lean, vi hour] I ((some (vi (((fX6_next I foot push lean hour).1))), (fX6_next I foot push lean hour).2)) := by
  refine Cx.mk (lv := [(0, vr 52), (1, vi foot), (2, vi push), (3, vi lean), (4, vi hour)]) (by decide) (Nat.le_of_ble_eq_true rfl) rfl (fun E ok hr => ?_)
  rw [fX6_next]
  refine g_aload_n (n := 1) ok 0 dX6_next_0 rfl rfl rfl ?_
  refine g_iconst (n := 2) (v := 0) ok dX6_next_1 rfl rfl ?_
  refine g_put (n := 5) (J := up I 52 10 0) (c := 6) (k := 10) ok dX6_next_2 clsX6 tyX6 tyX6_ok nmX6 (by decide) q688 rfl rfl (fun _ => rfl) (fun _ => rfl) (Nat.le_of_ble_eq_true rfl) (fs_6_10 _ _ _) up_ne rfl ?_
  have C5_14 : ∀ (K5 : HI) (hd2 : vp_in (K5 52 5) 7), G E 6 ((some (vi (((fX6_next_c5 foot push lean hour K5).1))), (fX6_next_c5 foot push lean hour K5).2)) K5 5 [(0, vr 52), (1, vi foot), (2, vi push), (3, vi lean), (4, vi hour)] [] := by
    intro K5 hd2
    rw [fX6_next_c5]
    have hd3 := vb hd2
    refine g_iload_n (n := 6) ok 1 dX6_next_5 rfl rfl rfl ?_
    refine g_callS (n := 9) (rest := []) (av := [vi foot]) ok (kX6_isFoot K5 foot) knX6_isFoot q834 q835 dX6_next_6 rfl rfl (Nat.le_of_ble_eq_true rfl) (by decide) (by decide) rfl ?_
    refine g_if_eq (n := 12) (tgt := 35) ok dX6_next_9 (by decide) rfl (fun c6 => ?_) (fun c6 => ?_)
    · rw [if_pos c6]
      refine g_iconst (n := 36) (v := -1) ok dX6_next_35 rfl rfl ?_
      refine g_istore (n := 38) (lv' := [(5, vi (-1)), (0, vr 52), (1, vi foot), (2, vi push), (3, vi lean), (4, vi hour)]) ok dX6_next_36 (by decide) rfl rfl ?_
      refine g_iload (n := 40) ok 0 dX6_next_38 rfl rfl ?_
      refine g_if_ge (n := 43) (tgt := 50) ok dX6_next_40 (by decide) rfl (fun c7 => ?_) (fun c7 => ?_)
      · exact absurd c7 (by decide)
      · refine g_aload_n (n := 44) ok 1 dX6_next_43 rfl rfl rfl ?_
        refine g_iload (n := 46) ok 0 dX6_next_44 rfl rfl ?_
        refine g_callV (n := 49) (rest := []) (av := [vi (-1)]) (j := 52) ok (kX6_refuse K5 (-1) (vp_b (by decide +kernel))) knX6_refuse q770 q772 qs25 clsX6 rfl dX6_next_46 rfl rfl (Nat.le_of_ble_eq_true rfl) (by decide) (by decide) rfl ?_
        exact g_iret ok hr dX6_next_49
    · rw [if_neg c6]
      have ha8 : vp_in foot 2 := isFoot6_in c6
      have ha8b := vb ha8
      refine g_iload (n := 14) ok 4 dX6_next_12 rfl rfl ?_
      refine g_i2l (n := 15) ok dX6_next_14 rfl ?_
      refine g_ldc2_w (n := 18) ok dX6_next_15 q982 rfl ?_
      refine g_ldc2_w (n := 21) ok dX6_next_18 q840 rfl ?_
      refine g_callS (n := 24) (rest := []) (av := [vl hour.toInt64, vl (-1), vl 11]) ok (kX6_in K5 hour.toInt64 (-1) 11) knX6_in q792 q793 dX6_next_21 rfl rfl (Nat.le_of_ble_eq_true rfl) (by decide) (by decide) rfl ?_
      refine g_if_eq (n := 27) (tgt := 35) ok dX6_next_24 (by decide) rfl (fun c9 => ?_) (fun c9 => ?_)
      · rw [if_pos c9]
        refine g_iconst (n := 36) (v := -1) ok dX6_next_35 rfl rfl ?_
        refine g_istore (n := 38) (lv' := [(5, vi (-1)), (0, vr 52), (1, vi foot), (2, vi push), (3, vi lean), (4, vi hour)]) ok dX6_next_36 (by decide) rfl rfl ?_
        refine g_iload (n := 40) ok 0 dX6_next_38 rfl rfl ?_
        refine g_if_ge (n := 43) (tgt := 50) ok dX6_next_40 (by decide) rfl (fun c10 => ?_) (fun c10 => ?_)
        · exact absurd c10 (by decide)
        · refine g_aload_n (n := 44) ok 1 dX6_next_43 rfl rfl rfl ?_
          refine g_iload (n := 46) ok 0 dX6_next_44 rfl rfl ?_
          refine g_callV (n := 49) (rest := []) (av := [vi (-1)]) (j := 52) ok (kX6_refuse K5 (-1) (vp_b (by decide +kernel))) knX6_refuse q770 q772 qs25 clsX6 rfl dX6_next_46 rfl rfl (Nat.le_of_ble_eq_true rfl) (by decide) (by decide) rfl ?_
          exact g_iret ok hr dX6_next_49
      · rw [if_neg c9]
        have hin := c9
        refine g_iload_n (n := 28) ok 2 dX6_next_27 rfl rfl rfl ?_
        refine g_iload_n (n := 29) ok 3 dX6_next_28 rfl rfl rfl ?_
        refine g_callS (n := 32) (rest := []) (av := [vi push, vi lean]) ok (kX6_wrongTwo K5 push lean) knX6_wrongTwo q845 q846 dX6_next_29 rfl rfl (Nat.le_of_ble_eq_true rfl) (by decide) (by decide) rfl ?_
        refine g_goto (tgt := 36) ok dX6_next_32 (by decide) ?_
        refine g_istore (n := 38) (lv' := [(5, vi (fX6_wrongTwo push lean)), (0, vr 52), (1, vi foot), (2, vi push), (3, vi lean), (4, vi hour)]) ok dX6_next_36 (by decide) rfl rfl ?_
        refine g_iload (n := 40) ok 0 dX6_next_38 rfl rfl ?_
        refine g_if_ge (n := 43) (tgt := 50) ok dX6_next_40 (by decide) rfl (fun c11 => ?_) (fun c11 => ?_)
        · rw [if_pos c11]
          have hx12 := wrongTwo_ne c11
          refine g_iload (n := 52) ok 5 dX6_next_50 rfl rfl ?_
          refine g_if_ge (n := 55) (tgt := 69) ok dX6_next_52 (by decide) rfl (fun c13 => ?_) (fun c13 => ?_)
          · rw [if_pos c13]
            have hh : vp_in hour 12 := in6_hi hin c13
            have hhb := vb hh
            refine g_aload_n (n := 70) ok 1 dX6_next_69 rfl rfl rfl ?_
            refine g_aload_n (n := 71) ok 1 dX6_next_70 rfl rfl rfl ?_
            refine g_get (n := 74) (v := vi (K5 52 3)) (c := 6) (k := 3) ok dX6_next_71 clsX6 (by decide) q681 rfl rfl rfl ?_
            refine g_iload_n (n := 75) ok 2 dX6_next_74 rfl rfl rfl ?_
            refine g_iload_n (n := 76) ok 3 dX6_next_75 rfl rfl rfl ?_
            refine g_iload_n (n := 77) ok 4 dX6_next_76 rfl rfl rfl ?_
            refine g_iload (n := 79) ok 5 dX6_next_77 rfl rfl ?_
            refine g_callV (n := 82) (rest := []) (av := [vi (K5 52 3), vi (nI (ix foot)), vi push, vi lean, vi (nI (ix hour))]) (j := 52) ok (kX6_radiusBy K5 (K5 52 3) (ix foot) push lean (ix hour) (by first | with_reducible assumption | exact vp_mono (by with_reducible assumption) (by omega)) (by first | with_reducible assumption | omega) (by first | with_reducible assumption | omega) (by first | with_reducible assumption | omega)) knX6_radiusBy q852 q854 qs39 clsX6 rfl dX6_next_79 (lcons (congrArg vi (vx hh)) (lcons rfl (lcons rfl (lcons (congrArg vi (vx ha8)) (lcons rfl (lcons rfl rfl)))))) rfl (Nat.le_of_ble_eq_true rfl) (by decide) (by decide) rfl ?_
            exact g_iret ok hr dX6_next_82
          · rw [if_neg c13]
            refine g_aload_n (n := 56) ok 1 dX6_next_55 rfl rfl rfl ?_
            refine g_aload_n (n := 57) ok 1 dX6_next_56 rfl rfl rfl ?_
            refine g_get (n := 60) (v := vi (K5 52 3)) (c := 6) (k := 3) ok dX6_next_57 clsX6 (by decide) q681 rfl rfl rfl ?_
            refine g_iload_n (n := 61) ok 2 dX6_next_60 rfl rfl rfl ?_
            refine g_iload_n (n := 62) ok 3 dX6_next_61 rfl rfl rfl ?_
            refine g_iload_n (n := 63) ok 4 dX6_next_62 rfl rfl rfl ?_
            refine g_callV (n := 66) (rest := []) (av := [vi (K5 52 3), vi (nI (ix foot)), vi push, vi lean]) (j := 52) ok (kX6_offBy K5 (K5 52 3) (ix foot) push lean (by first | with_reducible assumption | exact vp_mono (by with_reducible assumption) (by omega)) (by first | with_reducible assumption | omega) (by first | with_reducible assumption | omega)) knX6_offBy q983 q985 qs53 clsX6 rfl dX6_next_63 (lcons rfl (lcons rfl (lcons (congrArg vi (vx ha8)) (lcons rfl (lcons rfl rfl))))) rfl (Nat.le_of_ble_eq_true rfl) (by decide) (by decide) rfl ?_
            refine g_goto (tgt := 82) ok dX6_next_66 (by decide) ?_
            exact g_iret ok hr dX6_next_82
        · rw [if_neg c11]
          refine g_aload_n (n := 44) ok 1 dX6_next_43 rfl rfl rfl ?_
          refine g_iload (n := 46) ok 0 dX6_next_44 rfl rfl ?_
          refine g_callV (n := 49) (rest := []) (av := [vi (fX6_wrongTwo push lean)]) (j := 52) ok (kX6_refuse K5 (fX6_wrongTwo push lean) wrongTwo_in) knX6_refuse q770 q772 qs25 clsX6 rfl dX6_next_46 rfl rfl (Nat.le_of_ble_eq_true rfl) (by decide) (by decide) rfl ?_
          exact g_iret ok hr dX6_next_49
  exact C5_14 _ (by rw [up_k (by omega)]; exact hd)

noncomputable def fX6_growsBy_x28 (I : HI) (kind : Int32) (foot : Nat) (push : Int32) (lean : Int32) (x28_8 : Int32) (J28 : HI) : Int32 × HI :=
  if x28_8 ≤ fX6_offOf ((fX6_drawBy I kind foot push lean).2) ((fX6_drawBy I kind foot push lean).1) then (if fX6_offOf ((fX6_drawBy I kind foot push lean).2) ((fX6_drawBy I kind foot push lean).1) ≤ x28_8 then (0, (up J28 52 5 (I 52 5))) else ((-1), (up J28 52 5 (I 52 5)))) else (1, (up J28 52 5 (I 52 5)))
noncomputable def fX6_growsBy_b28 (kind : Int32) (foot : Nat) (push : Int32) (lean : Int32) (i28 : Nat) (x28_8 : Int32) (J28 : HI) : Int32 × HI :=
  (fX6_offOf ((fX6_drawBy J28 kind foot push lean).2) ((fX6_drawBy J28 kind foot push lean).1), ((fX6_drawBy J28 kind foot push lean).2))
noncomputable def fX6_growsBy (I : HI) (kind : Int32) (foot : Nat) (push : Int32) (lean : Int32) (m : Nat) : Int32 × HI :=
  (fun (s : Int32 × HI) => fX6_growsBy_x28 I kind foot push lean s.1 s.2) (fo (m - 1) 1 (fun (i : Nat) (s : Int32 × HI) => fX6_growsBy_b28 kind foot push lean i s.1 s.2) (fX6_offOf ((fX6_drawBy I kind foot push lean).2) ((fX6_drawBy I kind foot push lean).1), ((fX6_drawBy I kind foot push lean).2)))
theorem knX6_growsBy : Kn yX6_growsBy cX6_growsBy 10 (some .int) 5 := ⟨q998, q8, ⟨by decide, by decide⟩, by decide +kernel⟩
set_option maxHeartbeats 400000 in
set_option maxRecDepth 100000 in
theorem kX6_growsBy (I : HI) (kind : Int32) (foot : Nat) (push : Int32) (lean : Int32) (m : Nat) (hd : vp_in (I 52 5) 7) (hf : foot < 2) (hl : ¬ lean = 0) (hm1 : 2 ≤ m) (hm2 : m ≤ 9) : Cx yX6_growsBy cX6_growsBy 10 (some .int) 4 100 [vr 52, vi kind, vi (nI foot), vi push, vi lean, vi (nI m)] I ((some (vi (((fX6_growsBy I kind foot push lean m).1))), (fX6_growsBy I kind foot push lean m).2)) := by
  refine Cx.mk (lv := [(0, vr 52), (1, vi kind), (2, vi (nI foot)), (3, vi push), (4, vi lean), (5, vi (nI m))]) (by decide) (Nat.le_of_ble_eq_true rfl) rfl (fun E ok hr => ?_)
  have hd1 := vb hd
  rw [fX6_growsBy]
  refine g_aload_n (n := 1) ok 0 dX6_growsBy_0 rfl rfl rfl ?_
  refine g_get (n := 4) (v := vi (I 52 5)) (c := 6) (k := 5) ok dX6_growsBy_1 clsX6 (by decide) q683 rfl rfl rfl ?_
  refine g_istore (n := 6) (lv' := [(6, vi (I 52 5)), (0, vr 52), (1, vi kind), (2, vi (nI foot)), (3, vi push), (4, vi lean), (5, vi (nI m))]) ok dX6_growsBy_4 (by decide) rfl rfl ?_
  refine g_aload_n (n := 7) ok 1 dX6_growsBy_6 rfl rfl rfl ?_
  refine g_aload_n (n := 8) ok 1 dX6_growsBy_7 rfl rfl rfl ?_
  refine g_iload_n (n := 9) ok 2 dX6_growsBy_8 rfl rfl rfl ?_
  refine g_iload_n (n := 10) ok 3 dX6_growsBy_9 rfl rfl rfl ?_
  refine g_iload_n (n := 11) ok 4 dX6_growsBy_10 rfl rfl rfl ?_
  refine g_iload (n := 13) ok 5 dX6_growsBy_11 rfl rfl ?_
  refine g_callV (n := 16) (rest := [vr 52]) (av := [vi kind, vi (nI foot), vi push, vi lean]) (j := 52) ok (kX6_drawBy I kind foot push lean (vp_mono hd (by omega)) (by first | with_reducible assumption | omega) (by first | with_reducible assumption | omega)) knX6_drawBy q848 q850 qs38 clsX6 rfl dX6_growsBy_13 rfl rfl (Nat.le_of_ble_eq_true rfl) (by decide) (by decide) rfl ?_
  have hp1 : (fX6_drawBy I kind foot push lean).1 = ix (I 52 5) := rfl
  refine g_callV (n := 19) (rest := []) (av := [vi (nI ((fX6_drawBy I kind foot push lean).1))]) (j := 52) ok (kX6_offOf ((fX6_drawBy I kind foot push lean).2) ((fX6_drawBy I kind foot push lean).1) (by first | with_reducible assumption | omega)) knX6_offOf q939 q941 qs48 clsX6 rfl dX6_growsBy_16 rfl rfl (Nat.le_of_ble_eq_true rfl) (by decide) (by decide) rfl ?_
  refine g_istore (n := 21) (lv' := [(7, vi (fX6_offOf ((fX6_drawBy I kind foot push lean).2) ((fX6_drawBy I kind foot push lean).1))), (6, vi (I 52 5)), (0, vr 52), (1, vi kind), (2, vi (nI foot)), (3, vi push), (4, vi lean), (5, vi (nI m))]) ok dX6_growsBy_19 (by decide) rfl rfl ?_
  refine g_iload (n := 23) ok 0 dX6_growsBy_21 rfl rfl ?_
  refine g_istore (n := 25) (lv' := [(8, vi (fX6_offOf ((fX6_drawBy I kind foot push lean).2) ((fX6_drawBy I kind foot push lean).1))), (7, vi (fX6_offOf ((fX6_drawBy I kind foot push lean).2) ((fX6_drawBy I kind foot push lean).1))), (6, vi (I 52 5)), (0, vr 52), (1, vi kind), (2, vi (nI foot)), (3, vi push), (4, vi lean), (5, vi (nI m))]) ok dX6_growsBy_23 (by decide) rfl rfl ?_
  refine g_iconst (n := 26) (v := 1) ok dX6_growsBy_25 rfl rfl ?_
  refine g_istore (n := 28) (lv' := [(9, vi 1), (8, vi (fX6_offOf ((fX6_drawBy I kind foot push lean).2) ((fX6_drawBy I kind foot push lean).1))), (7, vi (fX6_offOf ((fX6_drawBy I kind foot push lean).2) ((fX6_drawBy I kind foot push lean).1))), (6, vi (I 52 5)), (0, vr 52), (1, vi kind), (2, vi (nI foot)), (3, vi push), (4, vi lean), (5, vi (nI m))]) ok dX6_growsBy_26 (by decide) rfl rfl ?_
  have X28 : ∀ (x28_8 : Int32) (J28 : HI), G E 10 ((some (vi (((fX6_growsBy_x28 I kind foot push lean x28_8 J28).1))), (fX6_growsBy_x28 I kind foot push lean x28_8 J28).2)) J28 56 [(8, vi x28_8), (7, vi (fX6_offOf ((fX6_drawBy I kind foot push lean).2) ((fX6_drawBy I kind foot push lean).1))), (6, vi (I 52 5)), (0, vr 52)] [] := by
    intro x28_8 J28
    rw [fX6_growsBy_x28]
    refine g_aload_n (n := 57) ok 3 dX6_growsBy_56 rfl rfl rfl ?_
    refine g_iload (n := 59) ok 2 dX6_growsBy_57 rfl rfl ?_
    refine g_put (n := 62) (J := up J28 52 5 (I 52 5)) (c := 6) (k := 5) ok dX6_growsBy_59 clsX6 tyX6 tyX6_ok nmX6 (by decide) q683 rfl rfl (fun _ => rfl) (fun _ => rfl) (Nat.le_of_ble_eq_true rfl) (fs_6_5 _ _ _) up_ne rfl ?_
    refine g_iload (n := 64) ok 0 dX6_growsBy_62 rfl rfl ?_
    refine g_iload (n := 66) ok 1 dX6_growsBy_64 rfl rfl ?_
    refine g_icmp_le (n := 69) (tgt := 73) ok dX6_growsBy_66 (by decide) rfl (fun c2 => ?_) (fun c2 => ?_)
    · rw [if_pos c2]
      refine g_iload (n := 75) ok 0 dX6_growsBy_73 rfl rfl ?_
      refine g_iload (n := 77) ok 1 dX6_growsBy_75 rfl rfl ?_
      refine g_icmp_ge (n := 80) (tgt := 84) ok dX6_growsBy_77 (by decide) rfl (fun c3 => ?_) (fun c3 => ?_)
      · rw [if_pos c3]
        refine g_iconst (n := 85) (v := 0) ok dX6_growsBy_84 rfl rfl ?_
        exact g_iret ok hr dX6_growsBy_85
      · rw [if_neg c3]
        refine g_iconst (n := 81) (v := -1) ok dX6_growsBy_80 rfl rfl ?_
        refine g_goto (tgt := 85) ok dX6_growsBy_81 (by decide) ?_
        exact g_iret ok hr dX6_growsBy_85
    · rw [if_neg c2]
      refine g_iconst (n := 70) (v := 1) ok dX6_growsBy_69 rfl rfl ?_
      refine g_goto (tgt := 85) ok dX6_growsBy_70 (by decide) ?_
      exact g_iret ok hr dX6_growsBy_85
  have L28 : ∀ (n28 i28 : Nat) (x28_8 : Int32) (J28 : HI) (hJ : J28 52 5 = nI (ix (I 52 5) + i28)) (hi : i28 + n28 = m), G E 10 ((some (vi ((((fun (s : Int32 × HI) => fX6_growsBy_x28 I kind foot push lean s.1 s.2) (fo n28 i28 (fun (i : Nat) (s : Int32 × HI) => fX6_growsBy_b28 kind foot push lean i s.1 s.2) (x28_8, J28))).1))), ((fun (s : Int32 × HI) => fX6_growsBy_x28 I kind foot push lean s.1 s.2) (fo n28 i28 (fun (i : Nat) (s : Int32 × HI) => fX6_growsBy_b28 kind foot push lean i s.1 s.2) (x28_8, J28))).2)) J28 28 [(9, vi (nI i28)), (8, vi x28_8), (7, vi (fX6_offOf ((fX6_drawBy I kind foot push lean).2) ((fX6_drawBy I kind foot push lean).1))), (6, vi (I 52 5)), (0, vr 52), (1, vi kind), (2, vi (nI foot)), (3, vi push), (4, vi lean), (5, vi (nI m))] [] := by
    intro n28
    induction n28 with
    | zero =>
      intro i28 x28_8 J28 hJ hi
      rw [fo_0]
      refine g_iload (n := 30) ok 0 dX6_growsBy_28 rfl rfl ?_
      refine g_iload (n := 32) ok 9 dX6_growsBy_30 rfl rfl ?_
      refine g_icmp_ge (n := 35) (tgt := 56) ok dX6_growsBy_32 (by decide) rfl (fun c => ?_) (fun c => absurd (nle (a := m) (b := i28) rfl rfl (by omega) (by omega)) c)
      refine g_sub [1, 2, 3, 4] rfl ?_
      exact X28 _ _
    | succ n28 ih =>
      intro i28 x28_8 J28 hJ hi
      refine g_iload (n := 30) ok 0 dX6_growsBy_28 rfl rfl ?_
      refine g_iload (n := 32) ok 9 dX6_growsBy_30 rfl rfl ?_
      refine g_icmp_ge (n := 35) (tgt := 56) ok dX6_growsBy_32 (by decide) rfl (fun c => absurd c (nnle (a := m) (b := i28) rfl rfl (by omega) (by omega))) (fun c => ?_)
      rw [fo_s]
      show G E 10 ((some (vi ((((fun (s : Int32 × HI) => fX6_growsBy_x28 I kind foot push lean s.1 s.2) (fo n28 (i28 + 1) (fun (i : Nat) (s : Int32 × HI) => fX6_growsBy_b28 kind foot push lean i s.1 s.2) (fX6_growsBy_b28 kind foot push lean i28 x28_8 J28))).1))), ((fun (s : Int32 × HI) => fX6_growsBy_x28 I kind foot push lean s.1 s.2) (fo n28 (i28 + 1) (fun (i : Nat) (s : Int32 × HI) => fX6_growsBy_b28 kind foot push lean i s.1 s.2) (fX6_growsBy_b28 kind foot push lean i28 x28_8 J28))).2)) _ _ _ _
      rw [fX6_growsBy_b28]
      refine g_aload_n (n := 36) ok 4 dX6_growsBy_35 rfl rfl rfl ?_
      refine g_aload_n (n := 37) ok 4 dX6_growsBy_36 rfl rfl rfl ?_
      refine g_iload_n (n := 38) ok 5 dX6_growsBy_37 rfl rfl rfl ?_
      refine g_iload_n (n := 39) ok 6 dX6_growsBy_38 rfl rfl rfl ?_
      refine g_iload_n (n := 40) ok 7 dX6_growsBy_39 rfl rfl rfl ?_
      refine g_iload (n := 42) ok 8 dX6_growsBy_40 rfl rfl ?_
      refine g_callV (n := 45) (rest := [vr 52]) (av := [vi kind, vi (nI foot), vi push, vi lean]) (j := 52) ok (kX6_drawBy J28 kind foot push lean (by rw [hJ]; exact vp_nI (by omega) (by omega)) (by first | with_reducible assumption | omega) (by first | with_reducible assumption | omega)) knX6_drawBy q848 q850 qs38 clsX6 rfl dX6_growsBy_42 rfl rfl (Nat.le_of_ble_eq_true rfl) (by decide) (by decide) rfl ?_
      have hp4 : (fX6_drawBy J28 kind foot push lean).1 = ix (J28 52 5) := rfl
      have hix : ix (J28 52 5) < 27 := by rw [hJ, ix_nI (by omega)]; omega
      refine g_callV (n := 48) (rest := []) (av := [vi (nI ((fX6_drawBy J28 kind foot push lean).1))]) (j := 52) ok (kX6_offOf ((fX6_drawBy J28 kind foot push lean).2) ((fX6_drawBy J28 kind foot push lean).1) (by first | with_reducible assumption | omega)) knX6_offOf q939 q941 qs48 clsX6 rfl dX6_growsBy_45 rfl rfl (Nat.le_of_ble_eq_true rfl) (by decide) (by decide) rfl ?_
      refine g_istore (n := 50) (lv' := [(8, vi (fX6_offOf ((fX6_drawBy J28 kind foot push lean).2) ((fX6_drawBy J28 kind foot push lean).1))), (9, vi (nI i28)), (7, vi (fX6_offOf ((fX6_drawBy I kind foot push lean).2) ((fX6_drawBy I kind foot push lean).1))), (6, vi (I 52 5)), (0, vr 52), (1, vi kind), (2, vi (nI foot)), (3, vi push), (4, vi lean), (5, vi (nI m))]) ok dX6_growsBy_48 (by decide) rfl rfl ?_
      refine g_iinc (n := 53) (v := nI (i28 + 1)) (lv' := [(9, vi (nI (i28 + 1))), (8, vi (fX6_offOf ((fX6_drawBy J28 kind foot push lean).2) ((fX6_drawBy J28 kind foot push lean).1))), (7, vi (fX6_offOf ((fX6_drawBy I kind foot push lean).2) ((fX6_drawBy I kind foot push lean).1))), (6, vi (I 52 5)), (0, vr 52), (1, vi kind), (2, vi (nI foot)), (3, vi push), (4, vi lean), (5, vi (nI m))]) ok 1 dX6_growsBy_50 rfl (iinc_n (a := i28) rfl) (by decide) rfl rfl ?_
      refine g_goto (tgt := 28) ok dX6_growsBy_53 (by decide) ?_
      exact ih (i28 + 1) (fX6_offOf ((fX6_drawBy J28 kind foot push lean).2) ((fX6_drawBy J28 kind foot push lean).1)) _ (by rw [drawBy_tr, hJ]; exact (nI_succ _).symm) (by omega)
  exact L28 (m - 1) 1 (fX6_offOf ((fX6_drawBy I kind foot push lean).2) ((fX6_drawBy I kind foot push lean).1)) _ (drawBy_tr.trans ((congrArg (· + 1) (vx hd)).trans (nI_succ _).symm)) (by omega)
theorem growsBy_tr {I : HI} {kind push lean : Int32} {foot m : Nat} : (fX6_growsBy I kind foot push lean m).2 52 5 = I 52 5 := by
  unfold fX6_growsBy fX6_growsBy_x28
  dsimp only
  repeat' split
  all_goals (dsimp only; exact up_v)

noncomputable def fX6_grows_c5 (foot : Int32) (push : Int32) (lean : Int32) (kind : Int32) (n : Int32) (K5 : HI) : Int32 × HI :=
  if fX6_isFoot foot = 0 then (1000000000 - ((fX6_refuse K5 (-1)).1), ((fX6_refuse K5 (-1)).2)) else (if fX6_in kind.toInt64 0 6 = 0 then (1000000000 - ((fX6_refuse K5 (-2)).1), ((fX6_refuse K5 (-2)).2)) else (if 0 ≤ fX6_wrongGrowth push lean n then ((fX6_growsBy K5 kind (ix foot) push lean (ix n)).1, ((fX6_growsBy K5 kind (ix foot) push lean (ix n)).2)) else (1000000000 - ((fX6_refuse K5 (fX6_wrongGrowth push lean n)).1), ((fX6_refuse K5 (fX6_wrongGrowth push lean n)).2))))
noncomputable def fX6_grows (I : HI) (foot : Int32) (push : Int32) (lean : Int32) (kind : Int32) (n : Int32) : Int32 × HI :=
  fX6_grows_c5 foot push lean kind n (up I 52 10 0)
theorem knX6_grows : Kn yX6_grows cX6_grows 7 (some .int) 5 := ⟨q990, q8, ⟨by decide, by decide⟩, by decide +kernel⟩
set_option maxHeartbeats 400000 in
set_option maxRecDepth 100000 in
theorem kX6_grows (I : HI) (foot : Int32) (push : Int32) (lean : Int32) (kind : Int32) (n : Int32) (hd : vp_in (I 52 5) 7) : Cx yX6_grows cX6_grows 7 (some .int) 5 129 [vr 52, vi foot, vi push, vi lean, vi kind, vi n] I ((some (vi (((fX6_grows I foot push lean kind n).1))), (fX6_grows I foot push lean kind n).2)) := by
  refine Cx.mk (lv := [(0, vr 52), (1, vi foot), (2, vi push), (3, vi lean), (4, vi kind), (5, vi n)]) (by decide) (Nat.le_of_ble_eq_true rfl) rfl (fun E ok hr => ?_)
  rw [fX6_grows]
  refine g_aload_n (n := 1) ok 0 dX6_grows_0 rfl rfl rfl ?_
  refine g_iconst (n := 2) (v := 0) ok dX6_grows_1 rfl rfl ?_
  refine g_put (n := 5) (J := up I 52 10 0) (c := 6) (k := 10) ok dX6_grows_2 clsX6 tyX6 tyX6_ok nmX6 (by decide) q688 rfl rfl (fun _ => rfl) (fun _ => rfl) (Nat.le_of_ble_eq_true rfl) (fs_6_10 _ _ _) up_ne rfl ?_
  have C5_17 : ∀ (K5 : HI) (hd2 : vp_in (K5 52 5) 7), G E 7 ((some (vi (((fX6_grows_c5 foot push lean kind n K5).1))), (fX6_grows_c5 foot push lean kind n K5).2)) K5 5 [(0, vr 52), (1, vi foot), (2, vi push), (3, vi lean), (4, vi kind), (5, vi n)] [] := by
    intro K5 hd2
    rw [fX6_grows_c5]
    have hd3 := vb hd2
    refine g_iload_n (n := 6) ok 1 dX6_grows_5 rfl rfl rfl ?_
    refine g_callS (n := 9) (rest := []) (av := [vi foot]) ok (kX6_isFoot K5 foot) knX6_isFoot q834 q835 dX6_grows_6 rfl rfl (Nat.le_of_ble_eq_true rfl) (by decide) (by decide) rfl ?_
    refine g_if_ne (n := 12) (tgt := 16) ok dX6_grows_9 (by decide) rfl (fun c7 => ?_) (fun c7 => ?_)
    · rw [if_neg c7]
      have ha8 : vp_in foot 2 := isFoot6_in c7
      have ha8b := vb ha8
      refine g_iload (n := 18) ok 4 dX6_grows_16 rfl rfl ?_
      refine g_i2l (n := 19) ok dX6_grows_18 rfl ?_
      refine g_lconst (n := 20) (v := 0) ok dX6_grows_19 rfl rfl ?_
      refine g_ldc2_w (n := 23) ok dX6_grows_20 q906 rfl ?_
      refine g_callS (n := 26) (rest := []) (av := [vl kind.toInt64, vl 0, vl 6]) ok (kX6_in K5 kind.toInt64 0 6) knX6_in q792 q793 dX6_grows_23 rfl rfl (Nat.le_of_ble_eq_true rfl) (by decide) (by decide) rfl ?_
      refine g_if_ne (n := 29) (tgt := 34) ok dX6_grows_26 (by decide) rfl (fun c9 => ?_) (fun c9 => ?_)
      · rw [if_neg c9]
        have ha10 : vp_in kind 7 := in6_in (b := 6) c9 (by omega)
        have ha10b := vb ha10
        refine g_iload_n (n := 35) ok 2 dX6_grows_34 rfl rfl rfl ?_
        refine g_iload_n (n := 36) ok 3 dX6_grows_35 rfl rfl rfl ?_
        refine g_iload (n := 38) ok 5 dX6_grows_36 rfl rfl ?_
        refine g_callS (n := 41) (rest := []) (av := [vi push, vi lean, vi n]) ok (kX6_wrongGrowth K5 push lean n) knX6_wrongGrowth q991 q992 dX6_grows_38 rfl rfl (Nat.le_of_ble_eq_true rfl) (by decide) (by decide) rfl ?_
        refine g_istore (n := 43) (lv' := [(6, vi (fX6_wrongGrowth push lean n)), (0, vr 52), (1, vi foot), (2, vi push), (3, vi lean), (4, vi kind), (5, vi n)]) ok dX6_grows_41 (by decide) rfl rfl ?_
        refine g_iload (n := 45) ok 0 dX6_grows_43 rfl rfl ?_
        refine g_if_ge (n := 48) (tgt := 60) ok dX6_grows_45 (by decide) rfl (fun c11 => ?_) (fun c11 => ?_)
        · rw [if_pos c11]
          have ha12 : vp_in n 10 := wrongGrowth_in10 c11
          have ha12b := vb ha12
          have hx13 := wrongGrowth_ne c11
          have hx14 := wrongGrowth_ge c11
          refine g_aload_n (n := 61) ok 1 dX6_grows_60 rfl rfl rfl ?_
          refine g_iload (n := 63) ok 5 dX6_grows_61 rfl rfl ?_
          refine g_iload_n (n := 64) ok 2 dX6_grows_63 rfl rfl rfl ?_
          refine g_iload_n (n := 65) ok 3 dX6_grows_64 rfl rfl rfl ?_
          refine g_iload_n (n := 66) ok 4 dX6_grows_65 rfl rfl rfl ?_
          refine g_iload (n := 68) ok 6 dX6_grows_66 rfl rfl ?_
          refine g_callV (n := 71) (rest := []) (av := [vi kind, vi (nI (ix foot)), vi push, vi lean, vi (nI (ix n))]) (j := 52) ok (kX6_growsBy K5 kind (ix foot) push lean (ix n) (by first | with_reducible assumption | omega) (by first | with_reducible assumption | omega) (by first | with_reducible assumption | omega) (by first | with_reducible assumption | omega) (by first | with_reducible assumption | omega)) knX6_growsBy q995 q997 qs54 clsX6 rfl dX6_grows_68 (lcons (congrArg vi (vx ha12)) (lcons rfl (lcons rfl (lcons (congrArg vi (vx ha8)) (lcons rfl (lcons rfl rfl)))))) rfl (Nat.le_of_ble_eq_true rfl) (by decide) (by decide) rfl ?_
          exact g_iret ok hr dX6_grows_71
        · rw [if_neg c11]
          refine g_ldc (n := 50) ok dX6_grows_48 q994 rfl ?_
          refine g_aload_n (n := 51) ok 1 dX6_grows_50 rfl rfl rfl ?_
          refine g_iload (n := 53) ok 0 dX6_grows_51 rfl rfl ?_
          refine g_callV (n := 56) (rest := [vi 1000000000]) (av := [vi (fX6_wrongGrowth push lean n)]) (j := 52) ok (kX6_refuse K5 (fX6_wrongGrowth push lean n) wrongGrowth_in) knX6_refuse q770 q772 qs25 clsX6 rfl dX6_grows_53 rfl rfl (Nat.le_of_ble_eq_true rfl) (by decide) (by decide) rfl ?_
          refine g_isub (n := 57) ok dX6_grows_56 rfl ?_
          refine g_goto (tgt := 71) ok dX6_grows_57 (by decide) ?_
          exact g_iret ok hr dX6_grows_71
      · rw [if_pos c9]
        refine g_bipush (n := 31) (v := -2) ok dX6_grows_29 rfl rfl ?_
        refine g_goto (tgt := 41) ok dX6_grows_31 (by decide) ?_
        refine g_istore (n := 43) (lv' := [(6, vi (-2)), (0, vr 52), (1, vi foot), (2, vi push), (3, vi lean), (4, vi kind), (5, vi n)]) ok dX6_grows_41 (by decide) rfl rfl ?_
        refine g_iload (n := 45) ok 0 dX6_grows_43 rfl rfl ?_
        refine g_if_ge (n := 48) (tgt := 60) ok dX6_grows_45 (by decide) rfl (fun c15 => ?_) (fun c15 => ?_)
        · exact absurd c15 (by decide)
        · refine g_ldc (n := 50) ok dX6_grows_48 q994 rfl ?_
          refine g_aload_n (n := 51) ok 1 dX6_grows_50 rfl rfl rfl ?_
          refine g_iload (n := 53) ok 0 dX6_grows_51 rfl rfl ?_
          refine g_callV (n := 56) (rest := [vi 1000000000]) (av := [vi (-2)]) (j := 52) ok (kX6_refuse K5 (-2) (vp_b (by decide +kernel))) knX6_refuse q770 q772 qs25 clsX6 rfl dX6_grows_53 rfl rfl (Nat.le_of_ble_eq_true rfl) (by decide) (by decide) rfl ?_
          refine g_isub (n := 57) ok dX6_grows_56 rfl ?_
          refine g_goto (tgt := 71) ok dX6_grows_57 (by decide) ?_
          exact g_iret ok hr dX6_grows_71
    · rw [if_pos c7]
      refine g_iconst (n := 13) (v := -1) ok dX6_grows_12 rfl rfl ?_
      refine g_goto (tgt := 41) ok dX6_grows_13 (by decide) ?_
      refine g_istore (n := 43) (lv' := [(6, vi (-1)), (0, vr 52), (1, vi foot), (2, vi push), (3, vi lean), (4, vi kind), (5, vi n)]) ok dX6_grows_41 (by decide) rfl rfl ?_
      refine g_iload (n := 45) ok 0 dX6_grows_43 rfl rfl ?_
      refine g_if_ge (n := 48) (tgt := 60) ok dX6_grows_45 (by decide) rfl (fun c16 => ?_) (fun c16 => ?_)
      · exact absurd c16 (by decide)
      · refine g_ldc (n := 50) ok dX6_grows_48 q994 rfl ?_
        refine g_aload_n (n := 51) ok 1 dX6_grows_50 rfl rfl rfl ?_
        refine g_iload (n := 53) ok 0 dX6_grows_51 rfl rfl ?_
        refine g_callV (n := 56) (rest := [vi 1000000000]) (av := [vi (-1)]) (j := 52) ok (kX6_refuse K5 (-1) (vp_b (by decide +kernel))) knX6_refuse q770 q772 qs25 clsX6 rfl dX6_grows_53 rfl rfl (Nat.le_of_ble_eq_true rfl) (by decide) (by decide) rfl ?_
        refine g_isub (n := 57) ok dX6_grows_56 rfl ?_
        refine g_goto (tgt := 71) ok dX6_grows_57 (by decide) ?_
        exact g_iret ok hr dX6_grows_71
  exact C5_17 _ (by rw [up_k (by omega)]; exact hd)

noncomputable def fX6_wobbling_x5 (x5_3 : Int32) : Int32 :=
  x5_3
noncomputable def fX6_wobbling_b5 (I : HI) (foot : Int32) (h : Nat) (i5 : Nat) (x5_3 : Int32) : Int32 :=
  if I 56 i5 = foot then (if fX6_wobbleAt I i5 h < 4 then x5_3 + 0 else x5_3 + 1) else x5_3 + 0
noncomputable def fX6_wobbling (I : HI) (foot : Int32) (h : Nat) : Int32 :=
  fX6_wobbling_x5 (fo (ix (I 52 5)) 0 (fun (i : Nat) (s : Int32) => fX6_wobbling_b5 I foot h i s) 0)
theorem knX6_wobbling : Kn yX6_wobbling cX6_wobbling 5 (some .int) 2 := ⟨q1019, q8, ⟨by decide, by decide⟩, by decide +kernel⟩
set_option maxHeartbeats 400000 in
set_option maxRecDepth 100000 in
theorem kX6_wobbling (I : HI) (foot : Int32) (h : Nat) (hd : vp_in (I 52 5) 7) (hh : h < 12) : Cx yX6_wobbling cX6_wobbling 5 (some .int) 2 42 [vr 52, vi foot, vi (nI h)] I ((some (vi ((fX6_wobbling I foot h))), I)) := by
  refine Cx.mk (lv := [(0, vr 52), (1, vi foot), (2, vi (nI h))]) (by decide) (Nat.le_of_ble_eq_true rfl) rfl (fun E ok hr => ?_)
  have hd1 := vb hd
  rw [fX6_wobbling]
  refine g_iconst (n := 1) (v := 0) ok dX6_wobbling_0 rfl rfl ?_
  refine g_istore_n (n := 2) (lv' := [(3, vi 0), (0, vr 52), (1, vi foot), (2, vi (nI h))]) ok dX6_wobbling_1 rfl (by decide) rfl rfl ?_
  refine g_iconst (n := 3) (v := 0) ok dX6_wobbling_2 rfl rfl ?_
  refine g_istore (n := 5) (lv' := [(4, vi 0), (3, vi 0), (0, vr 52), (1, vi foot), (2, vi (nI h))]) ok dX6_wobbling_3 (by decide) rfl rfl ?_
  have X5 : ∀ (x5_3 : Int32), G E 5 ((some (vi ((fX6_wobbling_x5 x5_3))), I)) I 50 [(3, vi x5_3)] [] := by
    intro x5_3
    rw [fX6_wobbling_x5]
    refine g_iload_n (n := 51) ok 0 dX6_wobbling_50 rfl rfl rfl ?_
    exact g_iret ok hr dX6_wobbling_51
  have L5 : ∀ (n5 i5 : Nat) (x5_3 : Int32) (hi : i5 + n5 = ix (I 52 5)), G E 5 ((some (vi ((fX6_wobbling_x5 (fo n5 i5 (fun (i : Nat) (s : Int32) => fX6_wobbling_b5 I foot h i s) x5_3)))), I)) I 5 [(4, vi (nI i5)), (3, vi x5_3), (0, vr 52), (1, vi foot), (2, vi (nI h))] [] := by
    intro n5
    induction n5 with
    | zero =>
      intro i5 x5_3 hi
      rw [fo_0]
      refine g_iload (n := 7) ok 0 dX6_wobbling_5 rfl rfl ?_
      refine g_aload_n (n := 8) ok 2 dX6_wobbling_7 rfl rfl rfl ?_
      refine g_get (n := 11) (v := vi (I 52 5)) (c := 6) (k := 5) ok dX6_wobbling_8 clsX6 (by decide) q683 rfl rfl rfl ?_
      refine g_icmp_ge (n := 14) (tgt := 50) ok dX6_wobbling_11 (by decide) rfl (fun c => ?_) (fun c => absurd (nle (a := ix (I 52 5)) (b := i5) (vx hd) rfl (by omega) (by omega)) c)
      refine g_sub [1] rfl ?_
      exact X5 _
    | succ n5 ih =>
      intro i5 x5_3 hi
      refine g_iload (n := 7) ok 0 dX6_wobbling_5 rfl rfl ?_
      refine g_aload_n (n := 8) ok 2 dX6_wobbling_7 rfl rfl rfl ?_
      refine g_get (n := 11) (v := vi (I 52 5)) (c := 6) (k := 5) ok dX6_wobbling_8 clsX6 (by decide) q683 rfl rfl rfl ?_
      refine g_icmp_ge (n := 14) (tgt := 50) ok dX6_wobbling_11 (by decide) rfl (fun c => absurd c (nnle (a := ix (I 52 5)) (b := i5) (vx hd) rfl (by omega) (by omega))) (fun c => ?_)
      rw [fo_s]
      show G E 5 ((some (vi ((fX6_wobbling_x5 (fo n5 (i5 + 1) (fun (i : Nat) (s : Int32) => fX6_wobbling_b5 I foot h i s) (fX6_wobbling_b5 I foot h i5 x5_3))))), I)) _ _ _ _
      rw [fX6_wobbling_b5]
      refine g_iload_n (n := 15) ok 1 dX6_wobbling_14 rfl rfl rfl ?_
      refine g_aload_n (n := 16) ok 2 dX6_wobbling_15 rfl rfl rfl ?_
      refine g_get (n := 19) (v := vr 56) (c := 6) (k := 6) ok dX6_wobbling_16 clsX6 (by decide) q684 rfl rfl rfl ?_
      refine g_iload (n := 21) ok 0 dX6_wobbling_19 rfl rfl ?_
      refine g_iald (n := 22) (i := i5) (L := 27) ok dX6_wobbling_21 rfl rfl rfl (by omega) rfl ?_
      refine g_iload_n (n := 23) ok 3 dX6_wobbling_22 rfl rfl rfl ?_
      refine g_icmp_ne (n := 26) (tgt := 41) ok dX6_wobbling_23 (by decide) rfl (fun c1 => ?_) (fun c1 => ?_)
      · rw [if_neg c1]
        refine g_iconst (n := 42) (v := 0) ok dX6_wobbling_41 rfl rfl ?_
        refine g_iadd (n := 43) ok dX6_wobbling_42 rfl ?_
        refine g_istore_n (n := 44) (lv' := [(3, vi (x5_3 + 0)), (4, vi (nI i5)), (0, vr 52), (1, vi foot), (2, vi (nI h))]) ok dX6_wobbling_43 rfl (by decide) rfl rfl ?_
        refine g_iinc (n := 47) (v := nI (i5 + 1)) (lv' := [(4, vi (nI (i5 + 1))), (3, vi (x5_3 + 0)), (0, vr 52), (1, vi foot), (2, vi (nI h))]) ok 1 dX6_wobbling_44 rfl (iinc_n (a := i5) rfl) (by decide) rfl rfl ?_
        refine g_goto (tgt := 5) ok dX6_wobbling_47 (by decide) ?_
        exact ih (i5 + 1) (x5_3 + 0) (by omega)
      · rw [if_pos c1]
        refine g_aload_n (n := 27) ok 2 dX6_wobbling_26 rfl rfl rfl ?_
        refine g_iload (n := 29) ok 0 dX6_wobbling_27 rfl rfl ?_
        refine g_iload_n (n := 30) ok 4 dX6_wobbling_29 rfl rfl rfl ?_
        refine g_callV (n := 33) (rest := [vi x5_3]) (av := [vi (nI i5), vi (nI h)]) (j := 52) ok (kX6_wobbleAt I i5 h (by first | with_reducible assumption | omega) (by first | with_reducible assumption | omega)) knX6_wobbleAt q947 q949 qs50 clsX6 rfl dX6_wobbling_30 rfl rfl (Nat.le_of_ble_eq_true rfl) (by decide) (by decide) rfl ?_
        refine g_iconst (n := 34) (v := 4) ok dX6_wobbling_33 rfl rfl ?_
        refine g_icmp_lt (n := 37) (tgt := 41) ok dX6_wobbling_34 (by decide) rfl (fun c2 => ?_) (fun c2 => ?_)
        · rw [if_pos c2]
          refine g_iconst (n := 42) (v := 0) ok dX6_wobbling_41 rfl rfl ?_
          refine g_iadd (n := 43) ok dX6_wobbling_42 rfl ?_
          refine g_istore_n (n := 44) (lv' := [(3, vi (x5_3 + 0)), (4, vi (nI i5)), (0, vr 52), (1, vi foot), (2, vi (nI h))]) ok dX6_wobbling_43 rfl (by decide) rfl rfl ?_
          refine g_iinc (n := 47) (v := nI (i5 + 1)) (lv' := [(4, vi (nI (i5 + 1))), (3, vi (x5_3 + 0)), (0, vr 52), (1, vi foot), (2, vi (nI h))]) ok 1 dX6_wobbling_44 rfl (iinc_n (a := i5) rfl) (by decide) rfl rfl ?_
          refine g_goto (tgt := 5) ok dX6_wobbling_47 (by decide) ?_
          exact ih (i5 + 1) (x5_3 + 0) (by omega)
        · rw [if_neg c2]
          refine g_iconst (n := 38) (v := 1) ok dX6_wobbling_37 rfl rfl ?_
          refine g_goto (tgt := 42) ok dX6_wobbling_38 (by decide) ?_
          refine g_iadd (n := 43) ok dX6_wobbling_42 rfl ?_
          refine g_istore_n (n := 44) (lv' := [(3, vi (x5_3 + 1)), (4, vi (nI i5)), (0, vr 52), (1, vi foot), (2, vi (nI h))]) ok dX6_wobbling_43 rfl (by decide) rfl rfl ?_
          refine g_iinc (n := 47) (v := nI (i5 + 1)) (lv' := [(4, vi (nI (i5 + 1))), (3, vi (x5_3 + 1)), (0, vr 52), (1, vi foot), (2, vi (nI h))]) ok 1 dX6_wobbling_44 rfl (iinc_n (a := i5) rfl) (by decide) rfl rfl ?_
          refine g_goto (tgt := 5) ok dX6_wobbling_47 (by decide) ?_
          exact ih (i5 + 1) (x5_3 + 1) (by omega)
  exact L5 (ix (I 52 5)) 0 0 (by omega)

noncomputable def fX6_from_169 (hour : Int32) (part : Int32) (K5 : HI) (v17 : Int32) (v26 : Int32) (v33 : Int32) (v46 : Int32) : Int64 × HI :=
  (fX6_partOf v46 ((v17 + (3 * ((K5 53 (ix hour)) + (K5 53 (12 + (ix hour)))))) + (v26 + v33)) part, K5)
noncomputable def fX6_from_145 (hour : Int32) (what : Int32) (part : Int32) (K5 : HI) (v17 : Int32) (v26 : Int32) (v33 : Int32) : Int64 × HI :=
  fX6_from_169 hour part K5 v17 v26 v33 (if what = 0 then v17 else (if what = 1 then 3 * ((K5 53 (ix hour)) + (K5 53 (12 + (ix hour)))) else v26 + v33))
noncomputable def fX6_from_128 (hour : Int32) (what : Int32) (part : Int32) (K5 : HI) (v17 : Int32) (v26 : Int32) : Int64 × HI :=
  fX6_from_145 hour what part K5 v17 v26 (if K5 54 (12 + (ix hour)) ≤ 0 then 0 else 2)
noncomputable def fX6_from_92 (hour : Int32) (what : Int32) (part : Int32) (K5 : HI) (v17 : Int32) : Int64 × HI :=
  fX6_from_128 hour what part K5 v17 (if K5 54 (ix hour) ≤ 0 then 0 else 2)
noncomputable def fX6_from_c5 (hour : Int32) (what : Int32) (part : Int32) (K5 : HI) : Int64 × HI :=
  if fX6_isHour hour = 0 then (4000000000000000000 - (((fX6_refuse K5 (-1)).1).toInt64), ((fX6_refuse K5 (-1)).2)) else (if fX6_in what.toInt64 0 2 = 0 then (4000000000000000000 - (((fX6_refuse K5 (-2)).1).toInt64), ((fX6_refuse K5 (-2)).2)) else (if fX6_in part.toInt64 0 1 = 0 then (4000000000000000000 - (((fX6_refuse K5 (-2)).1).toInt64), ((fX6_refuse K5 (-2)).2)) else fX6_from_92 hour what part K5 (if fX6_wobbling K5 0 (ix hour) ≤ 0 then 0 else (if fX6_wobbling K5 1 (ix hour) ≤ 0 then 0 else (fX6_wobbling K5 0 (ix hour)) + (fX6_wobbling K5 1 (ix hour))))))
noncomputable def fX6_from (I : HI) (hour : Int32) (what : Int32) (part : Int32) : Int64 × HI :=
  fX6_from_c5 hour what part (up I 52 10 0)
theorem knX6_from : Kn yX6_from cX6_from 9 (some .long) 3 := ⟨q1014, q8, ⟨by decide, by decide⟩, by decide +kernel⟩
set_option maxHeartbeats 400000 in
set_option maxRecDepth 100000 in
theorem kX6_from (I : HI) (hour : Int32) (what : Int32) (part : Int32) (hd : vp_in (I 52 5) 7) : Cx yX6_from cX6_from 9 (some .long) 3 66 [vr 52, vi hour, vi what, vi part] I ((some (vl (((fX6_from I hour what part).1))), (fX6_from I hour what part).2)) := by
  refine Cx.mk (lv := [(0, vr 52), (1, vi hour), (2, vi what), (3, vi part)]) (by decide) (Nat.le_of_ble_eq_true rfl) rfl (fun E ok hr => ?_)
  rw [fX6_from]
  refine g_aload_n (n := 1) ok 0 dX6_from_0 rfl rfl rfl ?_
  refine g_iconst (n := 2) (v := 0) ok dX6_from_1 rfl rfl ?_
  refine g_put (n := 5) (J := up I 52 10 0) (c := 6) (k := 10) ok dX6_from_2 clsX6 tyX6 tyX6_ok nmX6 (by decide) q688 rfl rfl (fun _ => rfl) (fun _ => rfl) (Nat.le_of_ble_eq_true rfl) (fs_6_10 _ _ _) up_ne rfl ?_
  have C5_48 : ∀ (K5 : HI) (hd2 : vp_in (K5 52 5) 7), G E 9 ((some (vl (((fX6_from_c5 hour what part K5).1))), (fX6_from_c5 hour what part K5).2)) K5 5 [(0, vr 52), (1, vi hour), (2, vi what), (3, vi part)] [] := by
    intro K5 hd2
    rw [fX6_from_c5]
    have hd3 := vb hd2
    refine g_iload_n (n := 6) ok 1 dX6_from_5 rfl rfl rfl ?_
    refine g_callS (n := 9) (rest := []) (av := [vi hour]) ok (kX6_isHour K5 hour) knX6_isHour q837 q838 dX6_from_6 rfl rfl (Nat.le_of_ble_eq_true rfl) (by decide) (by decide) rfl ?_
    refine g_if_ne (n := 12) (tgt := 23) ok dX6_from_9 (by decide) rfl (fun c5 => ?_) (fun c5 => ?_)
    · rw [if_neg c5]
      have ha6 : vp_in hour 12 := isHour6_in c5
      have ha6b := vb ha6
      refine g_iload_n (n := 24) ok 2 dX6_from_23 rfl rfl rfl ?_
      refine g_i2l (n := 25) ok dX6_from_24 rfl ?_
      refine g_lconst (n := 26) (v := 0) ok dX6_from_25 rfl rfl ?_
      refine g_ldc2_w (n := 29) ok dX6_from_26 q1015 rfl ?_
      refine g_callS (n := 32) (rest := []) (av := [vl what.toInt64, vl 0, vl 2]) ok (kX6_in K5 what.toInt64 0 2) knX6_in q792 q793 dX6_from_29 rfl rfl (Nat.le_of_ble_eq_true rfl) (by decide) (by decide) rfl ?_
      refine g_if_eq (n := 35) (tgt := 45) ok dX6_from_32 (by decide) rfl (fun c7 => ?_) (fun c7 => ?_)
      · rw [if_pos c7]
        refine g_ldc2_w (n := 48) ok dX6_from_45 q959 rfl ?_
        refine g_aload_n (n := 49) ok 0 dX6_from_48 rfl rfl rfl ?_
        refine g_bipush (n := 51) (v := -2) ok dX6_from_49 rfl rfl ?_
        refine g_callV (n := 54) (rest := [vl 4000000000000000000]) (av := [vi (-2)]) (j := 52) ok (kX6_refuse K5 (-2) (vp_b (by decide +kernel))) knX6_refuse q770 q772 qs25 clsX6 rfl dX6_from_51 rfl rfl (Nat.le_of_ble_eq_true rfl) (by decide) (by decide) rfl ?_
        refine g_i2l (n := 55) ok dX6_from_54 rfl ?_
        refine g_lsub (n := 56) ok dX6_from_55 rfl ?_
        exact g_lret ok hr dX6_from_56
      · rw [if_neg c7]
        have ha8 : vp_in what 3 := in6_in (b := 2) c7 (by omega)
        have ha8b := vb ha8
        refine g_iload_n (n := 36) ok 3 dX6_from_35 rfl rfl rfl ?_
        refine g_i2l (n := 37) ok dX6_from_36 rfl ?_
        refine g_lconst (n := 38) (v := 0) ok dX6_from_37 rfl rfl ?_
        refine g_lconst (n := 39) (v := 1) ok dX6_from_38 rfl rfl ?_
        refine g_callS (n := 42) (rest := []) (av := [vl part.toInt64, vl 0, vl 1]) ok (kX6_in K5 part.toInt64 0 1) knX6_in q792 q793 dX6_from_39 rfl rfl (Nat.le_of_ble_eq_true rfl) (by decide) (by decide) rfl ?_
        refine g_if_ne (n := 45) (tgt := 57) ok dX6_from_42 (by decide) rfl (fun c9 => ?_) (fun c9 => ?_)
        · rw [if_neg c9]
          have ha10 : vp_in part 2 := in6_in (b := 1) c9 (by omega)
          have ha10b := vb ha10
          refine g_aload_n (n := 58) ok 0 dX6_from_57 rfl rfl rfl ?_
          refine g_iconst (n := 59) (v := 0) ok dX6_from_58 rfl rfl ?_
          refine g_iload_n (n := 60) ok 1 dX6_from_59 rfl rfl rfl ?_
          refine g_callV (n := 63) (rest := []) (av := [vi 0, vi (nI (ix hour))]) (j := 52) ok (kX6_wobbling K5 0 (ix hour) (by first | with_reducible assumption | omega) (by first | with_reducible assumption | omega)) knX6_wobbling q1016 q1018 qs55 clsX6 rfl dX6_from_60 (lcons (congrArg vi (vx ha6)) (lcons rfl (lcons rfl rfl))) rfl (Nat.le_of_ble_eq_true rfl) (by decide) (by decide) rfl ?_
          refine g_istore (n := 65) (lv' := [(4, vi (fX6_wobbling K5 0 (ix hour))), (0, vr 52), (1, vi hour), (2, vi what), (3, vi part)]) ok dX6_from_63 (by decide) rfl rfl ?_
          refine g_aload_n (n := 66) ok 1 dX6_from_65 rfl rfl rfl ?_
          refine g_iconst (n := 67) (v := 1) ok dX6_from_66 rfl rfl ?_
          refine g_iload_n (n := 68) ok 2 dX6_from_67 rfl rfl rfl ?_
          refine g_callV (n := 71) (rest := []) (av := [vi 1, vi (nI (ix hour))]) (j := 52) ok (kX6_wobbling K5 1 (ix hour) (by first | with_reducible assumption | omega) (by first | with_reducible assumption | omega)) knX6_wobbling q1016 q1018 qs55 clsX6 rfl dX6_from_68 (lcons (congrArg vi (vx ha6)) (lcons rfl (lcons rfl rfl))) rfl (Nat.le_of_ble_eq_true rfl) (by decide) (by decide) rfl ?_
          refine g_istore (n := 73) (lv' := [(5, vi (fX6_wobbling K5 1 (ix hour))), (4, vi (fX6_wobbling K5 0 (ix hour))), (0, vr 52), (1, vi hour), (2, vi what), (3, vi part)]) ok dX6_from_71 (by decide) rfl rfl ?_
          refine g_iload (n := 75) ok 1 dX6_from_73 rfl rfl ?_
          have J92_18 : ∀ (v17 : Int32), G E 9 ((some (vl (((fX6_from_92 hour what part K5 v17).1))), (fX6_from_92 hour what part K5 v17).2)) K5 92 [(0, vr 52), (1, vi hour), (2, vi what), (3, vi part)] [vi v17] := by
            intro v17
            rw [fX6_from_92]
            refine g_istore (n := 94) (lv' := [(6, vi v17), (0, vr 52), (1, vi hour), (2, vi what), (3, vi part)]) ok dX6_from_92 (by decide) rfl rfl ?_
            refine g_iconst (n := 95) (v := 3) ok dX6_from_94 rfl rfl ?_
            refine g_aload_n (n := 96) ok 1 dX6_from_95 rfl rfl rfl ?_
            refine g_get (n := 99) (v := vr 53) (c := 6) (k := 0) ok dX6_from_96 clsX6 (by decide) q678 rfl rfl rfl ?_
            refine g_iload_n (n := 100) ok 2 dX6_from_99 rfl rfl rfl ?_
            refine g_iald (n := 101) (i := ix hour) (L := 24) ok dX6_from_100 rfl rfl (vx ha6) (by omega) rfl ?_
            refine g_aload_n (n := 102) ok 1 dX6_from_101 rfl rfl rfl ?_
            refine g_get (n := 105) (v := vr 53) (c := 6) (k := 0) ok dX6_from_102 clsX6 (by decide) q678 rfl rfl rfl ?_
            refine g_bipush (n := 107) (v := 12) ok dX6_from_105 rfl rfl ?_
            refine g_iload_n (n := 108) ok 2 dX6_from_107 rfl rfl rfl ?_
            refine g_iadd (n := 109) ok dX6_from_108 rfl ?_
            refine g_top (nv_iadd (a := 12) (b := ix hour) rfl (vx ha6)) ?_
            refine g_iald (n := 110) (i := 12 + (ix hour)) (L := 24) ok dX6_from_109 rfl rfl rfl (by omega) rfl ?_
            refine g_iadd (n := 111) ok dX6_from_110 rfl ?_
            refine g_imul (n := 112) ok dX6_from_111 rfl ?_
            refine g_istore (n := 114) (lv' := [(7, vi (3 * ((K5 53 (ix hour)) + (K5 53 (12 + (ix hour)))))), (6, vi v17), (0, vr 52), (1, vi hour), (2, vi what), (3, vi part)]) ok dX6_from_112 (by decide) rfl rfl ?_
            refine g_aload_n (n := 115) ok 2 dX6_from_114 rfl rfl rfl ?_
            refine g_get (n := 118) (v := vr 54) (c := 6) (k := 1) ok dX6_from_115 clsX6 (by decide) q679 rfl rfl rfl ?_
            refine g_iload_n (n := 119) ok 3 dX6_from_118 rfl rfl rfl ?_
            refine g_iald (n := 120) (i := ix hour) (L := 24) ok dX6_from_119 rfl rfl (vx ha6) (by omega) rfl ?_
            have J128_27 : ∀ (v26 : Int32), G E 9 ((some (vl (((fX6_from_128 hour what part K5 v17 v26).1))), (fX6_from_128 hour what part K5 v17 v26).2)) K5 128 [(7, vi (3 * ((K5 53 (ix hour)) + (K5 53 (12 + (ix hour)))))), (6, vi v17), (0, vr 52), (1, vi hour), (2, vi what), (3, vi part)] [vi v26] := by
              intro v26
              rw [fX6_from_128]
              refine g_aload_n (n := 129) ok 2 dX6_from_128 rfl rfl rfl ?_
              refine g_get (n := 132) (v := vr 54) (c := 6) (k := 1) ok dX6_from_129 clsX6 (by decide) q679 rfl rfl rfl ?_
              refine g_bipush (n := 134) (v := 12) ok dX6_from_132 rfl rfl ?_
              refine g_iload_n (n := 135) ok 3 dX6_from_134 rfl rfl rfl ?_
              refine g_iadd (n := 136) ok dX6_from_135 rfl ?_
              refine g_top (nv_iadd (a := 12) (b := ix hour) rfl (vx ha6)) ?_
              refine g_iald (n := 137) (i := 12 + (ix hour)) (L := 24) ok dX6_from_136 rfl rfl rfl (by omega) rfl ?_
              have J145_35 : ∀ (v33 : Int32), G E 9 ((some (vl (((fX6_from_145 hour what part K5 v17 v26 v33).1))), (fX6_from_145 hour what part K5 v17 v26 v33).2)) K5 145 [(7, vi (3 * ((K5 53 (ix hour)) + (K5 53 (12 + (ix hour)))))), (6, vi v17), (2, vi what), (3, vi part)] [vi v33, vi v26] := by
                intro v33
                rw [fX6_from_145]
                refine g_iadd (n := 146) ok dX6_from_145 rfl ?_
                refine g_istore (n := 148) (lv' := [(8, vi (v26 + v33)), (7, vi (3 * ((K5 53 (ix hour)) + (K5 53 (12 + (ix hour)))))), (6, vi v17), (2, vi what), (3, vi part)]) ok dX6_from_146 (by decide) rfl rfl ?_
                refine g_iload_n (n := 149) ok 3 dX6_from_148 rfl rfl rfl ?_
                have J169_47 : ∀ (v46 : Int32), G E 9 ((some (vl (((fX6_from_169 hour part K5 v17 v26 v33 v46).1))), (fX6_from_169 hour part K5 v17 v26 v33 v46).2)) K5 169 [(8, vi (v26 + v33)), (7, vi (3 * ((K5 53 (ix hour)) + (K5 53 (12 + (ix hour)))))), (6, vi v17), (3, vi part)] [vi v46] := by
                  intro v46
                  rw [fX6_from_169]
                  refine g_iload (n := 171) ok 2 dX6_from_169 rfl rfl ?_
                  refine g_iload (n := 173) ok 1 dX6_from_171 rfl rfl ?_
                  refine g_iadd (n := 174) ok dX6_from_173 rfl ?_
                  refine g_iload (n := 176) ok 0 dX6_from_174 rfl rfl ?_
                  refine g_iadd (n := 177) ok dX6_from_176 rfl ?_
                  refine g_iload_n (n := 178) ok 3 dX6_from_177 rfl rfl rfl ?_
                  refine g_callS (n := 181) (rest := []) (av := [vi v46, vi ((v17 + (3 * ((K5 53 (ix hour)) + (K5 53 (12 + (ix hour)))))) + (v26 + v33)), vi part]) ok (kX6_partOf K5 v46 ((v17 + (3 * ((K5 53 (ix hour)) + (K5 53 (12 + (ix hour)))))) + (v26 + v33)) part) knX6_partOf q960 q961 dX6_from_178 rfl rfl (Nat.le_of_ble_eq_true rfl) (by decide) (by decide) rfl ?_
                  exact g_lret ok hr dX6_from_181
                refine g_if_ne (n := 152) (tgt := 157) ok dX6_from_149 (by decide) rfl (fun c36 => ?_) (fun c36 => ?_)
                · try simp only [if_neg c36]
                  have hz37 := ixn (n := 0) ha8 c36 (by omega) (by omega)
                  refine g_iload_n (n := 158) ok 3 dX6_from_157 rfl rfl rfl ?_
                  refine g_iconst (n := 159) (v := 1) ok dX6_from_158 rfl rfl ?_
                  refine g_icmp_ne (n := 162) (tgt := 167) ok dX6_from_159 (by decide) rfl (fun c38 => ?_) (fun c38 => ?_)
                  · rw [if_neg c38]
                    have hz39 := ixn (n := 1) ha8 c38 (by omega) (by omega)
                    refine g_iload (n := 169) ok 0 dX6_from_167 rfl rfl ?_
                    refine g_sub [0, 1, 2, 4] rfl ?_
                    exact J169_47 _
                  · rw [if_pos c38]
                    have hz40 := ixe (n := 1) ha8 c38 (by omega) (by omega)
                    refine g_iload (n := 164) ok 1 dX6_from_162 rfl rfl ?_
                    refine g_goto (tgt := 169) ok dX6_from_164 (by decide) ?_
                    refine g_sub [0, 1, 2, 4] rfl ?_
                    exact J169_47 _
                · try simp only [if_pos c36]
                  have hz41 := ixe (n := 0) ha8 c36 (by omega) (by omega)
                  refine g_iload (n := 154) ok 2 dX6_from_152 rfl rfl ?_
                  refine g_goto (tgt := 169) ok dX6_from_154 (by decide) ?_
                  refine g_sub [0, 1, 2, 4] rfl ?_
                  exact J169_47 _
              refine g_if_le (n := 140) (tgt := 144) ok dX6_from_137 (by decide) rfl (fun c28 => ?_) (fun c28 => ?_)
              · try simp only [if_pos c28]
                refine g_iconst (n := 145) (v := 0) ok dX6_from_144 rfl rfl ?_
                refine g_sub [0, 1, 4, 5] rfl ?_
                exact J145_35 _
              · try simp only [if_neg c28]
                refine g_iconst (n := 141) (v := 2) ok dX6_from_140 rfl rfl ?_
                refine g_goto (tgt := 145) ok dX6_from_141 (by decide) ?_
                refine g_sub [0, 1, 4, 5] rfl ?_
                exact J145_35 _
            refine g_if_le (n := 123) (tgt := 127) ok dX6_from_120 (by decide) rfl (fun c19 => ?_) (fun c19 => ?_)
            · try simp only [if_pos c19]
              refine g_iconst (n := 128) (v := 0) ok dX6_from_127 rfl rfl ?_
              exact J128_27 _
            · try simp only [if_neg c19]
              refine g_iconst (n := 124) (v := 2) ok dX6_from_123 rfl rfl ?_
              refine g_goto (tgt := 128) ok dX6_from_124 (by decide) ?_
              exact J128_27 _
          refine g_if_le (n := 78) (tgt := 91) ok dX6_from_75 (by decide) rfl (fun c11 => ?_) (fun c11 => ?_)
          · try simp only [if_pos c11]
            refine g_iconst (n := 92) (v := 0) ok dX6_from_91 rfl rfl ?_
            refine g_sub [2, 3, 4, 5] rfl ?_
            exact J92_18 _
          · try simp only [if_neg c11]
            refine g_iload (n := 80) ok 0 dX6_from_78 rfl rfl ?_
            refine g_if_le (n := 83) (tgt := 91) ok dX6_from_80 (by decide) rfl (fun c12 => ?_) (fun c12 => ?_)
            · rw [if_pos c12]
              refine g_iconst (n := 92) (v := 0) ok dX6_from_91 rfl rfl ?_
              refine g_sub [2, 3, 4, 5] rfl ?_
              exact J92_18 _
            · rw [if_neg c12]
              refine g_iload (n := 85) ok 1 dX6_from_83 rfl rfl ?_
              refine g_iload (n := 87) ok 0 dX6_from_85 rfl rfl ?_
              refine g_iadd (n := 88) ok dX6_from_87 rfl ?_
              refine g_goto (tgt := 92) ok dX6_from_88 (by decide) ?_
              refine g_sub [2, 3, 4, 5] rfl ?_
              exact J92_18 _
        · rw [if_pos c9]
          refine g_ldc2_w (n := 48) ok dX6_from_45 q959 rfl ?_
          refine g_aload_n (n := 49) ok 0 dX6_from_48 rfl rfl rfl ?_
          refine g_bipush (n := 51) (v := -2) ok dX6_from_49 rfl rfl ?_
          refine g_callV (n := 54) (rest := [vl 4000000000000000000]) (av := [vi (-2)]) (j := 52) ok (kX6_refuse K5 (-2) (vp_b (by decide +kernel))) knX6_refuse q770 q772 qs25 clsX6 rfl dX6_from_51 rfl rfl (Nat.le_of_ble_eq_true rfl) (by decide) (by decide) rfl ?_
          refine g_i2l (n := 55) ok dX6_from_54 rfl ?_
          refine g_lsub (n := 56) ok dX6_from_55 rfl ?_
          exact g_lret ok hr dX6_from_56
    · rw [if_pos c5]
      refine g_ldc2_w (n := 15) ok dX6_from_12 q959 rfl ?_
      refine g_aload_n (n := 16) ok 0 dX6_from_15 rfl rfl rfl ?_
      refine g_iconst (n := 17) (v := -1) ok dX6_from_16 rfl rfl ?_
      refine g_callV (n := 20) (rest := [vl 4000000000000000000]) (av := [vi (-1)]) (j := 52) ok (kX6_refuse K5 (-1) (vp_b (by decide +kernel))) knX6_refuse q770 q772 qs25 clsX6 rfl dX6_from_17 rfl rfl (Nat.le_of_ble_eq_true rfl) (by decide) (by decide) rfl ?_
      refine g_i2l (n := 21) ok dX6_from_20 rfl ?_
      refine g_lsub (n := 22) ok dX6_from_21 rfl ?_
      exact g_lret ok hr dX6_from_22
  exact C5_48 _ (by rw [up_k (by omega)]; exact hd)

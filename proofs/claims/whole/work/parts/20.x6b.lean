noncomputable def fX6_roundOf_x9 (x9_3 : Int32) (x9_2 : Int32) : Int32 :=
  x9_2 - x9_3
noncomputable def fX6_roundOf_42 (I : HI) (t : Nat) (x9_3 : Int32) (i9 : Nat) (v7 : Int32) : Int32 × Int32 :=
  if x9_3 ≤ I 59 ((12 * t) + i9) then (x9_3, v7) else (I 59 ((12 * t) + i9), v7)
noncomputable def fX6_roundOf_b9 (I : HI) (t : Nat) (i9 : Nat) (x9_3 : Int32) (x9_2 : Int32) : Int32 × Int32 :=
  fX6_roundOf_42 I t x9_3 i9 (if I 59 ((12 * t) + i9) ≤ x9_2 then x9_2 else I 59 ((12 * t) + i9))
noncomputable def fX6_roundOf (I : HI) (t : Nat) : Int32 :=
  (fun (s : Int32 × Int32) => fX6_roundOf_x9 s.1 s.2) (fo 12 0 (fun (i : Nat) (s : Int32 × Int32) => fX6_roundOf_b9 I t i s.1 s.2) (999, 0))
theorem knX6_roundOf : Kn yX6_roundOf cX6_roundOf 6 (some .int) 1 := ⟨q931, q8, ⟨by decide, by decide⟩, by decide +kernel⟩
set_option maxHeartbeats 400000 in
set_option maxRecDepth 100000 in
theorem kX6_roundOf (I : HI) (t : Nat) (ht : t < 27) : Cx yX6_roundOf cX6_roundOf 6 (some .int) 0 0 [vr 52, vi (nI t)] I ((some (vi ((fX6_roundOf I t))), I)) := by
  refine Cx.mk (lv := [(0, vr 52), (1, vi (nI t))]) (by decide) (Nat.le_of_ble_eq_true rfl) rfl (fun E ok hr => ?_)
  rw [fX6_roundOf]
  refine g_iconst (n := 1) (v := 0) ok dX6_roundOf_0 rfl rfl ?_
  refine g_istore_n (n := 2) (lv' := [(2, vi 0), (0, vr 52), (1, vi (nI t))]) ok dX6_roundOf_1 rfl (by decide) rfl rfl ?_
  refine g_sipush (n := 5) (v := 999) ok dX6_roundOf_2 rfl rfl ?_
  refine g_istore_n (n := 6) (lv' := [(3, vi 999), (2, vi 0), (0, vr 52), (1, vi (nI t))]) ok dX6_roundOf_5 rfl (by decide) rfl rfl ?_
  refine g_iconst (n := 7) (v := 0) ok dX6_roundOf_6 rfl rfl ?_
  refine g_istore (n := 9) (lv' := [(4, vi 0), (3, vi 999), (2, vi 0), (0, vr 52), (1, vi (nI t))]) ok dX6_roundOf_7 (by decide) rfl rfl ?_
  have X9 : ∀ (x9_3 : Int32) (x9_2 : Int32), G E 6 ((some (vi ((fX6_roundOf_x9 x9_3 x9_2))), I)) I 62 [(3, vi x9_3), (2, vi x9_2)] [] := by
    intro x9_3 x9_2
    rw [fX6_roundOf_x9]
    refine g_iload_n (n := 63) ok 1 dX6_roundOf_62 rfl rfl rfl ?_
    refine g_iload_n (n := 64) ok 0 dX6_roundOf_63 rfl rfl rfl ?_
    refine g_isub (n := 65) ok dX6_roundOf_64 rfl ?_
    exact g_iret ok hr dX6_roundOf_65
  have L9 : ∀ (n9 i9 : Nat) (x9_3 : Int32) (x9_2 : Int32) (hi : i9 + n9 = 12), G E 6 ((some (vi (((fun (s : Int32 × Int32) => fX6_roundOf_x9 s.1 s.2) (fo n9 i9 (fun (i : Nat) (s : Int32 × Int32) => fX6_roundOf_b9 I t i s.1 s.2) (x9_3, x9_2))))), I)) I 9 [(4, vi (nI i9)), (3, vi x9_3), (2, vi x9_2), (0, vr 52), (1, vi (nI t))] [] := by
    intro n9
    induction n9 with
    | zero =>
      intro i9 x9_3 x9_2 hi
      rw [fo_0]
      refine g_iload (n := 11) ok 0 dX6_roundOf_9 rfl rfl ?_
      refine g_bipush (n := 13) (v := 12) ok dX6_roundOf_11 rfl rfl ?_
      refine g_icmp_ge (n := 16) (tgt := 62) ok dX6_roundOf_13 (by decide) rfl (fun c => ?_) (fun c => absurd (nle (a := 12) (b := i9) rfl rfl (by omega) (by omega)) c)
      refine g_sub [1, 2] rfl ?_
      exact X9 _ _
    | succ n9 ih =>
      intro i9 x9_3 x9_2 hi
      refine g_iload (n := 11) ok 0 dX6_roundOf_9 rfl rfl ?_
      refine g_bipush (n := 13) (v := 12) ok dX6_roundOf_11 rfl rfl ?_
      refine g_icmp_ge (n := 16) (tgt := 62) ok dX6_roundOf_13 (by decide) rfl (fun c => absurd c (nnle (a := 12) (b := i9) rfl rfl (by omega) (by omega))) (fun c => ?_)
      rw [fo_s]
      show G E 6 ((some (vi (((fun (s : Int32 × Int32) => fX6_roundOf_x9 s.1 s.2) (fo n9 (i9 + 1) (fun (i : Nat) (s : Int32 × Int32) => fX6_roundOf_b9 I t i s.1 s.2) (fX6_roundOf_b9 I t i9 x9_3 x9_2))))), I)) _ _ _ _
      rw [fX6_roundOf_b9]
      refine g_aload_n (n := 17) ok 3 dX6_roundOf_16 rfl rfl rfl ?_
      refine g_get (n := 20) (v := vr 59) (c := 6) (k := 9) ok dX6_roundOf_17 clsX6 (by decide) q687 rfl rfl rfl ?_
      refine g_bipush (n := 22) (v := 12) ok dX6_roundOf_20 rfl rfl ?_
      refine g_iload_n (n := 23) ok 4 dX6_roundOf_22 rfl rfl rfl ?_
      refine g_imul (n := 24) ok dX6_roundOf_23 rfl ?_
      refine g_top (nv_imul (a := 12) (b := t) rfl rfl) ?_
      refine g_iload (n := 26) ok 0 dX6_roundOf_24 rfl rfl ?_
      refine g_iadd (n := 27) ok dX6_roundOf_26 rfl ?_
      refine g_top (nv_iadd (a := 12 * t) (b := i9) rfl rfl) ?_
      refine g_iald (n := 28) (i := (12 * t) + i9) (L := 324) ok dX6_roundOf_27 rfl rfl rfl (by omega) rfl ?_
      refine g_istore (n := 30) (lv' := [(5, vi (I 59 ((12 * t) + i9))), (4, vi (nI i9)), (3, vi x9_3), (2, vi x9_2), (0, vr 52), (1, vi (nI t))]) ok dX6_roundOf_28 (by decide) rfl rfl ?_
      refine g_iload (n := 32) ok 0 dX6_roundOf_30 rfl rfl ?_
      refine g_iload_n (n := 33) ok 3 dX6_roundOf_32 rfl rfl rfl ?_
      have J42_8 : ∀ (v7 : Int32), G E 6 ((some (vi (((fun (s : Int32 × Int32) => fX6_roundOf_x9 s.1 s.2) (fo n9 (i9 + 1) (fun (i : Nat) (s : Int32 × Int32) => fX6_roundOf_b9 I t i s.1 s.2) (fX6_roundOf_42 I t x9_3 i9 v7))))), I)) I 42 [(5, vi (I 59 ((12 * t) + i9))), (4, vi (nI i9)), (3, vi x9_3), (0, vr 52), (1, vi (nI t))] [vi v7] := by
        intro v7
        rw [fX6_roundOf_42]
        refine g_istore_n (n := 43) (lv' := [(2, vi v7), (5, vi (I 59 ((12 * t) + i9))), (4, vi (nI i9)), (3, vi x9_3), (0, vr 52), (1, vi (nI t))]) ok dX6_roundOf_42 rfl (by decide) rfl rfl ?_
        refine g_iload (n := 45) ok 1 dX6_roundOf_43 rfl rfl ?_
        refine g_iload_n (n := 46) ok 3 dX6_roundOf_45 rfl rfl rfl ?_
        refine g_icmp_ge (n := 49) (tgt := 54) ok dX6_roundOf_46 (by decide) rfl (fun c9 => ?_) (fun c9 => ?_)
        · rw [if_pos c9]
          refine g_iload_n (n := 55) ok 3 dX6_roundOf_54 rfl rfl rfl ?_
          refine g_istore_n (n := 56) (lv' := [(3, vi x9_3), (2, vi v7), (5, vi (I 59 ((12 * t) + i9))), (4, vi (nI i9)), (0, vr 52), (1, vi (nI t))]) ok dX6_roundOf_55 rfl (by decide) rfl rfl ?_
          refine g_iinc (n := 59) (v := nI (i9 + 1)) (lv' := [(4, vi (nI (i9 + 1))), (3, vi x9_3), (2, vi v7), (5, vi (I 59 ((12 * t) + i9))), (0, vr 52), (1, vi (nI t))]) ok 3 dX6_roundOf_56 rfl (iinc_n (a := i9) rfl) (by decide) rfl rfl ?_
          refine g_goto (tgt := 9) ok dX6_roundOf_59 (by decide) ?_
          refine g_sub [0, 1, 2, 4, 5] rfl ?_
          exact ih (i9 + 1) x9_3 v7 (by omega)
        · rw [if_neg c9]
          refine g_iload (n := 51) ok 1 dX6_roundOf_49 rfl rfl ?_
          refine g_goto (tgt := 55) ok dX6_roundOf_51 (by decide) ?_
          refine g_istore_n (n := 56) (lv' := [(3, vi (I 59 ((12 * t) + i9))), (2, vi v7), (5, vi (I 59 ((12 * t) + i9))), (4, vi (nI i9)), (0, vr 52), (1, vi (nI t))]) ok dX6_roundOf_55 rfl (by decide) rfl rfl ?_
          refine g_iinc (n := 59) (v := nI (i9 + 1)) (lv' := [(4, vi (nI (i9 + 1))), (3, vi (I 59 ((12 * t) + i9))), (2, vi v7), (5, vi (I 59 ((12 * t) + i9))), (0, vr 52), (1, vi (nI t))]) ok 3 dX6_roundOf_56 rfl (iinc_n (a := i9) rfl) (by decide) rfl rfl ?_
          refine g_goto (tgt := 9) ok dX6_roundOf_59 (by decide) ?_
          refine g_sub [0, 1, 2, 4, 5] rfl ?_
          exact ih (i9 + 1) (I 59 ((12 * t) + i9)) v7 (by omega)
      refine g_icmp_le (n := 36) (tgt := 41) ok dX6_roundOf_33 (by decide) rfl (fun c1 => ?_) (fun c1 => ?_)
      · try simp only [if_pos c1]
        refine g_iload_n (n := 42) ok 3 dX6_roundOf_41 rfl rfl rfl ?_
        refine g_sub [0, 1, 2, 4, 5] rfl ?_
        exact J42_8 _
      · try simp only [if_neg c1]
        refine g_iload (n := 38) ok 0 dX6_roundOf_36 rfl rfl ?_
        refine g_goto (tgt := 42) ok dX6_roundOf_38 (by decide) ?_
        refine g_sub [0, 1, 2, 4, 5] rfl ?_
        exact J42_8 _
  exact L9 12 0 999 0 (by omega)

noncomputable def fX6_gapOf (I : HI) (t : Nat) : Int32 :=
  fX6_plainly ((I 59 ((12 * t) + 11)) - (I 59 (12 * t)))
theorem knX6_gapOf : Kn yX6_gapOf cX6_gapOf 2 (some .int) 1 := ⟨q935, q8, ⟨by decide, by decide⟩, by decide +kernel⟩
set_option maxHeartbeats 400000 in
set_option maxRecDepth 100000 in
theorem kX6_gapOf (I : HI) (t : Nat) (ht : t < 27) : Cx yX6_gapOf cX6_gapOf 2 (some .int) 1 20 [vr 52, vi (nI t)] I ((some (vi ((fX6_gapOf I t))), I)) := by
  refine Cx.mk (lv := [(0, vr 52), (1, vi (nI t))]) (by decide) (Nat.le_of_ble_eq_true rfl) rfl (fun E ok hr => ?_)
  rw [fX6_gapOf]
  refine g_aload_n (n := 1) ok 0 dX6_gapOf_0 rfl rfl rfl ?_
  refine g_get (n := 4) (v := vr 59) (c := 6) (k := 9) ok dX6_gapOf_1 clsX6 (by decide) q687 rfl rfl rfl ?_
  refine g_bipush (n := 6) (v := 12) ok dX6_gapOf_4 rfl rfl ?_
  refine g_iload_n (n := 7) ok 1 dX6_gapOf_6 rfl rfl rfl ?_
  refine g_imul (n := 8) ok dX6_gapOf_7 rfl ?_
  refine g_top (nv_imul (a := 12) (b := t) rfl rfl) ?_
  refine g_bipush (n := 10) (v := 11) ok dX6_gapOf_8 rfl rfl ?_
  refine g_iadd (n := 11) ok dX6_gapOf_10 rfl ?_
  refine g_top (nv_iadd (a := 12 * t) (b := 11) rfl rfl) ?_
  refine g_iald (n := 12) (i := (12 * t) + 11) (L := 324) ok dX6_gapOf_11 rfl rfl rfl (by omega) rfl ?_
  refine g_aload_n (n := 13) ok 0 dX6_gapOf_12 rfl rfl rfl ?_
  refine g_get (n := 16) (v := vr 59) (c := 6) (k := 9) ok dX6_gapOf_13 clsX6 (by decide) q687 rfl rfl rfl ?_
  refine g_bipush (n := 18) (v := 12) ok dX6_gapOf_16 rfl rfl ?_
  refine g_iload_n (n := 19) ok 1 dX6_gapOf_18 rfl rfl rfl ?_
  refine g_imul (n := 20) ok dX6_gapOf_19 rfl ?_
  refine g_top (nv_imul (a := 12) (b := t) rfl rfl) ?_
  refine g_iald (n := 21) (i := 12 * t) (L := 324) ok dX6_gapOf_20 rfl rfl rfl (by omega) rfl ?_
  refine g_isub (n := 22) ok dX6_gapOf_21 rfl ?_
  refine g_callS (n := 25) (rest := []) (av := [vi ((I 59 ((12 * t) + 11)) - (I 59 (12 * t)))]) ok (kX6_plainly I ((I 59 ((12 * t) + 11)) - (I 59 (12 * t)))) knX6_plainly q936 q937 dX6_gapOf_22 rfl rfl (Nat.le_of_ble_eq_true rfl) (by decide) (by decide) rfl ?_
  exact g_iret ok hr dX6_gapOf_25

noncomputable def fX6_offOf_x4 (x4_2 : Int32) : Int32 :=
  x4_2
noncomputable def fX6_offOf_b4 (I : HI) (t : Nat) (i4 : Nat) (x4_2 : Int32) : Int32 :=
  x4_2 + (fX6_plainly ((I 59 ((12 * t) + i4)) - (I 55 0)))
noncomputable def fX6_offOf (I : HI) (t : Nat) : Int32 :=
  fX6_offOf_x4 (fo 12 0 (fun (i : Nat) (s : Int32) => fX6_offOf_b4 I t i s) 0)
theorem knX6_offOf : Kn yX6_offOf cX6_offOf 4 (some .int) 1 := ⟨q942, q8, ⟨by decide, by decide⟩, by decide +kernel⟩
set_option maxHeartbeats 400000 in
set_option maxRecDepth 100000 in
theorem kX6_offOf (I : HI) (t : Nat) (ht : t < 27) : Cx yX6_offOf cX6_offOf 4 (some .int) 1 20 [vr 52, vi (nI t)] I ((some (vi ((fX6_offOf I t))), I)) := by
  refine Cx.mk (lv := [(0, vr 52), (1, vi (nI t))]) (by decide) (Nat.le_of_ble_eq_true rfl) rfl (fun E ok hr => ?_)
  rw [fX6_offOf]
  refine g_iconst (n := 1) (v := 0) ok dX6_offOf_0 rfl rfl ?_
  refine g_istore_n (n := 2) (lv' := [(2, vi 0), (0, vr 52), (1, vi (nI t))]) ok dX6_offOf_1 rfl (by decide) rfl rfl ?_
  refine g_iconst (n := 3) (v := 0) ok dX6_offOf_2 rfl rfl ?_
  refine g_istore_n (n := 4) (lv' := [(3, vi 0), (2, vi 0), (0, vr 52), (1, vi (nI t))]) ok dX6_offOf_3 rfl (by decide) rfl rfl ?_
  have X4 : ∀ (x4_2 : Int32), G E 4 ((some (vi ((fX6_offOf_x4 x4_2))), I)) I 40 [(2, vi x4_2)] [] := by
    intro x4_2
    rw [fX6_offOf_x4]
    refine g_iload_n (n := 41) ok 0 dX6_offOf_40 rfl rfl rfl ?_
    exact g_iret ok hr dX6_offOf_41
  have L4 : ∀ (n4 i4 : Nat) (x4_2 : Int32) (hi : i4 + n4 = 12), G E 4 ((some (vi ((fX6_offOf_x4 (fo n4 i4 (fun (i : Nat) (s : Int32) => fX6_offOf_b4 I t i s) x4_2)))), I)) I 4 [(3, vi (nI i4)), (2, vi x4_2), (0, vr 52), (1, vi (nI t))] [] := by
    intro n4
    induction n4 with
    | zero =>
      intro i4 x4_2 hi
      rw [fo_0]
      refine g_iload_n (n := 5) ok 0 dX6_offOf_4 rfl rfl rfl ?_
      refine g_bipush (n := 7) (v := 12) ok dX6_offOf_5 rfl rfl ?_
      refine g_icmp_ge (n := 10) (tgt := 40) ok dX6_offOf_7 (by decide) rfl (fun c => ?_) (fun c => absurd (nle (a := 12) (b := i4) rfl rfl (by omega) (by omega)) c)
      refine g_sub [1] rfl ?_
      exact X4 _
    | succ n4 ih =>
      intro i4 x4_2 hi
      refine g_iload_n (n := 5) ok 0 dX6_offOf_4 rfl rfl rfl ?_
      refine g_bipush (n := 7) (v := 12) ok dX6_offOf_5 rfl rfl ?_
      refine g_icmp_ge (n := 10) (tgt := 40) ok dX6_offOf_7 (by decide) rfl (fun c => absurd c (nnle (a := 12) (b := i4) rfl rfl (by omega) (by omega))) (fun c => ?_)
      rw [fo_s]
      show G E 4 ((some (vi ((fX6_offOf_x4 (fo n4 (i4 + 1) (fun (i : Nat) (s : Int32) => fX6_offOf_b4 I t i s) (fX6_offOf_b4 I t i4 x4_2))))), I)) _ _ _ _
      rw [fX6_offOf_b4]
      refine g_iload_n (n := 11) ok 1 dX6_offOf_10 rfl rfl rfl ?_
      refine g_aload_n (n := 12) ok 2 dX6_offOf_11 rfl rfl rfl ?_
      refine g_get (n := 15) (v := vr 59) (c := 6) (k := 9) ok dX6_offOf_12 clsX6 (by decide) q687 rfl rfl rfl ?_
      refine g_bipush (n := 17) (v := 12) ok dX6_offOf_15 rfl rfl ?_
      refine g_iload_n (n := 18) ok 3 dX6_offOf_17 rfl rfl rfl ?_
      refine g_imul (n := 19) ok dX6_offOf_18 rfl ?_
      refine g_top (nv_imul (a := 12) (b := t) rfl rfl) ?_
      refine g_iload_n (n := 20) ok 0 dX6_offOf_19 rfl rfl rfl ?_
      refine g_iadd (n := 21) ok dX6_offOf_20 rfl ?_
      refine g_top (nv_iadd (a := 12 * t) (b := i4) rfl rfl) ?_
      refine g_iald (n := 22) (i := (12 * t) + i4) (L := 324) ok dX6_offOf_21 rfl rfl rfl (by omega) rfl ?_
      refine g_aload_n (n := 23) ok 2 dX6_offOf_22 rfl rfl rfl ?_
      refine g_get (n := 26) (v := vr 55) (c := 6) (k := 2) ok dX6_offOf_23 clsX6 (by decide) q680 rfl rfl rfl ?_
      refine g_iconst (n := 27) (v := 0) ok dX6_offOf_26 rfl rfl ?_
      refine g_iald (n := 28) (i := 0) (L := 5) ok dX6_offOf_27 rfl rfl rfl (by omega) rfl ?_
      refine g_isub (n := 29) ok dX6_offOf_28 rfl ?_
      refine g_callS (n := 32) (rest := [vi x4_2]) (av := [vi ((I 59 ((12 * t) + i4)) - (I 55 0))]) ok (kX6_plainly I ((I 59 ((12 * t) + i4)) - (I 55 0))) knX6_plainly q936 q937 dX6_offOf_29 rfl rfl (Nat.le_of_ble_eq_true rfl) (by decide) (by decide) rfl ?_
      refine g_iadd (n := 33) ok dX6_offOf_32 rfl ?_
      refine g_istore_n (n := 34) (lv' := [(2, vi (x4_2 + (fX6_plainly ((I 59 ((12 * t) + i4)) - (I 55 0))))), (3, vi (nI i4)), (0, vr 52), (1, vi (nI t))]) ok dX6_offOf_33 rfl (by decide) rfl rfl ?_
      refine g_iinc (n := 37) (v := nI (i4 + 1)) (lv' := [(3, vi (nI (i4 + 1))), (2, vi (x4_2 + (fX6_plainly ((I 59 ((12 * t) + i4)) - (I 55 0))))), (0, vr 52), (1, vi (nI t))]) ok 1 dX6_offOf_34 rfl (iinc_n (a := i4) rfl) (by decide) rfl rfl ?_
      refine g_goto (tgt := 4) ok dX6_offOf_37 (by decide) ?_
      exact ih (i4 + 1) (x4_2 + (fX6_plainly ((I 59 ((12 * t) + i4)) - (I 55 0)))) (by omega)
  exact L4 12 0 0 (by omega)

noncomputable def fX6_wobbleAt (I : HI) (t : Nat) (h : Nat) : Int32 :=
  fX6_plainly (((2 * (I 59 ((12 * t) + h))) - (I 59 ((12 * t) + ((h + 11) % 12)))) - (I 59 ((12 * t) + ((h + 1) % 12))))
theorem knX6_wobbleAt : Kn yX6_wobbleAt cX6_wobbleAt 3 (some .int) 2 := ⟨q950, q8, ⟨by decide, by decide⟩, by decide +kernel⟩
set_option maxHeartbeats 400000 in
set_option maxRecDepth 100000 in
theorem kX6_wobbleAt (I : HI) (t : Nat) (h : Nat) (ht : t < 27) (hh : h < 12) : Cx yX6_wobbleAt cX6_wobbleAt 3 (some .int) 1 20 [vr 52, vi (nI t), vi (nI h)] I ((some (vi ((fX6_wobbleAt I t h))), I)) := by
  refine Cx.mk (lv := [(0, vr 52), (1, vi (nI t)), (2, vi (nI h))]) (by decide) (Nat.le_of_ble_eq_true rfl) rfl (fun E ok hr => ?_)
  rw [fX6_wobbleAt]
  refine g_iconst (n := 1) (v := 2) ok dX6_wobbleAt_0 rfl rfl ?_
  refine g_aload_n (n := 2) ok 0 dX6_wobbleAt_1 rfl rfl rfl ?_
  refine g_get (n := 5) (v := vr 59) (c := 6) (k := 9) ok dX6_wobbleAt_2 clsX6 (by decide) q687 rfl rfl rfl ?_
  refine g_bipush (n := 7) (v := 12) ok dX6_wobbleAt_5 rfl rfl ?_
  refine g_iload_n (n := 8) ok 1 dX6_wobbleAt_7 rfl rfl rfl ?_
  refine g_imul (n := 9) ok dX6_wobbleAt_8 rfl ?_
  refine g_top (nv_imul (a := 12) (b := t) rfl rfl) ?_
  refine g_iload_n (n := 10) ok 2 dX6_wobbleAt_9 rfl rfl rfl ?_
  refine g_iadd (n := 11) ok dX6_wobbleAt_10 rfl ?_
  refine g_top (nv_iadd (a := 12 * t) (b := h) rfl rfl) ?_
  refine g_iald (n := 12) (i := (12 * t) + h) (L := 324) ok dX6_wobbleAt_11 rfl rfl rfl (by omega) rfl ?_
  refine g_imul (n := 13) ok dX6_wobbleAt_12 rfl ?_
  refine g_aload_n (n := 14) ok 0 dX6_wobbleAt_13 rfl rfl rfl ?_
  refine g_get (n := 17) (v := vr 59) (c := 6) (k := 9) ok dX6_wobbleAt_14 clsX6 (by decide) q687 rfl rfl rfl ?_
  refine g_bipush (n := 19) (v := 12) ok dX6_wobbleAt_17 rfl rfl ?_
  refine g_iload_n (n := 20) ok 1 dX6_wobbleAt_19 rfl rfl rfl ?_
  refine g_imul (n := 21) ok dX6_wobbleAt_20 rfl ?_
  refine g_top (nv_imul (a := 12) (b := t) rfl rfl) ?_
  refine g_iload_n (n := 22) ok 2 dX6_wobbleAt_21 rfl rfl rfl ?_
  refine g_bipush (n := 24) (v := 11) ok dX6_wobbleAt_22 rfl rfl ?_
  refine g_iadd (n := 25) ok dX6_wobbleAt_24 rfl ?_
  refine g_top (nv_iadd (a := h) (b := 11) rfl rfl) ?_
  refine g_bipush (n := 27) (v := 12) ok dX6_wobbleAt_25 rfl rfl ?_
  refine g_irem (n := 28) ok dX6_wobbleAt_27 (by decide) rfl ?_
  refine g_top (nv_irem (a := h + 11) (b := 12) rfl rfl (by omega) (by omega) (by omega)) ?_
  refine g_iadd (n := 29) ok dX6_wobbleAt_28 rfl ?_
  refine g_top (nv_iadd (a := 12 * t) (b := (h + 11) % 12) rfl rfl) ?_
  refine g_iald (n := 30) (i := (12 * t) + ((h + 11) % 12)) (L := 324) ok dX6_wobbleAt_29 rfl rfl rfl (by omega) rfl ?_
  refine g_isub (n := 31) ok dX6_wobbleAt_30 rfl ?_
  refine g_aload_n (n := 32) ok 0 dX6_wobbleAt_31 rfl rfl rfl ?_
  refine g_get (n := 35) (v := vr 59) (c := 6) (k := 9) ok dX6_wobbleAt_32 clsX6 (by decide) q687 rfl rfl rfl ?_
  refine g_bipush (n := 37) (v := 12) ok dX6_wobbleAt_35 rfl rfl ?_
  refine g_iload_n (n := 38) ok 1 dX6_wobbleAt_37 rfl rfl rfl ?_
  refine g_imul (n := 39) ok dX6_wobbleAt_38 rfl ?_
  refine g_top (nv_imul (a := 12) (b := t) rfl rfl) ?_
  refine g_iload_n (n := 40) ok 2 dX6_wobbleAt_39 rfl rfl rfl ?_
  refine g_iconst (n := 41) (v := 1) ok dX6_wobbleAt_40 rfl rfl ?_
  refine g_iadd (n := 42) ok dX6_wobbleAt_41 rfl ?_
  refine g_top (nv_iadd (a := h) (b := 1) rfl rfl) ?_
  refine g_bipush (n := 44) (v := 12) ok dX6_wobbleAt_42 rfl rfl ?_
  refine g_irem (n := 45) ok dX6_wobbleAt_44 (by decide) rfl ?_
  refine g_top (nv_irem (a := h + 1) (b := 12) rfl rfl (by omega) (by omega) (by omega)) ?_
  refine g_iadd (n := 46) ok dX6_wobbleAt_45 rfl ?_
  refine g_top (nv_iadd (a := 12 * t) (b := (h + 1) % 12) rfl rfl) ?_
  refine g_iald (n := 47) (i := (12 * t) + ((h + 1) % 12)) (L := 324) ok dX6_wobbleAt_46 rfl rfl rfl (by omega) rfl ?_
  refine g_isub (n := 48) ok dX6_wobbleAt_47 rfl ?_
  refine g_callS (n := 51) (rest := []) (av := [vi (((2 * (I 59 ((12 * t) + h))) - (I 59 ((12 * t) + ((h + 11) % 12)))) - (I 59 ((12 * t) + ((h + 1) % 12))))]) ok (kX6_plainly I (((2 * (I 59 ((12 * t) + h))) - (I 59 ((12 * t) + ((h + 11) % 12)))) - (I 59 ((12 * t) + ((h + 1) % 12))))) knX6_plainly q936 q937 dX6_wobbleAt_48 rfl rfl (Nat.le_of_ble_eq_true rfl) (by decide) (by decide) rfl ?_
  exact g_iret ok hr dX6_wobbleAt_51

noncomputable def fX6_wobbleHour_x4 (x4_2 : Nat) : Nat :=
  x4_2
noncomputable def fX6_wobbleHour_b4 (I : HI) (t : Nat) (i4 : Nat) (x4_2 : Nat) : Nat :=
  if fX6_wobbleAt I t i4 ≤ fX6_wobbleAt I t x4_2 then x4_2 else i4
noncomputable def fX6_wobbleHour (I : HI) (t : Nat) : Nat :=
  fX6_wobbleHour_x4 (fo 11 1 (fun (i : Nat) (s : Nat) => fX6_wobbleHour_b4 I t i s) 0)
theorem knX6_wobbleHour : Kn yX6_wobbleHour cX6_wobbleHour 4 (some .int) 1 := ⟨q946, q8, ⟨by decide, by decide⟩, by decide +kernel⟩
set_option maxHeartbeats 400000 in
set_option maxRecDepth 100000 in
theorem kX6_wobbleHour (I : HI) (t : Nat) (ht : t < 27) : Cx yX6_wobbleHour cX6_wobbleHour 4 (some .int) 2 42 [vr 52, vi (nI t)] I ((some (vi (nI (fX6_wobbleHour I t))), I)) := by
  refine Cx.mk (lv := [(0, vr 52), (1, vi (nI t))]) (by decide) (Nat.le_of_ble_eq_true rfl) rfl (fun E ok hr => ?_)
  rw [fX6_wobbleHour]
  refine g_iconst (n := 1) (v := 0) ok dX6_wobbleHour_0 rfl rfl ?_
  refine g_istore_n (n := 2) (lv' := [(2, vi 0), (0, vr 52), (1, vi (nI t))]) ok dX6_wobbleHour_1 rfl (by decide) rfl rfl ?_
  refine g_iconst (n := 3) (v := 1) ok dX6_wobbleHour_2 rfl rfl ?_
  refine g_istore_n (n := 4) (lv' := [(3, vi 1), (2, vi 0), (0, vr 52), (1, vi (nI t))]) ok dX6_wobbleHour_3 rfl (by decide) rfl rfl ?_
  have X4 : ∀ (x4_2 : Nat) (hb : x4_2 < 12), G E 4 ((some (vi (nI (fX6_wobbleHour_x4 x4_2))), I)) I 37 [(2, vi (nI x4_2))] [] := by
    intro x4_2 hb
    rw [fX6_wobbleHour_x4]
    refine g_iload_n (n := 38) ok 0 dX6_wobbleHour_37 rfl rfl rfl ?_
    exact g_iret ok hr dX6_wobbleHour_38
  have L4 : ∀ (n4 i4 : Nat) (x4_2 : Nat) (hb : x4_2 < 12) (hi : i4 + n4 = 12), G E 4 ((some (vi (nI (fX6_wobbleHour_x4 (fo n4 i4 (fun (i : Nat) (s : Nat) => fX6_wobbleHour_b4 I t i s) x4_2)))), I)) I 4 [(3, vi (nI i4)), (2, vi (nI x4_2)), (0, vr 52), (1, vi (nI t))] [] := by
    intro n4
    induction n4 with
    | zero =>
      intro i4 x4_2 hb hi
      rw [fo_0]
      refine g_iload_n (n := 5) ok 0 dX6_wobbleHour_4 rfl rfl rfl ?_
      refine g_bipush (n := 7) (v := 12) ok dX6_wobbleHour_5 rfl rfl ?_
      refine g_icmp_ge (n := 10) (tgt := 37) ok dX6_wobbleHour_7 (by decide) rfl (fun c => ?_) (fun c => absurd (nle (a := 12) (b := i4) rfl rfl (by omega) (by omega)) c)
      refine g_sub [1] rfl ?_
      exact X4 _ hb
    | succ n4 ih =>
      intro i4 x4_2 hb hi
      refine g_iload_n (n := 5) ok 0 dX6_wobbleHour_4 rfl rfl rfl ?_
      refine g_bipush (n := 7) (v := 12) ok dX6_wobbleHour_5 rfl rfl ?_
      refine g_icmp_ge (n := 10) (tgt := 37) ok dX6_wobbleHour_7 (by decide) rfl (fun c => absurd c (nnle (a := 12) (b := i4) rfl rfl (by omega) (by omega))) (fun c => ?_)
      rw [fo_s]
      show G E 4 ((some (vi (nI (fX6_wobbleHour_x4 (fo n4 (i4 + 1) (fun (i : Nat) (s : Nat) => fX6_wobbleHour_b4 I t i s) (fX6_wobbleHour_b4 I t i4 x4_2))))), I)) _ _ _ _
      rw [fX6_wobbleHour_b4]
      refine g_aload_n (n := 11) ok 2 dX6_wobbleHour_10 rfl rfl rfl ?_
      refine g_iload_n (n := 12) ok 3 dX6_wobbleHour_11 rfl rfl rfl ?_
      refine g_iload_n (n := 13) ok 0 dX6_wobbleHour_12 rfl rfl rfl ?_
      refine g_callV (n := 16) (rest := []) (av := [vi (nI t), vi (nI i4)]) (j := 52) ok (kX6_wobbleAt I t i4 (by first | with_reducible assumption | omega) (by first | with_reducible assumption | omega)) knX6_wobbleAt q947 q949 qs50 clsX6 rfl dX6_wobbleHour_13 rfl rfl (Nat.le_of_ble_eq_true rfl) (by decide) (by decide) rfl ?_
      refine g_aload_n (n := 17) ok 2 dX6_wobbleHour_16 rfl rfl rfl ?_
      refine g_iload_n (n := 18) ok 3 dX6_wobbleHour_17 rfl rfl rfl ?_
      refine g_iload_n (n := 19) ok 1 dX6_wobbleHour_18 rfl rfl rfl ?_
      refine g_callV (n := 22) (rest := [vi (fX6_wobbleAt I t i4)]) (av := [vi (nI t), vi (nI x4_2)]) (j := 52) ok (kX6_wobbleAt I t x4_2 (by first | with_reducible assumption | omega) (by first | with_reducible assumption | omega)) knX6_wobbleAt q947 q949 qs50 clsX6 rfl dX6_wobbleHour_19 rfl rfl (Nat.le_of_ble_eq_true rfl) (by decide) (by decide) rfl ?_
      refine g_icmp_le (n := 25) (tgt := 29) ok dX6_wobbleHour_22 (by decide) rfl (fun c1 => ?_) (fun c1 => ?_)
      · rw [if_pos c1]
        refine g_iload_n (n := 30) ok 1 dX6_wobbleHour_29 rfl rfl rfl ?_
        refine g_istore_n (n := 31) (lv' := [(2, vi (nI x4_2)), (3, vi (nI i4)), (0, vr 52), (1, vi (nI t))]) ok dX6_wobbleHour_30 rfl (by decide) rfl rfl ?_
        refine g_iinc (n := 34) (v := nI (i4 + 1)) (lv' := [(3, vi (nI (i4 + 1))), (2, vi (nI x4_2)), (0, vr 52), (1, vi (nI t))]) ok 1 dX6_wobbleHour_31 rfl (iinc_n (a := i4) rfl) (by decide) rfl rfl ?_
        refine g_goto (tgt := 4) ok dX6_wobbleHour_34 (by decide) ?_
        exact ih (i4 + 1) x4_2 (by omega) (by omega)
      · rw [if_neg c1]
        refine g_iload_n (n := 26) ok 0 dX6_wobbleHour_25 rfl rfl rfl ?_
        refine g_goto (tgt := 30) ok dX6_wobbleHour_26 (by decide) ?_
        refine g_istore_n (n := 31) (lv' := [(2, vi (nI i4)), (3, vi (nI i4)), (0, vr 52), (1, vi (nI t))]) ok dX6_wobbleHour_30 rfl (by decide) rfl rfl ?_
        refine g_iinc (n := 34) (v := nI (i4 + 1)) (lv' := [(3, vi (nI (i4 + 1))), (2, vi (nI i4)), (0, vr 52), (1, vi (nI t))]) ok 1 dX6_wobbleHour_31 rfl (iinc_n (a := i4) rfl) (by decide) rfl rfl ?_
        refine g_goto (tgt := 4) ok dX6_wobbleHour_34 (by decide) ?_
        exact ih (i4 + 1) i4 (by omega) (by omega)
  exact L4 11 1 0 (by omega) (by omega)
theorem fX6_wobbleHour_lt (I : HI) (t : Nat) : fX6_wobbleHour I t < 12 := by
  have h := fo_inv (fun i s => s < i) (fun (i : Nat) (s : Nat) => fX6_wobbleHour_b4 I t i s) 11 1 0 (by omega) (fun k s _ _ h => by
    show fX6_wobbleHour_b4 I t k s < k + 1
    unfold fX6_wobbleHour_b4
    split <;> omega)
  unfold fX6_wobbleHour fX6_wobbleHour_x4
  exact h

noncomputable def fX6_flatsOf_x4 (x4_2 : Int32) : Int32 :=
  x4_2
noncomputable def fX6_flatsOf_46 (I : HI) (t : Nat) (x4_2 : Int32) (i4 : Nat) (v6 : Int32) : Int32 :=
  if v6 = 0 then x4_2 ||| 0 else (if I 53 ((12 * (ix (I 56 t))) + i4) ≤ 0 then x4_2 ||| 0 else x4_2 ||| (1 <<< ((nI i4) &&& 31)))
noncomputable def fX6_flatsOf_b4 (I : HI) (t : Nat) (i4 : Nat) (x4_2 : Int32) : Int32 :=
  fX6_flatsOf_46 I t x4_2 i4 (if I 59 ((12 * t) + i4) = I 59 ((12 * t) + ((i4 + 11) % 12)) then 1 else 0)
noncomputable def fX6_flatsOf (I : HI) (t : Nat) : Int32 :=
  fX6_flatsOf_x4 (fo 12 0 (fun (i : Nat) (s : Int32) => fX6_flatsOf_b4 I t i s) 0)
theorem knX6_flatsOf : Kn yX6_flatsOf cX6_flatsOf 5 (some .int) 1 := ⟨q954, q8, ⟨by decide, by decide⟩, by decide +kernel⟩
set_option maxHeartbeats 400000 in
set_option maxRecDepth 100000 in
theorem kX6_flatsOf (I : HI) (t : Nat) (ht : t < 27) (hF : ∀ n, n < 27 → vp_in (I 56 n) 2) : Cx yX6_flatsOf cX6_flatsOf 5 (some .int) 0 0 [vr 52, vi (nI t)] I ((some (vi ((fX6_flatsOf I t))), I)) := by
  refine Cx.mk (lv := [(0, vr 52), (1, vi (nI t))]) (by decide) (Nat.le_of_ble_eq_true rfl) rfl (fun E ok hr => ?_)
  have hft := vb (hF t ht)
  rw [fX6_flatsOf]
  refine g_iconst (n := 1) (v := 0) ok dX6_flatsOf_0 rfl rfl ?_
  refine g_istore_n (n := 2) (lv' := [(2, vi 0), (0, vr 52), (1, vi (nI t))]) ok dX6_flatsOf_1 rfl (by decide) rfl rfl ?_
  refine g_iconst (n := 3) (v := 0) ok dX6_flatsOf_2 rfl rfl ?_
  refine g_istore_n (n := 4) (lv' := [(3, vi 0), (2, vi 0), (0, vr 52), (1, vi (nI t))]) ok dX6_flatsOf_3 rfl (by decide) rfl rfl ?_
  have X4 : ∀ (x4_2 : Int32), G E 5 ((some (vi ((fX6_flatsOf_x4 x4_2))), I)) I 88 [(2, vi x4_2)] [] := by
    intro x4_2
    rw [fX6_flatsOf_x4]
    refine g_iload_n (n := 89) ok 0 dX6_flatsOf_88 rfl rfl rfl ?_
    exact g_iret ok hr dX6_flatsOf_89
  have L4 : ∀ (n4 i4 : Nat) (x4_2 : Int32) (hi : i4 + n4 = 12), G E 5 ((some (vi ((fX6_flatsOf_x4 (fo n4 i4 (fun (i : Nat) (s : Int32) => fX6_flatsOf_b4 I t i s) x4_2)))), I)) I 4 [(3, vi (nI i4)), (2, vi x4_2), (0, vr 52), (1, vi (nI t))] [] := by
    intro n4
    induction n4 with
    | zero =>
      intro i4 x4_2 hi
      rw [fo_0]
      refine g_iload_n (n := 5) ok 0 dX6_flatsOf_4 rfl rfl rfl ?_
      refine g_bipush (n := 7) (v := 12) ok dX6_flatsOf_5 rfl rfl ?_
      refine g_icmp_ge (n := 10) (tgt := 88) ok dX6_flatsOf_7 (by decide) rfl (fun c => ?_) (fun c => absurd (nle (a := 12) (b := i4) rfl rfl (by omega) (by omega)) c)
      refine g_sub [1] rfl ?_
      exact X4 _
    | succ n4 ih =>
      intro i4 x4_2 hi
      refine g_iload_n (n := 5) ok 0 dX6_flatsOf_4 rfl rfl rfl ?_
      refine g_bipush (n := 7) (v := 12) ok dX6_flatsOf_5 rfl rfl ?_
      refine g_icmp_ge (n := 10) (tgt := 88) ok dX6_flatsOf_7 (by decide) rfl (fun c => absurd c (nnle (a := 12) (b := i4) rfl rfl (by omega) (by omega))) (fun c => ?_)
      rw [fo_s]
      show G E 5 ((some (vi ((fX6_flatsOf_x4 (fo n4 (i4 + 1) (fun (i : Nat) (s : Int32) => fX6_flatsOf_b4 I t i s) (fX6_flatsOf_b4 I t i4 x4_2))))), I)) _ _ _ _
      rw [fX6_flatsOf_b4]
      refine g_aload_n (n := 11) ok 2 dX6_flatsOf_10 rfl rfl rfl ?_
      refine g_get (n := 14) (v := vr 59) (c := 6) (k := 9) ok dX6_flatsOf_11 clsX6 (by decide) q687 rfl rfl rfl ?_
      refine g_bipush (n := 16) (v := 12) ok dX6_flatsOf_14 rfl rfl ?_
      refine g_iload_n (n := 17) ok 3 dX6_flatsOf_16 rfl rfl rfl ?_
      refine g_imul (n := 18) ok dX6_flatsOf_17 rfl ?_
      refine g_top (nv_imul (a := 12) (b := t) rfl rfl) ?_
      refine g_iload_n (n := 19) ok 0 dX6_flatsOf_18 rfl rfl rfl ?_
      refine g_iadd (n := 20) ok dX6_flatsOf_19 rfl ?_
      refine g_top (nv_iadd (a := 12 * t) (b := i4) rfl rfl) ?_
      refine g_iald (n := 21) (i := (12 * t) + i4) (L := 324) ok dX6_flatsOf_20 rfl rfl rfl (by omega) rfl ?_
      refine g_aload_n (n := 22) ok 2 dX6_flatsOf_21 rfl rfl rfl ?_
      refine g_get (n := 25) (v := vr 59) (c := 6) (k := 9) ok dX6_flatsOf_22 clsX6 (by decide) q687 rfl rfl rfl ?_
      refine g_bipush (n := 27) (v := 12) ok dX6_flatsOf_25 rfl rfl ?_
      refine g_iload_n (n := 28) ok 3 dX6_flatsOf_27 rfl rfl rfl ?_
      refine g_imul (n := 29) ok dX6_flatsOf_28 rfl ?_
      refine g_top (nv_imul (a := 12) (b := t) rfl rfl) ?_
      refine g_iload_n (n := 30) ok 0 dX6_flatsOf_29 rfl rfl rfl ?_
      refine g_bipush (n := 32) (v := 11) ok dX6_flatsOf_30 rfl rfl ?_
      refine g_iadd (n := 33) ok dX6_flatsOf_32 rfl ?_
      refine g_top (nv_iadd (a := i4) (b := 11) rfl rfl) ?_
      refine g_bipush (n := 35) (v := 12) ok dX6_flatsOf_33 rfl rfl ?_
      refine g_irem (n := 36) ok dX6_flatsOf_35 (by decide) rfl ?_
      refine g_top (nv_irem (a := i4 + 11) (b := 12) rfl rfl (by omega) (by omega) (by omega)) ?_
      refine g_iadd (n := 37) ok dX6_flatsOf_36 rfl ?_
      refine g_top (nv_iadd (a := 12 * t) (b := (i4 + 11) % 12) rfl rfl) ?_
      refine g_iald (n := 38) (i := (12 * t) + ((i4 + 11) % 12)) (L := 324) ok dX6_flatsOf_37 rfl rfl rfl (by omega) rfl ?_
      have J46_7 : ∀ (v6 : Int32), G E 5 ((some (vi ((fX6_flatsOf_x4 (fo n4 (i4 + 1) (fun (i : Nat) (s : Int32) => fX6_flatsOf_b4 I t i s) (fX6_flatsOf_46 I t x4_2 i4 v6))))), I)) I 46 [(3, vi (nI i4)), (2, vi x4_2), (0, vr 52), (1, vi (nI t))] [vi v6] := by
        intro v6
        rw [fX6_flatsOf_46]
        refine g_istore (n := 48) (lv' := [(4, vi v6), (3, vi (nI i4)), (2, vi x4_2), (0, vr 52), (1, vi (nI t))]) ok dX6_flatsOf_46 (by decide) rfl rfl ?_
        refine g_iload_n (n := 49) ok 2 dX6_flatsOf_48 rfl rfl rfl ?_
        refine g_iload (n := 51) ok 0 dX6_flatsOf_49 rfl rfl ?_
        refine g_if_eq (n := 54) (tgt := 79) ok dX6_flatsOf_51 (by decide) rfl (fun c8 => ?_) (fun c8 => ?_)
        · rw [if_pos c8]
          refine g_iconst (n := 80) (v := 0) ok dX6_flatsOf_79 rfl rfl ?_
          refine g_ior (n := 81) ok dX6_flatsOf_80 rfl ?_
          refine g_istore_n (n := 82) (lv' := [(2, vi (x4_2 ||| 0)), (4, vi v6), (3, vi (nI i4)), (0, vr 52), (1, vi (nI t))]) ok dX6_flatsOf_81 rfl (by decide) rfl rfl ?_
          refine g_iinc (n := 85) (v := nI (i4 + 1)) (lv' := [(3, vi (nI (i4 + 1))), (2, vi (x4_2 ||| 0)), (4, vi v6), (0, vr 52), (1, vi (nI t))]) ok 2 dX6_flatsOf_82 rfl (iinc_n (a := i4) rfl) (by decide) rfl rfl ?_
          refine g_goto (tgt := 4) ok dX6_flatsOf_85 (by decide) ?_
          refine g_sub [0, 1, 3, 4] rfl ?_
          exact ih (i4 + 1) (x4_2 ||| 0) (by omega)
        · rw [if_neg c8]
          refine g_aload_n (n := 55) ok 3 dX6_flatsOf_54 rfl rfl rfl ?_
          refine g_get (n := 58) (v := vr 53) (c := 6) (k := 0) ok dX6_flatsOf_55 clsX6 (by decide) q678 rfl rfl rfl ?_
          refine g_bipush (n := 60) (v := 12) ok dX6_flatsOf_58 rfl rfl ?_
          refine g_aload_n (n := 61) ok 3 dX6_flatsOf_60 rfl rfl rfl ?_
          refine g_get (n := 64) (v := vr 56) (c := 6) (k := 6) ok dX6_flatsOf_61 clsX6 (by decide) q684 rfl rfl rfl ?_
          refine g_iload_n (n := 65) ok 4 dX6_flatsOf_64 rfl rfl rfl ?_
          refine g_iald (n := 66) (i := t) (L := 27) ok dX6_flatsOf_65 rfl rfl rfl (by omega) rfl ?_
          refine g_imul (n := 67) ok dX6_flatsOf_66 rfl ?_
          refine g_top (nv_imul (a := 12) (b := ix (I 56 t)) rfl (vx (hF t ht))) ?_
          refine g_iload_n (n := 68) ok 1 dX6_flatsOf_67 rfl rfl rfl ?_
          refine g_iadd (n := 69) ok dX6_flatsOf_68 rfl ?_
          refine g_top (nv_iadd (a := 12 * (ix (I 56 t))) (b := i4) rfl rfl) ?_
          refine g_iald (n := 70) (i := (12 * (ix (I 56 t))) + i4) (L := 24) ok dX6_flatsOf_69 rfl rfl rfl (by omega) rfl ?_
          refine g_if_le (n := 73) (tgt := 79) ok dX6_flatsOf_70 (by decide) rfl (fun c9 => ?_) (fun c9 => ?_)
          · rw [if_pos c9]
            refine g_iconst (n := 80) (v := 0) ok dX6_flatsOf_79 rfl rfl ?_
            refine g_ior (n := 81) ok dX6_flatsOf_80 rfl ?_
            refine g_istore_n (n := 82) (lv' := [(2, vi (x4_2 ||| 0)), (4, vi v6), (3, vi (nI i4)), (0, vr 52), (1, vi (nI t))]) ok dX6_flatsOf_81 rfl (by decide) rfl rfl ?_
            refine g_iinc (n := 85) (v := nI (i4 + 1)) (lv' := [(3, vi (nI (i4 + 1))), (2, vi (x4_2 ||| 0)), (4, vi v6), (0, vr 52), (1, vi (nI t))]) ok 2 dX6_flatsOf_82 rfl (iinc_n (a := i4) rfl) (by decide) rfl rfl ?_
            refine g_goto (tgt := 4) ok dX6_flatsOf_85 (by decide) ?_
            refine g_sub [0, 1, 3, 4] rfl ?_
            exact ih (i4 + 1) (x4_2 ||| 0) (by omega)
          · rw [if_neg c9]
            refine g_iconst (n := 74) (v := 1) ok dX6_flatsOf_73 rfl rfl ?_
            refine g_iload_n (n := 75) ok 1 dX6_flatsOf_74 rfl rfl rfl ?_
            refine g_ishl (n := 76) ok dX6_flatsOf_75 rfl ?_
            refine g_goto (tgt := 80) ok dX6_flatsOf_76 (by decide) ?_
            refine g_ior (n := 81) ok dX6_flatsOf_80 rfl ?_
            refine g_istore_n (n := 82) (lv' := [(2, vi (x4_2 ||| (1 <<< ((nI i4) &&& 31)))), (4, vi v6), (3, vi (nI i4)), (0, vr 52), (1, vi (nI t))]) ok dX6_flatsOf_81 rfl (by decide) rfl rfl ?_
            refine g_iinc (n := 85) (v := nI (i4 + 1)) (lv' := [(3, vi (nI (i4 + 1))), (2, vi (x4_2 ||| (1 <<< ((nI i4) &&& 31)))), (4, vi v6), (0, vr 52), (1, vi (nI t))]) ok 2 dX6_flatsOf_82 rfl (iinc_n (a := i4) rfl) (by decide) rfl rfl ?_
            refine g_goto (tgt := 4) ok dX6_flatsOf_85 (by decide) ?_
            refine g_sub [0, 1, 3, 4] rfl ?_
            exact ih (i4 + 1) (x4_2 ||| (1 <<< ((nI i4) &&& 31))) (by omega)
      refine g_icmp_ne (n := 41) (tgt := 45) ok dX6_flatsOf_38 (by decide) rfl (fun c1 => ?_) (fun c1 => ?_)
      · try simp only [if_neg c1]
        refine g_iconst (n := 46) (v := 0) ok dX6_flatsOf_45 rfl rfl ?_
        exact J46_7 _
      · try simp only [if_pos c1]
        refine g_iconst (n := 42) (v := 1) ok dX6_flatsOf_41 rfl rfl ?_
        refine g_goto (tgt := 46) ok dX6_flatsOf_42 (by decide) ?_
        exact J46_7 _
  exact L4 12 0 0 (by omega)
theorem flats6_in {I : HI} {t : Nat} : vp_in (fX6_flatsOf I t) 4096 := by
  have h := fo_inv (fun i (s : Int32) => ∃ b, b < 2 ^ i ∧ s = nI b) (fun (i : Nat) (s : Int32) => fX6_flatsOf_b4 I t i s) 12 0 0 ⟨0, by decide, rfl⟩ (fun k s _ hk hs => by
    obtain ⟨b, hb, rfl⟩ := hs
    have h0 : nI b ||| 0 = nI b := (fa_or b 0).trans (by rw [Nat.or_zero])
    have h1 : ∀ k, k < 12 → (1 : Int32) <<< (nI k &&& 31) = nI (2 ^ k) := by decide +kernel
    have h2 : 2 ^ k ≤ 2 ^ (k + 1) := Nat.pow_le_pow_right (by omega) (by omega)
    have key : ∀ v, ∃ c, c < 2 ^ (k + 1) ∧ fX6_flatsOf_46 I t (nI b) k v = nI c := by
      intro v
      unfold fX6_flatsOf_46
      split
      · exact ⟨b, by omega, h0⟩
      · split
        · exact ⟨b, by omega, h0⟩
        · exact ⟨b ||| 2 ^ k, Nat.or_lt_two_pow (by omega) (by rw [Nat.pow_succ]; have := Nat.two_pow_pos k; omega), by rw [h1 k (by omega)]; exact fa_or b (2 ^ k)⟩
    exact key _)
  obtain ⟨b, hb, e⟩ := h
  unfold fX6_flatsOf fX6_flatsOf_x4
  rw [e]
  exact vp_nI (by omega) (by omega)

noncomputable def fX6_closeOf_x5 (x5_3 : Int32) : Int32 :=
  x5_3
noncomputable def fX6_closeOf_b5 (I : HI) (a : Nat) (b : Nat) (i5 : Nat) (x5_3 : Int32) : Int32 :=
  x5_3 + (fX6_plainly ((I 59 ((12 * a) + i5)) - (I 59 ((12 * b) + i5))))
noncomputable def fX6_closeOf (I : HI) (a : Nat) (b : Nat) : Int32 :=
  fX6_closeOf_x5 (fo 12 0 (fun (i : Nat) (s : Int32) => fX6_closeOf_b5 I a b i s) 0)
theorem knX6_closeOf : Kn yX6_closeOf cX6_closeOf 5 (some .int) 2 := ⟨q973, q8, ⟨by decide, by decide⟩, by decide +kernel⟩
set_option maxHeartbeats 400000 in
set_option maxRecDepth 100000 in
theorem kX6_closeOf (I : HI) (a : Nat) (b : Nat) (ha : a < 27) (hb : b < 27) : Cx yX6_closeOf cX6_closeOf 5 (some .int) 1 20 [vr 52, vi (nI a), vi (nI b)] I ((some (vi ((fX6_closeOf I a b))), I)) := by
  refine Cx.mk (lv := [(0, vr 52), (1, vi (nI a)), (2, vi (nI b))]) (by decide) (Nat.le_of_ble_eq_true rfl) rfl (fun E ok hr => ?_)
  rw [fX6_closeOf]
  refine g_iconst (n := 1) (v := 0) ok dX6_closeOf_0 rfl rfl ?_
  refine g_istore_n (n := 2) (lv' := [(3, vi 0), (0, vr 52), (1, vi (nI a)), (2, vi (nI b))]) ok dX6_closeOf_1 rfl (by decide) rfl rfl ?_
  refine g_iconst (n := 3) (v := 0) ok dX6_closeOf_2 rfl rfl ?_
  refine g_istore (n := 5) (lv' := [(4, vi 0), (3, vi 0), (0, vr 52), (1, vi (nI a)), (2, vi (nI b))]) ok dX6_closeOf_3 (by decide) rfl rfl ?_
  have X5 : ∀ (x5_3 : Int32), G E 5 ((some (vi ((fX6_closeOf_x5 x5_3))), I)) I 49 [(3, vi x5_3)] [] := by
    intro x5_3
    rw [fX6_closeOf_x5]
    refine g_iload_n (n := 50) ok 0 dX6_closeOf_49 rfl rfl rfl ?_
    exact g_iret ok hr dX6_closeOf_50
  have L5 : ∀ (n5 i5 : Nat) (x5_3 : Int32) (hi : i5 + n5 = 12), G E 5 ((some (vi ((fX6_closeOf_x5 (fo n5 i5 (fun (i : Nat) (s : Int32) => fX6_closeOf_b5 I a b i s) x5_3)))), I)) I 5 [(4, vi (nI i5)), (3, vi x5_3), (0, vr 52), (1, vi (nI a)), (2, vi (nI b))] [] := by
    intro n5
    induction n5 with
    | zero =>
      intro i5 x5_3 hi
      rw [fo_0]
      refine g_iload (n := 7) ok 0 dX6_closeOf_5 rfl rfl ?_
      refine g_bipush (n := 9) (v := 12) ok dX6_closeOf_7 rfl rfl ?_
      refine g_icmp_ge (n := 12) (tgt := 49) ok dX6_closeOf_9 (by decide) rfl (fun c => ?_) (fun c => absurd (nle (a := 12) (b := i5) rfl rfl (by omega) (by omega)) c)
      refine g_sub [1] rfl ?_
      exact X5 _
    | succ n5 ih =>
      intro i5 x5_3 hi
      refine g_iload (n := 7) ok 0 dX6_closeOf_5 rfl rfl ?_
      refine g_bipush (n := 9) (v := 12) ok dX6_closeOf_7 rfl rfl ?_
      refine g_icmp_ge (n := 12) (tgt := 49) ok dX6_closeOf_9 (by decide) rfl (fun c => absurd c (nnle (a := 12) (b := i5) rfl rfl (by omega) (by omega))) (fun c => ?_)
      rw [fo_s]
      show G E 5 ((some (vi ((fX6_closeOf_x5 (fo n5 (i5 + 1) (fun (i : Nat) (s : Int32) => fX6_closeOf_b5 I a b i s) (fX6_closeOf_b5 I a b i5 x5_3))))), I)) _ _ _ _
      rw [fX6_closeOf_b5]
      refine g_iload_n (n := 13) ok 1 dX6_closeOf_12 rfl rfl rfl ?_
      refine g_aload_n (n := 14) ok 2 dX6_closeOf_13 rfl rfl rfl ?_
      refine g_get (n := 17) (v := vr 59) (c := 6) (k := 9) ok dX6_closeOf_14 clsX6 (by decide) q687 rfl rfl rfl ?_
      refine g_bipush (n := 19) (v := 12) ok dX6_closeOf_17 rfl rfl ?_
      refine g_iload_n (n := 20) ok 3 dX6_closeOf_19 rfl rfl rfl ?_
      refine g_imul (n := 21) ok dX6_closeOf_20 rfl ?_
      refine g_top (nv_imul (a := 12) (b := a) rfl rfl) ?_
      refine g_iload (n := 23) ok 0 dX6_closeOf_21 rfl rfl ?_
      refine g_iadd (n := 24) ok dX6_closeOf_23 rfl ?_
      refine g_top (nv_iadd (a := 12 * a) (b := i5) rfl rfl) ?_
      refine g_iald (n := 25) (i := (12 * a) + i5) (L := 324) ok dX6_closeOf_24 rfl rfl rfl (by omega) rfl ?_
      refine g_aload_n (n := 26) ok 2 dX6_closeOf_25 rfl rfl rfl ?_
      refine g_get (n := 29) (v := vr 59) (c := 6) (k := 9) ok dX6_closeOf_26 clsX6 (by decide) q687 rfl rfl rfl ?_
      refine g_bipush (n := 31) (v := 12) ok dX6_closeOf_29 rfl rfl ?_
      refine g_iload_n (n := 32) ok 4 dX6_closeOf_31 rfl rfl rfl ?_
      refine g_imul (n := 33) ok dX6_closeOf_32 rfl ?_
      refine g_top (nv_imul (a := 12) (b := b) rfl rfl) ?_
      refine g_iload (n := 35) ok 0 dX6_closeOf_33 rfl rfl ?_
      refine g_iadd (n := 36) ok dX6_closeOf_35 rfl ?_
      refine g_top (nv_iadd (a := 12 * b) (b := i5) rfl rfl) ?_
      refine g_iald (n := 37) (i := (12 * b) + i5) (L := 324) ok dX6_closeOf_36 rfl rfl rfl (by omega) rfl ?_
      refine g_isub (n := 38) ok dX6_closeOf_37 rfl ?_
      refine g_callS (n := 41) (rest := [vi x5_3]) (av := [vi ((I 59 ((12 * a) + i5)) - (I 59 ((12 * b) + i5)))]) ok (kX6_plainly I ((I 59 ((12 * a) + i5)) - (I 59 ((12 * b) + i5)))) knX6_plainly q936 q937 dX6_closeOf_38 rfl rfl (Nat.le_of_ble_eq_true rfl) (by decide) (by decide) rfl ?_
      refine g_iadd (n := 42) ok dX6_closeOf_41 rfl ?_
      refine g_istore_n (n := 43) (lv' := [(3, vi (x5_3 + (fX6_plainly ((I 59 ((12 * a) + i5)) - (I 59 ((12 * b) + i5)))))), (4, vi (nI i5)), (0, vr 52), (1, vi (nI a)), (2, vi (nI b))]) ok dX6_closeOf_42 rfl (by decide) rfl rfl ?_
      refine g_iinc (n := 46) (v := nI (i5 + 1)) (lv' := [(4, vi (nI (i5 + 1))), (3, vi (x5_3 + (fX6_plainly ((I 59 ((12 * a) + i5)) - (I 59 ((12 * b) + i5)))))), (0, vr 52), (1, vi (nI a)), (2, vi (nI b))]) ok 1 dX6_closeOf_43 rfl (iinc_n (a := i5) rfl) (by decide) rfl rfl ?_
      refine g_goto (tgt := 5) ok dX6_closeOf_46 (by decide) ?_
      exact ih (i5 + 1) (x5_3 + (fX6_plainly ((I 59 ((12 * a) + i5)) - (I 59 ((12 * b) + i5))))) (by omega)
  exact L5 12 0 0 (by omega)

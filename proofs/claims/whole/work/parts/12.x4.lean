noncomputable def fX4_begin (I : HI) (j : Nat) (a : Int32) (b : Int32) (c : Int32) : HI :=
  (up (up (up I j 0 a) j 1 b) j 2 c)
theorem knX4_begin : Kn yX4_begin cX4_begin 4 none 3 := ⟨q287, q4, ⟨by decide, by decide⟩, by decide +kernel⟩
set_option maxHeartbeats 400000 in
set_option maxRecDepth 100000 in
theorem kX4_begin (I : HI) (j : Nat) (a : Int32) (b : Int32) (c : Int32) (hT : Tr j) : Cx yX4_begin cX4_begin 4 none 0 0 [vr j, vi a, vi b, vi c] I ((none, fX4_begin I j a b c)) := by
  refine Cx.mk (lv := [(0, vr j), (1, vi a), (2, vi b), (3, vi c)]) (by decide) (Nat.le_of_ble_eq_true rfl) rfl (fun E ok hr => ?_)
  rw [fX4_begin]
  refine g_aload_n (n := 1) ok 0 dX4_begin_0 rfl rfl rfl ?_
  refine g_iload_n (n := 2) ok 1 dX4_begin_1 rfl rfl rfl ?_
  refine g_put (n := 5) (J := up I j 0 a) (c := 4) (k := 0) ok dX4_begin_2 clsX4 tyX4 tyX4_ok nmX4 (by decide) q37 hT.1 rfl (fun _ => rfl) (fun _ => rfl) (Nat.le_of_ble_eq_true rfl) (fs_4_0 _ _ _) up_ne rfl ?_
  refine g_aload_n (n := 6) ok 0 dX4_begin_5 rfl rfl rfl ?_
  refine g_iload_n (n := 7) ok 2 dX4_begin_6 rfl rfl rfl ?_
  refine g_put (n := 10) (J := up (up I j 0 a) j 1 b) (c := 4) (k := 1) ok dX4_begin_7 clsX4 tyX4 tyX4_ok nmX4 (by decide) q41 hT.1 rfl (fun _ => rfl) (fun _ => rfl) (Nat.le_of_ble_eq_true rfl) (fs_4_1 _ _ _) up_ne rfl ?_
  refine g_aload_n (n := 11) ok 0 dX4_begin_10 rfl rfl rfl ?_
  refine g_iload_n (n := 12) ok 3 dX4_begin_11 rfl rfl rfl ?_
  refine g_put (n := 15) (J := up (up (up I j 0 a) j 1 b) j 2 c) (c := 4) (k := 2) ok dX4_begin_12 clsX4 tyX4 tyX4_ok nmX4 (by decide) q44 hT.1 rfl (fun _ => rfl) (fun _ => rfl) (Nat.le_of_ble_eq_true rfl) (fs_4_2 _ _ _) up_ne rfl ?_
  exact g_vret ok hr dX4_begin_15
theorem begin_ne {I : HI} {j : Nat} {a b c : Int32} {i : Nat} (h : i ≠ j) : fX4_begin I j a b c i = I i := by
  unfold fX4_begin
  rw [up_ne i h, up_ne i h, up_ne i h]
theorem begin_0 {I : HI} {j : Nat} {a b c : Int32} : fX4_begin I j a b c j 0 = a := by simp [fX4_begin, up]

noncomputable def fX4_copyFrom (I : HI) (j : Nat) (o : Nat) : HI :=
  (cpy (fX4_begin I j (I o 0) (I o 1) (I o 2)) (o + 1) (j + 1) 12)
theorem knX4_copyFrom : Kn yX4_copyFrom cX4_copyFrom 2 none 1 := ⟨q653, q4, ⟨by decide, by decide⟩, by decide +kernel⟩
set_option maxHeartbeats 400000 in
set_option maxRecDepth 100000 in
theorem kX4_copyFrom (I : HI) (j : Nat) (o : Nat) (hT : Tr j) (hTo : Tr o) : Cx yX4_copyFrom cX4_copyFrom 2 none 1 40 [vr j, vr o] I ((none, fX4_copyFrom I j o)) := by
  refine Cx.mk (lv := [(0, vr j), (1, vr o)]) (by decide) (Nat.le_of_ble_eq_true rfl) rfl (fun E ok hr => ?_)
  rw [fX4_copyFrom]
  refine g_aload_n (n := 1) ok 0 dX4_copyFrom_0 rfl rfl rfl ?_
  refine g_aload_n (n := 2) ok 1 dX4_copyFrom_1 rfl rfl rfl ?_
  refine g_get (n := 5) (v := vi (I o 0)) (c := 4) (k := 0) ok dX4_copyFrom_2 clsX4 (by decide) q37 hTo.1 rfl rfl ?_
  refine g_aload_n (n := 6) ok 1 dX4_copyFrom_5 rfl rfl rfl ?_
  refine g_get (n := 9) (v := vi (I o 1)) (c := 4) (k := 1) ok dX4_copyFrom_6 clsX4 (by decide) q41 hTo.1 rfl rfl ?_
  refine g_aload_n (n := 10) ok 1 dX4_copyFrom_9 rfl rfl rfl ?_
  refine g_get (n := 13) (v := vi (I o 2)) (c := 4) (k := 2) ok dX4_copyFrom_10 clsX4 (by decide) q44 hTo.1 rfl rfl ?_
  refine g_callVv (n := 16) (rest := []) (av := [vi (I o 0), vi (I o 1), vi (I o 2)]) (j := j) ok (kX4_begin I j (I o 0) (I o 1) (I o 2) hT) knX4_begin q654 q285 q286 clsX4 hT.1 dX4_copyFrom_13 rfl rfl (Nat.le_of_ble_eq_true rfl) (by decide) (by decide) rfl ?_
  refine g_aload_n (n := 17) ok 1 dX4_copyFrom_16 rfl rfl rfl ?_
  refine g_get (n := 20) (v := vr (o + 1)) (c := 4) (k := 3) ok dX4_copyFrom_17 clsX4 (by decide) q47 hTo.1 rfl rfl ?_
  refine g_iconst (n := 21) (v := 0) ok dX4_copyFrom_20 rfl rfl ?_
  refine g_aload_n (n := 22) ok 0 dX4_copyFrom_21 rfl rfl rfl ?_
  refine g_get (n := 25) (v := vr (j + 1)) (c := 4) (k := 3) ok dX4_copyFrom_22 clsX4 (by decide) q47 hT.1 rfl rfl ?_
  refine g_iconst (n := 26) (v := 0) ok dX4_copyFrom_25 rfl rfl ?_
  refine g_bipush (n := 28) (v := 12) ok dX4_copyFrom_26 rfl rfl ?_
  refine g_copy (n := 31) (n0 := 12) (n1 := 12) (m := 12) ok dX4_copyFrom_28 q655 q31 q30 hTo.2.1 hT.2.1 hTo.2.2 hT.2.2 rfl (by omega) (by omega) (Nat.le_of_ble_eq_true rfl) (by decide) (by decide) rfl ?_
  exact g_vret ok hr dX4_copyFrom_31

noncomputable def fX4_roundness_x16 (x16_2 : Int32) (x16_1 : Int32) : Int32 :=
  x16_2 - x16_1
noncomputable def fX4_roundness_b16 (I : HI) (j : Nat) (i16 : Nat) (x16_2 : Int32) (x16_1 : Int32) : Int32 × Int32 :=
  (iMax x16_2 (I (j + 1) i16), iMin x16_1 (I (j + 1) i16))
noncomputable def fX4_roundness (I : HI) (j : Nat) : Int32 :=
  (fun (s : Int32 × Int32) => fX4_roundness_x16 s.1 s.2) (fo 11 1 (fun (i : Nat) (s : Int32 × Int32) => fX4_roundness_b16 I j i s.1 s.2) (I (j + 1) 0, I (j + 1) 0))
theorem knX4_roundness : Kn yX4_roundness cX4_roundness 4 (some .int) 0 := ⟨q382, q4, ⟨by decide, by decide⟩, by decide +kernel⟩
set_option maxHeartbeats 400000 in
set_option maxRecDepth 100000 in
theorem kX4_roundness (I : HI) (j : Nat) (hT : Tr j) : Cx yX4_roundness cX4_roundness 4 (some .int) 1 21 [vr j] I ((some (vi ((fX4_roundness I j))), I)) := by
  refine Cx.mk (lv := [(0, vr j)]) (by decide) (Nat.le_of_ble_eq_true rfl) rfl (fun E ok hr => ?_)
  rw [fX4_roundness]
  refine g_aload_n (n := 1) ok 0 dX4_roundness_0 rfl rfl rfl ?_
  refine g_get (n := 4) (v := vr (j + 1)) (c := 4) (k := 3) ok dX4_roundness_1 clsX4 (by decide) q47 hT.1 rfl rfl ?_
  refine g_iconst (n := 5) (v := 0) ok dX4_roundness_4 rfl rfl ?_
  refine g_iald (n := 6) (i := 0) (L := 12) ok dX4_roundness_5 hT.2.1 hT.2.2 rfl (by omega) rfl ?_
  refine g_istore_n (n := 7) (lv' := [(1, vi (I (j + 1) 0)), (0, vr j)]) ok dX4_roundness_6 rfl (by decide) rfl rfl ?_
  refine g_aload_n (n := 8) ok 1 dX4_roundness_7 rfl rfl rfl ?_
  refine g_get (n := 11) (v := vr (j + 1)) (c := 4) (k := 3) ok dX4_roundness_8 clsX4 (by decide) q47 hT.1 rfl rfl ?_
  refine g_iconst (n := 12) (v := 0) ok dX4_roundness_11 rfl rfl ?_
  refine g_iald (n := 13) (i := 0) (L := 12) ok dX4_roundness_12 hT.2.1 hT.2.2 rfl (by omega) rfl ?_
  refine g_istore_n (n := 14) (lv' := [(2, vi (I (j + 1) 0)), (1, vi (I (j + 1) 0)), (0, vr j)]) ok dX4_roundness_13 rfl (by decide) rfl rfl ?_
  refine g_iconst (n := 15) (v := 1) ok dX4_roundness_14 rfl rfl ?_
  refine g_istore_n (n := 16) (lv' := [(3, vi 1), (2, vi (I (j + 1) 0)), (1, vi (I (j + 1) 0)), (0, vr j)]) ok dX4_roundness_15 rfl (by decide) rfl rfl ?_
  have X16 : ∀ (x16_2 : Int32) (x16_1 : Int32), G E 4 ((some (vi ((fX4_roundness_x16 x16_2 x16_1))), I)) I 50 [(2, vi x16_2), (1, vi x16_1)] [] := by
    intro x16_2 x16_1
    rw [fX4_roundness_x16]
    refine g_iload_n (n := 51) ok 0 dX4_roundness_50 rfl rfl rfl ?_
    refine g_iload_n (n := 52) ok 1 dX4_roundness_51 rfl rfl rfl ?_
    refine g_isub (n := 53) ok dX4_roundness_52 rfl ?_
    exact g_iret ok hr dX4_roundness_53
  have L16 : ∀ (n16 i16 : Nat) (x16_2 : Int32) (x16_1 : Int32) (hi : i16 + n16 = 12), G E 4 ((some (vi (((fun (s : Int32 × Int32) => fX4_roundness_x16 s.1 s.2) (fo n16 i16 (fun (i : Nat) (s : Int32 × Int32) => fX4_roundness_b16 I j i s.1 s.2) (x16_2, x16_1))))), I)) I 16 [(3, vi (nI i16)), (2, vi x16_2), (1, vi x16_1), (0, vr j)] [] := by
    intro n16
    induction n16 with
    | zero =>
      intro i16 x16_2 x16_1 hi
      rw [fo_0]
      refine g_iload_n (n := 17) ok 0 dX4_roundness_16 rfl rfl rfl ?_
      refine g_bipush (n := 19) (v := 12) ok dX4_roundness_17 rfl rfl ?_
      refine g_icmp_ge (n := 22) (tgt := 50) ok dX4_roundness_19 (by decide) rfl (fun c => ?_) (fun c => absurd (nle (a := 12) (b := i16) rfl rfl (by omega) (by omega)) c)
      refine g_sub [1, 2] rfl ?_
      exact X16 _ _
    | succ n16 ih =>
      intro i16 x16_2 x16_1 hi
      refine g_iload_n (n := 17) ok 0 dX4_roundness_16 rfl rfl rfl ?_
      refine g_bipush (n := 19) (v := 12) ok dX4_roundness_17 rfl rfl ?_
      refine g_icmp_ge (n := 22) (tgt := 50) ok dX4_roundness_19 (by decide) rfl (fun c => absurd c (nnle (a := 12) (b := i16) rfl rfl (by omega) (by omega))) (fun c => ?_)
      rw [fo_s]
      show G E 4 ((some (vi (((fun (s : Int32 × Int32) => fX4_roundness_x16 s.1 s.2) (fo n16 (i16 + 1) (fun (i : Nat) (s : Int32 × Int32) => fX4_roundness_b16 I j i s.1 s.2) (fX4_roundness_b16 I j i16 x16_2 x16_1))))), I)) _ _ _ _
      rw [fX4_roundness_b16]
      refine g_iload_n (n := 23) ok 2 dX4_roundness_22 rfl rfl rfl ?_
      refine g_aload_n (n := 24) ok 3 dX4_roundness_23 rfl rfl rfl ?_
      refine g_get (n := 27) (v := vr (j + 1)) (c := 4) (k := 3) ok dX4_roundness_24 clsX4 (by decide) q47 hT.1 rfl rfl ?_
      refine g_iload_n (n := 28) ok 0 dX4_roundness_27 rfl rfl rfl ?_
      refine g_iald (n := 29) (i := i16) (L := 12) ok dX4_roundness_28 hT.2.1 hT.2.2 rfl (by omega) rfl ?_
      refine g_mmin (n := 32) (rest := []) ok dX4_roundness_29 q383 q297 q298 (Nat.le_of_ble_eq_true rfl) (by decide) (by decide) rfl ?_
      refine g_istore_n (n := 33) (lv' := [(1, vi (iMin x16_1 (I (j + 1) i16))), (3, vi (nI i16)), (2, vi x16_2), (0, vr j)]) ok dX4_roundness_32 rfl (by decide) rfl rfl ?_
      refine g_iload_n (n := 34) ok 2 dX4_roundness_33 rfl rfl rfl ?_
      refine g_aload_n (n := 35) ok 3 dX4_roundness_34 rfl rfl rfl ?_
      refine g_get (n := 38) (v := vr (j + 1)) (c := 4) (k := 3) ok dX4_roundness_35 clsX4 (by decide) q47 hT.1 rfl rfl ?_
      refine g_iload_n (n := 39) ok 1 dX4_roundness_38 rfl rfl rfl ?_
      refine g_iald (n := 40) (i := i16) (L := 12) ok dX4_roundness_39 hT.2.1 hT.2.2 rfl (by omega) rfl ?_
      refine g_mmax (n := 43) (rest := []) ok dX4_roundness_40 q384 q305 q306 (Nat.le_of_ble_eq_true rfl) (by decide) (by decide) rfl ?_
      refine g_istore_n (n := 44) (lv' := [(2, vi (iMax x16_2 (I (j + 1) i16))), (1, vi (iMin x16_1 (I (j + 1) i16))), (3, vi (nI i16)), (0, vr j)]) ok dX4_roundness_43 rfl (by decide) rfl rfl ?_
      refine g_iinc (n := 47) (v := nI (i16 + 1)) (lv' := [(3, vi (nI (i16 + 1))), (2, vi (iMax x16_2 (I (j + 1) i16))), (1, vi (iMin x16_1 (I (j + 1) i16))), (0, vr j)]) ok 2 dX4_roundness_44 rfl (iinc_n (a := i16) rfl) (by decide) rfl rfl ?_
      refine g_goto (tgt := 16) ok dX4_roundness_47 (by decide) ?_
      exact ih (i16 + 1) (iMax x16_2 (I (j + 1) i16)) (iMin x16_1 (I (j + 1) i16)) (by omega)
  exact L16 11 1 (I (j + 1) 0) (I (j + 1) 0) (by omega)

noncomputable def fX4_gap (I : HI) (j : Nat) : Int32 :=
  iAbs ((I (j + 1) 11) - (I (j + 1) 0))
theorem knX4_gap : Kn yX4_gap cX4_gap 1 (some .int) 0 := ⟨q388, q4, ⟨by decide, by decide⟩, by decide +kernel⟩
set_option maxHeartbeats 400000 in
set_option maxRecDepth 100000 in
theorem kX4_gap (I : HI) (j : Nat) (hT : Tr j) : Cx yX4_gap cX4_gap 1 (some .int) 1 21 [vr j] I ((some (vi ((fX4_gap I j))), I)) := by
  refine Cx.mk (lv := [(0, vr j)]) (by decide) (Nat.le_of_ble_eq_true rfl) rfl (fun E ok hr => ?_)
  rw [fX4_gap]
  refine g_aload_n (n := 1) ok 0 dX4_gap_0 rfl rfl rfl ?_
  refine g_get (n := 4) (v := vr (j + 1)) (c := 4) (k := 3) ok dX4_gap_1 clsX4 (by decide) q47 hT.1 rfl rfl ?_
  refine g_bipush (n := 6) (v := 11) ok dX4_gap_4 rfl rfl ?_
  refine g_iald (n := 7) (i := 11) (L := 12) ok dX4_gap_6 hT.2.1 hT.2.2 rfl (by omega) rfl ?_
  refine g_aload_n (n := 8) ok 0 dX4_gap_7 rfl rfl rfl ?_
  refine g_get (n := 11) (v := vr (j + 1)) (c := 4) (k := 3) ok dX4_gap_8 clsX4 (by decide) q47 hT.1 rfl rfl ?_
  refine g_iconst (n := 12) (v := 0) ok dX4_gap_11 rfl rfl ?_
  refine g_iald (n := 13) (i := 0) (L := 12) ok dX4_gap_12 hT.2.1 hT.2.2 rfl (by omega) rfl ?_
  refine g_isub (n := 14) ok dX4_gap_13 rfl ?_
  refine g_mabs (n := 17) (rest := []) ok dX4_gap_14 q389 q390 q391 (Nat.le_of_ble_eq_true rfl) (by decide) (by decide) rfl ?_
  exact g_iret ok hr dX4_gap_17

noncomputable def fX4_offBy_x4 (x4_2 : Int32) : Int32 :=
  x4_2
noncomputable def fX4_offBy_b4 (I : HI) (j : Nat) (size : Int32) (i4 : Nat) (x4_2 : Int32) : Int32 :=
  x4_2 + (iAbs ((I (j + 1) i4) - size))
noncomputable def fX4_offBy (I : HI) (j : Nat) (size : Int32) : Int32 :=
  fX4_offBy_x4 (fo 12 0 (fun (i : Nat) (s : Int32) => fX4_offBy_b4 I j size i s) 0)
theorem knX4_offBy : Kn yX4_offBy cX4_offBy 4 (some .int) 1 := ⟨q399, q4, ⟨by decide, by decide⟩, by decide +kernel⟩
set_option maxHeartbeats 400000 in
set_option maxRecDepth 100000 in
theorem kX4_offBy (I : HI) (j : Nat) (size : Int32) (hT : Tr j) : Cx yX4_offBy cX4_offBy 4 (some .int) 1 21 [vr j, vi size] I ((some (vi ((fX4_offBy I j size))), I)) := by
  refine Cx.mk (lv := [(0, vr j), (1, vi size)]) (by decide) (Nat.le_of_ble_eq_true rfl) rfl (fun E ok hr => ?_)
  rw [fX4_offBy]
  refine g_iconst (n := 1) (v := 0) ok dX4_offBy_0 rfl rfl ?_
  refine g_istore_n (n := 2) (lv' := [(2, vi 0), (0, vr j), (1, vi size)]) ok dX4_offBy_1 rfl (by decide) rfl rfl ?_
  refine g_iconst (n := 3) (v := 0) ok dX4_offBy_2 rfl rfl ?_
  refine g_istore_n (n := 4) (lv' := [(3, vi 0), (2, vi 0), (0, vr j), (1, vi size)]) ok dX4_offBy_3 rfl (by decide) rfl rfl ?_
  have X4 : ∀ (x4_2 : Int32), G E 4 ((some (vi ((fX4_offBy_x4 x4_2))), I)) I 30 [(2, vi x4_2)] [] := by
    intro x4_2
    rw [fX4_offBy_x4]
    refine g_iload_n (n := 31) ok 0 dX4_offBy_30 rfl rfl rfl ?_
    exact g_iret ok hr dX4_offBy_31
  have L4 : ∀ (n4 i4 : Nat) (x4_2 : Int32) (hi : i4 + n4 = 12), G E 4 ((some (vi ((fX4_offBy_x4 (fo n4 i4 (fun (i : Nat) (s : Int32) => fX4_offBy_b4 I j size i s) x4_2)))), I)) I 4 [(3, vi (nI i4)), (2, vi x4_2), (0, vr j), (1, vi size)] [] := by
    intro n4
    induction n4 with
    | zero =>
      intro i4 x4_2 hi
      rw [fo_0]
      refine g_iload_n (n := 5) ok 0 dX4_offBy_4 rfl rfl rfl ?_
      refine g_bipush (n := 7) (v := 12) ok dX4_offBy_5 rfl rfl ?_
      refine g_icmp_ge (n := 10) (tgt := 30) ok dX4_offBy_7 (by decide) rfl (fun c => ?_) (fun c => absurd (nle (a := 12) (b := i4) rfl rfl (by omega) (by omega)) c)
      refine g_sub [1] rfl ?_
      exact X4 _
    | succ n4 ih =>
      intro i4 x4_2 hi
      refine g_iload_n (n := 5) ok 0 dX4_offBy_4 rfl rfl rfl ?_
      refine g_bipush (n := 7) (v := 12) ok dX4_offBy_5 rfl rfl ?_
      refine g_icmp_ge (n := 10) (tgt := 30) ok dX4_offBy_7 (by decide) rfl (fun c => absurd c (nnle (a := 12) (b := i4) rfl rfl (by omega) (by omega))) (fun c => ?_)
      rw [fo_s]
      show G E 4 ((some (vi ((fX4_offBy_x4 (fo n4 (i4 + 1) (fun (i : Nat) (s : Int32) => fX4_offBy_b4 I j size i s) (fX4_offBy_b4 I j size i4 x4_2))))), I)) _ _ _ _
      rw [fX4_offBy_b4]
      refine g_iload_n (n := 11) ok 1 dX4_offBy_10 rfl rfl rfl ?_
      refine g_aload_n (n := 12) ok 2 dX4_offBy_11 rfl rfl rfl ?_
      refine g_get (n := 15) (v := vr (j + 1)) (c := 4) (k := 3) ok dX4_offBy_12 clsX4 (by decide) q47 hT.1 rfl rfl ?_
      refine g_iload_n (n := 16) ok 0 dX4_offBy_15 rfl rfl rfl ?_
      refine g_iald (n := 17) (i := i4) (L := 12) ok dX4_offBy_16 hT.2.1 hT.2.2 rfl (by omega) rfl ?_
      refine g_iload_n (n := 18) ok 3 dX4_offBy_17 rfl rfl rfl ?_
      refine g_isub (n := 19) ok dX4_offBy_18 rfl ?_
      refine g_mabs (n := 22) (rest := [vi x4_2]) ok dX4_offBy_19 q389 q390 q391 (Nat.le_of_ble_eq_true rfl) (by decide) (by decide) rfl ?_
      refine g_iadd (n := 23) ok dX4_offBy_22 rfl ?_
      refine g_istore_n (n := 24) (lv' := [(2, vi (x4_2 + (iAbs ((I (j + 1) i4) - size)))), (3, vi (nI i4)), (0, vr j), (1, vi size)]) ok dX4_offBy_23 rfl (by decide) rfl rfl ?_
      refine g_iinc (n := 27) (v := nI (i4 + 1)) (lv' := [(3, vi (nI (i4 + 1))), (2, vi (x4_2 + (iAbs ((I (j + 1) i4) - size)))), (0, vr j), (1, vi size)]) ok 1 dX4_offBy_24 rfl (iinc_n (a := i4) rfl) (by decide) rfl rfl ?_
      refine g_goto (tgt := 4) ok dX4_offBy_27 (by decide) ?_
      exact ih (i4 + 1) (x4_2 + (iAbs ((I (j + 1) i4) - size))) (by omega)
  exact L4 12 0 0 (by omega)

noncomputable def fX4_total_x4 (x4_1 : Int32) : Int32 :=
  x4_1
noncomputable def fX4_total_b4 (I : HI) (j : Nat) (i4 : Nat) (x4_1 : Int32) : Int32 :=
  x4_1 + (I (j + 1) i4)
noncomputable def fX4_total (I : HI) (j : Nat) : Int32 :=
  fX4_total_x4 (fo 12 0 (fun (i : Nat) (s : Int32) => fX4_total_b4 I j i s) 0)
theorem knX4_total : Kn yX4_total cX4_total 3 (some .int) 0 := ⟨q429, q4, ⟨by decide, by decide⟩, by decide +kernel⟩
set_option maxHeartbeats 400000 in
set_option maxRecDepth 100000 in
theorem kX4_total (I : HI) (j : Nat) (hT : Tr j) : Cx yX4_total cX4_total 3 (some .int) 0 0 [vr j] I ((some (vi ((fX4_total I j))), I)) := by
  refine Cx.mk (lv := [(0, vr j)]) (by decide) (Nat.le_of_ble_eq_true rfl) rfl (fun E ok hr => ?_)
  rw [fX4_total]
  refine g_iconst (n := 1) (v := 0) ok dX4_total_0 rfl rfl ?_
  refine g_istore_n (n := 2) (lv' := [(1, vi 0), (0, vr j)]) ok dX4_total_1 rfl (by decide) rfl rfl ?_
  refine g_iconst (n := 3) (v := 0) ok dX4_total_2 rfl rfl ?_
  refine g_istore_n (n := 4) (lv' := [(2, vi 0), (1, vi 0), (0, vr j)]) ok dX4_total_3 rfl (by decide) rfl rfl ?_
  have X4 : ∀ (x4_1 : Int32), G E 3 ((some (vi ((fX4_total_x4 x4_1))), I)) I 25 [(1, vi x4_1)] [] := by
    intro x4_1
    rw [fX4_total_x4]
    refine g_iload_n (n := 26) ok 0 dX4_total_25 rfl rfl rfl ?_
    exact g_iret ok hr dX4_total_26
  have L4 : ∀ (n4 i4 : Nat) (x4_1 : Int32) (hi : i4 + n4 = 12), G E 3 ((some (vi ((fX4_total_x4 (fo n4 i4 (fun (i : Nat) (s : Int32) => fX4_total_b4 I j i s) x4_1)))), I)) I 4 [(2, vi (nI i4)), (1, vi x4_1), (0, vr j)] [] := by
    intro n4
    induction n4 with
    | zero =>
      intro i4 x4_1 hi
      rw [fo_0]
      refine g_iload_n (n := 5) ok 0 dX4_total_4 rfl rfl rfl ?_
      refine g_bipush (n := 7) (v := 12) ok dX4_total_5 rfl rfl ?_
      refine g_icmp_ge (n := 10) (tgt := 25) ok dX4_total_7 (by decide) rfl (fun c => ?_) (fun c => absurd (nle (a := 12) (b := i4) rfl rfl (by omega) (by omega)) c)
      refine g_sub [1] rfl ?_
      exact X4 _
    | succ n4 ih =>
      intro i4 x4_1 hi
      refine g_iload_n (n := 5) ok 0 dX4_total_4 rfl rfl rfl ?_
      refine g_bipush (n := 7) (v := 12) ok dX4_total_5 rfl rfl ?_
      refine g_icmp_ge (n := 10) (tgt := 25) ok dX4_total_7 (by decide) rfl (fun c => absurd c (nnle (a := 12) (b := i4) rfl rfl (by omega) (by omega))) (fun c => ?_)
      rw [fo_s]
      show G E 3 ((some (vi ((fX4_total_x4 (fo n4 (i4 + 1) (fun (i : Nat) (s : Int32) => fX4_total_b4 I j i s) (fX4_total_b4 I j i4 x4_1))))), I)) _ _ _ _
      rw [fX4_total_b4]
      refine g_iload_n (n := 11) ok 1 dX4_total_10 rfl rfl rfl ?_
      refine g_aload_n (n := 12) ok 2 dX4_total_11 rfl rfl rfl ?_
      refine g_get (n := 15) (v := vr (j + 1)) (c := 4) (k := 3) ok dX4_total_12 clsX4 (by decide) q47 hT.1 rfl rfl ?_
      refine g_iload_n (n := 16) ok 0 dX4_total_15 rfl rfl rfl ?_
      refine g_iald (n := 17) (i := i4) (L := 12) ok dX4_total_16 hT.2.1 hT.2.2 rfl (by omega) rfl ?_
      refine g_iadd (n := 18) ok dX4_total_17 rfl ?_
      refine g_istore_n (n := 19) (lv' := [(1, vi (x4_1 + (I (j + 1) i4))), (2, vi (nI i4)), (0, vr j)]) ok dX4_total_18 rfl (by decide) rfl rfl ?_
      refine g_iinc (n := 22) (v := nI (i4 + 1)) (lv' := [(2, vi (nI (i4 + 1))), (1, vi (x4_1 + (I (j + 1) i4))), (0, vr j)]) ok 1 dX4_total_19 rfl (iinc_n (a := i4) rfl) (by decide) rfl rfl ?_
      refine g_goto (tgt := 4) ok dX4_total_22 (by decide) ?_
      exact ih (i4 + 1) (x4_1 + (I (j + 1) i4)) (by omega)
  exact L4 12 0 0 (by omega)

noncomputable def fX4_bendAt (I : HI) (j : Nat) (h : Nat) : Int32 :=
  iAbs (((2 * (I (j + 1) h)) - (I (j + 1) (fX5_hourAhead h))) - (I (j + 1) (fX5_hourBehind h)))
theorem knX4_bendAt : Kn yX4_bendAt cX4_bendAt 2 (some .int) 1 := ⟨q407, q4, ⟨by decide, by decide⟩, by decide +kernel⟩
set_option maxHeartbeats 400000 in
set_option maxRecDepth 100000 in
theorem kX4_bendAt (I : HI) (j : Nat) (h : Nat) (hT : Tr j) (hh : h < 12) : Cx yX4_bendAt cX4_bendAt 2 (some .int) 1 21 [vr j, vi (nI h)] I ((some (vi ((fX4_bendAt I j h))), I)) := by
  refine Cx.mk (lv := [(0, vr j), (1, vi (nI h))]) (by decide) (Nat.le_of_ble_eq_true rfl) rfl (fun E ok hr => ?_)
  rw [fX4_bendAt]
  refine g_iconst (n := 1) (v := 2) ok dX4_bendAt_0 rfl rfl ?_
  refine g_aload_n (n := 2) ok 0 dX4_bendAt_1 rfl rfl rfl ?_
  refine g_get (n := 5) (v := vr (j + 1)) (c := 4) (k := 3) ok dX4_bendAt_2 clsX4 (by decide) q47 hT.1 rfl rfl ?_
  refine g_iload_n (n := 6) ok 1 dX4_bendAt_5 rfl rfl rfl ?_
  refine g_iald (n := 7) (i := h) (L := 12) ok dX4_bendAt_6 hT.2.1 hT.2.2 rfl (by omega) rfl ?_
  refine g_imul (n := 8) ok dX4_bendAt_7 rfl ?_
  refine g_aload_n (n := 9) ok 0 dX4_bendAt_8 rfl rfl rfl ?_
  refine g_get (n := 12) (v := vr (j + 1)) (c := 4) (k := 3) ok dX4_bendAt_9 clsX4 (by decide) q47 hT.1 rfl rfl ?_
  refine g_iload_n (n := 13) ok 1 dX4_bendAt_12 rfl rfl rfl ?_
  refine g_callSN (n := 16) (rest := [vr (j + 1), vi (2 * (I (j + 1) h))]) (av := [vi (nI h)]) ok (kX5_hourAhead I h (by first | with_reducible assumption | omega)) knX5_hourAhead q408 q320 dX4_bendAt_13 rfl rfl (Nat.le_of_ble_eq_true rfl) (by decide) (by decide) rfl ?_
  have hp1 := fX5_hourAhead_lt h (by omega)
  refine g_iald (n := 17) (i := (fX5_hourAhead h)) (L := 12) ok dX4_bendAt_16 hT.2.1 hT.2.2 rfl (by omega) rfl ?_
  refine g_isub (n := 18) ok dX4_bendAt_17 rfl ?_
  refine g_aload_n (n := 19) ok 0 dX4_bendAt_18 rfl rfl rfl ?_
  refine g_get (n := 22) (v := vr (j + 1)) (c := 4) (k := 3) ok dX4_bendAt_19 clsX4 (by decide) q47 hT.1 rfl rfl ?_
  refine g_iload_n (n := 23) ok 1 dX4_bendAt_22 rfl rfl rfl ?_
  refine g_callSN (n := 26) (rest := [vr (j + 1), vi ((2 * (I (j + 1) h)) - (I (j + 1) (fX5_hourAhead h)))]) (av := [vi (nI h)]) ok (kX5_hourBehind I h (by first | with_reducible assumption | omega)) knX5_hourBehind q409 q410 dX4_bendAt_23 rfl rfl (Nat.le_of_ble_eq_true rfl) (by decide) (by decide) rfl ?_
  have hp2 := fX5_hourBehind_lt h (by omega)
  refine g_iald (n := 27) (i := (fX5_hourBehind h)) (L := 12) ok dX4_bendAt_26 hT.2.1 hT.2.2 rfl (by omega) rfl ?_
  refine g_isub (n := 28) ok dX4_bendAt_27 rfl ?_
  refine g_mabs (n := 31) (rest := []) ok dX4_bendAt_28 q389 q390 q391 (Nat.le_of_ble_eq_true rfl) (by decide) (by decide) rfl ?_
  exact g_iret ok hr dX4_bendAt_31

noncomputable def fX4_wobbleHour_x4 (x4_1 : Nat) : Nat :=
  x4_1
noncomputable def fX4_wobbleHour_b4 (I : HI) (j : Nat) (i4 : Nat) (x4_1 : Nat) : Nat :=
  if fX4_bendAt I j i4 ≤ fX4_bendAt I j x4_1 then x4_1 else i4
noncomputable def fX4_wobbleHour (I : HI) (j : Nat) : Nat :=
  fX4_wobbleHour_x4 (fo 11 1 (fun (i : Nat) (s : Nat) => fX4_wobbleHour_b4 I j i s) 0)
theorem knX4_wobbleHour : Kn yX4_wobbleHour cX4_wobbleHour 3 (some .int) 0 := ⟨q403, q4, ⟨by decide, by decide⟩, by decide +kernel⟩
set_option maxHeartbeats 400000 in
set_option maxRecDepth 100000 in
theorem kX4_wobbleHour (I : HI) (j : Nat) (hT : Tr j) : Cx yX4_wobbleHour cX4_wobbleHour 3 (some .int) 2 42 [vr j] I ((some (vi (nI (fX4_wobbleHour I j))), I)) := by
  refine Cx.mk (lv := [(0, vr j)]) (by decide) (Nat.le_of_ble_eq_true rfl) rfl (fun E ok hr => ?_)
  rw [fX4_wobbleHour]
  refine g_iconst (n := 1) (v := 0) ok dX4_wobbleHour_0 rfl rfl ?_
  refine g_istore_n (n := 2) (lv' := [(1, vi 0), (0, vr j)]) ok dX4_wobbleHour_1 rfl (by decide) rfl rfl ?_
  refine g_iconst (n := 3) (v := 1) ok dX4_wobbleHour_2 rfl rfl ?_
  refine g_istore_n (n := 4) (lv' := [(2, vi 1), (1, vi 0), (0, vr j)]) ok dX4_wobbleHour_3 rfl (by decide) rfl rfl ?_
  have X4 : ∀ (x4_1 : Nat) (hb : x4_1 < 12), G E 3 ((some (vi (nI (fX4_wobbleHour_x4 x4_1))), I)) I 31 [(1, vi (nI x4_1))] [] := by
    intro x4_1 hb
    rw [fX4_wobbleHour_x4]
    refine g_iload_n (n := 32) ok 0 dX4_wobbleHour_31 rfl rfl rfl ?_
    exact g_iret ok hr dX4_wobbleHour_32
  have L4 : ∀ (n4 i4 : Nat) (x4_1 : Nat) (hb : x4_1 < 12) (hi : i4 + n4 = 12), G E 3 ((some (vi (nI (fX4_wobbleHour_x4 (fo n4 i4 (fun (i : Nat) (s : Nat) => fX4_wobbleHour_b4 I j i s) x4_1)))), I)) I 4 [(2, vi (nI i4)), (1, vi (nI x4_1)), (0, vr j)] [] := by
    intro n4
    induction n4 with
    | zero =>
      intro i4 x4_1 hb hi
      rw [fo_0]
      refine g_iload_n (n := 5) ok 0 dX4_wobbleHour_4 rfl rfl rfl ?_
      refine g_bipush (n := 7) (v := 12) ok dX4_wobbleHour_5 rfl rfl ?_
      refine g_icmp_ge (n := 10) (tgt := 31) ok dX4_wobbleHour_7 (by decide) rfl (fun c => ?_) (fun c => absurd (nle (a := 12) (b := i4) rfl rfl (by omega) (by omega)) c)
      refine g_sub [1] rfl ?_
      exact X4 _ hb
    | succ n4 ih =>
      intro i4 x4_1 hb hi
      refine g_iload_n (n := 5) ok 0 dX4_wobbleHour_4 rfl rfl rfl ?_
      refine g_bipush (n := 7) (v := 12) ok dX4_wobbleHour_5 rfl rfl ?_
      refine g_icmp_ge (n := 10) (tgt := 31) ok dX4_wobbleHour_7 (by decide) rfl (fun c => absurd c (nnle (a := 12) (b := i4) rfl rfl (by omega) (by omega))) (fun c => ?_)
      rw [fo_s]
      show G E 3 ((some (vi (nI (fX4_wobbleHour_x4 (fo n4 (i4 + 1) (fun (i : Nat) (s : Nat) => fX4_wobbleHour_b4 I j i s) (fX4_wobbleHour_b4 I j i4 x4_1))))), I)) _ _ _ _
      rw [fX4_wobbleHour_b4]
      refine g_aload_n (n := 11) ok 2 dX4_wobbleHour_10 rfl rfl rfl ?_
      refine g_iload_n (n := 12) ok 0 dX4_wobbleHour_11 rfl rfl rfl ?_
      refine g_callV (n := 15) (rest := []) (av := [vi (nI i4)]) (j := j) ok (kX4_bendAt I j i4 hT (by first | with_reducible assumption | omega)) knX4_bendAt q404 q405 q406 clsX4 hT.1 dX4_wobbleHour_12 rfl rfl (Nat.le_of_ble_eq_true rfl) (by decide) (by decide) rfl ?_
      refine g_aload_n (n := 16) ok 2 dX4_wobbleHour_15 rfl rfl rfl ?_
      refine g_iload_n (n := 17) ok 1 dX4_wobbleHour_16 rfl rfl rfl ?_
      refine g_callV (n := 20) (rest := [vi (fX4_bendAt I j i4)]) (av := [vi (nI x4_1)]) (j := j) ok (kX4_bendAt I j x4_1 hT (by first | with_reducible assumption | omega)) knX4_bendAt q404 q405 q406 clsX4 hT.1 dX4_wobbleHour_17 rfl rfl (Nat.le_of_ble_eq_true rfl) (by decide) (by decide) rfl ?_
      refine g_icmp_le (n := 23) (tgt := 25) ok dX4_wobbleHour_20 (by decide) rfl (fun c1 => ?_) (fun c1 => ?_)
      · rw [if_pos c1]
        refine g_iinc (n := 28) (v := nI (i4 + 1)) (lv' := [(2, vi (nI (i4 + 1))), (1, vi (nI x4_1)), (0, vr j)]) ok 0 dX4_wobbleHour_25 rfl (iinc_n (a := i4) rfl) (by decide) rfl rfl ?_
        refine g_goto (tgt := 4) ok dX4_wobbleHour_28 (by decide) ?_
        exact ih (i4 + 1) x4_1 (by omega) (by omega)
      · rw [if_neg c1]
        refine g_iload_n (n := 24) ok 0 dX4_wobbleHour_23 rfl rfl rfl ?_
        refine g_istore_n (n := 25) (lv' := [(1, vi (nI i4)), (2, vi (nI i4)), (0, vr j)]) ok dX4_wobbleHour_24 rfl (by decide) rfl rfl ?_
        refine g_iinc (n := 28) (v := nI (i4 + 1)) (lv' := [(2, vi (nI (i4 + 1))), (1, vi (nI i4)), (0, vr j)]) ok 1 dX4_wobbleHour_25 rfl (iinc_n (a := i4) rfl) (by decide) rfl rfl ?_
        refine g_goto (tgt := 4) ok dX4_wobbleHour_28 (by decide) ?_
        exact ih (i4 + 1) i4 (by omega) (by omega)
  exact L4 11 1 0 (by omega) (by omega)
theorem fX4_wobbleHour_lt (I : HI) (j : Nat) : fX4_wobbleHour I j < 12 := by
  have h := fo_inv (fun i s => s < i) (fun i s => fX4_wobbleHour_b4 I j i s) 11 1 0 (by omega) (fun k s _ _ h => by
    show fX4_wobbleHour_b4 I j k s < k + 1
    unfold fX4_wobbleHour_b4; split <;> omega)
  unfold fX4_wobbleHour fX4_wobbleHour_x4
  exact h

noncomputable def fX4_farFrom_x4 (x4_2 : Int32) : Int32 :=
  x4_2
noncomputable def fX4_farFrom_b4 (I : HI) (j : Nat) (o : Nat) (i4 : Nat) (x4_2 : Int32) : Int32 :=
  x4_2 + (iAbs ((I (j + 1) i4) - (I (o + 1) i4)))
noncomputable def fX4_farFrom (I : HI) (j : Nat) (o : Nat) : Int32 :=
  fX4_farFrom_x4 (fo 12 0 (fun (i : Nat) (s : Int32) => fX4_farFrom_b4 I j o i s) 0)
theorem knX4_farFrom : Kn yX4_farFrom cX4_farFrom 4 (some .int) 1 := ⟨q443, q4, ⟨by decide, by decide⟩, by decide +kernel⟩
set_option maxHeartbeats 400000 in
set_option maxRecDepth 100000 in
theorem kX4_farFrom (I : HI) (j : Nat) (o : Nat) (hT : Tr j) (hTo : Tr o) : Cx yX4_farFrom cX4_farFrom 4 (some .int) 1 21 [vr j, vr o] I ((some (vi ((fX4_farFrom I j o))), I)) := by
  refine Cx.mk (lv := [(0, vr j), (1, vr o)]) (by decide) (Nat.le_of_ble_eq_true rfl) rfl (fun E ok hr => ?_)
  rw [fX4_farFrom]
  refine g_iconst (n := 1) (v := 0) ok dX4_farFrom_0 rfl rfl ?_
  refine g_istore_n (n := 2) (lv' := [(2, vi 0), (0, vr j), (1, vr o)]) ok dX4_farFrom_1 rfl (by decide) rfl rfl ?_
  refine g_iconst (n := 3) (v := 0) ok dX4_farFrom_2 rfl rfl ?_
  refine g_istore_n (n := 4) (lv' := [(3, vi 0), (2, vi 0), (0, vr j), (1, vr o)]) ok dX4_farFrom_3 rfl (by decide) rfl rfl ?_
  have X4 : ∀ (x4_2 : Int32), G E 4 ((some (vi ((fX4_farFrom_x4 x4_2))), I)) I 35 [(2, vi x4_2)] [] := by
    intro x4_2
    rw [fX4_farFrom_x4]
    refine g_iload_n (n := 36) ok 0 dX4_farFrom_35 rfl rfl rfl ?_
    exact g_iret ok hr dX4_farFrom_36
  have L4 : ∀ (n4 i4 : Nat) (x4_2 : Int32) (hi : i4 + n4 = 12), G E 4 ((some (vi ((fX4_farFrom_x4 (fo n4 i4 (fun (i : Nat) (s : Int32) => fX4_farFrom_b4 I j o i s) x4_2)))), I)) I 4 [(3, vi (nI i4)), (2, vi x4_2), (0, vr j), (1, vr o)] [] := by
    intro n4
    induction n4 with
    | zero =>
      intro i4 x4_2 hi
      rw [fo_0]
      refine g_iload_n (n := 5) ok 0 dX4_farFrom_4 rfl rfl rfl ?_
      refine g_bipush (n := 7) (v := 12) ok dX4_farFrom_5 rfl rfl ?_
      refine g_icmp_ge (n := 10) (tgt := 35) ok dX4_farFrom_7 (by decide) rfl (fun c => ?_) (fun c => absurd (nle (a := 12) (b := i4) rfl rfl (by omega) (by omega)) c)
      refine g_sub [1] rfl ?_
      exact X4 _
    | succ n4 ih =>
      intro i4 x4_2 hi
      refine g_iload_n (n := 5) ok 0 dX4_farFrom_4 rfl rfl rfl ?_
      refine g_bipush (n := 7) (v := 12) ok dX4_farFrom_5 rfl rfl ?_
      refine g_icmp_ge (n := 10) (tgt := 35) ok dX4_farFrom_7 (by decide) rfl (fun c => absurd c (nnle (a := 12) (b := i4) rfl rfl (by omega) (by omega))) (fun c => ?_)
      rw [fo_s]
      show G E 4 ((some (vi ((fX4_farFrom_x4 (fo n4 (i4 + 1) (fun (i : Nat) (s : Int32) => fX4_farFrom_b4 I j o i s) (fX4_farFrom_b4 I j o i4 x4_2))))), I)) _ _ _ _
      rw [fX4_farFrom_b4]
      refine g_iload_n (n := 11) ok 1 dX4_farFrom_10 rfl rfl rfl ?_
      refine g_aload_n (n := 12) ok 2 dX4_farFrom_11 rfl rfl rfl ?_
      refine g_get (n := 15) (v := vr (j + 1)) (c := 4) (k := 3) ok dX4_farFrom_12 clsX4 (by decide) q47 hT.1 rfl rfl ?_
      refine g_iload_n (n := 16) ok 0 dX4_farFrom_15 rfl rfl rfl ?_
      refine g_iald (n := 17) (i := i4) (L := 12) ok dX4_farFrom_16 hT.2.1 hT.2.2 rfl (by omega) rfl ?_
      refine g_aload_n (n := 18) ok 3 dX4_farFrom_17 rfl rfl rfl ?_
      refine g_get (n := 21) (v := vr (o + 1)) (c := 4) (k := 3) ok dX4_farFrom_18 clsX4 (by decide) q47 hTo.1 rfl rfl ?_
      refine g_iload_n (n := 22) ok 0 dX4_farFrom_21 rfl rfl rfl ?_
      refine g_iald (n := 23) (i := i4) (L := 12) ok dX4_farFrom_22 hTo.2.1 hTo.2.2 rfl (by omega) rfl ?_
      refine g_isub (n := 24) ok dX4_farFrom_23 rfl ?_
      refine g_mabs (n := 27) (rest := [vi x4_2]) ok dX4_farFrom_24 q389 q390 q391 (Nat.le_of_ble_eq_true rfl) (by decide) (by decide) rfl ?_
      refine g_iadd (n := 28) ok dX4_farFrom_27 rfl ?_
      refine g_istore_n (n := 29) (lv' := [(2, vi (x4_2 + (iAbs ((I (j + 1) i4) - (I (o + 1) i4))))), (3, vi (nI i4)), (0, vr j), (1, vr o)]) ok dX4_farFrom_28 rfl (by decide) rfl rfl ?_
      refine g_iinc (n := 32) (v := nI (i4 + 1)) (lv' := [(3, vi (nI (i4 + 1))), (2, vi (x4_2 + (iAbs ((I (j + 1) i4) - (I (o + 1) i4))))), (0, vr j), (1, vr o)]) ok 1 dX4_farFrom_29 rfl (iinc_n (a := i4) rfl) (by decide) rfl rfl ?_
      refine g_goto (tgt := 4) ok dX4_farFrom_32 (by decide) ?_
      exact ih (i4 + 1) (x4_2 + (iAbs ((I (j + 1) i4) - (I (o + 1) i4)))) (by omega)
  exact L4 12 0 0 (by omega)

noncomputable def fX2_swept (I : HI) (seen : Int32) (j : Nat) : Int32 :=
  fX5_bounded (seen - (2 * (fJ6_bitCount_0f7a4 (fX3_flatsOf I j)))) 60
theorem knX2_swept : Kn yX2_swept cX2_swept 3 (some .int) 2 := ⟨q549, q5, ⟨by decide, by decide⟩, by decide +kernel⟩
set_option maxHeartbeats 400000 in
set_option maxRecDepth 100000 in
theorem kX2_swept (I : HI) (seen : Int32) (j : Nat) (hT : Tr j) (hf : vp_in (I j 0) 2) : Cx yX2_swept cX2_swept 3 (some .int) 2 45 [vr 35, vi seen, vr j] I ((some (vi ((fX2_swept I seen j))), I)) := by
  refine Cx.mk (lv := [(0, vr 35), (1, vi seen), (2, vr j)]) (by decide) (Nat.le_of_ble_eq_true rfl) rfl (fun E ok hr => ?_)
  rw [fX2_swept]
  refine g_iload_n (n := 1) ok 1 dX2_swept_0 rfl rfl rfl ?_
  refine g_iconst (n := 2) (v := 2) ok dX2_swept_1 rfl rfl ?_
  refine g_aload_n (n := 3) ok 0 dX2_swept_2 rfl rfl rfl ?_
  refine g_get (n := 6) (v := vr 1) (c := 2) (k := 0) ok dX2_swept_3 clsX2 (by decide) q106 rfl rfl rfl ?_
  refine g_aload_n (n := 7) ok 2 dX2_swept_6 rfl rfl rfl ?_
  refine g_callV (n := 10) (rest := [vi 2, vi seen]) (av := [vr j]) (j := 1) ok (kX3_flatsOf I j hT (by first | with_reducible assumption | omega)) knX3_flatsOf q550 q414 q415 clsX3 rfl dX2_swept_7 rfl rfl (Nat.le_of_ble_eq_true rfl) (by decide) (by decide) rfl ?_
  refine g_callS (n := 13) (rest := [vi 2, vi seen]) (av := [vi (fX3_flatsOf I j)]) ok (kJ6_bitCount_0f7a4 I (fX3_flatsOf I j)) knJ6_bitCount_0f7a4 q551 q552 dX2_swept_10 rfl rfl (Nat.le_of_ble_eq_true rfl) (by decide) (by decide) rfl ?_
  refine g_imul (n := 14) ok dX2_swept_13 rfl ?_
  refine g_isub (n := 15) ok dX2_swept_14 rfl ?_
  refine g_bipush (n := 17) (v := 60) ok dX2_swept_15 rfl rfl ?_
  refine g_callSN (n := 20) (rest := []) (av := [vi (seen - (2 * (fJ6_bitCount_0f7a4 (fX3_flatsOf I j)))), vi 60]) ok (kX5_bounded I (seen - (2 * (fJ6_bitCount_0f7a4 (fX3_flatsOf I j)))) 60) knX5_bounded q545 q331 dX2_swept_17 rfl rfl (Nat.le_of_ble_eq_true rfl) (by decide) (by decide) rfl ?_
  exact g_iret ok hr dX2_swept_20

noncomputable def fX2_named (I : HI) (seen : Int32) : Int32 :=
  fX5_bounded (seen + (3 * (I 4 3))) 60
theorem knX2_named : Kn yX2_named cX2_named 2 (some .int) 1 := ⟨q560, q5, ⟨by decide, by decide⟩, by decide +kernel⟩
set_option maxHeartbeats 400000 in
set_option maxRecDepth 100000 in
theorem kX2_named (I : HI) (seen : Int32) : Cx yX2_named cX2_named 2 (some .int) 2 42 [vr 35, vi seen] I ((some (vi ((fX2_named I seen))), I)) := by
  refine Cx.mk (lv := [(0, vr 35), (1, vi seen)]) (by decide) (Nat.le_of_ble_eq_true rfl) rfl (fun E ok hr => ?_)
  rw [fX2_named]
  refine g_iload_n (n := 1) ok 1 dX2_named_0 rfl rfl rfl ?_
  refine g_iconst (n := 2) (v := 3) ok dX2_named_1 rfl rfl ?_
  refine g_aload_n (n := 3) ok 0 dX2_named_2 rfl rfl rfl ?_
  refine g_get (n := 6) (v := vr 1) (c := 2) (k := 0) ok dX2_named_3 clsX2 (by decide) q106 rfl rfl rfl ?_
  refine g_get (n := 9) (v := vr 4) (c := 3) (k := 2) ok dX2_named_6 clsX3 (by decide) q68 rfl rfl rfl ?_
  refine g_iconst (n := 10) (v := 3) ok dX2_named_9 rfl rfl ?_
  refine g_iald (n := 11) (i := 3) (L := 5) ok dX2_named_10 rfl rfl rfl (by omega) rfl ?_
  refine g_imul (n := 12) ok dX2_named_11 rfl ?_
  refine g_iadd (n := 13) ok dX2_named_12 rfl ?_
  refine g_bipush (n := 15) (v := 60) ok dX2_named_13 rfl rfl ?_
  refine g_callSN (n := 18) (rest := []) (av := [vi (seen + (3 * (I 4 3))), vi 60]) ok (kX5_bounded I (seen + (3 * (I 4 3))) 60) knX5_bounded q545 q331 dX2_named_15 rfl rfl (Nat.le_of_ble_eq_true rfl) (by decide) (by decide) rfl ?_
  exact g_iret ok hr dX2_named_18

noncomputable def fX2_farFromAhead (I : HI) (j : Nat) (number : Nat) : Int32 :=
  if fX3_latestAhead I (I j 0) number = none then 0 else fX4_farFrom I j (Option.getD (fX3_latestAhead I (I j 0) number) 0)
theorem knX2_farFromAhead : Kn yX2_farFromAhead cX2_farFromAhead 4 (some .int) 2 := ⟨q564, q5, ⟨by decide, by decide⟩, by decide +kernel⟩
set_option maxHeartbeats 400000 in
set_option maxRecDepth 100000 in
theorem kX2_farFromAhead (I : HI) (j : Nat) (number : Nat) (hT : Tr j) (hd : vp_in (I 1 6) 7) (hn : number ≤ 6) : Cx yX2_farFromAhead cX2_farFromAhead 4 (some .int) 2 44 [vr 35, vr j, vi (nI number)] I ((some (vi ((fX2_farFromAhead I j number))), I)) := by
  refine Cx.mk (lv := [(0, vr 35), (1, vr j), (2, vi (nI number))]) (by decide) (Nat.le_of_ble_eq_true rfl) rfl (fun E ok hr => ?_)
  rw [fX2_farFromAhead]
  refine g_aload_n (n := 1) ok 0 dX2_farFromAhead_0 rfl rfl rfl ?_
  refine g_get (n := 4) (v := vr 1) (c := 2) (k := 0) ok dX2_farFromAhead_1 clsX2 (by decide) q106 rfl rfl rfl ?_
  refine g_aload_n (n := 5) ok 1 dX2_farFromAhead_4 rfl rfl rfl ?_
  refine g_get (n := 8) (v := vi (I j 0)) (c := 4) (k := 0) ok dX2_farFromAhead_5 clsX4 (by decide) q39 hT.1 rfl rfl ?_
  refine g_iload_n (n := 9) ok 2 dX2_farFromAhead_8 rfl rfl rfl ?_
  refine g_callV (n := 12) (rest := []) (av := [vi (I j 0), vi (nI number)]) (j := 1) ok (kX3_latestAhead I (I j 0) number (by first | with_reducible assumption | omega) (by first | with_reducible assumption | omega)) knX3_latestAhead q565 q293 q294 clsX3 rfl dX2_farFromAhead_9 rfl rfl (Nat.le_of_ble_eq_true rfl) (by decide) (by decide) rfl ?_
  refine g_astore_n (n := 13) (lv' := [(3, vo (fX3_latestAhead I (I j 0) number)), (0, vr 35), (1, vr j), (2, vi (nI number))]) ok dX2_farFromAhead_12 rfl (by decide) rfl rfl ?_
  refine g_aload_n (n := 14) ok 0 dX2_farFromAhead_13 rfl rfl rfl ?_
  refine g_ifnonnull (n := 17) (tgt := 21) ok dX2_farFromAhead_14 (by decide) rfl (fun c1 => ?_) (fun c1 => ?_)
  · rw [if_neg c1]
    have hj2 : fX3_latestAhead I (I j 0) number = some (Option.getD (fX3_latestAhead I (I j 0) number) 0) := opt_some c1
    have hT3 := latestAhead_tr2 hn _ hj2
    refine g_aload_n (n := 22) ok 2 dX2_farFromAhead_21 rfl rfl rfl ?_
    refine g_aload_n (n := 23) ok 0 dX2_farFromAhead_22 rfl rfl rfl ?_
    refine g_topo hj2 ?_
    refine g_callV (n := 26) (rest := []) (av := [vr (Option.getD (fX3_latestAhead I (I j 0) number) 0)]) (j := j) ok (kX4_farFrom I j (Option.getD (fX3_latestAhead I (I j 0) number) 0) hT hT3) knX4_farFrom q566 q441 q442 clsX4 hT.1 dX2_farFromAhead_23 rfl rfl (Nat.le_of_ble_eq_true rfl) (by decide) (by decide) rfl ?_
    exact g_iret ok hr dX2_farFromAhead_26
  · rw [if_pos c1]
    refine g_iconst (n := 18) (v := 0) ok dX2_farFromAhead_17 rfl rfl ?_
    refine g_goto (tgt := 26) ok dX2_farFromAhead_18 (by decide) ?_
    exact g_iret ok hr dX2_farFromAhead_26

noncomputable def fX2_markBy (I : HI) (kind : Int32) (number : Nat) : Int32 :=
  if kind = 1 then fX2_swept I (fX5_bounded ((60 - ((fX3_offOf I (6 + 2 * number)) / 4)) - (fX4_gap I (6 + 2 * number))) 60) (6 + 2 * number) else (if kind = 2 then fX2_named I (fX5_bounded ((60 - ((fX3_offOf I (6 + 2 * number)) / 4)) - (fX4_gap I (6 + 2 * number))) 60) else (if kind = 3 then fX5_bounded ((fX2_named I (fX5_bounded ((60 - ((fX3_offOf I (6 + 2 * number)) / 4)) - (fX4_gap I (6 + 2 * number))) 60)) + (I 4 4)) 60 else (if kind = 4 then fX5_bounded ((fX2_swept I (fX5_bounded ((60 - ((fX3_offOf I (6 + 2 * number)) / 4)) - (fX4_gap I (6 + 2 * number))) 60) (6 + 2 * number)) - ((fX2_farFromAhead I (6 + 2 * number) number) / 8)) 60 else fX5_bounded ((60 - ((fX3_offOf I (6 + 2 * number)) / 4)) - (fX4_gap I (6 + 2 * number))) 60)))
theorem knX2_markBy : Kn yX2_markBy cX2_markBy 6 (some .int) 2 := ⟨q542, q5, ⟨by decide, by decide⟩, by decide +kernel⟩
set_option maxHeartbeats 400000 in
set_option maxRecDepth 100000 in
theorem kX2_markBy (I : HI) (kind : Int32) (number : Nat) (hd : vp_in (I 1 6) 7) (hn : number < 6) (hF : ∀ n, n < 6 → vp_in (I (6 + 2 * n) 0) 2) : Cx yX2_markBy cX2_markBy 6 (some .int) 3 67 [vr 35, vi kind, vi (nI number)] I ((some (vi ((fX2_markBy I kind number))), I)) := by
  refine Cx.mk (lv := [(0, vr 35), (1, vi kind), (2, vi (nI number))]) (by decide) (Nat.le_of_ble_eq_true rfl) rfl (fun E ok hr => ?_)
  rw [fX2_markBy]
  refine g_aload_n (n := 1) ok 0 dX2_markBy_0 rfl rfl rfl ?_
  refine g_get (n := 4) (v := vr 1) (c := 2) (k := 0) ok dX2_markBy_1 clsX2 (by decide) q106 rfl rfl rfl ?_
  refine g_get (n := 7) (v := vr 5) (c := 3) (k := 5) ok dX2_markBy_4 clsX3 (by decide) q79 rfl rfl rfl ?_
  refine g_iload_n (n := 8) ok 2 dX2_markBy_7 rfl rfl rfl ?_
  refine g_aald (n := 9) (i := number) (L := 6) ok dX2_markBy_8 rfl rfl rfl (by omega) rfl ?_
  have hT1 : Tr (6 + 2 * number) := tr_now (n := number) (by omega)
  refine g_astore_n (n := 10) (lv' := [(3, vr (6 + 2 * number)), (0, vr 35), (1, vi kind), (2, vi (nI number))]) ok dX2_markBy_9 rfl (by decide) rfl rfl ?_
  refine g_bipush (n := 12) (v := 60) ok dX2_markBy_10 rfl rfl ?_
  refine g_aload_n (n := 13) ok 1 dX2_markBy_12 rfl rfl rfl ?_
  refine g_get (n := 16) (v := vr 1) (c := 2) (k := 0) ok dX2_markBy_13 clsX2 (by decide) q106 rfl rfl rfl ?_
  refine g_aload_n (n := 17) ok 0 dX2_markBy_16 rfl rfl rfl ?_
  refine g_callV (n := 20) (rest := [vi 60]) (av := [vr (6 + 2 * number)]) (j := 1) ok (kX3_offOf I (6 + 2 * number) hT1) knX3_offOf q543 q393 q394 clsX3 rfl dX2_markBy_17 rfl rfl (Nat.le_of_ble_eq_true rfl) (by decide) (by decide) rfl ?_
  refine g_iconst (n := 21) (v := 4) ok dX2_markBy_20 rfl rfl ?_
  refine g_idiv (n := 22) ok dX2_markBy_21 (by decide) rfl ?_
  refine g_isub (n := 23) ok dX2_markBy_22 rfl ?_
  refine g_aload_n (n := 24) ok 0 dX2_markBy_23 rfl rfl rfl ?_
  refine g_callV (n := 27) (rest := [vi (60 - ((fX3_offOf I (6 + 2 * number)) / 4))]) (av := []) (j := 6 + 2 * number) ok (kX4_gap I (6 + 2 * number) hT1) knX4_gap q544 q386 q387 clsX4 hT1.1 dX2_markBy_24 rfl rfl (Nat.le_of_ble_eq_true rfl) (by decide) (by decide) rfl ?_
  refine g_isub (n := 28) ok dX2_markBy_27 rfl ?_
  refine g_bipush (n := 30) (v := 60) ok dX2_markBy_28 rfl rfl ?_
  refine g_callSN (n := 33) (rest := []) (av := [vi ((60 - ((fX3_offOf I (6 + 2 * number)) / 4)) - (fX4_gap I (6 + 2 * number))), vi 60]) ok (kX5_bounded I ((60 - ((fX3_offOf I (6 + 2 * number)) / 4)) - (fX4_gap I (6 + 2 * number))) 60) knX5_bounded q545 q331 dX2_markBy_30 rfl rfl (Nat.le_of_ble_eq_true rfl) (by decide) (by decide) rfl ?_
  refine g_istore (n := 35) (lv' := [(4, vi (fX5_bounded ((60 - ((fX3_offOf I (6 + 2 * number)) / 4)) - (fX4_gap I (6 + 2 * number))) 60)), (3, vr (6 + 2 * number)), (0, vr 35), (1, vi kind), (2, vi (nI number))]) ok dX2_markBy_33 (by decide) rfl rfl ?_
  refine g_iload_n (n := 36) ok 3 dX2_markBy_35 rfl rfl rfl ?_
  by_cases c2 : kind = 1
  · rw [if_pos c2]
    refine g_tabIn (off := 32) (tgt := 68) ok dX2_markBy_36 (by rw [c2]; decide) (by rw [c2]; decide) (by rw [c2]; rfl) (by decide) ?_
    refine g_aload_n (n := 69) ok 2 dX2_markBy_68 rfl rfl rfl ?_
    refine g_iload (n := 71) ok 0 dX2_markBy_69 rfl rfl ?_
    refine g_aload_n (n := 72) ok 1 dX2_markBy_71 rfl rfl rfl ?_
    refine g_callV (n := 75) (rest := []) (av := [vi (fX5_bounded ((60 - ((fX3_offOf I (6 + 2 * number)) / 4)) - (fX4_gap I (6 + 2 * number))) 60), vr (6 + 2 * number)]) (j := 35) ok (kX2_swept I (fX5_bounded ((60 - ((fX3_offOf I (6 + 2 * number)) / 4)) - (fX4_gap I (6 + 2 * number))) 60) (6 + 2 * number) hT1 (hF number hn)) knX2_swept q546 q548 qs16 clsX2 rfl dX2_markBy_72 rfl rfl (Nat.le_of_ble_eq_true rfl) (by decide) (by decide) rfl ?_
    exact g_iret ok hr dX2_markBy_75
  · rw [if_neg c2]
    by_cases c3 : kind = 2
    · rw [if_pos c3]
      refine g_tabIn (off := 40) (tgt := 76) ok dX2_markBy_36 (by rw [c3]; decide) (by rw [c3]; decide) (by rw [c3]; rfl) (by decide) ?_
      refine g_aload_n (n := 77) ok 2 dX2_markBy_76 rfl rfl rfl ?_
      refine g_iload (n := 79) ok 0 dX2_markBy_77 rfl rfl ?_
      refine g_callV (n := 82) (rest := []) (av := [vi (fX5_bounded ((60 - ((fX3_offOf I (6 + 2 * number)) / 4)) - (fX4_gap I (6 + 2 * number))) 60)]) (j := 35) ok (kX2_named I (fX5_bounded ((60 - ((fX3_offOf I (6 + 2 * number)) / 4)) - (fX4_gap I (6 + 2 * number))) 60)) knX2_named q557 q559 qs17 clsX2 rfl dX2_markBy_79 rfl rfl (Nat.le_of_ble_eq_true rfl) (by decide) (by decide) rfl ?_
      exact g_iret ok hr dX2_markBy_82
    · rw [if_neg c3]
      by_cases c4 : kind = 3
      · rw [if_pos c4]
        refine g_tabIn (off := 47) (tgt := 83) ok dX2_markBy_36 (by rw [c4]; decide) (by rw [c4]; decide) (by rw [c4]; rfl) (by decide) ?_
        refine g_aload_n (n := 84) ok 2 dX2_markBy_83 rfl rfl rfl ?_
        refine g_iload (n := 86) ok 0 dX2_markBy_84 rfl rfl ?_
        refine g_callV (n := 89) (rest := []) (av := [vi (fX5_bounded ((60 - ((fX3_offOf I (6 + 2 * number)) / 4)) - (fX4_gap I (6 + 2 * number))) 60)]) (j := 35) ok (kX2_named I (fX5_bounded ((60 - ((fX3_offOf I (6 + 2 * number)) / 4)) - (fX4_gap I (6 + 2 * number))) 60)) knX2_named q557 q559 qs17 clsX2 rfl dX2_markBy_86 rfl rfl (Nat.le_of_ble_eq_true rfl) (by decide) (by decide) rfl ?_
        refine g_aload_n (n := 90) ok 2 dX2_markBy_89 rfl rfl rfl ?_
        refine g_get (n := 93) (v := vr 1) (c := 2) (k := 0) ok dX2_markBy_90 clsX2 (by decide) q106 rfl rfl rfl ?_
        refine g_get (n := 96) (v := vr 4) (c := 3) (k := 2) ok dX2_markBy_93 clsX3 (by decide) q68 rfl rfl rfl ?_
        refine g_iconst (n := 97) (v := 4) ok dX2_markBy_96 rfl rfl ?_
        refine g_iald (n := 98) (i := 4) (L := 5) ok dX2_markBy_97 rfl rfl rfl (by omega) rfl ?_
        refine g_iadd (n := 99) ok dX2_markBy_98 rfl ?_
        refine g_bipush (n := 101) (v := 60) ok dX2_markBy_99 rfl rfl ?_
        refine g_callSN (n := 104) (rest := []) (av := [vi ((fX2_named I (fX5_bounded ((60 - ((fX3_offOf I (6 + 2 * number)) / 4)) - (fX4_gap I (6 + 2 * number))) 60)) + (I 4 4)), vi 60]) ok (kX5_bounded I ((fX2_named I (fX5_bounded ((60 - ((fX3_offOf I (6 + 2 * number)) / 4)) - (fX4_gap I (6 + 2 * number))) 60)) + (I 4 4)) 60) knX5_bounded q545 q331 dX2_markBy_101 rfl rfl (Nat.le_of_ble_eq_true rfl) (by decide) (by decide) rfl ?_
        exact g_iret ok hr dX2_markBy_104
      · rw [if_neg c4]
        by_cases c5 : kind = 4
        · rw [if_pos c5]
          refine g_tabIn (off := 69) (tgt := 105) ok dX2_markBy_36 (by rw [c5]; decide) (by rw [c5]; decide) (by rw [c5]; rfl) (by decide) ?_
          refine g_aload_n (n := 106) ok 2 dX2_markBy_105 rfl rfl rfl ?_
          refine g_aload_n (n := 107) ok 1 dX2_markBy_106 rfl rfl rfl ?_
          refine g_iload_n (n := 108) ok 4 dX2_markBy_107 rfl rfl rfl ?_
          refine g_callV (n := 111) (rest := []) (av := [vr (6 + 2 * number), vi (nI number)]) (j := 35) ok (kX2_farFromAhead I (6 + 2 * number) number hT1 (by first | with_reducible assumption | omega) (by first | with_reducible assumption | omega)) knX2_farFromAhead q561 q563 qs18 clsX2 rfl dX2_markBy_108 rfl rfl (Nat.le_of_ble_eq_true rfl) (by decide) (by decide) rfl ?_
          refine g_istore (n := 113) (lv' := [(5, vi (fX2_farFromAhead I (6 + 2 * number) number)), (4, vi (fX5_bounded ((60 - ((fX3_offOf I (6 + 2 * number)) / 4)) - (fX4_gap I (6 + 2 * number))) 60)), (3, vr (6 + 2 * number)), (0, vr 35), (1, vi kind), (2, vi (nI number))]) ok dX2_markBy_111 (by decide) rfl rfl ?_
          refine g_aload_n (n := 114) ok 3 dX2_markBy_113 rfl rfl rfl ?_
          refine g_iload (n := 116) ok 1 dX2_markBy_114 rfl rfl ?_
          refine g_aload_n (n := 117) ok 2 dX2_markBy_116 rfl rfl rfl ?_
          refine g_callV (n := 120) (rest := []) (av := [vi (fX5_bounded ((60 - ((fX3_offOf I (6 + 2 * number)) / 4)) - (fX4_gap I (6 + 2 * number))) 60), vr (6 + 2 * number)]) (j := 35) ok (kX2_swept I (fX5_bounded ((60 - ((fX3_offOf I (6 + 2 * number)) / 4)) - (fX4_gap I (6 + 2 * number))) 60) (6 + 2 * number) hT1 (hF number hn)) knX2_swept q546 q548 qs16 clsX2 rfl dX2_markBy_117 rfl rfl (Nat.le_of_ble_eq_true rfl) (by decide) (by decide) rfl ?_
          refine g_iload (n := 122) ok 0 dX2_markBy_120 rfl rfl ?_
          refine g_bipush (n := 124) (v := 8) ok dX2_markBy_122 rfl rfl ?_
          refine g_idiv (n := 125) ok dX2_markBy_124 (by decide) rfl ?_
          refine g_isub (n := 126) ok dX2_markBy_125 rfl ?_
          refine g_bipush (n := 128) (v := 60) ok dX2_markBy_126 rfl rfl ?_
          refine g_callSN (n := 131) (rest := []) (av := [vi ((fX2_swept I (fX5_bounded ((60 - ((fX3_offOf I (6 + 2 * number)) / 4)) - (fX4_gap I (6 + 2 * number))) 60) (6 + 2 * number)) - ((fX2_farFromAhead I (6 + 2 * number) number) / 8)), vi 60]) ok (kX5_bounded I ((fX2_swept I (fX5_bounded ((60 - ((fX3_offOf I (6 + 2 * number)) / 4)) - (fX4_gap I (6 + 2 * number))) 60) (6 + 2 * number)) - ((fX2_farFromAhead I (6 + 2 * number) number) / 8)) 60) knX5_bounded q545 q331 dX2_markBy_128 rfl rfl (Nat.le_of_ble_eq_true rfl) (by decide) (by decide) rfl ?_
          exact g_iret ok hr dX2_markBy_131
        · rw [if_neg c5]
          refine g_tabOut (tgt := 132) ok dX2_markBy_36 (by have h0 : kind.toInt ≠ 1 := ne_toInt c2; have h1 : kind.toInt ≠ 2 := ne_toInt c3; have h2 : kind.toInt ≠ 3 := ne_toInt c4; have h3 : kind.toInt ≠ 4 := ne_toInt c5; omega) (by decide) ?_
          refine g_iload (n := 134) ok 0 dX2_markBy_132 rfl rfl ?_
          exact g_iret ok hr dX2_markBy_134

noncomputable def fX2_marksAre_x2 : Int32 :=
  1
noncomputable def fX2_marksAre_b2 (I : HI) (kind : Int32) (i2 : Nat) : (Int32) ⊕ (Unit) :=
  if fX2_markBy I kind i2 = I 50 i2 then Sum.inr () else Sum.inl 0
noncomputable def fX2_marksAre (I : HI) (kind : Int32) : Int32 :=
  foE (ix (I 1 6)) 0 (fun (i : Nat) (_ : Unit) => fX2_marksAre_b2 I kind i) (fun (_ : Unit) => fX2_marksAre_x2) ()
theorem knX2_marksAre : Kn yX2_marksAre cX2_marksAre 4 (some .boolean) 2 := ⟨q574, q5, ⟨by decide, by decide⟩, by decide +kernel⟩
set_option maxHeartbeats 400000 in
set_option maxRecDepth 100000 in
theorem kX2_marksAre (I : HI) (kind : Int32) (hd : vp_in (I 1 6) 7) (hF : ∀ n, n < 6 → vp_in (I (6 + 2 * n) 0) 2) : Cx yX2_marksAre cX2_marksAre 4 (some .boolean) 4 92 [vr 35, vi kind, vr 50] I ((some (vi ((fX2_marksAre I kind))), I)) := by
  refine Cx.mk (lv := [(0, vr 35), (1, vi kind), (2, vr 50)]) (by decide) (Nat.le_of_ble_eq_true rfl) rfl (fun E ok hr => ?_)
  have hd1 := vb hd
  rw [fX2_marksAre]
  refine g_iconst (n := 1) (v := 0) ok dX2_marksAre_0 rfl rfl ?_
  refine g_istore_n (n := 2) (lv' := [(3, vi 0), (0, vr 35), (1, vi kind), (2, vr 50)]) ok dX2_marksAre_1 rfl (by decide) rfl rfl ?_
  have X2 : ∀ (_ : True), G E 4 ((some (vi (fX2_marksAre_x2)), I)) I 39 [] [] := by
    intro _
    rw [fX2_marksAre_x2]
    refine g_iconst (n := 40) (v := 1) ok dX2_marksAre_39 rfl rfl ?_
    exact g_zret (x := 1) ok hr dX2_marksAre_40 (by decide)
  have L2 : ∀ (n2 i2 : Nat) (hi : i2 + n2 = ix (I 1 6)), G E 4 ((some (vi ((foE n2 i2 (fun (i : Nat) (_ : Unit) => fX2_marksAre_b2 I kind i) (fun (_ : Unit) => fX2_marksAre_x2) ()))), I)) I 2 [(3, vi (nI i2)), (0, vr 35), (1, vi kind), (2, vr 50)] [] := by
    intro n2
    induction n2 with
    | zero =>
      intro i2 hi
      rw [foE_0]
      refine g_iload_n (n := 3) ok 0 dX2_marksAre_2 rfl rfl rfl ?_
      refine g_aload_n (n := 4) ok 1 dX2_marksAre_3 rfl rfl rfl ?_
      refine g_get (n := 7) (v := vr 1) (c := 2) (k := 0) ok dX2_marksAre_4 clsX2 (by decide) q106 rfl rfl rfl ?_
      refine g_get (n := 10) (v := vi (I 1 6)) (c := 3) (k := 6) ok dX2_marksAre_7 clsX3 (by decide) q83 rfl rfl rfl ?_
      refine g_icmp_ge (n := 13) (tgt := 39) ok dX2_marksAre_10 (by decide) rfl (fun c => ?_) (fun c => absurd (nle (a := ix (I 1 6)) (b := i2) (vx hd) rfl (by omega) (by omega)) c)
      refine g_sub [] rfl ?_
      exact X2 trivial
    | succ n2 ih =>
      intro i2 hi
      refine g_iload_n (n := 3) ok 0 dX2_marksAre_2 rfl rfl rfl ?_
      refine g_aload_n (n := 4) ok 1 dX2_marksAre_3 rfl rfl rfl ?_
      refine g_get (n := 7) (v := vr 1) (c := 2) (k := 0) ok dX2_marksAre_4 clsX2 (by decide) q106 rfl rfl rfl ?_
      refine g_get (n := 10) (v := vi (I 1 6)) (c := 3) (k := 6) ok dX2_marksAre_7 clsX3 (by decide) q83 rfl rfl rfl ?_
      refine g_icmp_ge (n := 13) (tgt := 39) ok dX2_marksAre_10 (by decide) rfl (fun c => absurd c (nnle (a := ix (I 1 6)) (b := i2) (vx hd) rfl (by omega) (by omega))) (fun c => ?_)
      rw [foE_s]
      show G E 4 ((some (vi ((Sum.elim id (fun (s : Unit) => foE n2 (i2 + 1) (fun (i : Nat) (_ : Unit) => fX2_marksAre_b2 I kind i) (fun (_ : Unit) => fX2_marksAre_x2) s) (fX2_marksAre_b2 I kind i2)))), I)) _ _ _ _
      rw [fX2_marksAre_b2]
      refine g_iload_n (n := 14) ok 0 dX2_marksAre_13 rfl rfl rfl ?_
      refine g_aload_n (n := 15) ok 3 dX2_marksAre_14 rfl rfl rfl ?_
      refine g_alen (n := 16) (v := 12) ok dX2_marksAre_15 rfl rfl rfl ?_
      refine g_icmp_ge (n := 19) (tgt := 39) ok dX2_marksAre_16 (by decide) rfl (fun c1 => ?_) (fun c1 => ?_)
      · exact absurd c1 (nnle (a := 12) (b := i2) rfl rfl (by omega) (by omega))
      · refine g_aload_n (n := 20) ok 1 dX2_marksAre_19 rfl rfl rfl ?_
        refine g_iload_n (n := 21) ok 2 dX2_marksAre_20 rfl rfl rfl ?_
        refine g_iload_n (n := 22) ok 0 dX2_marksAre_21 rfl rfl rfl ?_
        refine g_callV (n := 25) (rest := []) (av := [vi kind, vi (nI i2)]) (j := 35) ok (kX2_markBy I kind i2 (by first | with_reducible assumption | omega) (by first | with_reducible assumption | omega) (by first | with_reducible assumption | omega)) knX2_markBy q575 q540 q541 clsX2 rfl dX2_marksAre_22 rfl rfl (Nat.le_of_ble_eq_true rfl) (by decide) (by decide) rfl ?_
        refine g_aload_n (n := 26) ok 3 dX2_marksAre_25 rfl rfl rfl ?_
        refine g_iload_n (n := 27) ok 0 dX2_marksAre_26 rfl rfl rfl ?_
        refine g_iald (n := 28) (i := i2) (L := 12) ok dX2_marksAre_27 rfl rfl rfl (by omega) rfl ?_
        refine g_icmp_eq (n := 31) (tgt := 33) ok dX2_marksAre_28 (by decide) rfl (fun c2 => ?_) (fun c2 => ?_)
        · rw [if_pos c2]
          refine g_iinc (n := 36) (v := nI (i2 + 1)) (lv' := [(3, vi (nI (i2 + 1))), (0, vr 35), (1, vi kind), (2, vr 50)]) ok 0 dX2_marksAre_33 rfl (iinc_n (a := i2) rfl) (by decide) rfl rfl ?_
          refine g_goto (tgt := 2) ok dX2_marksAre_36 (by decide) ?_
          exact ih (i2 + 1) (by omega)
        · rw [if_neg c2]
          refine g_iconst (n := 32) (v := 0) ok dX2_marksAre_31 rfl rfl ?_
          exact g_zret (x := 0) ok hr dX2_marksAre_32 (by decide)
  exact L2 (ix (I 1 6)) 0 (by omega)

noncomputable def fX2_tellsApart_x3 : Int32 :=
  0
noncomputable def fX2_tellsApart_30 (I : HI) (one : Nat) (other : Nat) (i3 : Nat) (v7 : Int32) : (Int32) ⊕ (Unit) :=
  if v7 = 0 then Sum.inr () else (if I 36 ((one * 6) + i3) = I 36 ((other * 6) + i3) then Sum.inr () else Sum.inl 1)
noncomputable def fX2_tellsApart_b3 (I : HI) (set : Int32) (one : Nat) (other : Nat) (i3 : Nat) : (Int32) ⊕ (Unit) :=
  fX2_tellsApart_30 I one other i3 (if (set >>> ((nI i3) &&& 31)) &&& 1 = 1 then 1 else 0)
noncomputable def fX2_tellsApart (I : HI) (set : Int32) (one : Nat) (other : Nat) : Int32 :=
  foE (ix (I 1 6)) 0 (fun (i : Nat) (_ : Unit) => fX2_tellsApart_b3 I set one other i) (fun (_ : Unit) => fX2_tellsApart_x3) ()
theorem knX2_tellsApart : Kn yX2_tellsApart cX2_tellsApart 7 (some .boolean) 3 := ⟨q591, q5, ⟨by decide, by decide⟩, by decide +kernel⟩
set_option maxHeartbeats 400000 in
set_option maxRecDepth 100000 in
theorem kX2_tellsApart (I : HI) (set : Int32) (one : Nat) (other : Nat) (hd : vp_in (I 1 6) 7) (h1 : one < 5) (h2 : other < 5) : Cx yX2_tellsApart cX2_tellsApart 7 (some .boolean) 0 0 [vr 35, vi set, vi (nI one), vi (nI other)] I ((some (vi ((fX2_tellsApart I set one other))), I)) := by
  refine Cx.mk (lv := [(0, vr 35), (1, vi set), (2, vi (nI one)), (3, vi (nI other))]) (by decide) (Nat.le_of_ble_eq_true rfl) rfl (fun E ok hr => ?_)
  have hd1 := vb hd
  rw [fX2_tellsApart]
  refine g_iconst (n := 1) (v := 0) ok dX2_tellsApart_0 rfl rfl ?_
  refine g_istore (n := 3) (lv' := [(4, vi 0), (0, vr 35), (1, vi set), (2, vi (nI one)), (3, vi (nI other))]) ok dX2_tellsApart_1 (by decide) rfl rfl ?_
  have X3 : ∀ (_ : True), G E 7 ((some (vi (fX2_tellsApart_x3)), I)) I 76 [] [] := by
    intro _
    rw [fX2_tellsApart_x3]
    refine g_iconst (n := 77) (v := 0) ok dX2_tellsApart_76 rfl rfl ?_
    exact g_zret (x := 0) ok hr dX2_tellsApart_77 (by decide)
  have L3 : ∀ (n3 i3 : Nat) (hi : i3 + n3 = ix (I 1 6)), G E 7 ((some (vi ((foE n3 i3 (fun (i : Nat) (_ : Unit) => fX2_tellsApart_b3 I set one other i) (fun (_ : Unit) => fX2_tellsApart_x3) ()))), I)) I 3 [(4, vi (nI i3)), (0, vr 35), (1, vi set), (2, vi (nI one)), (3, vi (nI other))] [] := by
    intro n3
    induction n3 with
    | zero =>
      intro i3 hi
      rw [foE_0]
      refine g_iload (n := 5) ok 0 dX2_tellsApart_3 rfl rfl ?_
      refine g_aload_n (n := 6) ok 1 dX2_tellsApart_5 rfl rfl rfl ?_
      refine g_get (n := 9) (v := vr 1) (c := 2) (k := 0) ok dX2_tellsApart_6 clsX2 (by decide) q106 rfl rfl rfl ?_
      refine g_get (n := 12) (v := vi (I 1 6)) (c := 3) (k := 6) ok dX2_tellsApart_9 clsX3 (by decide) q83 rfl rfl rfl ?_
      refine g_icmp_ge (n := 15) (tgt := 76) ok dX2_tellsApart_12 (by decide) rfl (fun c => ?_) (fun c => absurd (nle (a := ix (I 1 6)) (b := i3) (vx hd) rfl (by omega) (by omega)) c)
      refine g_sub [] rfl ?_
      exact X3 trivial
    | succ n3 ih =>
      intro i3 hi
      refine g_iload (n := 5) ok 0 dX2_tellsApart_3 rfl rfl ?_
      refine g_aload_n (n := 6) ok 1 dX2_tellsApart_5 rfl rfl rfl ?_
      refine g_get (n := 9) (v := vr 1) (c := 2) (k := 0) ok dX2_tellsApart_6 clsX2 (by decide) q106 rfl rfl rfl ?_
      refine g_get (n := 12) (v := vi (I 1 6)) (c := 3) (k := 6) ok dX2_tellsApart_9 clsX3 (by decide) q83 rfl rfl rfl ?_
      refine g_icmp_ge (n := 15) (tgt := 76) ok dX2_tellsApart_12 (by decide) rfl (fun c => absurd c (nnle (a := ix (I 1 6)) (b := i3) (vx hd) rfl (by omega) (by omega))) (fun c => ?_)
      rw [foE_s]
      show G E 7 ((some (vi ((Sum.elim id (fun (s : Unit) => foE n3 (i3 + 1) (fun (i : Nat) (_ : Unit) => fX2_tellsApart_b3 I set one other i) (fun (_ : Unit) => fX2_tellsApart_x3) s) (fX2_tellsApart_b3 I set one other i3)))), I)) _ _ _ _
      rw [fX2_tellsApart_b3]
      refine g_iload_n (n := 16) ok 2 dX2_tellsApart_15 rfl rfl rfl ?_
      refine g_iload (n := 18) ok 0 dX2_tellsApart_16 rfl rfl ?_
      refine g_ishr (n := 19) ok dX2_tellsApart_18 rfl ?_
      refine g_iconst (n := 20) (v := 1) ok dX2_tellsApart_19 rfl rfl ?_
      refine g_iand (n := 21) ok dX2_tellsApart_20 rfl ?_
      refine g_iconst (n := 22) (v := 1) ok dX2_tellsApart_21 rfl rfl ?_
      have J30_8 : ∀ (v7 : Int32), G E 7 ((some (vi ((Sum.elim id (fun (s : Unit) => foE n3 (i3 + 1) (fun (i : Nat) (_ : Unit) => fX2_tellsApart_b3 I set one other i) (fun (_ : Unit) => fX2_tellsApart_x3) s) (fX2_tellsApart_30 I one other i3 v7)))), I)) I 30 [(4, vi (nI i3)), (0, vr 35), (1, vi set), (2, vi (nI one)), (3, vi (nI other))] [vi v7] := by
        intro v7
        rw [fX2_tellsApart_30]
        refine g_istore (n := 32) (lv' := [(5, vi v7), (4, vi (nI i3)), (0, vr 35), (1, vi set), (2, vi (nI one)), (3, vi (nI other))]) ok dX2_tellsApart_30 (by decide) rfl rfl ?_
        refine g_aload_n (n := 33) ok 2 dX2_tellsApart_32 rfl rfl rfl ?_
        refine g_get (n := 36) (v := vr 36) (c := 2) (k := 1) ok dX2_tellsApart_33 clsX2 (by decide) q107 rfl rfl rfl ?_
        refine g_iload_n (n := 37) ok 4 dX2_tellsApart_36 rfl rfl rfl ?_
        refine g_bipush (n := 39) (v := 6) ok dX2_tellsApart_37 rfl rfl ?_
        refine g_imul (n := 40) ok dX2_tellsApart_39 rfl ?_
        refine g_top (nv_imul (a := one) (b := 6) rfl rfl) ?_
        refine g_iload (n := 42) ok 1 dX2_tellsApart_40 rfl rfl ?_
        refine g_iadd (n := 43) ok dX2_tellsApart_42 rfl ?_
        refine g_top (nv_iadd (a := one * 6) (b := i3) rfl rfl) ?_
        refine g_iald (n := 44) (i := (one * 6) + i3) (L := 30) ok dX2_tellsApart_43 rfl rfl rfl (by omega) rfl ?_
        refine g_istore (n := 46) (lv' := [(6, vi (I 36 ((one * 6) + i3))), (5, vi v7), (4, vi (nI i3)), (0, vr 35), (1, vi set), (2, vi (nI one)), (3, vi (nI other))]) ok dX2_tellsApart_44 (by decide) rfl rfl ?_
        refine g_iload (n := 48) ok 1 dX2_tellsApart_46 rfl rfl ?_
        refine g_if_eq (n := 51) (tgt := 70) ok dX2_tellsApart_48 (by decide) rfl (fun c9 => ?_) (fun c9 => ?_)
        · rw [if_pos c9]
          refine g_iinc (n := 73) (v := nI (i3 + 1)) (lv' := [(4, vi (nI (i3 + 1))), (6, vi (I 36 ((one * 6) + i3))), (5, vi v7), (0, vr 35), (1, vi set), (2, vi (nI one)), (3, vi (nI other))]) ok 2 dX2_tellsApart_70 rfl (iinc_n (a := i3) rfl) (by decide) rfl rfl ?_
          refine g_goto (tgt := 3) ok dX2_tellsApart_73 (by decide) ?_
          refine g_sub [0, 3, 4, 5, 6] rfl ?_
          exact ih (i3 + 1) (by omega)
        · rw [if_neg c9]
          refine g_iload (n := 53) ok 0 dX2_tellsApart_51 rfl rfl ?_
          refine g_aload_n (n := 54) ok 3 dX2_tellsApart_53 rfl rfl rfl ?_
          refine g_get (n := 57) (v := vr 36) (c := 2) (k := 1) ok dX2_tellsApart_54 clsX2 (by decide) q107 rfl rfl rfl ?_
          refine g_iload_n (n := 58) ok 6 dX2_tellsApart_57 rfl rfl rfl ?_
          refine g_bipush (n := 60) (v := 6) ok dX2_tellsApart_58 rfl rfl ?_
          refine g_imul (n := 61) ok dX2_tellsApart_60 rfl ?_
          refine g_top (nv_imul (a := other) (b := 6) rfl rfl) ?_
          refine g_iload (n := 63) ok 2 dX2_tellsApart_61 rfl rfl ?_
          refine g_iadd (n := 64) ok dX2_tellsApart_63 rfl ?_
          refine g_top (nv_iadd (a := other * 6) (b := i3) rfl rfl) ?_
          refine g_iald (n := 65) (i := (other * 6) + i3) (L := 30) ok dX2_tellsApart_64 rfl rfl rfl (by omega) rfl ?_
          refine g_icmp_eq (n := 68) (tgt := 70) ok dX2_tellsApart_65 (by decide) rfl (fun c10 => ?_) (fun c10 => ?_)
          · rw [if_pos c10]
            refine g_iinc (n := 73) (v := nI (i3 + 1)) (lv' := [(4, vi (nI (i3 + 1))), (6, vi (I 36 ((one * 6) + i3))), (5, vi v7), (0, vr 35), (1, vi set), (2, vi (nI one)), (3, vi (nI other))]) ok 2 dX2_tellsApart_70 rfl (iinc_n (a := i3) rfl) (by decide) rfl rfl ?_
            refine g_goto (tgt := 3) ok dX2_tellsApart_73 (by decide) ?_
            refine g_sub [0, 3, 4, 5, 6] rfl ?_
            exact ih (i3 + 1) (by omega)
          · rw [if_neg c10]
            refine g_iconst (n := 69) (v := 1) ok dX2_tellsApart_68 rfl rfl ?_
            exact g_zret (x := 1) ok hr dX2_tellsApart_69 (by decide)
      refine g_icmp_ne (n := 25) (tgt := 29) ok dX2_tellsApart_22 (by decide) rfl (fun c1 => ?_) (fun c1 => ?_)
      · try simp only [if_neg c1]
        refine g_iconst (n := 30) (v := 0) ok dX2_tellsApart_29 rfl rfl ?_
        exact J30_8 _
      · try simp only [if_pos c1]
        refine g_iconst (n := 26) (v := 1) ok dX2_tellsApart_25 rfl rfl ?_
        refine g_goto (tgt := 30) ok dX2_tellsApart_26 (by decide) ?_
        exact J30_8 _
  exact L3 (ix (I 1 6)) 0 (by omega)

noncomputable def fX2_tellsAllApart_x2 : Int32 :=
  1
noncomputable def fX2_tellsAllApart_x11 : (Int32) ⊕ (Unit) :=
  Sum.inr ()
noncomputable def fX2_tellsAllApart_b11 (I : HI) (set : Int32) (i2 : Nat) (i11 : Nat) : ((Int32) ⊕ (Unit)) ⊕ (Unit) :=
  if fX2_tellsApart I set i2 i11 = 0 then Sum.inl (Sum.inl 0) else Sum.inr ()
noncomputable def fX2_tellsAllApart_b2 (I : HI) (set : Int32) (i2 : Nat) : (Int32) ⊕ (Unit) :=
  foE (5 - (i2 + 1)) (i2 + 1) (fun (i : Nat) (_ : Unit) => fX2_tellsAllApart_b11 I set i2 i) (fun (_ : Unit) => fX2_tellsAllApart_x11) ()
noncomputable def fX2_tellsAllApart (I : HI) (set : Int32) : Int32 :=
  foE 5 0 (fun (i : Nat) (_ : Unit) => fX2_tellsAllApart_b2 I set i) (fun (_ : Unit) => fX2_tellsAllApart_x2) ()
theorem knX2_tellsAllApart : Kn yX2_tellsAllApart cX2_tellsAllApart 4 (some .boolean) 1 := ⟨q587, q5, ⟨by decide, by decide⟩, by decide +kernel⟩
set_option maxHeartbeats 400000 in
set_option maxRecDepth 100000 in
theorem kX2_tellsAllApart (I : HI) (set : Int32) (hd : vp_in (I 1 6) 7) : Cx yX2_tellsAllApart cX2_tellsAllApart 4 (some .boolean) 1 26 [vr 35, vi set] I ((some (vi ((fX2_tellsAllApart I set))), I)) := by
  refine Cx.mk (lv := [(0, vr 35), (1, vi set)]) (by decide) (Nat.le_of_ble_eq_true rfl) rfl (fun E ok hr => ?_)
  rw [fX2_tellsAllApart]
  refine g_iconst (n := 1) (v := 0) ok dX2_tellsAllApart_0 rfl rfl ?_
  refine g_istore_n (n := 2) (lv' := [(2, vi 0), (0, vr 35), (1, vi set)]) ok dX2_tellsAllApart_1 rfl (by decide) rfl rfl ?_
  have X2 : ∀ (_ : True), G E 4 ((some (vi (fX2_tellsAllApart_x2)), I)) I 40 [] [] := by
    intro _
    rw [fX2_tellsAllApart_x2]
    refine g_iconst (n := 41) (v := 1) ok dX2_tellsAllApart_40 rfl rfl ?_
    exact g_zret (x := 1) ok hr dX2_tellsAllApart_41 (by decide)
  have L2 : ∀ (n2 i2 : Nat) (hi : i2 + n2 = 5), G E 4 ((some (vi ((foE n2 i2 (fun (i : Nat) (_ : Unit) => fX2_tellsAllApart_b2 I set i) (fun (_ : Unit) => fX2_tellsAllApart_x2) ()))), I)) I 2 [(2, vi (nI i2)), (0, vr 35), (1, vi set)] [] := by
    intro n2
    induction n2 with
    | zero =>
      intro i2 hi
      rw [foE_0]
      refine g_iload_n (n := 3) ok 0 dX2_tellsAllApart_2 rfl rfl rfl ?_
      refine g_iconst (n := 4) (v := 5) ok dX2_tellsAllApart_3 rfl rfl ?_
      refine g_icmp_ge (n := 7) (tgt := 40) ok dX2_tellsAllApart_4 (by decide) rfl (fun c => ?_) (fun c => absurd (nle (a := 5) (b := i2) rfl rfl (by omega) (by omega)) c)
      refine g_sub [] rfl ?_
      exact X2 trivial
    | succ n2 ih =>
      intro i2 hi
      refine g_iload_n (n := 3) ok 0 dX2_tellsAllApart_2 rfl rfl rfl ?_
      refine g_iconst (n := 4) (v := 5) ok dX2_tellsAllApart_3 rfl rfl ?_
      refine g_icmp_ge (n := 7) (tgt := 40) ok dX2_tellsAllApart_4 (by decide) rfl (fun c => absurd c (nnle (a := 5) (b := i2) rfl rfl (by omega) (by omega))) (fun c => ?_)
      rw [foE_s]
      show G E 4 ((some (vi ((Sum.elim id (fun (s : Unit) => foE n2 (i2 + 1) (fun (i : Nat) (_ : Unit) => fX2_tellsAllApart_b2 I set i) (fun (_ : Unit) => fX2_tellsAllApart_x2) s) (fX2_tellsAllApart_b2 I set i2)))), I)) _ _ _ _
      rw [fX2_tellsAllApart_b2]
      refine g_iload_n (n := 8) ok 0 dX2_tellsAllApart_7 rfl rfl rfl ?_
      refine g_iconst (n := 9) (v := 1) ok dX2_tellsAllApart_8 rfl rfl ?_
      refine g_iadd (n := 10) ok dX2_tellsAllApart_9 rfl ?_
      refine g_top (nv_iadd (a := i2) (b := 1) rfl rfl) ?_
      refine g_istore_n (n := 11) (lv' := [(3, vi (nI (i2 + 1))), (2, vi (nI i2)), (0, vr 35), (1, vi set)]) ok dX2_tellsAllApart_10 rfl (by decide) rfl rfl ?_
      have X11 : ∀ (_ : True), G E 4 ((some (vi ((Sum.elim id (fun (s : Unit) => foE n2 (i2 + 1) (fun (i : Nat) (_ : Unit) => fX2_tellsAllApart_b2 I set i) (fun (_ : Unit) => fX2_tellsAllApart_x2) s) fX2_tellsAllApart_x11))), I)) I 34 [(2, vi (nI i2)), (0, vr 35), (1, vi set)] [] := by
        intro _
        rw [fX2_tellsAllApart_x11]
        refine g_iinc (n := 37) (v := nI (i2 + 1)) (lv' := [(2, vi (nI (i2 + 1))), (0, vr 35), (1, vi set)]) ok 0 dX2_tellsAllApart_34 rfl (iinc_n (a := i2) rfl) (by decide) rfl rfl ?_
        refine g_goto (tgt := 2) ok dX2_tellsAllApart_37 (by decide) ?_
        exact ih (i2 + 1) (by omega)
      have L11 : ∀ (n11 i11 : Nat) (hi : i11 + n11 = 5), G E 4 ((some (vi ((Sum.elim id (fun (s : Unit) => foE n2 (i2 + 1) (fun (i : Nat) (_ : Unit) => fX2_tellsAllApart_b2 I set i) (fun (_ : Unit) => fX2_tellsAllApart_x2) s) (foE n11 i11 (fun (i : Nat) (_ : Unit) => fX2_tellsAllApart_b11 I set i2 i) (fun (_ : Unit) => fX2_tellsAllApart_x11) ())))), I)) I 11 [(3, vi (nI i11)), (2, vi (nI i2)), (0, vr 35), (1, vi set)] [] := by
        intro n11
        induction n11 with
        | zero =>
          intro i11 hi
          rw [foE_0]
          refine g_iload_n (n := 12) ok 0 dX2_tellsAllApart_11 rfl rfl rfl ?_
          refine g_iconst (n := 13) (v := 5) ok dX2_tellsAllApart_12 rfl rfl ?_
          refine g_icmp_ge (n := 16) (tgt := 34) ok dX2_tellsAllApart_13 (by decide) rfl (fun c => ?_) (fun c => absurd (nle (a := 5) (b := i11) rfl rfl (by omega) (by omega)) c)
          refine g_sub [1, 2, 3] rfl ?_
          exact X11 trivial
        | succ n11 ih =>
          intro i11 hi
          refine g_iload_n (n := 12) ok 0 dX2_tellsAllApart_11 rfl rfl rfl ?_
          refine g_iconst (n := 13) (v := 5) ok dX2_tellsAllApart_12 rfl rfl ?_
          refine g_icmp_ge (n := 16) (tgt := 34) ok dX2_tellsAllApart_13 (by decide) rfl (fun c => absurd c (nnle (a := 5) (b := i11) rfl rfl (by omega) (by omega))) (fun c => ?_)
          rw [foE_s]
          show G E 4 ((some (vi ((Sum.elim id (fun (s : Unit) => foE n2 (i2 + 1) (fun (i : Nat) (_ : Unit) => fX2_tellsAllApart_b2 I set i) (fun (_ : Unit) => fX2_tellsAllApart_x2) s) (Sum.elim id (fun (s : Unit) => foE n11 (i11 + 1) (fun (i : Nat) (_ : Unit) => fX2_tellsAllApart_b11 I set i2 i) (fun (_ : Unit) => fX2_tellsAllApart_x11) s) (fX2_tellsAllApart_b11 I set i2 i11))))), I)) _ _ _ _
          rw [fX2_tellsAllApart_b11]
          refine g_aload_n (n := 17) ok 2 dX2_tellsAllApart_16 rfl rfl rfl ?_
          refine g_iload_n (n := 18) ok 3 dX2_tellsAllApart_17 rfl rfl rfl ?_
          refine g_iload_n (n := 19) ok 1 dX2_tellsAllApart_18 rfl rfl rfl ?_
          refine g_iload_n (n := 20) ok 0 dX2_tellsAllApart_19 rfl rfl rfl ?_
          refine g_callV (n := 23) (rest := []) (av := [vi set, vi (nI i2), vi (nI i11)]) (j := 35) ok (kX2_tellsApart I set i2 i11 (by first | with_reducible assumption | omega) (by first | with_reducible assumption | omega) (by first | with_reducible assumption | omega)) knX2_tellsApart q588 q590 qs20 clsX2 rfl dX2_tellsAllApart_20 rfl rfl (Nat.le_of_ble_eq_true rfl) (by decide) (by decide) rfl ?_
          refine g_if_ne (n := 26) (tgt := 28) ok dX2_tellsAllApart_23 (by decide) rfl (fun c1 => ?_) (fun c1 => ?_)
          · rw [if_neg c1]
            refine g_iinc (n := 31) (v := nI (i11 + 1)) (lv' := [(3, vi (nI (i11 + 1))), (2, vi (nI i2)), (0, vr 35), (1, vi set)]) ok 0 dX2_tellsAllApart_28 rfl (iinc_n (a := i11) rfl) (by decide) rfl rfl ?_
            refine g_goto (tgt := 11) ok dX2_tellsAllApart_31 (by decide) ?_
            exact ih (i11 + 1) (by omega)
          · rw [if_pos c1]
            refine g_iconst (n := 27) (v := 0) ok dX2_tellsAllApart_26 rfl rfl ?_
            exact g_zret (x := 0) ok hr dX2_tellsAllApart_27 (by decide)
      exact L11 (5 - (i2 + 1)) (i2 + 1) (by omega)
  exact L2 5 0 (by omega)

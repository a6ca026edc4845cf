noncomputable def fX5_refuse_22 (fault : Int32) (J3 : HI) : Int32 × HI :=
  (fault, J3)
noncomputable def fX5_refuse (I : HI) (fault : Int32) : Int32 × HI :=
  fX5_refuse_22 fault (if fX5_within (-fault) 1 6 = 0 then I else (up I 51 (ix (-fault)) ((I 51 (ix (-fault))) + 1)))
theorem knX5_refuse : Kn yX5_refuse cX5_refuse 2 (some .int) 1 := ⟨q192, q1, ⟨by decide, by decide⟩, by decide +kernel⟩
set_option maxHeartbeats 400000 in
set_option maxRecDepth 100000 in
theorem kX5_refuse (I : HI) (fault : Int32) : Cx yX5_refuse cX5_refuse 2 (some .int) 1 22 [vr 0, vi fault] I ((some (vi (((fX5_refuse I fault).1))), (fX5_refuse I fault).2)) := by
  refine Cx.mk (lv := [(0, vr 0), (1, vi fault)]) (by decide) (Nat.le_of_ble_eq_true rfl) rfl (fun E ok hr => ?_)
  rw [fX5_refuse]
  refine g_iload_n (n := 1) ok 1 dX5_refuse_0 rfl rfl rfl ?_
  refine g_ineg (n := 2) ok dX5_refuse_1 rfl ?_
  refine g_iconst (n := 3) (v := 1) ok dX5_refuse_2 rfl rfl ?_
  refine g_bipush (n := 5) (v := 6) ok dX5_refuse_3 rfl rfl ?_
  refine g_callS (n := 8) (rest := []) (av := [vi (-fault), vi 1, vi 6]) ok (kX5_within I (-fault) 1 6) knX5_within q193 q194 dX5_refuse_5 rfl rfl (Nat.le_of_ble_eq_true rfl) (by decide) (by decide) rfl ?_
  have J22_4 : ∀ (J3 : HI), G E 2 ((some (vi (((fX5_refuse_22 fault J3).1))), (fX5_refuse_22 fault J3).2)) J3 22 [(1, vi fault)] [] := by
    intro J3
    rw [fX5_refuse_22]
    refine g_iload_n (n := 23) ok 0 dX5_refuse_22 rfl rfl rfl ?_
    exact g_iret ok hr dX5_refuse_23
  refine g_if_eq (n := 11) (tgt := 22) ok dX5_refuse_8 (by decide) rfl (fun c1 => ?_) (fun c1 => ?_)
  · try simp only [if_pos c1]
    refine g_sub [1] rfl ?_
    exact J22_4 _
  · try simp only [if_neg c1]
    have h7 := within_in1 c1
    have h7b := vb h7
    refine g_aload_n (n := 12) ok 0 dX5_refuse_11 rfl rfl rfl ?_
    refine g_get (n := 15) (v := vr 51) (c := 5) (k := 8) ok dX5_refuse_12 clsX5 (by decide) q162 rfl rfl rfl ?_
    refine g_iload_n (n := 16) ok 1 dX5_refuse_15 rfl rfl rfl ?_
    refine g_ineg (n := 17) ok dX5_refuse_16 rfl ?_
    refine g_dup2 (n := 18) ok dX5_refuse_17 rfl rfl rfl ?_
    refine g_iald (n := 19) (i := ix (-fault)) (L := 7) ok dX5_refuse_18 rfl rfl (vx h7) (by omega) rfl ?_
    refine g_iconst (n := 20) (v := 1) ok dX5_refuse_19 rfl rfl ?_
    refine g_iadd (n := 21) ok dX5_refuse_20 rfl ?_
    refine g_iast (n := 22) (i := ix (-fault)) (L := 7) ok dX5_refuse_21 rfl rfl (vx h7) (by omega) rfl ?_
    refine g_sub [1] rfl ?_
    exact J22_4 _

noncomputable def fX5_refuseLong (I : HI) (fault : Int32) : Int64 × HI :=
  (4000000000000000000 - (((fX5_refuse I fault).1).toInt64), ((fX5_refuse I fault).2))
theorem knX5_refuseLong : Kn yX5_refuseLong cX5_refuseLong 2 (some .long) 1 := ⟨q424, q1, ⟨by decide, by decide⟩, by decide +kernel⟩
set_option maxHeartbeats 400000 in
set_option maxRecDepth 100000 in
theorem kX5_refuseLong (I : HI) (fault : Int32) : Cx yX5_refuseLong cX5_refuseLong 2 (some .long) 2 43 [vr 0, vi fault] I ((some (vl (((fX5_refuseLong I fault).1))), (fX5_refuseLong I fault).2)) := by
  refine Cx.mk (lv := [(0, vr 0), (1, vi fault)]) (by decide) (Nat.le_of_ble_eq_true rfl) rfl (fun E ok hr => ?_)
  rw [fX5_refuseLong]
  refine g_ldc2_w (n := 3) ok dX5_refuseLong_0 q425 rfl ?_
  refine g_aload_n (n := 4) ok 0 dX5_refuseLong_3 rfl rfl rfl ?_
  refine g_iload_n (n := 5) ok 1 dX5_refuseLong_4 rfl rfl rfl ?_
  refine g_callV (n := 8) (rest := [vl 4000000000000000000]) (av := [vi fault]) (j := 0) ok (kX5_refuse I fault) knX5_refuse q189 q191 qs0 clsX5 rfl dX5_refuseLong_5 rfl rfl (Nat.le_of_ble_eq_true rfl) (by decide) (by decide) rfl ?_
  refine g_i2l (n := 9) ok dX5_refuseLong_8 rfl ?_
  refine g_lsub (n := 10) ok dX5_refuseLong_9 rfl ?_
  exact g_lret ok hr dX5_refuseLong_10

noncomputable def fX5_feed (I : HI) (letter : Int32) : Int32 × HI :=
  if fX5_rangeFault letter 0 255 = 0 then (if I 47 1 < 96 then ((fX0_add I letter) 47 1, (fX0_add I letter)) else ((fX5_refuse I (-6)).1, ((fX5_refuse I (-6)).2))) else ((fX5_refuse I (fX5_rangeFault letter 0 255)).1, ((fX5_refuse I (fX5_rangeFault letter 0 255)).2))
theorem knX5_feed : Kn yX5_feed cX5_feed 3 (some .int) 1 := ⟨q185, q1, ⟨by decide, by decide⟩, by decide +kernel⟩
set_option maxHeartbeats 400000 in
set_option maxRecDepth 100000 in
theorem kX5_feed (I : HI) (letter : Int32) (hm : vp_in (I 47 1) 97) : Cx yX5_feed cX5_feed 3 (some .int) 2 43 [vr 0, vi letter] I ((some (vi (((fX5_feed I letter).1))), (fX5_feed I letter).2)) := by
  refine Cx.mk (lv := [(0, vr 0), (1, vi letter)]) (by decide) (Nat.le_of_ble_eq_true rfl) rfl (fun E ok hr => ?_)
  rw [fX5_feed]
  refine g_iload_n (n := 1) ok 1 dX5_feed_0 rfl rfl rfl ?_
  refine g_iconst (n := 2) (v := 0) ok dX5_feed_1 rfl rfl ?_
  refine g_sipush (n := 5) (v := 255) ok dX5_feed_2 rfl rfl ?_
  refine g_callS (n := 8) (rest := []) (av := [vi letter, vi 0, vi 255]) ok (kX5_rangeFault I letter 0 255) knX5_rangeFault q186 q187 dX5_feed_5 rfl rfl (Nat.le_of_ble_eq_true rfl) (by decide) (by decide) rfl ?_
  refine g_istore_n (n := 9) (lv' := [(2, vi (fX5_rangeFault letter 0 255)), (0, vr 0), (1, vi letter)]) ok dX5_feed_8 rfl (by decide) rfl rfl ?_
  refine g_iload_n (n := 10) ok 0 dX5_feed_9 rfl rfl rfl ?_
  refine g_if_ne (n := 13) (tgt := 28) ok dX5_feed_10 (by decide) rfl (fun c1 => ?_) (fun c1 => ?_)
  · rw [if_neg c1]
    refine g_iload_n (n := 29) ok 0 dX5_feed_28 rfl rfl rfl ?_
    refine g_if_eq (n := 32) (tgt := 38) ok dX5_feed_29 (by decide) rfl (fun c2 => ?_) (fun c2 => ?_)
    · exact absurd c2 c1
    · refine g_aload_n (n := 33) ok 1 dX5_feed_32 rfl rfl rfl ?_
      refine g_iload_n (n := 34) ok 0 dX5_feed_33 rfl rfl rfl ?_
      refine g_callV (n := 37) (rest := []) (av := [vi (fX5_rangeFault letter 0 255)]) (j := 0) ok (kX5_refuse I (fX5_rangeFault letter 0 255)) knX5_refuse q189 q191 qs0 clsX5 rfl dX5_feed_34 rfl rfl (Nat.le_of_ble_eq_true rfl) (by decide) (by decide) rfl ?_
      exact g_iret ok hr dX5_feed_37
  · rw [if_pos c1]
    have ha3 : vp_in letter 256 := rangeFault_in (b := 255) c1 (by decide) (by omega)
    have ha3b := vb ha3
    refine g_aload_n (n := 14) ok 1 dX5_feed_13 rfl rfl rfl ?_
    refine g_get (n := 17) (v := vr 47) (c := 5) (k := 5) ok dX5_feed_14 clsX5 (by decide) q159 rfl rfl rfl ?_
    refine g_get (n := 20) (v := vi (I 47 1)) (c := 0) (k := 1) ok dX5_feed_17 clsX0 (by decide) q139 rfl rfl rfl ?_
    refine g_bipush (n := 22) (v := 96) ok dX5_feed_20 rfl rfl ?_
    refine g_icmp_lt (n := 25) (tgt := 28) ok dX5_feed_22 (by decide) rfl (fun c4 => ?_) (fun c4 => ?_)
    · rw [if_pos c4]
      refine g_iload_n (n := 29) ok 0 dX5_feed_28 rfl rfl rfl ?_
      refine g_if_eq (n := 32) (tgt := 38) ok dX5_feed_29 (by decide) rfl (fun c5 => ?_) (fun c5 => ?_)
      · refine g_aload_n (n := 39) ok 1 dX5_feed_38 rfl rfl rfl ?_
        refine g_get (n := 42) (v := vr 47) (c := 5) (k := 5) ok dX5_feed_39 clsX5 (by decide) q159 rfl rfl rfl ?_
        refine g_iload_n (n := 43) ok 2 dX5_feed_42 rfl rfl rfl ?_
        refine g_callVv (n := 46) (rest := []) (av := [vi letter]) (j := 47) ok (kX0_add I letter (by first | with_reducible assumption | omega)) knX0_add q196 q197 q198 clsX0 rfl dX5_feed_43 rfl rfl (Nat.le_of_ble_eq_true rfl) (by decide) (by decide) rfl ?_
        refine g_aload_n (n := 47) ok 1 dX5_feed_46 rfl rfl rfl ?_
        refine g_get (n := 50) (v := vr 47) (c := 5) (k := 5) ok dX5_feed_47 clsX5 (by decide) q159 rfl rfl rfl ?_
        refine g_get (n := 53) (v := vi ((fX0_add I letter) 47 1)) (c := 0) (k := 1) ok dX5_feed_50 clsX0 (by decide) q139 rfl rfl rfl ?_
        exact g_iret ok hr dX5_feed_53
      · exact absurd c1 c5
    · rw [if_neg c4]
      refine g_bipush (n := 27) (v := -6) ok dX5_feed_25 rfl rfl ?_
      refine g_istore_n (n := 28) (lv' := [(2, vi (-6)), (0, vr 0), (1, vi letter)]) ok dX5_feed_27 rfl (by decide) rfl rfl ?_
      refine g_iload_n (n := 29) ok 0 dX5_feed_28 rfl rfl rfl ?_
      refine g_if_eq (n := 32) (tgt := 38) ok dX5_feed_29 (by decide) rfl (fun c6 => ?_) (fun c6 => ?_)
      · exact absurd c6 (by decide)
      · refine g_aload_n (n := 33) ok 1 dX5_feed_32 rfl rfl rfl ?_
        refine g_iload_n (n := 34) ok 0 dX5_feed_33 rfl rfl rfl ?_
        refine g_callV (n := 37) (rest := []) (av := [vi (-6)]) (j := 0) ok (kX5_refuse I (-6)) knX5_refuse q189 q191 qs0 clsX5 rfl dX5_feed_34 rfl rfl (Nat.le_of_ble_eq_true rfl) (by decide) (by decide) rfl ?_
        exact g_iret ok hr dX5_feed_37

noncomputable def fX5_ice (I : HI) (patch : Int32) (hour : Int32) (what : Int32) : Int32 × HI :=
  if fX5_isSpot patch hour = 0 then ((fX5_refuse I (-1)).1, ((fX5_refuse I (-1)).2)) else (if fX5_within what 0 1 = 0 then ((fX5_refuse I (-2)).1, ((fX5_refuse I (-2)).2)) else (if what = 0 then (I 2 (fX5_spot (ix patch) (ix hour)), I) else (I 3 (fX5_spot (ix patch) (ix hour)), I)))
theorem knX5_ice : Kn yX5_ice cX5_ice 4 (some .int) 3 := ⟨q338, q1, ⟨by decide, by decide⟩, by decide +kernel⟩
set_option maxHeartbeats 400000 in
set_option maxRecDepth 100000 in
theorem kX5_ice (I : HI) (patch : Int32) (hour : Int32) (what : Int32) : Cx yX5_ice cX5_ice 4 (some .int) 3 63 [vr 0, vi patch, vi hour, vi what] I ((some (vi (((fX5_ice I patch hour what).1))), (fX5_ice I patch hour what).2)) := by
  refine Cx.mk (lv := [(0, vr 0), (1, vi patch), (2, vi hour), (3, vi what)]) (by decide) (Nat.le_of_ble_eq_true rfl) rfl (fun E ok hr => ?_)
  rw [fX5_ice]
  refine g_iload_n (n := 1) ok 1 dX5_ice_0 rfl rfl rfl ?_
  refine g_iload_n (n := 2) ok 2 dX5_ice_1 rfl rfl rfl ?_
  refine g_callS (n := 5) (rest := []) (av := [vi patch, vi hour]) ok (kX5_isSpot I patch hour) knX5_isSpot q339 q261 dX5_ice_2 rfl rfl (Nat.le_of_ble_eq_true rfl) (by decide) (by decide) rfl ?_
  refine g_if_ne (n := 8) (tgt := 14) ok dX5_ice_5 (by decide) rfl (fun c1 => ?_) (fun c1 => ?_)
  · rw [if_neg c1]
    have ha2 : vp_in patch 2 := isSpot_in1 c1
    have ha2b := vb ha2
    have ha3 : vp_in hour 12 := isSpot_in2 c1
    have ha3b := vb ha3
    refine g_iload_n (n := 15) ok 3 dX5_ice_14 rfl rfl rfl ?_
    refine g_iconst (n := 16) (v := 0) ok dX5_ice_15 rfl rfl ?_
    refine g_iconst (n := 17) (v := 1) ok dX5_ice_16 rfl rfl ?_
    refine g_callS (n := 20) (rest := []) (av := [vi what, vi 0, vi 1]) ok (kX5_within I what 0 1) knX5_within q193 q194 dX5_ice_17 rfl rfl (Nat.le_of_ble_eq_true rfl) (by decide) (by decide) rfl ?_
    refine g_if_ne (n := 23) (tgt := 30) ok dX5_ice_20 (by decide) rfl (fun c4 => ?_) (fun c4 => ?_)
    · rw [if_neg c4]
      have ha5 : vp_in what 2 := within_in (b := 1) c4 (by omega)
      have ha5b := vb ha5
      refine g_iload_n (n := 31) ok 3 dX5_ice_30 rfl rfl rfl ?_
      refine g_if_ne (n := 34) (tgt := 50) ok dX5_ice_31 (by decide) rfl (fun c6 => ?_) (fun c6 => ?_)
      · rw [if_neg c6]
        have hz7 := ixn (n := 0) ha5 c6 (by omega) (by omega)
        refine g_aload_n (n := 51) ok 0 dX5_ice_50 rfl rfl rfl ?_
        refine g_get (n := 54) (v := vr 1) (c := 5) (k := 0) ok dX5_ice_51 clsX5 (by decide) q154 rfl rfl rfl ?_
        refine g_get (n := 57) (v := vr 3) (c := 3) (k := 1) ok dX5_ice_54 clsX3 (by decide) q65 rfl rfl rfl ?_
        refine g_iload_n (n := 58) ok 1 dX5_ice_57 rfl rfl rfl ?_
        refine g_iload_n (n := 59) ok 2 dX5_ice_58 rfl rfl rfl ?_
        refine g_callS (n := 62) (rest := [vr 3]) (av := [vi (nI (ix patch)), vi (nI (ix hour))]) ok (kX5_spot I (ix patch) (ix hour)) knX5_spot q340 q278 dX5_ice_59 (lcons (congrArg vi (vx ha3)) (lcons (congrArg vi (vx ha2)) rfl)) rfl (Nat.le_of_ble_eq_true rfl) (by decide) (by decide) rfl ?_
        have hp8 : fX5_spot (ix patch) (ix hour) = (ix patch) * 12 + (ix hour) := rfl
        refine g_iald (n := 63) (i := (fX5_spot (ix patch) (ix hour))) (L := 24) ok dX5_ice_62 rfl rfl rfl (by omega) rfl ?_
        exact g_iret ok hr dX5_ice_63
      · rw [if_pos c6]
        have hz9 := ixe (n := 0) ha5 c6 (by omega) (by omega)
        refine g_aload_n (n := 35) ok 0 dX5_ice_34 rfl rfl rfl ?_
        refine g_get (n := 38) (v := vr 1) (c := 5) (k := 0) ok dX5_ice_35 clsX5 (by decide) q154 rfl rfl rfl ?_
        refine g_get (n := 41) (v := vr 2) (c := 3) (k := 0) ok dX5_ice_38 clsX3 (by decide) q62 rfl rfl rfl ?_
        refine g_iload_n (n := 42) ok 1 dX5_ice_41 rfl rfl rfl ?_
        refine g_iload_n (n := 43) ok 2 dX5_ice_42 rfl rfl rfl ?_
        refine g_callS (n := 46) (rest := [vr 2]) (av := [vi (nI (ix patch)), vi (nI (ix hour))]) ok (kX5_spot I (ix patch) (ix hour)) knX5_spot q340 q278 dX5_ice_43 (lcons (congrArg vi (vx ha3)) (lcons (congrArg vi (vx ha2)) rfl)) rfl (Nat.le_of_ble_eq_true rfl) (by decide) (by decide) rfl ?_
        have hp10 : fX5_spot (ix patch) (ix hour) = (ix patch) * 12 + (ix hour) := rfl
        refine g_iald (n := 47) (i := (fX5_spot (ix patch) (ix hour))) (L := 24) ok dX5_ice_46 rfl rfl rfl (by omega) rfl ?_
        refine g_goto (tgt := 63) ok dX5_ice_47 (by decide) ?_
        exact g_iret ok hr dX5_ice_63
    · rw [if_pos c4]
      refine g_aload_n (n := 24) ok 0 dX5_ice_23 rfl rfl rfl ?_
      refine g_bipush (n := 26) (v := -2) ok dX5_ice_24 rfl rfl ?_
      refine g_callV (n := 29) (rest := []) (av := [vi (-2)]) (j := 0) ok (kX5_refuse I (-2)) knX5_refuse q189 q191 qs0 clsX5 rfl dX5_ice_26 rfl rfl (Nat.le_of_ble_eq_true rfl) (by decide) (by decide) rfl ?_
      exact g_iret ok hr dX5_ice_29
  · rw [if_pos c1]
    refine g_aload_n (n := 9) ok 0 dX5_ice_8 rfl rfl rfl ?_
    refine g_iconst (n := 10) (v := -1) ok dX5_ice_9 rfl rfl ?_
    refine g_callV (n := 13) (rest := []) (av := [vi (-1)]) (j := 0) ok (kX5_refuse I (-1)) knX5_refuse q189 q191 qs0 clsX5 rfl dX5_ice_10 rfl rfl (Nat.le_of_ble_eq_true rfl) (by decide) (by decide) rfl ?_
    exact g_iret ok hr dX5_ice_13

noncomputable def fX5_marksTogether (a0 : Int32) (a1 : Int32) (a2 : Int32) : Int32 :=
  ((a2 * ((60 * a0) - (a0 * a0))) + ((100 - a2) * ((40 * a1) + ((a1 * a1) / 4)))) / 100
theorem knX5_marksTogether : Kn yX5_marksTogether cX5_marksTogether 5 (some .int) 3 := ⟨q602, q1, ⟨by decide, by decide⟩, by decide +kernel⟩
set_option maxHeartbeats 400000 in
set_option maxRecDepth 100000 in
theorem kX5_marksTogether (I : HI) (a0 : Int32) (a1 : Int32) (a2 : Int32) : Cx yX5_marksTogether cX5_marksTogether 5 (some .int) 0 0 [vi a0, vi a1, vi a2] I ((some (vi ((fX5_marksTogether a0 a1 a2))), I)) := by
  refine Cx.mk (lv := [(0, vi a0), (1, vi a1), (2, vi a2)]) (by decide) (Nat.le_of_ble_eq_true rfl) rfl (fun E ok hr => ?_)
  rw [fX5_marksTogether]
  refine g_bipush (n := 2) (v := 60) ok dX5_marksTogether_0 rfl rfl ?_
  refine g_iload_n (n := 3) ok 0 dX5_marksTogether_2 rfl rfl rfl ?_
  refine g_imul (n := 4) ok dX5_marksTogether_3 rfl ?_
  refine g_iload_n (n := 5) ok 0 dX5_marksTogether_4 rfl rfl rfl ?_
  refine g_iload_n (n := 6) ok 0 dX5_marksTogether_5 rfl rfl rfl ?_
  refine g_imul (n := 7) ok dX5_marksTogether_6 rfl ?_
  refine g_isub (n := 8) ok dX5_marksTogether_7 rfl ?_
  refine g_istore_n (n := 9) (lv' := [(3, vi ((60 * a0) - (a0 * a0))), (0, vi a0), (1, vi a1), (2, vi a2)]) ok dX5_marksTogether_8 rfl (by decide) rfl rfl ?_
  refine g_bipush (n := 11) (v := 40) ok dX5_marksTogether_9 rfl rfl ?_
  refine g_iload_n (n := 12) ok 2 dX5_marksTogether_11 rfl rfl rfl ?_
  refine g_imul (n := 13) ok dX5_marksTogether_12 rfl ?_
  refine g_iload_n (n := 14) ok 2 dX5_marksTogether_13 rfl rfl rfl ?_
  refine g_iload_n (n := 15) ok 2 dX5_marksTogether_14 rfl rfl rfl ?_
  refine g_imul (n := 16) ok dX5_marksTogether_15 rfl ?_
  refine g_iconst (n := 17) (v := 4) ok dX5_marksTogether_16 rfl rfl ?_
  refine g_idiv (n := 18) ok dX5_marksTogether_17 (by decide) rfl ?_
  refine g_iadd (n := 19) ok dX5_marksTogether_18 rfl ?_
  refine g_istore (n := 21) (lv' := [(4, vi ((40 * a1) + ((a1 * a1) / 4))), (3, vi ((60 * a0) - (a0 * a0))), (0, vi a0), (1, vi a1), (2, vi a2)]) ok dX5_marksTogether_19 (by decide) rfl rfl ?_
  refine g_iload_n (n := 22) ok 4 dX5_marksTogether_21 rfl rfl rfl ?_
  refine g_iload_n (n := 23) ok 1 dX5_marksTogether_22 rfl rfl rfl ?_
  refine g_imul (n := 24) ok dX5_marksTogether_23 rfl ?_
  refine g_bipush (n := 26) (v := 100) ok dX5_marksTogether_24 rfl rfl ?_
  refine g_iload_n (n := 27) ok 4 dX5_marksTogether_26 rfl rfl rfl ?_
  refine g_isub (n := 28) ok dX5_marksTogether_27 rfl ?_
  refine g_iload (n := 30) ok 0 dX5_marksTogether_28 rfl rfl ?_
  refine g_imul (n := 31) ok dX5_marksTogether_30 rfl ?_
  refine g_iadd (n := 32) ok dX5_marksTogether_31 rfl ?_
  refine g_bipush (n := 34) (v := 100) ok dX5_marksTogether_32 rfl rfl ?_
  refine g_idiv (n := 35) ok dX5_marksTogether_34 (by decide) rfl ?_
  exact g_iret ok hr dX5_marksTogether_35

noncomputable def fX5_bestForFigures_x4 (x4_2 : Nat) : Nat :=
  x4_2
noncomputable def fX5_bestForFigures_b4 (h : Nat) (weight : Int32) (i4 : Nat) (x4_2 : Nat) : Nat :=
  if fX5_marksTogether (nI i4) ((nI h) - (nI i4)) weight ≤ fX5_marksTogether (nI x4_2) ((nI h) - (nI x4_2)) weight then x4_2 else i4
noncomputable def fX5_bestForFigures (h : Nat) (weight : Int32) : Nat :=
  fX5_bestForFigures_x4 (fo ((h + 1) - 1) 1 (fun (i : Nat) (s : Nat) => fX5_bestForFigures_b4 h weight i s) 0)
theorem knX5_bestForFigures : Kn yX5_bestForFigures cX5_bestForFigures 4 (some .int) 2 := ⟨q599, q1, ⟨by decide, by decide⟩, by decide +kernel⟩
set_option maxHeartbeats 400000 in
set_option maxRecDepth 100000 in
theorem kX5_bestForFigures (I : HI) (h : Nat) (weight : Int32) (hh : h ≤ 40) : Cx yX5_bestForFigures cX5_bestForFigures 4 (some .int) 1 24 [vi (nI h), vi weight] I ((some (vi (nI (fX5_bestForFigures h weight))), I)) := by
  refine Cx.mk (lv := [(0, vi (nI h)), (1, vi weight)]) (by decide) (Nat.le_of_ble_eq_true rfl) rfl (fun E ok hr => ?_)
  rw [fX5_bestForFigures]
  refine g_iconst (n := 1) (v := 0) ok dX5_bestForFigures_0 rfl rfl ?_
  refine g_istore_n (n := 2) (lv' := [(2, vi 0), (0, vi (nI h)), (1, vi weight)]) ok dX5_bestForFigures_1 rfl (by decide) rfl rfl ?_
  refine g_iconst (n := 3) (v := 1) ok dX5_bestForFigures_2 rfl rfl ?_
  refine g_istore_n (n := 4) (lv' := [(3, vi 1), (2, vi 0), (0, vi (nI h)), (1, vi weight)]) ok dX5_bestForFigures_3 rfl (by decide) rfl rfl ?_
  have X4 : ∀ (x4_2 : Nat), G E 4 ((some (vi (nI (fX5_bestForFigures_x4 x4_2))), I)) I 36 [(2, vi (nI x4_2))] [] := by
    intro x4_2
    rw [fX5_bestForFigures_x4]
    refine g_iload_n (n := 37) ok 0 dX5_bestForFigures_36 rfl rfl rfl ?_
    exact g_iret ok hr dX5_bestForFigures_37
  have L4 : ∀ (n4 i4 : Nat) (x4_2 : Nat) (hi : i4 + n4 = h + 1), G E 4 ((some (vi (nI (fX5_bestForFigures_x4 (fo n4 i4 (fun (i : Nat) (s : Nat) => fX5_bestForFigures_b4 h weight i s) x4_2)))), I)) I 4 [(3, vi (nI i4)), (2, vi (nI x4_2)), (0, vi (nI h)), (1, vi weight)] [] := by
    intro n4
    induction n4 with
    | zero =>
      intro i4 x4_2 hi
      rw [fo_0]
      refine g_iload_n (n := 5) ok 0 dX5_bestForFigures_4 rfl rfl rfl ?_
      refine g_iload_n (n := 6) ok 2 dX5_bestForFigures_5 rfl rfl rfl ?_
      refine g_icmp_gt (n := 9) (tgt := 36) ok dX5_bestForFigures_6 (by decide) rfl (fun c => ?_) (fun c => absurd (nlt (a := h) (b := i4) rfl rfl (by omega) (by omega)) c)
      refine g_sub [1] rfl ?_
      exact X4 _
    | succ n4 ih =>
      intro i4 x4_2 hi
      refine g_iload_n (n := 5) ok 0 dX5_bestForFigures_4 rfl rfl rfl ?_
      refine g_iload_n (n := 6) ok 2 dX5_bestForFigures_5 rfl rfl rfl ?_
      refine g_icmp_gt (n := 9) (tgt := 36) ok dX5_bestForFigures_6 (by decide) rfl (fun c => absurd c (nnlt (a := h) (b := i4) rfl rfl (by omega) (by omega))) (fun c => ?_)
      rw [fo_s]
      show G E 4 ((some (vi (nI (fX5_bestForFigures_x4 (fo n4 (i4 + 1) (fun (i : Nat) (s : Nat) => fX5_bestForFigures_b4 h weight i s) (fX5_bestForFigures_b4 h weight i4 x4_2))))), I)) _ _ _ _
      rw [fX5_bestForFigures_b4]
      refine g_iload_n (n := 10) ok 0 dX5_bestForFigures_9 rfl rfl rfl ?_
      refine g_iload_n (n := 11) ok 2 dX5_bestForFigures_10 rfl rfl rfl ?_
      refine g_iload_n (n := 12) ok 0 dX5_bestForFigures_11 rfl rfl rfl ?_
      refine g_isub (n := 13) ok dX5_bestForFigures_12 rfl ?_
      refine g_iload_n (n := 14) ok 3 dX5_bestForFigures_13 rfl rfl rfl ?_
      refine g_callS (n := 17) (rest := []) (av := [vi (nI i4), vi ((nI h) - (nI i4)), vi weight]) ok (kX5_marksTogether I (nI i4) ((nI h) - (nI i4)) weight) knX5_marksTogether q600 q601 dX5_bestForFigures_14 rfl rfl (Nat.le_of_ble_eq_true rfl) (by decide) (by decide) rfl ?_
      refine g_iload_n (n := 18) ok 1 dX5_bestForFigures_17 rfl rfl rfl ?_
      refine g_iload_n (n := 19) ok 2 dX5_bestForFigures_18 rfl rfl rfl ?_
      refine g_iload_n (n := 20) ok 1 dX5_bestForFigures_19 rfl rfl rfl ?_
      refine g_isub (n := 21) ok dX5_bestForFigures_20 rfl ?_
      refine g_iload_n (n := 22) ok 3 dX5_bestForFigures_21 rfl rfl rfl ?_
      refine g_callS (n := 25) (rest := [vi (fX5_marksTogether (nI i4) ((nI h) - (nI i4)) weight)]) (av := [vi (nI x4_2), vi ((nI h) - (nI x4_2)), vi weight]) ok (kX5_marksTogether I (nI x4_2) ((nI h) - (nI x4_2)) weight) knX5_marksTogether q600 q601 dX5_bestForFigures_22 rfl rfl (Nat.le_of_ble_eq_true rfl) (by decide) (by decide) rfl ?_
      refine g_icmp_le (n := 28) (tgt := 30) ok dX5_bestForFigures_25 (by decide) rfl (fun c1 => ?_) (fun c1 => ?_)
      · rw [if_pos c1]
        refine g_iinc (n := 33) (v := nI (i4 + 1)) (lv' := [(3, vi (nI (i4 + 1))), (2, vi (nI x4_2)), (0, vi (nI h)), (1, vi weight)]) ok 0 dX5_bestForFigures_30 rfl (iinc_n (a := i4) rfl) (by decide) rfl rfl ?_
        refine g_goto (tgt := 4) ok dX5_bestForFigures_33 (by decide) ?_
        exact ih (i4 + 1) x4_2 (by omega)
      · rw [if_neg c1]
        refine g_iload_n (n := 29) ok 0 dX5_bestForFigures_28 rfl rfl rfl ?_
        refine g_istore_n (n := 30) (lv' := [(2, vi (nI i4)), (3, vi (nI i4)), (0, vi (nI h)), (1, vi weight)]) ok dX5_bestForFigures_29 rfl (by decide) rfl rfl ?_
        refine g_iinc (n := 33) (v := nI (i4 + 1)) (lv' := [(3, vi (nI (i4 + 1))), (2, vi (nI i4)), (0, vi (nI h)), (1, vi weight)]) ok 1 dX5_bestForFigures_30 rfl (iinc_n (a := i4) rfl) (by decide) rfl rfl ?_
        refine g_goto (tgt := 4) ok dX5_bestForFigures_33 (by decide) ?_
        exact ih (i4 + 1) i4 (by omega)
  exact L4 ((h + 1) - 1) 1 0 (by omega)

noncomputable def fX5_commonDivisor_x7 (x7_3 : Int32) (x7_2 : Int32) : Int32 :=
  x7_2
noncomputable def fX5_commonDivisor_b7 (i7 : Nat) (x7_3 : Int32) (x7_2 : Int32) : (Int32 × Int32) ⊕ (Int32 × Int32) :=
  if x7_3 = 0 then Sum.inl (x7_3, x7_2) else Sum.inr (x7_2 - x7_2 / x7_3 * x7_3, x7_3)
noncomputable def fX5_commonDivisor (one : Int32) (other : Int32) : Int32 :=
  (fun (s : Int32 × Int32) => fX5_commonDivisor_x7 s.1 s.2) (foE 64 0 (fun (i : Nat) (s : Int32 × Int32) => fX5_commonDivisor_b7 i s.1 s.2) id (other, one))
theorem knX5_commonDivisor : Kn yX5_commonDivisor cX5_commonDivisor 6 (some .int) 2 := ⟨q435, q1, ⟨by decide, by decide⟩, by decide +kernel⟩
set_option maxHeartbeats 400000 in
set_option maxRecDepth 100000 in
theorem kX5_commonDivisor (I : HI) (one : Int32) (other : Int32) : Cx yX5_commonDivisor cX5_commonDivisor 6 (some .int) 0 0 [vi one, vi other] I ((some (vi ((fX5_commonDivisor one other))), I)) := by
  refine Cx.mk (lv := [(0, vi one), (1, vi other)]) (by decide) (Nat.le_of_ble_eq_true rfl) rfl (fun E ok hr => ?_)
  rw [fX5_commonDivisor]
  refine g_iload_n (n := 1) ok 0 dX5_commonDivisor_0 rfl rfl rfl ?_
  refine g_istore_n (n := 2) (lv' := [(2, vi one), (0, vi one), (1, vi other)]) ok dX5_commonDivisor_1 rfl (by decide) rfl rfl ?_
  refine g_iload_n (n := 3) ok 2 dX5_commonDivisor_2 rfl rfl rfl ?_
  refine g_istore_n (n := 4) (lv' := [(3, vi other), (2, vi one), (0, vi one), (1, vi other)]) ok dX5_commonDivisor_3 rfl (by decide) rfl rfl ?_
  refine g_iconst (n := 5) (v := 0) ok dX5_commonDivisor_4 rfl rfl ?_
  refine g_istore (n := 7) (lv' := [(4, vi 0), (3, vi other), (2, vi one), (0, vi one), (1, vi other)]) ok dX5_commonDivisor_5 (by decide) rfl rfl ?_
  have X7 : ∀ (x7_3 : Int32) (x7_2 : Int32), G E 6 ((some (vi ((fX5_commonDivisor_x7 x7_3 x7_2))), I)) I 34 [(2, vi x7_2)] [] := by
    intro x7_3 x7_2
    rw [fX5_commonDivisor_x7]
    refine g_iload_n (n := 35) ok 0 dX5_commonDivisor_34 rfl rfl rfl ?_
    exact g_iret ok hr dX5_commonDivisor_35
  have L7 : ∀ (n7 i7 : Nat) (x7_3 : Int32) (x7_2 : Int32) (hi : i7 + n7 = 64), G E 6 ((some (vi (((fun (s : Int32 × Int32) => fX5_commonDivisor_x7 s.1 s.2) (foE n7 i7 (fun (i : Nat) (s : Int32 × Int32) => fX5_commonDivisor_b7 i s.1 s.2) id (x7_3, x7_2))))), I)) I 7 [(4, vi (nI i7)), (3, vi x7_3), (2, vi x7_2)] [] := by
    intro n7
    induction n7 with
    | zero =>
      intro i7 x7_3 x7_2 hi
      rw [foE_0]
      refine g_iload (n := 9) ok 0 dX5_commonDivisor_7 rfl rfl ?_
      refine g_bipush (n := 11) (v := 64) ok dX5_commonDivisor_9 rfl rfl ?_
      refine g_icmp_ge (n := 14) (tgt := 34) ok dX5_commonDivisor_11 (by decide) rfl (fun c => ?_) (fun c => absurd (nle (a := 64) (b := i7) rfl rfl (by omega) (by omega)) c)
      refine g_sub [2] rfl ?_
      exact X7 _ _
    | succ n7 ih =>
      intro i7 x7_3 x7_2 hi
      refine g_iload (n := 9) ok 0 dX5_commonDivisor_7 rfl rfl ?_
      refine g_bipush (n := 11) (v := 64) ok dX5_commonDivisor_9 rfl rfl ?_
      refine g_icmp_ge (n := 14) (tgt := 34) ok dX5_commonDivisor_11 (by decide) rfl (fun c => absurd c (nnle (a := 64) (b := i7) rfl rfl (by omega) (by omega))) (fun c => ?_)
      rw [foE_s]
      show G E 6 ((some (vi (((fun (s : Int32 × Int32) => fX5_commonDivisor_x7 s.1 s.2) (Sum.elim id (fun (s : Int32 × Int32) => foE n7 (i7 + 1) (fun (i : Nat) (s : Int32 × Int32) => fX5_commonDivisor_b7 i s.1 s.2) id s) (fX5_commonDivisor_b7 i7 x7_3 x7_2))))), I)) _ _ _ _
      rw [fX5_commonDivisor_b7]
      refine g_iload_n (n := 15) ok 1 dX5_commonDivisor_14 rfl rfl rfl ?_
      refine g_if_eq (n := 18) (tgt := 34) ok dX5_commonDivisor_15 (by decide) rfl (fun c1 => ?_) (fun c1 => ?_)
      · rw [if_pos c1]
        refine g_sub [2] rfl ?_
        exact X7 x7_3 x7_2
      · rw [if_neg c1]
        have c20 := c1
        refine g_iload_n (n := 19) ok 2 dX5_commonDivisor_18 rfl rfl rfl ?_
        refine g_iload_n (n := 20) ok 1 dX5_commonDivisor_19 rfl rfl rfl ?_
        refine g_irem (n := 21) ok dX5_commonDivisor_20 c20 rfl ?_
        refine g_istore (n := 23) (lv' := [(5, vi (x7_2 - x7_2 / x7_3 * x7_3)), (4, vi (nI i7)), (3, vi x7_3), (2, vi x7_2)]) ok dX5_commonDivisor_21 (by decide) rfl rfl ?_
        refine g_iload_n (n := 24) ok 2 dX5_commonDivisor_23 rfl rfl rfl ?_
        refine g_istore_n (n := 25) (lv' := [(2, vi x7_3), (5, vi (x7_2 - x7_2 / x7_3 * x7_3)), (4, vi (nI i7)), (3, vi x7_3)]) ok dX5_commonDivisor_24 rfl (by decide) rfl rfl ?_
        refine g_iload (n := 27) ok 1 dX5_commonDivisor_25 rfl rfl ?_
        refine g_istore_n (n := 28) (lv' := [(3, vi (x7_2 - x7_2 / x7_3 * x7_3)), (2, vi x7_3), (5, vi (x7_2 - x7_2 / x7_3 * x7_3)), (4, vi (nI i7))]) ok dX5_commonDivisor_27 rfl (by decide) rfl rfl ?_
        refine g_iinc (n := 31) (v := nI (i7 + 1)) (lv' := [(4, vi (nI (i7 + 1))), (3, vi (x7_2 - x7_2 / x7_3 * x7_3)), (2, vi x7_3), (5, vi (x7_2 - x7_2 / x7_3 * x7_3))]) ok 3 dX5_commonDivisor_28 rfl (iinc_n (a := i7) rfl) (by decide) rfl rfl ?_
        refine g_goto (tgt := 7) ok dX5_commonDivisor_31 (by decide) ?_
        refine g_sub [0, 1, 2] rfl ?_
        exact ih (i7 + 1) (x7_2 - x7_2 / x7_3 * x7_3) x7_3 (by omega)
  refine g_sub [0, 1, 2] rfl ?_
  exact L7 64 0 other one (by omega)

noncomputable def fX5_partOfFraction (above : Int32) (below : Int32) (part : Int32) : Int64 :=
  if fX5_commonDivisor above below = 0 then (if part = 0 then 0 else 1) else (if part = 0 then (above / (fX5_commonDivisor above below)).toInt64 else (below / (fX5_commonDivisor above below)).toInt64)
theorem knX5_partOfFraction : Kn yX5_partOfFraction cX5_partOfFraction 4 (some .long) 3 := ⟨q432, q1, ⟨by decide, by decide⟩, by decide +kernel⟩
set_option maxHeartbeats 400000 in
set_option maxRecDepth 100000 in
theorem kX5_partOfFraction (I : HI) (above : Int32) (below : Int32) (part : Int32) : Cx yX5_partOfFraction cX5_partOfFraction 4 (some .long) 1 25 [vi above, vi below, vi part] I ((some (vl ((fX5_partOfFraction above below part))), I)) := by
  refine Cx.mk (lv := [(0, vi above), (1, vi below), (2, vi part)]) (by decide) (Nat.le_of_ble_eq_true rfl) rfl (fun E ok hr => ?_)
  rw [fX5_partOfFraction]
  refine g_iload_n (n := 1) ok 0 dX5_partOfFraction_0 rfl rfl rfl ?_
  refine g_iload_n (n := 2) ok 1 dX5_partOfFraction_1 rfl rfl rfl ?_
  refine g_callS (n := 5) (rest := []) (av := [vi above, vi below]) ok (kX5_commonDivisor I above below) knX5_commonDivisor q433 q434 dX5_partOfFraction_2 rfl rfl (Nat.le_of_ble_eq_true rfl) (by decide) (by decide) rfl ?_
  refine g_istore_n (n := 6) (lv' := [(3, vi (fX5_commonDivisor above below)), (0, vi above), (1, vi below), (2, vi part)]) ok dX5_partOfFraction_5 rfl (by decide) rfl rfl ?_
  refine g_iload_n (n := 7) ok 0 dX5_partOfFraction_6 rfl rfl rfl ?_
  refine g_if_ne (n := 10) (tgt := 20) ok dX5_partOfFraction_7 (by decide) rfl (fun c1 => ?_) (fun c1 => ?_)
  · rw [if_neg c1]
    have c7 := c1
    refine g_iload_n (n := 21) ok 3 dX5_partOfFraction_20 rfl rfl rfl ?_
    refine g_if_ne (n := 24) (tgt := 31) ok dX5_partOfFraction_21 (by decide) rfl (fun c2 => ?_) (fun c2 => ?_)
    · rw [if_neg c2]
      refine g_iload_n (n := 32) ok 2 dX5_partOfFraction_31 rfl rfl rfl ?_
      refine g_iload_n (n := 33) ok 0 dX5_partOfFraction_32 rfl rfl rfl ?_
      refine g_idiv (n := 34) ok dX5_partOfFraction_33 c7 rfl ?_
      refine g_i2l (n := 35) ok dX5_partOfFraction_34 rfl ?_
      exact g_lret ok hr dX5_partOfFraction_35
    · rw [if_pos c2]
      refine g_iload_n (n := 25) ok 1 dX5_partOfFraction_24 rfl rfl rfl ?_
      refine g_iload_n (n := 26) ok 0 dX5_partOfFraction_25 rfl rfl rfl ?_
      refine g_idiv (n := 27) ok dX5_partOfFraction_26 c7 rfl ?_
      refine g_i2l (n := 28) ok dX5_partOfFraction_27 rfl ?_
      refine g_goto (tgt := 35) ok dX5_partOfFraction_28 (by decide) ?_
      exact g_lret ok hr dX5_partOfFraction_35
  · rw [if_pos c1]
    refine g_iload_n (n := 11) ok 3 dX5_partOfFraction_10 rfl rfl rfl ?_
    refine g_if_ne (n := 14) (tgt := 18) ok dX5_partOfFraction_11 (by decide) rfl (fun c3 => ?_) (fun c3 => ?_)
    · rw [if_neg c3]
      refine g_lconst (n := 19) (v := 1) ok dX5_partOfFraction_18 rfl rfl ?_
      exact g_lret ok hr dX5_partOfFraction_19
    · rw [if_pos c3]
      refine g_lconst (n := 15) (v := 0) ok dX5_partOfFraction_14 rfl rfl ?_
      refine g_goto (tgt := 19) ok dX5_partOfFraction_15 (by decide) ?_
      exact g_lret ok hr dX5_partOfFraction_19

noncomputable def fX5_allHard_x4 (x4_1 : Int32) : Int32 :=
  x4_1
noncomputable def fX5_allHard_b4 (I : HI) (i4 : Nat) (x4_1 : Int32) : Int32 :=
  x4_1 + (I 2 i4)
noncomputable def fX5_allHard (I : HI) : Int32 :=
  fX5_allHard_x4 (fo 24 0 (fun (i : Nat) (s : Int32) => fX5_allHard_b4 I i s) 0)
theorem knX5_allHard : Kn yX5_allHard cX5_allHard 3 (some .int) 0 := ⟨q667, q1, ⟨by decide, by decide⟩, by decide +kernel⟩
set_option maxHeartbeats 400000 in
set_option maxRecDepth 100000 in
theorem kX5_allHard (I : HI) : Cx yX5_allHard cX5_allHard 3 (some .int) 0 0 [vr 0] I ((some (vi ((fX5_allHard I))), I)) := by
  refine Cx.mk (lv := [(0, vr 0)]) (by decide) (Nat.le_of_ble_eq_true rfl) rfl (fun E ok hr => ?_)
  rw [fX5_allHard]
  refine g_iconst (n := 1) (v := 0) ok dX5_allHard_0 rfl rfl ?_
  refine g_istore_n (n := 2) (lv' := [(1, vi 0), (0, vr 0)]) ok dX5_allHard_1 rfl (by decide) rfl rfl ?_
  refine g_iconst (n := 3) (v := 0) ok dX5_allHard_2 rfl rfl ?_
  refine g_istore_n (n := 4) (lv' := [(2, vi 0), (1, vi 0), (0, vr 0)]) ok dX5_allHard_3 rfl (by decide) rfl rfl ?_
  have X4 : ∀ (x4_1 : Int32), G E 3 ((some (vi ((fX5_allHard_x4 x4_1))), I)) I 28 [(1, vi x4_1)] [] := by
    intro x4_1
    rw [fX5_allHard_x4]
    refine g_iload_n (n := 29) ok 0 dX5_allHard_28 rfl rfl rfl ?_
    exact g_iret ok hr dX5_allHard_29
  have L4 : ∀ (n4 i4 : Nat) (x4_1 : Int32) (hi : i4 + n4 = 24), G E 3 ((some (vi ((fX5_allHard_x4 (fo n4 i4 (fun (i : Nat) (s : Int32) => fX5_allHard_b4 I i s) x4_1)))), I)) I 4 [(2, vi (nI i4)), (1, vi x4_1), (0, vr 0)] [] := by
    intro n4
    induction n4 with
    | zero =>
      intro i4 x4_1 hi
      rw [fo_0]
      refine g_iload_n (n := 5) ok 0 dX5_allHard_4 rfl rfl rfl ?_
      refine g_bipush (n := 7) (v := 24) ok dX5_allHard_5 rfl rfl ?_
      refine g_icmp_ge (n := 10) (tgt := 28) ok dX5_allHard_7 (by decide) rfl (fun c => ?_) (fun c => absurd (nle (a := 24) (b := i4) rfl rfl (by omega) (by omega)) c)
      refine g_sub [1] rfl ?_
      exact X4 _
    | succ n4 ih =>
      intro i4 x4_1 hi
      refine g_iload_n (n := 5) ok 0 dX5_allHard_4 rfl rfl rfl ?_
      refine g_bipush (n := 7) (v := 24) ok dX5_allHard_5 rfl rfl ?_
      refine g_icmp_ge (n := 10) (tgt := 28) ok dX5_allHard_7 (by decide) rfl (fun c => absurd c (nnle (a := 24) (b := i4) rfl rfl (by omega) (by omega))) (fun c => ?_)
      rw [fo_s]
      show G E 3 ((some (vi ((fX5_allHard_x4 (fo n4 (i4 + 1) (fun (i : Nat) (s : Int32) => fX5_allHard_b4 I i s) (fX5_allHard_b4 I i4 x4_1))))), I)) _ _ _ _
      rw [fX5_allHard_b4]
      refine g_iload_n (n := 11) ok 1 dX5_allHard_10 rfl rfl rfl ?_
      refine g_aload_n (n := 12) ok 2 dX5_allHard_11 rfl rfl rfl ?_
      refine g_get (n := 15) (v := vr 1) (c := 5) (k := 0) ok dX5_allHard_12 clsX5 (by decide) q154 rfl rfl rfl ?_
      refine g_get (n := 18) (v := vr 2) (c := 3) (k := 0) ok dX5_allHard_15 clsX3 (by decide) q62 rfl rfl rfl ?_
      refine g_iload_n (n := 19) ok 0 dX5_allHard_18 rfl rfl rfl ?_
      refine g_iald (n := 20) (i := i4) (L := 24) ok dX5_allHard_19 rfl rfl rfl (by omega) rfl ?_
      refine g_iadd (n := 21) ok dX5_allHard_20 rfl ?_
      refine g_istore_n (n := 22) (lv' := [(1, vi (x4_1 + (I 2 i4))), (2, vi (nI i4)), (0, vr 0)]) ok dX5_allHard_21 rfl (by decide) rfl rfl ?_
      refine g_iinc (n := 25) (v := nI (i4 + 1)) (lv' := [(2, vi (nI (i4 + 1))), (1, vi (x4_1 + (I 2 i4))), (0, vr 0)]) ok 1 dX5_allHard_22 rfl (iinc_n (a := i4) rfl) (by decide) rfl rfl ?_
      refine g_goto (tgt := 4) ok dX5_allHard_25 (by decide) ?_
      exact ih (i4 + 1) (x4_1 + (I 2 i4)) (by omega)
  exact L4 24 0 0 (by omega)

noncomputable def fX5_oldLines_x4 (x4_1 : Int32) : Int32 :=
  x4_1
noncomputable def fX5_oldLines_b4 (I : HI) (i4 : Nat) (x4_1 : Int32) : Int32 :=
  if I 3 i4 ≤ 0 then x4_1 + 0 else x4_1 + 1
noncomputable def fX5_oldLines (I : HI) : Int32 :=
  fX5_oldLines_x4 (fo 24 0 (fun (i : Nat) (s : Int32) => fX5_oldLines_b4 I i s) 0)
theorem knX5_oldLines : Kn yX5_oldLines cX5_oldLines 3 (some .int) 0 := ⟨q671, q1, ⟨by decide, by decide⟩, by decide +kernel⟩
set_option maxHeartbeats 400000 in
set_option maxRecDepth 100000 in
theorem kX5_oldLines (I : HI) : Cx yX5_oldLines cX5_oldLines 3 (some .int) 0 0 [vr 0] I ((some (vi ((fX5_oldLines I))), I)) := by
  refine Cx.mk (lv := [(0, vr 0)]) (by decide) (Nat.le_of_ble_eq_true rfl) rfl (fun E ok hr => ?_)
  rw [fX5_oldLines]
  refine g_iconst (n := 1) (v := 0) ok dX5_oldLines_0 rfl rfl ?_
  refine g_istore_n (n := 2) (lv' := [(1, vi 0), (0, vr 0)]) ok dX5_oldLines_1 rfl (by decide) rfl rfl ?_
  refine g_iconst (n := 3) (v := 0) ok dX5_oldLines_2 rfl rfl ?_
  refine g_istore_n (n := 4) (lv' := [(2, vi 0), (1, vi 0), (0, vr 0)]) ok dX5_oldLines_3 rfl (by decide) rfl rfl ?_
  have X4 : ∀ (x4_1 : Int32), G E 3 ((some (vi ((fX5_oldLines_x4 x4_1))), I)) I 36 [(1, vi x4_1)] [] := by
    intro x4_1
    rw [fX5_oldLines_x4]
    refine g_iload_n (n := 37) ok 0 dX5_oldLines_36 rfl rfl rfl ?_
    exact g_iret ok hr dX5_oldLines_37
  have L4 : ∀ (n4 i4 : Nat) (x4_1 : Int32) (hi : i4 + n4 = 24), G E 3 ((some (vi ((fX5_oldLines_x4 (fo n4 i4 (fun (i : Nat) (s : Int32) => fX5_oldLines_b4 I i s) x4_1)))), I)) I 4 [(2, vi (nI i4)), (1, vi x4_1), (0, vr 0)] [] := by
    intro n4
    induction n4 with
    | zero =>
      intro i4 x4_1 hi
      rw [fo_0]
      refine g_iload_n (n := 5) ok 0 dX5_oldLines_4 rfl rfl rfl ?_
      refine g_bipush (n := 7) (v := 24) ok dX5_oldLines_5 rfl rfl ?_
      refine g_icmp_ge (n := 10) (tgt := 36) ok dX5_oldLines_7 (by decide) rfl (fun c => ?_) (fun c => absurd (nle (a := 24) (b := i4) rfl rfl (by omega) (by omega)) c)
      refine g_sub [1] rfl ?_
      exact X4 _
    | succ n4 ih =>
      intro i4 x4_1 hi
      refine g_iload_n (n := 5) ok 0 dX5_oldLines_4 rfl rfl rfl ?_
      refine g_bipush (n := 7) (v := 24) ok dX5_oldLines_5 rfl rfl ?_
      refine g_icmp_ge (n := 10) (tgt := 36) ok dX5_oldLines_7 (by decide) rfl (fun c => absurd c (nnle (a := 24) (b := i4) rfl rfl (by omega) (by omega))) (fun c => ?_)
      rw [fo_s]
      show G E 3 ((some (vi ((fX5_oldLines_x4 (fo n4 (i4 + 1) (fun (i : Nat) (s : Int32) => fX5_oldLines_b4 I i s) (fX5_oldLines_b4 I i4 x4_1))))), I)) _ _ _ _
      rw [fX5_oldLines_b4]
      refine g_iload_n (n := 11) ok 1 dX5_oldLines_10 rfl rfl rfl ?_
      refine g_aload_n (n := 12) ok 2 dX5_oldLines_11 rfl rfl rfl ?_
      refine g_get (n := 15) (v := vr 1) (c := 5) (k := 0) ok dX5_oldLines_12 clsX5 (by decide) q154 rfl rfl rfl ?_
      refine g_get (n := 18) (v := vr 3) (c := 3) (k := 1) ok dX5_oldLines_15 clsX3 (by decide) q65 rfl rfl rfl ?_
      refine g_iload_n (n := 19) ok 0 dX5_oldLines_18 rfl rfl rfl ?_
      refine g_iald (n := 20) (i := i4) (L := 24) ok dX5_oldLines_19 rfl rfl rfl (by omega) rfl ?_
      refine g_if_le (n := 23) (tgt := 27) ok dX5_oldLines_20 (by decide) rfl (fun c1 => ?_) (fun c1 => ?_)
      · rw [if_pos c1]
        refine g_iconst (n := 28) (v := 0) ok dX5_oldLines_27 rfl rfl ?_
        refine g_iadd (n := 29) ok dX5_oldLines_28 rfl ?_
        refine g_istore_n (n := 30) (lv' := [(1, vi (x4_1 + 0)), (2, vi (nI i4)), (0, vr 0)]) ok dX5_oldLines_29 rfl (by decide) rfl rfl ?_
        refine g_iinc (n := 33) (v := nI (i4 + 1)) (lv' := [(2, vi (nI (i4 + 1))), (1, vi (x4_1 + 0)), (0, vr 0)]) ok 1 dX5_oldLines_30 rfl (iinc_n (a := i4) rfl) (by decide) rfl rfl ?_
        refine g_goto (tgt := 4) ok dX5_oldLines_33 (by decide) ?_
        exact ih (i4 + 1) (x4_1 + 0) (by omega)
      · rw [if_neg c1]
        refine g_iconst (n := 24) (v := 1) ok dX5_oldLines_23 rfl rfl ?_
        refine g_goto (tgt := 28) ok dX5_oldLines_24 (by decide) ?_
        refine g_iadd (n := 29) ok dX5_oldLines_28 rfl ?_
        refine g_istore_n (n := 30) (lv' := [(1, vi (x4_1 + 1)), (2, vi (nI i4)), (0, vr 0)]) ok dX5_oldLines_29 rfl (by decide) rfl rfl ?_
        refine g_iinc (n := 33) (v := nI (i4 + 1)) (lv' := [(2, vi (nI (i4 + 1))), (1, vi (x4_1 + 1)), (0, vr 0)]) ok 1 dX5_oldLines_30 rfl (iinc_n (a := i4) rfl) (by decide) rfl rfl ?_
        refine g_goto (tgt := 4) ok dX5_oldLines_33 (by decide) ?_
        exact ih (i4 + 1) (x4_1 + 1) (by omega)
  exact L4 24 0 0 (by omega)

noncomputable def fX5_firstUnlike_x2 : Int32 :=
  (-9)
noncomputable def fX5_firstUnlike_b2 (I : HI) (j : Nat) (i2 : Nat) : (Int32) ⊕ (Unit) :=
  if I 50 i2 = I (j + 1) i2 then Sum.inr () else Sum.inl (nI i2)
noncomputable def fX5_firstUnlike (I : HI) (j : Nat) : Int32 :=
  foE (ix (I 0 7)) 0 (fun (i : Nat) (_ : Unit) => fX5_firstUnlike_b2 I j i) (fun (_ : Unit) => fX5_firstUnlike_x2) ()
theorem knX5_firstUnlike : Kn yX5_firstUnlike cX5_firstUnlike 3 (some .int) 1 := ⟨q622, q1, ⟨by decide, by decide⟩, by decide +kernel⟩
set_option maxHeartbeats 400000 in
set_option maxRecDepth 100000 in
theorem kX5_firstUnlike (I : HI) (j : Nat) (hT : Tr j) (ht : vp_in (I 0 7) 13) : Cx yX5_firstUnlike cX5_firstUnlike 3 (some .int) 0 0 [vr 0, vr j] I ((some (vi ((fX5_firstUnlike I j))), I)) := by
  refine Cx.mk (lv := [(0, vr 0), (1, vr j)]) (by decide) (Nat.le_of_ble_eq_true rfl) rfl (fun E ok hr => ?_)
  have ht1 := vb ht
  rw [fX5_firstUnlike]
  refine g_iconst (n := 1) (v := 0) ok dX5_firstUnlike_0 rfl rfl ?_
  refine g_istore_n (n := 2) (lv' := [(2, vi 0), (0, vr 0), (1, vr j)]) ok dX5_firstUnlike_1 rfl (by decide) rfl rfl ?_
  have X2 : ∀ (_ : True), G E 3 ((some (vi (fX5_firstUnlike_x2)), I)) I 39 [] [] := by
    intro _
    rw [fX5_firstUnlike_x2]
    refine g_bipush (n := 41) (v := -9) ok dX5_firstUnlike_39 rfl rfl ?_
    exact g_iret ok hr dX5_firstUnlike_41
  have L2 : ∀ (n2 i2 : Nat) (hi : i2 + n2 = ix (I 0 7)), G E 3 ((some (vi ((foE n2 i2 (fun (i : Nat) (_ : Unit) => fX5_firstUnlike_b2 I j i) (fun (_ : Unit) => fX5_firstUnlike_x2) ()))), I)) I 2 [(2, vi (nI i2)), (0, vr 0), (1, vr j)] [] := by
    intro n2
    induction n2 with
    | zero =>
      intro i2 hi
      rw [foE_0]
      refine g_iload_n (n := 3) ok 0 dX5_firstUnlike_2 rfl rfl rfl ?_
      refine g_aload_n (n := 4) ok 1 dX5_firstUnlike_3 rfl rfl rfl ?_
      refine g_get (n := 7) (v := vi (I 0 7)) (c := 5) (k := 7) ok dX5_firstUnlike_4 clsX5 (by decide) q161 rfl rfl rfl ?_
      refine g_icmp_ge (n := 10) (tgt := 39) ok dX5_firstUnlike_7 (by decide) rfl (fun c => ?_) (fun c => absurd (nle (a := ix (I 0 7)) (b := i2) (vx ht) rfl (by omega) (by omega)) c)
      refine g_sub [] rfl ?_
      exact X2 trivial
    | succ n2 ih =>
      intro i2 hi
      refine g_iload_n (n := 3) ok 0 dX5_firstUnlike_2 rfl rfl rfl ?_
      refine g_aload_n (n := 4) ok 1 dX5_firstUnlike_3 rfl rfl rfl ?_
      refine g_get (n := 7) (v := vi (I 0 7)) (c := 5) (k := 7) ok dX5_firstUnlike_4 clsX5 (by decide) q161 rfl rfl rfl ?_
      refine g_icmp_ge (n := 10) (tgt := 39) ok dX5_firstUnlike_7 (by decide) rfl (fun c => absurd c (nnle (a := ix (I 0 7)) (b := i2) (vx ht) rfl (by omega) (by omega))) (fun c => ?_)
      rw [foE_s]
      show G E 3 ((some (vi ((Sum.elim id (fun (s : Unit) => foE n2 (i2 + 1) (fun (i : Nat) (_ : Unit) => fX5_firstUnlike_b2 I j i) (fun (_ : Unit) => fX5_firstUnlike_x2) s) (fX5_firstUnlike_b2 I j i2)))), I)) _ _ _ _
      rw [fX5_firstUnlike_b2]
      refine g_iload_n (n := 11) ok 0 dX5_firstUnlike_10 rfl rfl rfl ?_
      refine g_bipush (n := 13) (v := 12) ok dX5_firstUnlike_11 rfl rfl ?_
      refine g_icmp_ge (n := 16) (tgt := 39) ok dX5_firstUnlike_13 (by decide) rfl (fun c1 => ?_) (fun c1 => ?_)
      · exact absurd c1 (nnle (a := 12) (b := i2) rfl rfl (by omega) (by omega))
      · refine g_aload_n (n := 17) ok 1 dX5_firstUnlike_16 rfl rfl rfl ?_
        refine g_get (n := 20) (v := vr 50) (c := 5) (k := 6) ok dX5_firstUnlike_17 clsX5 (by decide) q160 rfl rfl rfl ?_
        refine g_iload_n (n := 21) ok 0 dX5_firstUnlike_20 rfl rfl rfl ?_
        refine g_iald (n := 22) (i := i2) (L := 12) ok dX5_firstUnlike_21 rfl rfl rfl (by omega) rfl ?_
        refine g_aload_n (n := 23) ok 2 dX5_firstUnlike_22 rfl rfl rfl ?_
        refine g_get (n := 26) (v := vr (j + 1)) (c := 4) (k := 3) ok dX5_firstUnlike_23 clsX4 (by decide) q50 hT.1 rfl rfl ?_
        refine g_iload_n (n := 27) ok 0 dX5_firstUnlike_26 rfl rfl rfl ?_
        refine g_iald (n := 28) (i := i2) (L := 12) ok dX5_firstUnlike_27 hT.2.1 hT.2.2 rfl (by omega) rfl ?_
        refine g_icmp_eq (n := 31) (tgt := 33) ok dX5_firstUnlike_28 (by decide) rfl (fun c2 => ?_) (fun c2 => ?_)
        · rw [if_pos c2]
          refine g_iinc (n := 36) (v := nI (i2 + 1)) (lv' := [(2, vi (nI (i2 + 1))), (0, vr 0), (1, vr j)]) ok 0 dX5_firstUnlike_33 rfl (iinc_n (a := i2) rfl) (by decide) rfl rfl ?_
          refine g_goto (tgt := 2) ok dX5_firstUnlike_36 (by decide) ?_
          exact ih (i2 + 1) (by omega)
        · rw [if_neg c2]
          refine g_iload_n (n := 32) ok 0 dX5_firstUnlike_31 rfl rfl rfl ?_
          exact g_iret ok hr dX5_firstUnlike_32
  exact L2 (ix (I 0 7)) 0 (by omega)

noncomputable def fX5_lay (I : HI) (patch : Int32) (hour : Int32) (what : Int32) (v : Int32) : Int32 × HI :=
  if fX5_isSpot patch hour = 0 then ((fX5_refuse I (-1)).1, ((fX5_refuse I (-1)).2)) else (if fX5_within what 0 1 = 0 then ((fX5_refuse I (-2)).1, ((fX5_refuse I (-2)).2)) else (if what = 0 then (if fX5_rangeFault v 0 3 = 0 then (I 2 (fX5_spot (ix patch) (ix hour)), (up I 2 (fX5_spot (ix patch) (ix hour)) v)) else ((fX5_refuse I (fX5_rangeFault v 0 3)).1, ((fX5_refuse I (fX5_rangeFault v 0 3)).2))) else (if fX5_rangeFault v 0 99 = 0 then (I 3 (fX5_spot (ix patch) (ix hour)), (up I 3 (fX5_spot (ix patch) (ix hour)) v)) else ((fX5_refuse I (fX5_rangeFault v 0 99)).1, ((fX5_refuse I (fX5_rangeFault v 0 99)).2)))))
theorem knX5_lay : Kn yX5_lay cX5_lay 8 (some .int) 4 := ⟨q344, q1, ⟨by decide, by decide⟩, by decide +kernel⟩
set_option maxHeartbeats 400000 in
set_option maxRecDepth 100000 in
theorem kX5_lay (I : HI) (patch : Int32) (hour : Int32) (what : Int32) (v : Int32) : Cx yX5_lay cX5_lay 8 (some .int) 3 63 [vr 0, vi patch, vi hour, vi what, vi v] I ((some (vi (((fX5_lay I patch hour what v).1))), (fX5_lay I patch hour what v).2)) := by
  refine Cx.mk (lv := [(0, vr 0), (1, vi patch), (2, vi hour), (3, vi what), (4, vi v)]) (by decide) (Nat.le_of_ble_eq_true rfl) rfl (fun E ok hr => ?_)
  rw [fX5_lay]
  refine g_iload_n (n := 1) ok 1 dX5_lay_0 rfl rfl rfl ?_
  refine g_iload_n (n := 2) ok 2 dX5_lay_1 rfl rfl rfl ?_
  refine g_callS (n := 5) (rest := []) (av := [vi patch, vi hour]) ok (kX5_isSpot I patch hour) knX5_isSpot q339 q261 dX5_lay_2 rfl rfl (Nat.le_of_ble_eq_true rfl) (by decide) (by decide) rfl ?_
  refine g_if_ne (n := 8) (tgt := 14) ok dX5_lay_5 (by decide) rfl (fun c1 => ?_) (fun c1 => ?_)
  · rw [if_neg c1]
    have ha2 : vp_in patch 2 := isSpot_in1 c1
    have ha2b := vb ha2
    have ha3 : vp_in hour 12 := isSpot_in2 c1
    have ha3b := vb ha3
    refine g_iload_n (n := 15) ok 3 dX5_lay_14 rfl rfl rfl ?_
    refine g_iconst (n := 16) (v := 0) ok dX5_lay_15 rfl rfl ?_
    refine g_iconst (n := 17) (v := 1) ok dX5_lay_16 rfl rfl ?_
    refine g_callS (n := 20) (rest := []) (av := [vi what, vi 0, vi 1]) ok (kX5_within I what 0 1) knX5_within q193 q194 dX5_lay_17 rfl rfl (Nat.le_of_ble_eq_true rfl) (by decide) (by decide) rfl ?_
    refine g_if_ne (n := 23) (tgt := 30) ok dX5_lay_20 (by decide) rfl (fun c4 => ?_) (fun c4 => ?_)
    · rw [if_neg c4]
      have ha5 : vp_in what 2 := within_in (b := 1) c4 (by omega)
      have ha5b := vb ha5
      refine g_iload (n := 32) ok 4 dX5_lay_30 rfl rfl ?_
      refine g_iconst (n := 33) (v := 0) ok dX5_lay_32 rfl rfl ?_
      refine g_iload_n (n := 34) ok 3 dX5_lay_33 rfl rfl rfl ?_
      refine g_if_ne (n := 37) (tgt := 41) ok dX5_lay_34 (by decide) rfl (fun c6 => ?_) (fun c6 => ?_)
      · rw [if_neg c6]
        have hz7 := ixn (n := 0) ha5 c6 (by omega) (by omega)
        refine g_bipush (n := 43) (v := 99) ok dX5_lay_41 rfl rfl ?_
        refine g_callS (n := 46) (rest := []) (av := [vi v, vi 0, vi 99]) ok (kX5_rangeFault I v 0 99) knX5_rangeFault q186 q187 dX5_lay_43 rfl rfl (Nat.le_of_ble_eq_true rfl) (by decide) (by decide) rfl ?_
        refine g_istore (n := 48) (lv' := [(5, vi (fX5_rangeFault v 0 99)), (0, vr 0), (1, vi patch), (2, vi hour), (3, vi what), (4, vi v)]) ok dX5_lay_46 (by decide) rfl rfl ?_
        refine g_iload (n := 50) ok 0 dX5_lay_48 rfl rfl ?_
        refine g_if_eq (n := 53) (tgt := 60) ok dX5_lay_50 (by decide) rfl (fun c8 => ?_) (fun c8 => ?_)
        · rw [if_pos c8]
          have ha9 : vp_in v 100 := rangeFault_in (b := 99) c8 (by decide) (by omega)
          have ha9b := vb ha9
          refine g_iload_n (n := 61) ok 4 dX5_lay_60 rfl rfl rfl ?_
          refine g_if_ne (n := 64) (tgt := 74) ok dX5_lay_61 (by decide) rfl (fun c10 => ?_) (fun c10 => ?_)
          · have hz11 := ixn (n := 0) ha5 c10 (by omega) (by omega)
            refine g_aload_n (n := 75) ok 1 dX5_lay_74 rfl rfl rfl ?_
            refine g_get (n := 78) (v := vr 1) (c := 5) (k := 0) ok dX5_lay_75 clsX5 (by decide) q154 rfl rfl rfl ?_
            refine g_get (n := 81) (v := vr 3) (c := 3) (k := 1) ok dX5_lay_78 clsX3 (by decide) q65 rfl rfl rfl ?_
            refine g_astore (n := 83) (lv' := [(6, vr 3), (5, vi (fX5_rangeFault v 0 99)), (0, vr 0), (1, vi patch), (2, vi hour), (3, vi what), (4, vi v)]) ok dX5_lay_81 (by decide) rfl rfl ?_
            refine g_aload (n := 85) ok 0 dX5_lay_83 rfl rfl ?_
            refine g_iload_n (n := 86) ok 3 dX5_lay_85 rfl rfl rfl ?_
            refine g_iload_n (n := 87) ok 4 dX5_lay_86 rfl rfl rfl ?_
            refine g_callS (n := 90) (rest := [vr 3]) (av := [vi (nI (ix patch)), vi (nI (ix hour))]) ok (kX5_spot I (ix patch) (ix hour)) knX5_spot q340 q278 dX5_lay_87 (lcons (congrArg vi (vx ha3)) (lcons (congrArg vi (vx ha2)) rfl)) rfl (Nat.le_of_ble_eq_true rfl) (by decide) (by decide) rfl ?_
            have hp12 : fX5_spot (ix patch) (ix hour) = (ix patch) * 12 + (ix hour) := rfl
            refine g_iald (n := 91) (i := (fX5_spot (ix patch) (ix hour))) (L := 24) ok dX5_lay_90 rfl rfl rfl (by omega) rfl ?_
            refine g_istore (n := 93) (lv' := [(7, vi (I 3 (fX5_spot (ix patch) (ix hour)))), (6, vr 3), (5, vi (fX5_rangeFault v 0 99)), (0, vr 0), (1, vi patch), (2, vi hour), (3, vi what), (4, vi v)]) ok dX5_lay_91 (by decide) rfl rfl ?_
            refine g_aload (n := 95) ok 1 dX5_lay_93 rfl rfl ?_
            refine g_iload_n (n := 96) ok 4 dX5_lay_95 rfl rfl rfl ?_
            refine g_iload_n (n := 97) ok 5 dX5_lay_96 rfl rfl rfl ?_
            refine g_callS (n := 100) (rest := [vr 3]) (av := [vi (nI (ix patch)), vi (nI (ix hour))]) ok (kX5_spot I (ix patch) (ix hour)) knX5_spot q340 q278 dX5_lay_97 (lcons (congrArg vi (vx ha3)) (lcons (congrArg vi (vx ha2)) rfl)) rfl (Nat.le_of_ble_eq_true rfl) (by decide) (by decide) rfl ?_
            have hp13 : fX5_spot (ix patch) (ix hour) = (ix patch) * 12 + (ix hour) := rfl
            refine g_iload (n := 102) ok 7 dX5_lay_100 rfl rfl ?_
            refine g_iast (n := 103) (i := (fX5_spot (ix patch) (ix hour))) (L := 24) ok dX5_lay_102 rfl rfl rfl (by omega) rfl ?_
            refine g_iload (n := 105) ok 0 dX5_lay_103 rfl rfl ?_
            exact g_iret ok hr dX5_lay_105
          · exact absurd c10 c6
        · rw [if_neg c8]
          refine g_aload_n (n := 54) ok 1 dX5_lay_53 rfl rfl rfl ?_
          refine g_iload (n := 56) ok 0 dX5_lay_54 rfl rfl ?_
          refine g_callV (n := 59) (rest := []) (av := [vi (fX5_rangeFault v 0 99)]) (j := 0) ok (kX5_refuse I (fX5_rangeFault v 0 99)) knX5_refuse q189 q191 qs0 clsX5 rfl dX5_lay_56 rfl rfl (Nat.le_of_ble_eq_true rfl) (by decide) (by decide) rfl ?_
          exact g_iret ok hr dX5_lay_59
      · rw [if_pos c6]
        have hz14 := ixe (n := 0) ha5 c6 (by omega) (by omega)
        refine g_iconst (n := 38) (v := 3) ok dX5_lay_37 rfl rfl ?_
        refine g_goto (tgt := 43) ok dX5_lay_38 (by decide) ?_
        refine g_callS (n := 46) (rest := []) (av := [vi v, vi 0, vi 3]) ok (kX5_rangeFault I v 0 3) knX5_rangeFault q186 q187 dX5_lay_43 rfl rfl (Nat.le_of_ble_eq_true rfl) (by decide) (by decide) rfl ?_
        refine g_istore (n := 48) (lv' := [(5, vi (fX5_rangeFault v 0 3)), (0, vr 0), (1, vi patch), (2, vi hour), (3, vi what), (4, vi v)]) ok dX5_lay_46 (by decide) rfl rfl ?_
        refine g_iload (n := 50) ok 0 dX5_lay_48 rfl rfl ?_
        refine g_if_eq (n := 53) (tgt := 60) ok dX5_lay_50 (by decide) rfl (fun c15 => ?_) (fun c15 => ?_)
        · rw [if_pos c15]
          have ha16 : vp_in v 4 := rangeFault_in (b := 3) c15 (by decide) (by omega)
          have ha16b := vb ha16
          refine g_iload_n (n := 61) ok 4 dX5_lay_60 rfl rfl rfl ?_
          refine g_if_ne (n := 64) (tgt := 74) ok dX5_lay_61 (by decide) rfl (fun c17 => ?_) (fun c17 => ?_)
          · exact absurd c6 c17
          · have hz18 := ixe (n := 0) ha5 c17 (by omega) (by omega)
            refine g_aload_n (n := 65) ok 1 dX5_lay_64 rfl rfl rfl ?_
            refine g_get (n := 68) (v := vr 1) (c := 5) (k := 0) ok dX5_lay_65 clsX5 (by decide) q154 rfl rfl rfl ?_
            refine g_get (n := 71) (v := vr 2) (c := 3) (k := 0) ok dX5_lay_68 clsX3 (by decide) q62 rfl rfl rfl ?_
            refine g_goto (tgt := 81) ok dX5_lay_71 (by decide) ?_
            refine g_astore (n := 83) (lv' := [(6, vr 2), (5, vi (fX5_rangeFault v 0 3)), (0, vr 0), (1, vi patch), (2, vi hour), (3, vi what), (4, vi v)]) ok dX5_lay_81 (by decide) rfl rfl ?_
            refine g_aload (n := 85) ok 0 dX5_lay_83 rfl rfl ?_
            refine g_iload_n (n := 86) ok 3 dX5_lay_85 rfl rfl rfl ?_
            refine g_iload_n (n := 87) ok 4 dX5_lay_86 rfl rfl rfl ?_
            refine g_callS (n := 90) (rest := [vr 2]) (av := [vi (nI (ix patch)), vi (nI (ix hour))]) ok (kX5_spot I (ix patch) (ix hour)) knX5_spot q340 q278 dX5_lay_87 (lcons (congrArg vi (vx ha3)) (lcons (congrArg vi (vx ha2)) rfl)) rfl (Nat.le_of_ble_eq_true rfl) (by decide) (by decide) rfl ?_
            have hp19 : fX5_spot (ix patch) (ix hour) = (ix patch) * 12 + (ix hour) := rfl
            refine g_iald (n := 91) (i := (fX5_spot (ix patch) (ix hour))) (L := 24) ok dX5_lay_90 rfl rfl rfl (by omega) rfl ?_
            refine g_istore (n := 93) (lv' := [(7, vi (I 2 (fX5_spot (ix patch) (ix hour)))), (6, vr 2), (5, vi (fX5_rangeFault v 0 3)), (0, vr 0), (1, vi patch), (2, vi hour), (3, vi what), (4, vi v)]) ok dX5_lay_91 (by decide) rfl rfl ?_
            refine g_aload (n := 95) ok 1 dX5_lay_93 rfl rfl ?_
            refine g_iload_n (n := 96) ok 4 dX5_lay_95 rfl rfl rfl ?_
            refine g_iload_n (n := 97) ok 5 dX5_lay_96 rfl rfl rfl ?_
            refine g_callS (n := 100) (rest := [vr 2]) (av := [vi (nI (ix patch)), vi (nI (ix hour))]) ok (kX5_spot I (ix patch) (ix hour)) knX5_spot q340 q278 dX5_lay_97 (lcons (congrArg vi (vx ha3)) (lcons (congrArg vi (vx ha2)) rfl)) rfl (Nat.le_of_ble_eq_true rfl) (by decide) (by decide) rfl ?_
            have hp20 : fX5_spot (ix patch) (ix hour) = (ix patch) * 12 + (ix hour) := rfl
            refine g_iload (n := 102) ok 7 dX5_lay_100 rfl rfl ?_
            refine g_iast (n := 103) (i := (fX5_spot (ix patch) (ix hour))) (L := 24) ok dX5_lay_102 rfl rfl rfl (by omega) rfl ?_
            refine g_iload (n := 105) ok 0 dX5_lay_103 rfl rfl ?_
            exact g_iret ok hr dX5_lay_105
        · rw [if_neg c15]
          refine g_aload_n (n := 54) ok 1 dX5_lay_53 rfl rfl rfl ?_
          refine g_iload (n := 56) ok 0 dX5_lay_54 rfl rfl ?_
          refine g_callV (n := 59) (rest := []) (av := [vi (fX5_rangeFault v 0 3)]) (j := 0) ok (kX5_refuse I (fX5_rangeFault v 0 3)) knX5_refuse q189 q191 qs0 clsX5 rfl dX5_lay_56 rfl rfl (Nat.le_of_ble_eq_true rfl) (by decide) (by decide) rfl ?_
          exact g_iret ok hr dX5_lay_59
    · rw [if_pos c4]
      refine g_aload_n (n := 24) ok 0 dX5_lay_23 rfl rfl rfl ?_
      refine g_bipush (n := 26) (v := -2) ok dX5_lay_24 rfl rfl ?_
      refine g_callV (n := 29) (rest := []) (av := [vi (-2)]) (j := 0) ok (kX5_refuse I (-2)) knX5_refuse q189 q191 qs0 clsX5 rfl dX5_lay_26 rfl rfl (Nat.le_of_ble_eq_true rfl) (by decide) (by decide) rfl ?_
      exact g_iret ok hr dX5_lay_29
  · rw [if_pos c1]
    refine g_aload_n (n := 9) ok 0 dX5_lay_8 rfl rfl rfl ?_
    refine g_iconst (n := 10) (v := -1) ok dX5_lay_9 rfl rfl ?_
    refine g_callV (n := 13) (rest := []) (av := [vi (-1)]) (j := 0) ok (kX5_refuse I (-1)) knX5_refuse q189 q191 qs0 clsX5 rfl dX5_lay_10 rfl rfl (Nat.le_of_ble_eq_true rfl) (by decide) (by decide) rfl ?_
    exact g_iret ok hr dX5_lay_13

noncomputable def fX5_set (I : HI) (setting : Int32) (v : Int32) : Int32 × HI :=
  if fX5_within setting 0 4 = 0 then ((fX5_refuse I (-1)).1, ((fX5_refuse I (-1)).2)) else (if fX5_rangeFault v (sLeast (ix setting)) (sMost (ix setting)) = 0 then (I 4 (ix setting), (up I 4 (ix setting) v)) else ((fX5_refuse I (fX5_rangeFault v (sLeast (ix setting)) (sMost (ix setting)))).1, ((fX5_refuse I (fX5_rangeFault v (sLeast (ix setting)) (sMost (ix setting)))).2)))
theorem knX5_set : Kn yX5_set cX5_set 5 (some .int) 2 := ⟨q348, q1, ⟨by decide, by decide⟩, by decide +kernel⟩
set_option maxHeartbeats 400000 in
set_option maxRecDepth 100000 in
theorem kX5_set (I : HI) (setting : Int32) (v : Int32) : Cx yX5_set cX5_set 5 (some .int) 2 43 [vr 0, vi setting, vi v] I ((some (vi (((fX5_set I setting v).1))), (fX5_set I setting v).2)) := by
  refine Cx.mk (lv := [(0, vr 0), (1, vi setting), (2, vi v)]) (by decide) (Nat.le_of_ble_eq_true rfl) rfl (fun E ok hr => ?_)
  rw [fX5_set]
  refine g_iload_n (n := 1) ok 1 dX5_set_0 rfl rfl rfl ?_
  refine g_iconst (n := 2) (v := 0) ok dX5_set_1 rfl rfl ?_
  refine g_iconst (n := 3) (v := 4) ok dX5_set_2 rfl rfl ?_
  refine g_callS (n := 6) (rest := []) (av := [vi setting, vi 0, vi 4]) ok (kX5_within I setting 0 4) knX5_within q193 q194 dX5_set_3 rfl rfl (Nat.le_of_ble_eq_true rfl) (by decide) (by decide) rfl ?_
  refine g_if_ne (n := 9) (tgt := 15) ok dX5_set_6 (by decide) rfl (fun c1 => ?_) (fun c1 => ?_)
  · rw [if_neg c1]
    have ha2 : vp_in setting 5 := within_in (b := 4) c1 (by omega)
    have ha2b := vb ha2
    refine g_iload_n (n := 16) ok 2 dX5_set_15 rfl rfl rfl ?_
    refine g_gets1 (n := 19) ok dX5_set_16 q256 rfl ?_
    refine g_iload_n (n := 20) ok 1 dX5_set_19 rfl rfl rfl ?_
    refine g_ti1 (n := 21) (i := ix setting) ok dX5_set_20 (vx ha2) (by omega) rfl ?_
    refine g_gets2 (n := 24) ok dX5_set_21 q258 rfl ?_
    refine g_iload_n (n := 25) ok 1 dX5_set_24 rfl rfl rfl ?_
    refine g_ti2 (n := 26) (i := ix setting) ok dX5_set_25 (vx ha2) (by omega) rfl ?_
    refine g_callS (n := 29) (rest := []) (av := [vi v, vi (sLeast (ix setting)), vi (sMost (ix setting))]) ok (kX5_rangeFault I v (sLeast (ix setting)) (sMost (ix setting))) knX5_rangeFault q186 q187 dX5_set_26 rfl rfl (Nat.le_of_ble_eq_true rfl) (by decide) (by decide) rfl ?_
    refine g_istore_n (n := 30) (lv' := [(3, vi (fX5_rangeFault v (sLeast (ix setting)) (sMost (ix setting)))), (0, vr 0), (1, vi setting), (2, vi v)]) ok dX5_set_29 rfl (by decide) rfl rfl ?_
    refine g_iload_n (n := 31) ok 0 dX5_set_30 rfl rfl rfl ?_
    refine g_if_eq (n := 34) (tgt := 40) ok dX5_set_31 (by decide) rfl (fun c3 => ?_) (fun c3 => ?_)
    · rw [if_pos c3]
      refine g_aload_n (n := 41) ok 1 dX5_set_40 rfl rfl rfl ?_
      refine g_get (n := 44) (v := vr 1) (c := 5) (k := 0) ok dX5_set_41 clsX5 (by decide) q154 rfl rfl rfl ?_
      refine g_get (n := 47) (v := vr 4) (c := 3) (k := 2) ok dX5_set_44 clsX3 (by decide) q69 rfl rfl rfl ?_
      refine g_iload_n (n := 48) ok 2 dX5_set_47 rfl rfl rfl ?_
      refine g_iald (n := 49) (i := ix setting) (L := 5) ok dX5_set_48 rfl rfl (vx ha2) (by omega) rfl ?_
      refine g_istore (n := 51) (lv' := [(4, vi (I 4 (ix setting))), (3, vi (fX5_rangeFault v (sLeast (ix setting)) (sMost (ix setting)))), (0, vr 0), (1, vi setting), (2, vi v)]) ok dX5_set_49 (by decide) rfl rfl ?_
      refine g_aload_n (n := 52) ok 2 dX5_set_51 rfl rfl rfl ?_
      refine g_get (n := 55) (v := vr 1) (c := 5) (k := 0) ok dX5_set_52 clsX5 (by decide) q154 rfl rfl rfl ?_
      refine g_get (n := 58) (v := vr 4) (c := 3) (k := 2) ok dX5_set_55 clsX3 (by decide) q69 rfl rfl rfl ?_
      refine g_iload_n (n := 59) ok 3 dX5_set_58 rfl rfl rfl ?_
      refine g_iload_n (n := 60) ok 4 dX5_set_59 rfl rfl rfl ?_
      refine g_iast (n := 61) (i := ix setting) (L := 5) ok dX5_set_60 rfl rfl (vx ha2) (by omega) rfl ?_
      refine g_iload (n := 63) ok 0 dX5_set_61 rfl rfl ?_
      exact g_iret ok hr dX5_set_63
    · rw [if_neg c3]
      refine g_aload_n (n := 35) ok 1 dX5_set_34 rfl rfl rfl ?_
      refine g_iload_n (n := 36) ok 0 dX5_set_35 rfl rfl rfl ?_
      refine g_callV (n := 39) (rest := []) (av := [vi (fX5_rangeFault v (sLeast (ix setting)) (sMost (ix setting)))]) (j := 0) ok (kX5_refuse I (fX5_rangeFault v (sLeast (ix setting)) (sMost (ix setting)))) knX5_refuse q189 q191 qs0 clsX5 rfl dX5_set_36 rfl rfl (Nat.le_of_ble_eq_true rfl) (by decide) (by decide) rfl ?_
      exact g_iret ok hr dX5_set_39
  · rw [if_pos c1]
    refine g_aload_n (n := 10) ok 0 dX5_set_9 rfl rfl rfl ?_
    refine g_iconst (n := 11) (v := -1) ok dX5_set_10 rfl rfl ?_
    refine g_callV (n := 14) (rest := []) (av := [vi (-1)]) (j := 0) ok (kX5_refuse I (-1)) knX5_refuse q189 q191 qs0 clsX5 rfl dX5_set_11 rfl rfl (Nat.le_of_ble_eq_true rfl) (by decide) (by decide) rfl ?_
    exact g_iret ok hr dX5_set_14

noncomputable def fX5_skater (I : HI) (kind : Int32) (figure : Int32) : Int32 × HI :=
  if fX5_within kind 0 6 = 0 then ((fX5_refuse I (-2)).1, ((fX5_refuse I (-2)).2)) else (if fX5_rangeFault figure 0 9 = 0 then ((10 * (I 1 3)) + (I 1 4), (up (up I 1 3 kind) 1 4 figure)) else ((fX5_refuse I (fX5_rangeFault figure 0 9)).1, ((fX5_refuse I (fX5_rangeFault figure 0 9)).2)))
theorem knX5_skater : Kn yX5_skater cX5_skater 5 (some .int) 2 := ⟨q352, q1, ⟨by decide, by decide⟩, by decide +kernel⟩
set_option maxHeartbeats 400000 in
set_option maxRecDepth 100000 in
theorem kX5_skater (I : HI) (kind : Int32) (figure : Int32) : Cx yX5_skater cX5_skater 5 (some .int) 2 43 [vr 0, vi kind, vi figure] I ((some (vi (((fX5_skater I kind figure).1))), (fX5_skater I kind figure).2)) := by
  refine Cx.mk (lv := [(0, vr 0), (1, vi kind), (2, vi figure)]) (by decide) (Nat.le_of_ble_eq_true rfl) rfl (fun E ok hr => ?_)
  rw [fX5_skater]
  refine g_iload_n (n := 1) ok 1 dX5_skater_0 rfl rfl rfl ?_
  refine g_iconst (n := 2) (v := 0) ok dX5_skater_1 rfl rfl ?_
  refine g_bipush (n := 4) (v := 6) ok dX5_skater_2 rfl rfl ?_
  refine g_callS (n := 7) (rest := []) (av := [vi kind, vi 0, vi 6]) ok (kX5_within I kind 0 6) knX5_within q193 q194 dX5_skater_4 rfl rfl (Nat.le_of_ble_eq_true rfl) (by decide) (by decide) rfl ?_
  refine g_if_ne (n := 10) (tgt := 17) ok dX5_skater_7 (by decide) rfl (fun c1 => ?_) (fun c1 => ?_)
  · rw [if_neg c1]
    have ha2 : vp_in kind 7 := within_in (b := 6) c1 (by omega)
    have ha2b := vb ha2
    refine g_iload_n (n := 18) ok 2 dX5_skater_17 rfl rfl rfl ?_
    refine g_iconst (n := 19) (v := 0) ok dX5_skater_18 rfl rfl ?_
    refine g_bipush (n := 21) (v := 9) ok dX5_skater_19 rfl rfl ?_
    refine g_callS (n := 24) (rest := []) (av := [vi figure, vi 0, vi 9]) ok (kX5_rangeFault I figure 0 9) knX5_rangeFault q186 q187 dX5_skater_21 rfl rfl (Nat.le_of_ble_eq_true rfl) (by decide) (by decide) rfl ?_
    refine g_istore_n (n := 25) (lv' := [(3, vi (fX5_rangeFault figure 0 9)), (0, vr 0), (1, vi kind), (2, vi figure)]) ok dX5_skater_24 rfl (by decide) rfl rfl ?_
    refine g_iload_n (n := 26) ok 0 dX5_skater_25 rfl rfl rfl ?_
    refine g_if_eq (n := 29) (tgt := 35) ok dX5_skater_26 (by decide) rfl (fun c3 => ?_) (fun c3 => ?_)
    · rw [if_pos c3]
      have ha4 : vp_in figure 10 := rangeFault_in (b := 9) c3 (by decide) (by omega)
      have ha4b := vb ha4
      refine g_bipush (n := 37) (v := 10) ok dX5_skater_35 rfl rfl ?_
      refine g_aload_n (n := 38) ok 1 dX5_skater_37 rfl rfl rfl ?_
      refine g_get (n := 41) (v := vr 1) (c := 5) (k := 0) ok dX5_skater_38 clsX5 (by decide) q154 rfl rfl rfl ?_
      refine g_get (n := 44) (v := vi (I 1 3)) (c := 3) (k := 3) ok dX5_skater_41 clsX3 (by decide) q73 rfl rfl rfl ?_
      refine g_imul (n := 45) ok dX5_skater_44 rfl ?_
      refine g_aload_n (n := 46) ok 1 dX5_skater_45 rfl rfl rfl ?_
      refine g_get (n := 49) (v := vr 1) (c := 5) (k := 0) ok dX5_skater_46 clsX5 (by decide) q154 rfl rfl rfl ?_
      refine g_get (n := 52) (v := vi (I 1 4)) (c := 3) (k := 4) ok dX5_skater_49 clsX3 (by decide) q76 rfl rfl rfl ?_
      refine g_iadd (n := 53) ok dX5_skater_52 rfl ?_
      refine g_istore (n := 55) (lv' := [(4, vi ((10 * (I 1 3)) + (I 1 4))), (3, vi (fX5_rangeFault figure 0 9)), (0, vr 0), (1, vi kind), (2, vi figure)]) ok dX5_skater_53 (by decide) rfl rfl ?_
      refine g_aload_n (n := 56) ok 2 dX5_skater_55 rfl rfl rfl ?_
      refine g_get (n := 59) (v := vr 1) (c := 5) (k := 0) ok dX5_skater_56 clsX5 (by decide) q154 rfl rfl rfl ?_
      refine g_iload_n (n := 60) ok 3 dX5_skater_59 rfl rfl rfl ?_
      refine g_put (n := 63) (J := up I 1 3 kind) (c := 3) (k := 3) ok dX5_skater_60 clsX3 tyX3 tyX3_ok nmX3 (by decide) q73 rfl rfl (fun _ => rfl) (fun _ => rfl) (Nat.le_of_ble_eq_true rfl) (fs_3_3 _ _ _) up_ne rfl ?_
      refine g_aload_n (n := 64) ok 2 dX5_skater_63 rfl rfl rfl ?_
      refine g_get (n := 67) (v := vr 1) (c := 5) (k := 0) ok dX5_skater_64 clsX5 (by decide) q154 rfl rfl rfl ?_
      refine g_iload_n (n := 68) ok 4 dX5_skater_67 rfl rfl rfl ?_
      refine g_put (n := 71) (J := up (up I 1 3 kind) 1 4 figure) (c := 3) (k := 4) ok dX5_skater_68 clsX3 tyX3 tyX3_ok nmX3 (by decide) q76 rfl rfl (fun _ => rfl) (fun _ => rfl) (Nat.le_of_ble_eq_true rfl) (fs_3_4 _ _ _) up_ne rfl ?_
      refine g_iload (n := 73) ok 0 dX5_skater_71 rfl rfl ?_
      exact g_iret ok hr dX5_skater_73
    · rw [if_neg c3]
      refine g_aload_n (n := 30) ok 1 dX5_skater_29 rfl rfl rfl ?_
      refine g_iload_n (n := 31) ok 0 dX5_skater_30 rfl rfl rfl ?_
      refine g_callV (n := 34) (rest := []) (av := [vi (fX5_rangeFault figure 0 9)]) (j := 0) ok (kX5_refuse I (fX5_rangeFault figure 0 9)) knX5_refuse q189 q191 qs0 clsX5 rfl dX5_skater_31 rfl rfl (Nat.le_of_ble_eq_true rfl) (by decide) (by decide) rfl ?_
      exact g_iret ok hr dX5_skater_34
  · rw [if_pos c1]
    refine g_aload_n (n := 11) ok 0 dX5_skater_10 rfl rfl rfl ?_
    refine g_bipush (n := 13) (v := -2) ok dX5_skater_11 rfl rfl ?_
    refine g_callV (n := 16) (rest := []) (av := [vi (-2)]) (j := 0) ok (kX5_refuse I (-2)) knX5_refuse q189 q191 qs0 clsX5 rfl dX5_skater_13 rfl rfl (Nat.le_of_ble_eq_true rfl) (by decide) (by decide) rfl ?_
    exact g_iret ok hr dX5_skater_16

noncomputable def fX5_draw (I : HI) (foot : Int32) (push : Int32) (lean : Int32) : Int32 × HI :=
  if fX5_footAndStrokeFault foot push lean = 0 then (if I 1 6 < 6 then ((fX3_addTrace I (ix foot) push lean).1, ((fX3_addTrace I (ix foot) push lean).2)) else ((fX5_refuse I (-6)).1, ((fX5_refuse I (-6)).2))) else ((fX5_refuse I (fX5_footAndStrokeFault foot push lean)).1, ((fX5_refuse I (fX5_footAndStrokeFault foot push lean)).2))
theorem knX5_draw : Kn yX5_draw cX5_draw 5 (some .int) 3 := ⟨q356, q1, ⟨by decide, by decide⟩, by decide +kernel⟩
set_option maxHeartbeats 400000 in
set_option maxRecDepth 100000 in
theorem kX5_draw (I : HI) (foot : Int32) (push : Int32) (lean : Int32) (hd : vp_in (I 1 6) 7) : Cx yX5_draw cX5_draw 5 (some .int) 4 99 [vr 0, vi foot, vi push, vi lean] I ((some (vi (((fX5_draw I foot push lean).1))), (fX5_draw I foot push lean).2)) := by
  refine Cx.mk (lv := [(0, vr 0), (1, vi foot), (2, vi push), (3, vi lean)]) (by decide) (Nat.le_of_ble_eq_true rfl) rfl (fun E ok hr => ?_)
  rw [fX5_draw]
  refine g_iload_n (n := 1) ok 1 dX5_draw_0 rfl rfl rfl ?_
  refine g_iload_n (n := 2) ok 2 dX5_draw_1 rfl rfl rfl ?_
  refine g_iload_n (n := 3) ok 3 dX5_draw_2 rfl rfl rfl ?_
  refine g_callS (n := 6) (rest := []) (av := [vi foot, vi push, vi lean]) ok (kX5_footAndStrokeFault I foot push lean) knX5_footAndStrokeFault q357 q358 dX5_draw_3 rfl rfl (Nat.le_of_ble_eq_true rfl) (by decide) (by decide) rfl ?_
  refine g_istore (n := 8) (lv' := [(4, vi (fX5_footAndStrokeFault foot push lean)), (0, vr 0), (1, vi foot), (2, vi push), (3, vi lean)]) ok dX5_draw_6 (by decide) rfl rfl ?_
  refine g_iload (n := 10) ok 0 dX5_draw_8 rfl rfl ?_
  refine g_if_ne (n := 13) (tgt := 29) ok dX5_draw_10 (by decide) rfl (fun c1 => ?_) (fun c1 => ?_)
  · rw [if_neg c1]
    refine g_iload (n := 31) ok 0 dX5_draw_29 rfl rfl ?_
    refine g_if_eq (n := 34) (tgt := 43) ok dX5_draw_31 (by decide) rfl (fun c2 => ?_) (fun c2 => ?_)
    · exact absurd c2 c1
    · refine g_aload_n (n := 35) ok 1 dX5_draw_34 rfl rfl rfl ?_
      refine g_iload (n := 37) ok 0 dX5_draw_35 rfl rfl ?_
      refine g_callV (n := 40) (rest := []) (av := [vi (fX5_footAndStrokeFault foot push lean)]) (j := 0) ok (kX5_refuse I (fX5_footAndStrokeFault foot push lean)) knX5_refuse q189 q191 qs0 clsX5 rfl dX5_draw_37 rfl rfl (Nat.le_of_ble_eq_true rfl) (by decide) (by decide) rfl ?_
      refine g_goto (tgt := 53) ok dX5_draw_40 (by decide) ?_
      exact g_iret ok hr dX5_draw_53
  · rw [if_pos c1]
    have ha3 : vp_in foot 2 := footFault_in c1
    have ha3b := vb ha3
    refine g_aload_n (n := 14) ok 1 dX5_draw_13 rfl rfl rfl ?_
    refine g_get (n := 17) (v := vr 1) (c := 5) (k := 0) ok dX5_draw_14 clsX5 (by decide) q154 rfl rfl rfl ?_
    refine g_get (n := 20) (v := vi (I 1 6)) (c := 3) (k := 6) ok dX5_draw_17 clsX3 (by decide) q84 rfl rfl rfl ?_
    refine g_bipush (n := 22) (v := 6) ok dX5_draw_20 rfl rfl ?_
    refine g_icmp_lt (n := 25) (tgt := 29) ok dX5_draw_22 (by decide) rfl (fun c4 => ?_) (fun c4 => ?_)
    · rw [if_pos c4]
      refine g_iload (n := 31) ok 0 dX5_draw_29 rfl rfl ?_
      refine g_if_eq (n := 34) (tgt := 43) ok dX5_draw_31 (by decide) rfl (fun c5 => ?_) (fun c5 => ?_)
      · refine g_aload_n (n := 44) ok 1 dX5_draw_43 rfl rfl rfl ?_
        refine g_get (n := 47) (v := vr 1) (c := 5) (k := 0) ok dX5_draw_44 clsX5 (by decide) q154 rfl rfl rfl ?_
        refine g_iload_n (n := 48) ok 2 dX5_draw_47 rfl rfl rfl ?_
        refine g_iload_n (n := 49) ok 3 dX5_draw_48 rfl rfl rfl ?_
        refine g_iload_n (n := 50) ok 4 dX5_draw_49 rfl rfl rfl ?_
        refine g_callV (n := 53) (rest := []) (av := [vi (nI (ix foot)), vi push, vi lean]) (j := 1) ok (kX3_addTrace I (ix foot) push lean (by first | with_reducible assumption | omega) (by first | with_reducible assumption | omega)) knX3_addTrace q361 q281 q282 clsX3 rfl dX5_draw_50 (lcons rfl (lcons rfl (lcons (congrArg vi (vx ha3)) (lcons rfl rfl)))) rfl (Nat.le_of_ble_eq_true rfl) (by decide) (by decide) rfl ?_
        exact g_iret ok hr dX5_draw_53
      · exact absurd c1 c5
    · rw [if_neg c4]
      refine g_bipush (n := 27) (v := -6) ok dX5_draw_25 rfl rfl ?_
      refine g_istore (n := 29) (lv' := [(4, vi (-6)), (0, vr 0), (1, vi foot), (2, vi push), (3, vi lean)]) ok dX5_draw_27 (by decide) rfl rfl ?_
      refine g_iload (n := 31) ok 0 dX5_draw_29 rfl rfl ?_
      refine g_if_eq (n := 34) (tgt := 43) ok dX5_draw_31 (by decide) rfl (fun c6 => ?_) (fun c6 => ?_)
      · exact absurd c6 (by decide)
      · refine g_aload_n (n := 35) ok 1 dX5_draw_34 rfl rfl rfl ?_
        refine g_iload (n := 37) ok 0 dX5_draw_35 rfl rfl ?_
        refine g_callV (n := 40) (rest := []) (av := [vi (-6)]) (j := 0) ok (kX5_refuse I (-6)) knX5_refuse q189 q191 qs0 clsX5 rfl dX5_draw_37 rfl rfl (Nat.le_of_ble_eq_true rfl) (by decide) (by decide) rfl ?_
        refine g_goto (tgt := 53) ok dX5_draw_40 (by decide) ?_
        exact g_iret ok hr dX5_draw_53

noncomputable def fX5_sweep (I : HI) : Int32 × HI :=
  (I 1 6, (up I 1 6 0))
theorem knX5_sweep : Kn yX5_sweep cX5_sweep 2 (some .int) 0 := ⟨q365, q1, ⟨by decide, by decide⟩, by decide +kernel⟩
set_option maxHeartbeats 400000 in
set_option maxRecDepth 100000 in
theorem kX5_sweep (I : HI) : Cx yX5_sweep cX5_sweep 2 (some .int) 0 0 [vr 0] I ((some (vi (((fX5_sweep I).1))), (fX5_sweep I).2)) := by
  refine Cx.mk (lv := [(0, vr 0)]) (by decide) (Nat.le_of_ble_eq_true rfl) rfl (fun E ok hr => ?_)
  rw [fX5_sweep]
  refine g_aload_n (n := 1) ok 0 dX5_sweep_0 rfl rfl rfl ?_
  refine g_get (n := 4) (v := vr 1) (c := 5) (k := 0) ok dX5_sweep_1 clsX5 (by decide) q154 rfl rfl rfl ?_
  refine g_get (n := 7) (v := vi (I 1 6)) (c := 3) (k := 6) ok dX5_sweep_4 clsX3 (by decide) q84 rfl rfl rfl ?_
  refine g_istore_n (n := 8) (lv' := [(1, vi (I 1 6)), (0, vr 0)]) ok dX5_sweep_7 rfl (by decide) rfl rfl ?_
  refine g_aload_n (n := 9) ok 1 dX5_sweep_8 rfl rfl rfl ?_
  refine g_get (n := 12) (v := vr 1) (c := 5) (k := 0) ok dX5_sweep_9 clsX5 (by decide) q154 rfl rfl rfl ?_
  refine g_iconst (n := 13) (v := 0) ok dX5_sweep_12 rfl rfl ?_
  refine g_put (n := 16) (J := up I 1 6 0) (c := 3) (k := 6) ok dX5_sweep_13 clsX3 tyX3 tyX3_ok nmX3 (by decide) q84 rfl rfl (fun _ => rfl) (fun _ => rfl) (Nat.le_of_ble_eq_true rfl) (fs_3_6 _ _ _) up_ne rfl ?_
  refine g_iload_n (n := 17) ok 0 dX5_sweep_16 rfl rfl rfl ?_
  exact g_iret ok hr dX5_sweep_17

noncomputable def fX5_trace (I : HI) (trace : Int32) (hour : Int32) : Int32 × HI :=
  if fX3_hasTrace I trace = 0 then ((fX5_refuse I (-1)).1, ((fX5_refuse I (-1)).2)) else (if fX5_isHour hour = 0 then ((fX5_refuse I (-1)).1, ((fX5_refuse I (-1)).2)) else (I (6 + 2 * (ix trace) + 1) (ix hour), I))
theorem knX5_trace : Kn yX5_trace cX5_trace 3 (some .int) 2 := ⟨q369, q1, ⟨by decide, by decide⟩, by decide +kernel⟩
set_option maxHeartbeats 400000 in
set_option maxRecDepth 100000 in
theorem kX5_trace (I : HI) (trace : Int32) (hour : Int32) (hd : vp_in (I 1 6) 7) : Cx yX5_trace cX5_trace 3 (some .int) 2 43 [vr 0, vi trace, vi hour] I ((some (vi (((fX5_trace I trace hour).1))), (fX5_trace I trace hour).2)) := by
  refine Cx.mk (lv := [(0, vr 0), (1, vi trace), (2, vi hour)]) (by decide) (Nat.le_of_ble_eq_true rfl) rfl (fun E ok hr => ?_)
  rw [fX5_trace]
  refine g_aload_n (n := 1) ok 0 dX5_trace_0 rfl rfl rfl ?_
  refine g_get (n := 4) (v := vr 1) (c := 5) (k := 0) ok dX5_trace_1 clsX5 (by decide) q154 rfl rfl rfl ?_
  refine g_iload_n (n := 5) ok 1 dX5_trace_4 rfl rfl rfl ?_
  refine g_callV (n := 8) (rest := []) (av := [vi trace]) (j := 1) ok (kX3_hasTrace I trace) knX3_hasTrace q370 q371 q372 clsX3 rfl dX5_trace_5 rfl rfl (Nat.le_of_ble_eq_true rfl) (by decide) (by decide) rfl ?_
  refine g_if_eq (n := 11) (tgt := 18) ok dX5_trace_8 (by decide) rfl (fun c1 => ?_) (fun c1 => ?_)
  · rw [if_pos c1]
    refine g_aload_n (n := 19) ok 0 dX5_trace_18 rfl rfl rfl ?_
    refine g_iconst (n := 20) (v := -1) ok dX5_trace_19 rfl rfl ?_
    refine g_callV (n := 23) (rest := []) (av := [vi (-1)]) (j := 0) ok (kX5_refuse I (-1)) knX5_refuse q189 q191 qs0 clsX5 rfl dX5_trace_20 rfl rfl (Nat.le_of_ble_eq_true rfl) (by decide) (by decide) rfl ?_
    exact g_iret ok hr dX5_trace_23
  · rw [if_neg c1]
    have ha2 : vp_in trace 6 := hasTrace_in hd c1
    have ha2b := vb ha2
    refine g_iload_n (n := 12) ok 2 dX5_trace_11 rfl rfl rfl ?_
    refine g_callS (n := 15) (rest := []) (av := [vi hour]) ok (kX5_isHour I hour) knX5_isHour q266 q267 dX5_trace_12 rfl rfl (Nat.le_of_ble_eq_true rfl) (by decide) (by decide) rfl ?_
    refine g_if_ne (n := 18) (tgt := 24) ok dX5_trace_15 (by decide) rfl (fun c3 => ?_) (fun c3 => ?_)
    · rw [if_neg c3]
      have ha4 : vp_in hour 12 := isHour_in c3
      have ha4b := vb ha4
      refine g_aload_n (n := 25) ok 0 dX5_trace_24 rfl rfl rfl ?_
      refine g_get (n := 28) (v := vr 1) (c := 5) (k := 0) ok dX5_trace_25 clsX5 (by decide) q154 rfl rfl rfl ?_
      refine g_get (n := 31) (v := vr 5) (c := 3) (k := 5) ok dX5_trace_28 clsX3 (by decide) q80 rfl rfl rfl ?_
      refine g_iload_n (n := 32) ok 1 dX5_trace_31 rfl rfl rfl ?_
      refine g_aald (n := 33) (i := ix trace) (L := 6) ok dX5_trace_32 rfl rfl (vx ha2) (by omega) rfl ?_
      have hT5 : Tr (6 + 2 * (ix trace)) := tr_now (n := ix trace) (by omega)
      refine g_get (n := 36) (v := vr (6 + 2 * (ix trace) + 1)) (c := 4) (k := 3) ok dX5_trace_33 clsX4 (by decide) q50 hT5.1 rfl rfl ?_
      refine g_iload_n (n := 37) ok 2 dX5_trace_36 rfl rfl rfl ?_
      refine g_iald (n := 38) (i := ix hour) (L := 12) ok dX5_trace_37 hT5.2.1 hT5.2.2 (vx ha4) (by omega) rfl ?_
      exact g_iret ok hr dX5_trace_38
    · rw [if_pos c3]
      refine g_aload_n (n := 19) ok 0 dX5_trace_18 rfl rfl rfl ?_
      refine g_iconst (n := 20) (v := -1) ok dX5_trace_19 rfl rfl ?_
      refine g_callV (n := 23) (rest := []) (av := [vi (-1)]) (j := 0) ok (kX5_refuse I (-1)) knX5_refuse q189 q191 qs0 clsX5 rfl dX5_trace_20 rfl rfl (Nat.le_of_ble_eq_true rfl) (by decide) (by decide) rfl ?_
      exact g_iret ok hr dX5_trace_23

noncomputable def fX5_of (I : HI) (trace : Int32) (what : Int32) : Int32 × HI :=
  if fX3_hasTrace I trace = 0 then ((fX5_refuse I (-1)).1, ((fX5_refuse I (-1)).2)) else (if what = 0 then (I (6 + 2 * (ix trace)) 0, I) else (if what = 1 then (I (6 + 2 * (ix trace)) 1, I) else (if what = 2 then (I (6 + 2 * (ix trace)) 2, I) else (if what = 3 then (fX4_roundness I (6 + 2 * (ix trace)), I) else (if what = 4 then (fX4_gap I (6 + 2 * (ix trace)), I) else (if what = 5 then (fX3_offOf I (6 + 2 * (ix trace)), I) else (if what = 6 then (nI (fX4_wobbleHour I (6 + 2 * (ix trace))), I) else (if what = 7 then (fX4_bendAt I (6 + 2 * (ix trace)) (fX4_wobbleHour I (6 + 2 * (ix trace))), I) else (if what = 8 then (fX3_flatsOf I (6 + 2 * (ix trace)), I) else ((fX5_refuse I (-2)).1, ((fX5_refuse I (-2)).2)))))))))))
theorem knX5_of : Kn yX5_of cX5_of 4 (some .int) 2 := ⟨q378, q1, ⟨by decide, by decide⟩, by decide +kernel⟩
set_option maxHeartbeats 400000 in
set_option maxRecDepth 100000 in
theorem kX5_of (I : HI) (trace : Int32) (what : Int32) (hd : vp_in (I 1 6) 7) (hF : ∀ n, n < 6 → vp_in (I (6 + 2 * n) 0) 2) : Cx yX5_of cX5_of 4 (some .int) 3 65 [vr 0, vi trace, vi what] I ((some (vi (((fX5_of I trace what).1))), (fX5_of I trace what).2)) := by
  refine Cx.mk (lv := [(0, vr 0), (1, vi trace), (2, vi what)]) (by decide) (Nat.le_of_ble_eq_true rfl) rfl (fun E ok hr => ?_)
  rw [fX5_of]
  refine g_aload_n (n := 1) ok 0 dX5_of_0 rfl rfl rfl ?_
  refine g_get (n := 4) (v := vr 1) (c := 5) (k := 0) ok dX5_of_1 clsX5 (by decide) q154 rfl rfl rfl ?_
  refine g_iload_n (n := 5) ok 1 dX5_of_4 rfl rfl rfl ?_
  refine g_callV (n := 8) (rest := []) (av := [vi trace]) (j := 1) ok (kX3_hasTrace I trace) knX3_hasTrace q370 q371 q372 clsX3 rfl dX5_of_5 rfl rfl (Nat.le_of_ble_eq_true rfl) (by decide) (by decide) rfl ?_
  refine g_if_ne (n := 11) (tgt := 17) ok dX5_of_8 (by decide) rfl (fun c1 => ?_) (fun c1 => ?_)
  · rw [if_neg c1]
    have ha2 : vp_in trace 6 := hasTrace_in hd c1
    have ha2b := vb ha2
    refine g_aload_n (n := 18) ok 0 dX5_of_17 rfl rfl rfl ?_
    refine g_get (n := 21) (v := vr 1) (c := 5) (k := 0) ok dX5_of_18 clsX5 (by decide) q154 rfl rfl rfl ?_
    refine g_get (n := 24) (v := vr 5) (c := 3) (k := 5) ok dX5_of_21 clsX3 (by decide) q80 rfl rfl rfl ?_
    refine g_iload_n (n := 25) ok 1 dX5_of_24 rfl rfl rfl ?_
    refine g_aald (n := 26) (i := ix trace) (L := 6) ok dX5_of_25 rfl rfl (vx ha2) (by omega) rfl ?_
    have hT3 : Tr (6 + 2 * (ix trace)) := tr_now (n := ix trace) (by omega)
    refine g_astore_n (n := 27) (lv' := [(3, vr (6 + 2 * (ix trace))), (0, vr 0), (1, vi trace), (2, vi what)]) ok dX5_of_26 rfl (by decide) rfl rfl ?_
    refine g_iload_n (n := 28) ok 3 dX5_of_27 rfl rfl rfl ?_
    by_cases c4 : what = 0
    · rw [if_pos c4]
      refine g_tabIn (off := 52) (tgt := 80) ok dX5_of_28 (by rw [c4]; decide) (by rw [c4]; decide) (by rw [c4]; rfl) (by decide) ?_
      refine g_aload_n (n := 81) ok 0 dX5_of_80 rfl rfl rfl ?_
      refine g_get (n := 84) (v := vi (I (6 + 2 * (ix trace)) 0)) (c := 4) (k := 0) ok dX5_of_81 clsX4 (by decide) q40 hT3.1 rfl rfl ?_
      exact g_iret ok hr dX5_of_84
    · rw [if_neg c4]
      by_cases c5 : what = 1
      · rw [if_pos c5]
        refine g_tabIn (off := 57) (tgt := 85) ok dX5_of_28 (by rw [c5]; decide) (by rw [c5]; decide) (by rw [c5]; rfl) (by decide) ?_
        refine g_aload_n (n := 86) ok 0 dX5_of_85 rfl rfl rfl ?_
        refine g_get (n := 89) (v := vi (I (6 + 2 * (ix trace)) 1)) (c := 4) (k := 1) ok dX5_of_86 clsX4 (by decide) q43 hT3.1 rfl rfl ?_
        exact g_iret ok hr dX5_of_89
      · rw [if_neg c5]
        by_cases c6 : what = 2
        · rw [if_pos c6]
          refine g_tabIn (off := 62) (tgt := 90) ok dX5_of_28 (by rw [c6]; decide) (by rw [c6]; decide) (by rw [c6]; rfl) (by decide) ?_
          refine g_aload_n (n := 91) ok 0 dX5_of_90 rfl rfl rfl ?_
          refine g_get (n := 94) (v := vi (I (6 + 2 * (ix trace)) 2)) (c := 4) (k := 2) ok dX5_of_91 clsX4 (by decide) q46 hT3.1 rfl rfl ?_
          exact g_iret ok hr dX5_of_94
        · rw [if_neg c6]
          by_cases c7 : what = 3
          · rw [if_pos c7]
            refine g_tabIn (off := 67) (tgt := 95) ok dX5_of_28 (by rw [c7]; decide) (by rw [c7]; decide) (by rw [c7]; rfl) (by decide) ?_
            refine g_aload_n (n := 96) ok 0 dX5_of_95 rfl rfl rfl ?_
            refine g_callV (n := 99) (rest := []) (av := []) (j := 6 + 2 * (ix trace)) ok (kX4_roundness I (6 + 2 * (ix trace)) hT3) knX4_roundness q379 q380 q381 clsX4 hT3.1 dX5_of_96 rfl rfl (Nat.le_of_ble_eq_true rfl) (by decide) (by decide) rfl ?_
            exact g_iret ok hr dX5_of_99
          · rw [if_neg c7]
            by_cases c8 : what = 4
            · rw [if_pos c8]
              refine g_tabIn (off := 72) (tgt := 100) ok dX5_of_28 (by rw [c8]; decide) (by rw [c8]; decide) (by rw [c8]; rfl) (by decide) ?_
              refine g_aload_n (n := 101) ok 0 dX5_of_100 rfl rfl rfl ?_
              refine g_callV (n := 104) (rest := []) (av := []) (j := 6 + 2 * (ix trace)) ok (kX4_gap I (6 + 2 * (ix trace)) hT3) knX4_gap q385 q386 q387 clsX4 hT3.1 dX5_of_101 rfl rfl (Nat.le_of_ble_eq_true rfl) (by decide) (by decide) rfl ?_
              exact g_iret ok hr dX5_of_104
            · rw [if_neg c8]
              by_cases c9 : what = 5
              · rw [if_pos c9]
                refine g_tabIn (off := 77) (tgt := 105) ok dX5_of_28 (by rw [c9]; decide) (by rw [c9]; decide) (by rw [c9]; rfl) (by decide) ?_
                refine g_aload_n (n := 106) ok 1 dX5_of_105 rfl rfl rfl ?_
                refine g_get (n := 109) (v := vr 1) (c := 5) (k := 0) ok dX5_of_106 clsX5 (by decide) q154 rfl rfl rfl ?_
                refine g_aload_n (n := 110) ok 0 dX5_of_109 rfl rfl rfl ?_
                refine g_callV (n := 113) (rest := []) (av := [vr (6 + 2 * (ix trace))]) (j := 1) ok (kX3_offOf I (6 + 2 * (ix trace)) hT3) knX3_offOf q392 q393 q394 clsX3 rfl dX5_of_110 rfl rfl (Nat.le_of_ble_eq_true rfl) (by decide) (by decide) rfl ?_
                exact g_iret ok hr dX5_of_113
              · rw [if_neg c9]
                by_cases c10 : what = 6
                · rw [if_pos c10]
                  refine g_tabIn (off := 86) (tgt := 114) ok dX5_of_28 (by rw [c10]; decide) (by rw [c10]; decide) (by rw [c10]; rfl) (by decide) ?_
                  refine g_aload_n (n := 115) ok 0 dX5_of_114 rfl rfl rfl ?_
                  refine g_callV (n := 118) (rest := []) (av := []) (j := 6 + 2 * (ix trace)) ok (kX4_wobbleHour I (6 + 2 * (ix trace)) hT3) knX4_wobbleHour q400 q401 q402 clsX4 hT3.1 dX5_of_115 rfl rfl (Nat.le_of_ble_eq_true rfl) (by decide) (by decide) rfl ?_
                  have hp11 := fX4_wobbleHour_lt I (6 + 2 * (ix trace))
                  exact g_iret ok hr dX5_of_118
                · rw [if_neg c10]
                  by_cases c12 : what = 7
                  · rw [if_pos c12]
                    refine g_tabIn (off := 91) (tgt := 119) ok dX5_of_28 (by rw [c12]; decide) (by rw [c12]; decide) (by rw [c12]; rfl) (by decide) ?_
                    refine g_aload_n (n := 120) ok 0 dX5_of_119 rfl rfl rfl ?_
                    refine g_aload_n (n := 121) ok 0 dX5_of_120 rfl rfl rfl ?_
                    refine g_callV (n := 124) (rest := [vr (6 + 2 * (ix trace))]) (av := []) (j := 6 + 2 * (ix trace)) ok (kX4_wobbleHour I (6 + 2 * (ix trace)) hT3) knX4_wobbleHour q400 q401 q402 clsX4 hT3.1 dX5_of_121 rfl rfl (Nat.le_of_ble_eq_true rfl) (by decide) (by decide) rfl ?_
                    have hp13 := fX4_wobbleHour_lt I (6 + 2 * (ix trace))
                    refine g_callV (n := 127) (rest := []) (av := [vi (nI (fX4_wobbleHour I (6 + 2 * (ix trace))))]) (j := 6 + 2 * (ix trace)) ok (kX4_bendAt I (6 + 2 * (ix trace)) (fX4_wobbleHour I (6 + 2 * (ix trace))) hT3 (by first | with_reducible assumption | omega)) knX4_bendAt q412 q405 q406 clsX4 hT3.1 dX5_of_124 rfl rfl (Nat.le_of_ble_eq_true rfl) (by decide) (by decide) rfl ?_
                    exact g_iret ok hr dX5_of_127
                  · rw [if_neg c12]
                    by_cases c14 : what = 8
                    · rw [if_pos c14]
                      refine g_tabIn (off := 100) (tgt := 128) ok dX5_of_28 (by rw [c14]; decide) (by rw [c14]; decide) (by rw [c14]; rfl) (by decide) ?_
                      refine g_aload_n (n := 129) ok 1 dX5_of_128 rfl rfl rfl ?_
                      refine g_get (n := 132) (v := vr 1) (c := 5) (k := 0) ok dX5_of_129 clsX5 (by decide) q154 rfl rfl rfl ?_
                      refine g_aload_n (n := 133) ok 0 dX5_of_132 rfl rfl rfl ?_
                      refine g_callV (n := 136) (rest := []) (av := [vr (6 + 2 * (ix trace))]) (j := 1) ok (kX3_flatsOf I (6 + 2 * (ix trace)) hT3 (hF (ix trace) (by omega))) knX3_flatsOf q413 q414 q415 clsX3 rfl dX5_of_133 rfl rfl (Nat.le_of_ble_eq_true rfl) (by decide) (by decide) rfl ?_
                      exact g_iret ok hr dX5_of_136
                    · rw [if_neg c14]
                      refine g_tabOut (tgt := 137) ok dX5_of_28 (by have h0 : what.toInt ≠ 0 := ne_toInt c4; have h1 : what.toInt ≠ 1 := ne_toInt c5; have h2 : what.toInt ≠ 2 := ne_toInt c6; have h3 : what.toInt ≠ 3 := ne_toInt c7; have h4 : what.toInt ≠ 4 := ne_toInt c8; have h5 : what.toInt ≠ 5 := ne_toInt c9; have h6 : what.toInt ≠ 6 := ne_toInt c10; have h7 : what.toInt ≠ 7 := ne_toInt c12; have h8 : what.toInt ≠ 8 := ne_toInt c14; omega) (by decide) ?_
                      refine g_aload_n (n := 138) ok 1 dX5_of_137 rfl rfl rfl ?_
                      refine g_bipush (n := 140) (v := -2) ok dX5_of_138 rfl rfl ?_
                      refine g_callV (n := 143) (rest := []) (av := [vi (-2)]) (j := 0) ok (kX5_refuse I (-2)) knX5_refuse q189 q191 qs0 clsX5 rfl dX5_of_140 rfl rfl (Nat.le_of_ble_eq_true rfl) (by decide) (by decide) rfl ?_
                      exact g_iret ok hr dX5_of_143
  · rw [if_pos c1]
    refine g_aload_n (n := 12) ok 0 dX5_of_11 rfl rfl rfl ?_
    refine g_iconst (n := 13) (v := -1) ok dX5_of_12 rfl rfl ?_
    refine g_callV (n := 16) (rest := []) (av := [vi (-1)]) (j := 0) ok (kX5_refuse I (-1)) knX5_refuse q189 q191 qs0 clsX5 rfl dX5_of_13 rfl rfl (Nat.le_of_ble_eq_true rfl) (by decide) (by decide) rfl ?_
    exact g_iret ok hr dX5_of_16

noncomputable def fX5_mean (I : HI) (trace : Int32) (part : Int32) : Int64 × HI :=
  if fX3_hasTrace I trace = 0 then ((fX5_refuseLong I (-1)).1, ((fX5_refuseLong I (-1)).2)) else (if fX5_within part 0 1 = 0 then ((fX5_refuseLong I (-2)).1, ((fX5_refuseLong I (-2)).2)) else (fX5_partOfFraction (fX4_total I (6 + 2 * (ix trace))) 12 part, I))
theorem knX5_mean : Kn yX5_mean cX5_mean 3 (some .long) 2 := ⟨q420, q1, ⟨by decide, by decide⟩, by decide +kernel⟩
set_option maxHeartbeats 400000 in
set_option maxRecDepth 100000 in
theorem kX5_mean (I : HI) (trace : Int32) (part : Int32) (hd : vp_in (I 1 6) 7) : Cx yX5_mean cX5_mean 3 (some .long) 3 64 [vr 0, vi trace, vi part] I ((some (vl (((fX5_mean I trace part).1))), (fX5_mean I trace part).2)) := by
  refine Cx.mk (lv := [(0, vr 0), (1, vi trace), (2, vi part)]) (by decide) (Nat.le_of_ble_eq_true rfl) rfl (fun E ok hr => ?_)
  rw [fX5_mean]
  refine g_aload_n (n := 1) ok 0 dX5_mean_0 rfl rfl rfl ?_
  refine g_get (n := 4) (v := vr 1) (c := 5) (k := 0) ok dX5_mean_1 clsX5 (by decide) q154 rfl rfl rfl ?_
  refine g_iload_n (n := 5) ok 1 dX5_mean_4 rfl rfl rfl ?_
  refine g_callV (n := 8) (rest := []) (av := [vi trace]) (j := 1) ok (kX3_hasTrace I trace) knX3_hasTrace q370 q371 q372 clsX3 rfl dX5_mean_5 rfl rfl (Nat.le_of_ble_eq_true rfl) (by decide) (by decide) rfl ?_
  refine g_if_ne (n := 11) (tgt := 17) ok dX5_mean_8 (by decide) rfl (fun c1 => ?_) (fun c1 => ?_)
  · rw [if_neg c1]
    have ha2 : vp_in trace 6 := hasTrace_in hd c1
    have ha2b := vb ha2
    refine g_iload_n (n := 18) ok 2 dX5_mean_17 rfl rfl rfl ?_
    refine g_iconst (n := 19) (v := 0) ok dX5_mean_18 rfl rfl ?_
    refine g_iconst (n := 20) (v := 1) ok dX5_mean_19 rfl rfl ?_
    refine g_callS (n := 23) (rest := []) (av := [vi part, vi 0, vi 1]) ok (kX5_within I part 0 1) knX5_within q193 q194 dX5_mean_20 rfl rfl (Nat.le_of_ble_eq_true rfl) (by decide) (by decide) rfl ?_
    refine g_if_ne (n := 26) (tgt := 33) ok dX5_mean_23 (by decide) rfl (fun c3 => ?_) (fun c3 => ?_)
    · rw [if_neg c3]
      have ha4 : vp_in part 2 := within_in (b := 1) c3 (by omega)
      have ha4b := vb ha4
      refine g_aload_n (n := 34) ok 0 dX5_mean_33 rfl rfl rfl ?_
      refine g_get (n := 37) (v := vr 1) (c := 5) (k := 0) ok dX5_mean_34 clsX5 (by decide) q154 rfl rfl rfl ?_
      refine g_get (n := 40) (v := vr 5) (c := 3) (k := 5) ok dX5_mean_37 clsX3 (by decide) q80 rfl rfl rfl ?_
      refine g_iload_n (n := 41) ok 1 dX5_mean_40 rfl rfl rfl ?_
      refine g_aald (n := 42) (i := ix trace) (L := 6) ok dX5_mean_41 rfl rfl (vx ha2) (by omega) rfl ?_
      have hT5 : Tr (6 + 2 * (ix trace)) := tr_now (n := ix trace) (by omega)
      refine g_callV (n := 45) (rest := []) (av := []) (j := 6 + 2 * (ix trace)) ok (kX4_total I (6 + 2 * (ix trace)) hT5) knX4_total q426 q427 q428 clsX4 hT5.1 dX5_mean_42 rfl rfl (Nat.le_of_ble_eq_true rfl) (by decide) (by decide) rfl ?_
      refine g_bipush (n := 47) (v := 12) ok dX5_mean_45 rfl rfl ?_
      refine g_iload_n (n := 48) ok 2 dX5_mean_47 rfl rfl rfl ?_
      refine g_callS (n := 51) (rest := []) (av := [vi (fX4_total I (6 + 2 * (ix trace))), vi 12, vi part]) ok (kX5_partOfFraction I (fX4_total I (6 + 2 * (ix trace))) 12 part) knX5_partOfFraction q430 q431 dX5_mean_48 rfl rfl (Nat.le_of_ble_eq_true rfl) (by decide) (by decide) rfl ?_
      exact g_lret ok hr dX5_mean_51
    · rw [if_pos c3]
      refine g_aload_n (n := 27) ok 0 dX5_mean_26 rfl rfl rfl ?_
      refine g_bipush (n := 29) (v := -2) ok dX5_mean_27 rfl rfl ?_
      refine g_callV (n := 32) (rest := []) (av := [vi (-2)]) (j := 0) ok (kX5_refuseLong I (-2)) knX5_refuseLong q421 q423 qs13 clsX5 rfl dX5_mean_29 rfl rfl (Nat.le_of_ble_eq_true rfl) (by decide) (by decide) rfl ?_
      exact g_lret ok hr dX5_mean_32
  · rw [if_pos c1]
    refine g_aload_n (n := 12) ok 0 dX5_mean_11 rfl rfl rfl ?_
    refine g_iconst (n := 13) (v := -1) ok dX5_mean_12 rfl rfl ?_
    refine g_callV (n := 16) (rest := []) (av := [vi (-1)]) (j := 0) ok (kX5_refuseLong I (-1)) knX5_refuseLong q421 q423 qs13 clsX5 rfl dX5_mean_13 rfl rfl (Nat.le_of_ble_eq_true rfl) (by decide) (by decide) rfl ?_
    exact g_lret ok hr dX5_mean_16

noncomputable def fX5_close (I : HI) (one : Int32) (other : Int32) : Int32 × HI :=
  if fX3_hasTrace I one = 0 then ((fX5_refuse I (-1)).1, ((fX5_refuse I (-1)).2)) else (if fX3_hasTrace I other = 0 then ((fX5_refuse I (-1)).1, ((fX5_refuse I (-1)).2)) else (fX4_farFrom I (6 + 2 * (ix one)) (6 + 2 * (ix other)), I))
theorem knX5_close : Kn yX5_close cX5_close 3 (some .int) 2 := ⟨q439, q1, ⟨by decide, by decide⟩, by decide +kernel⟩
set_option maxHeartbeats 400000 in
set_option maxRecDepth 100000 in
theorem kX5_close (I : HI) (one : Int32) (other : Int32) (hd : vp_in (I 1 6) 7) : Cx yX5_close cX5_close 3 (some .int) 2 44 [vr 0, vi one, vi other] I ((some (vi (((fX5_close I one other).1))), (fX5_close I one other).2)) := by
  refine Cx.mk (lv := [(0, vr 0), (1, vi one), (2, vi other)]) (by decide) (Nat.le_of_ble_eq_true rfl) rfl (fun E ok hr => ?_)
  rw [fX5_close]
  refine g_aload_n (n := 1) ok 0 dX5_close_0 rfl rfl rfl ?_
  refine g_get (n := 4) (v := vr 1) (c := 5) (k := 0) ok dX5_close_1 clsX5 (by decide) q154 rfl rfl rfl ?_
  refine g_iload_n (n := 5) ok 1 dX5_close_4 rfl rfl rfl ?_
  refine g_callV (n := 8) (rest := []) (av := [vi one]) (j := 1) ok (kX3_hasTrace I one) knX3_hasTrace q370 q371 q372 clsX3 rfl dX5_close_5 rfl rfl (Nat.le_of_ble_eq_true rfl) (by decide) (by decide) rfl ?_
  refine g_if_eq (n := 11) (tgt := 22) ok dX5_close_8 (by decide) rfl (fun c1 => ?_) (fun c1 => ?_)
  · rw [if_pos c1]
    refine g_aload_n (n := 23) ok 0 dX5_close_22 rfl rfl rfl ?_
    refine g_iconst (n := 24) (v := -1) ok dX5_close_23 rfl rfl ?_
    refine g_callV (n := 27) (rest := []) (av := [vi (-1)]) (j := 0) ok (kX5_refuse I (-1)) knX5_refuse q189 q191 qs0 clsX5 rfl dX5_close_24 rfl rfl (Nat.le_of_ble_eq_true rfl) (by decide) (by decide) rfl ?_
    exact g_iret ok hr dX5_close_27
  · rw [if_neg c1]
    have ha2 : vp_in one 6 := hasTrace_in hd c1
    have ha2b := vb ha2
    refine g_aload_n (n := 12) ok 0 dX5_close_11 rfl rfl rfl ?_
    refine g_get (n := 15) (v := vr 1) (c := 5) (k := 0) ok dX5_close_12 clsX5 (by decide) q154 rfl rfl rfl ?_
    refine g_iload_n (n := 16) ok 2 dX5_close_15 rfl rfl rfl ?_
    refine g_callV (n := 19) (rest := []) (av := [vi other]) (j := 1) ok (kX3_hasTrace I other) knX3_hasTrace q370 q371 q372 clsX3 rfl dX5_close_16 rfl rfl (Nat.le_of_ble_eq_true rfl) (by decide) (by decide) rfl ?_
    refine g_if_ne (n := 22) (tgt := 28) ok dX5_close_19 (by decide) rfl (fun c3 => ?_) (fun c3 => ?_)
    · rw [if_neg c3]
      have ha4 : vp_in other 6 := hasTrace_in hd c3
      have ha4b := vb ha4
      refine g_aload_n (n := 29) ok 0 dX5_close_28 rfl rfl rfl ?_
      refine g_get (n := 32) (v := vr 1) (c := 5) (k := 0) ok dX5_close_29 clsX5 (by decide) q154 rfl rfl rfl ?_
      refine g_get (n := 35) (v := vr 5) (c := 3) (k := 5) ok dX5_close_32 clsX3 (by decide) q80 rfl rfl rfl ?_
      refine g_iload_n (n := 36) ok 1 dX5_close_35 rfl rfl rfl ?_
      refine g_aald (n := 37) (i := ix one) (L := 6) ok dX5_close_36 rfl rfl (vx ha2) (by omega) rfl ?_
      have hT5 : Tr (6 + 2 * (ix one)) := tr_now (n := ix one) (by omega)
      refine g_aload_n (n := 38) ok 0 dX5_close_37 rfl rfl rfl ?_
      refine g_get (n := 41) (v := vr 1) (c := 5) (k := 0) ok dX5_close_38 clsX5 (by decide) q154 rfl rfl rfl ?_
      refine g_get (n := 44) (v := vr 5) (c := 3) (k := 5) ok dX5_close_41 clsX3 (by decide) q80 rfl rfl rfl ?_
      refine g_iload_n (n := 45) ok 2 dX5_close_44 rfl rfl rfl ?_
      refine g_aald (n := 46) (i := ix other) (L := 6) ok dX5_close_45 rfl rfl (vx ha4) (by omega) rfl ?_
      have hT6 : Tr (6 + 2 * (ix other)) := tr_now (n := ix other) (by omega)
      refine g_callV (n := 49) (rest := []) (av := [vr (6 + 2 * (ix other))]) (j := 6 + 2 * (ix one)) ok (kX4_farFrom I (6 + 2 * (ix one)) (6 + 2 * (ix other)) hT5 hT6) knX4_farFrom q440 q441 q442 clsX4 hT5.1 dX5_close_46 rfl rfl (Nat.le_of_ble_eq_true rfl) (by decide) (by decide) rfl ?_
      exact g_iret ok hr dX5_close_49
    · rw [if_pos c3]
      refine g_aload_n (n := 23) ok 0 dX5_close_22 rfl rfl rfl ?_
      refine g_iconst (n := 24) (v := -1) ok dX5_close_23 rfl rfl ?_
      refine g_callV (n := 27) (rest := []) (av := [vi (-1)]) (j := 0) ok (kX5_refuse I (-1)) knX5_refuse q189 q191 qs0 clsX5 rfl dX5_close_24 rfl rfl (Nat.le_of_ble_eq_true rfl) (by decide) (by decide) rfl ?_
      exact g_iret ok hr dX5_close_27

noncomputable def fX5_spread_x31 (I : HI) (x31_2 : Int32) : Int32 × HI :=
  (x31_2, I)
noncomputable def fX5_spread_b31 (I : HI) (foot : Int32) (i31 : Nat) (x31_2 : Int32) : Int32 :=
  x31_2 + (fX3_spreadAt I foot i31)
noncomputable def fX5_spread (I : HI) (foot : Int32) : Int32 × HI :=
  if fX5_isFoot foot = 0 then ((fX5_refuse I (-1)).1, ((fX5_refuse I (-1)).2)) else (if fX3_tracesOf I foot = 0 then ((-9), I) else fX5_spread_x31 I (fo 12 0 (fun (i : Nat) (s : Int32) => fX5_spread_b31 I foot i s) 0))
theorem knX5_spread : Kn yX5_spread cX5_spread 4 (some .int) 1 := ⟨q447, q1, ⟨by decide, by decide⟩, by decide +kernel⟩
set_option maxHeartbeats 400000 in
set_option maxRecDepth 100000 in
theorem kX5_spread (I : HI) (foot : Int32) (hd : vp_in (I 1 6) 7) : Cx yX5_spread cX5_spread 4 (some .int) 2 46 [vr 0, vi foot] I ((some (vi (((fX5_spread I foot).1))), (fX5_spread I foot).2)) := by
  refine Cx.mk (lv := [(0, vr 0), (1, vi foot)]) (by decide) (Nat.le_of_ble_eq_true rfl) rfl (fun E ok hr => ?_)
  rw [fX5_spread]
  refine g_iload_n (n := 1) ok 1 dX5_spread_0 rfl rfl rfl ?_
  refine g_callS (n := 4) (rest := []) (av := [vi foot]) ok (kX5_isFoot I foot) knX5_isFoot q263 q264 dX5_spread_1 rfl rfl (Nat.le_of_ble_eq_true rfl) (by decide) (by decide) rfl ?_
  refine g_if_ne (n := 7) (tgt := 13) ok dX5_spread_4 (by decide) rfl (fun c1 => ?_) (fun c1 => ?_)
  · rw [if_neg c1]
    have ha2 : vp_in foot 2 := isFoot_in c1
    have ha2b := vb ha2
    refine g_aload_n (n := 14) ok 0 dX5_spread_13 rfl rfl rfl ?_
    refine g_get (n := 17) (v := vr 1) (c := 5) (k := 0) ok dX5_spread_14 clsX5 (by decide) q154 rfl rfl rfl ?_
    refine g_iload_n (n := 18) ok 1 dX5_spread_17 rfl rfl rfl ?_
    refine g_callV (n := 21) (rest := []) (av := [vi foot]) (j := 1) ok (kX3_tracesOf I foot (by first | with_reducible assumption | omega)) knX3_tracesOf q448 q449 q450 clsX3 rfl dX5_spread_18 rfl rfl (Nat.le_of_ble_eq_true rfl) (by decide) (by decide) rfl ?_
    refine g_if_ne (n := 24) (tgt := 27) ok dX5_spread_21 (by decide) rfl (fun c3 => ?_) (fun c3 => ?_)
    · rw [if_neg c3]
      refine g_iconst (n := 28) (v := 0) ok dX5_spread_27 rfl rfl ?_
      refine g_istore_n (n := 29) (lv' := [(2, vi 0), (0, vr 0), (1, vi foot)]) ok dX5_spread_28 rfl (by decide) rfl rfl ?_
      refine g_iconst (n := 30) (v := 0) ok dX5_spread_29 rfl rfl ?_
      refine g_istore_n (n := 31) (lv' := [(3, vi 0), (2, vi 0), (0, vr 0), (1, vi foot)]) ok dX5_spread_30 rfl (by decide) rfl rfl ?_
      have X31 : ∀ (x31_2 : Int32), G E 4 ((some (vi (((fX5_spread_x31 I x31_2).1))), (fX5_spread_x31 I x31_2).2)) I 55 [(2, vi x31_2)] [] := by
        intro x31_2
        rw [fX5_spread_x31]
        refine g_iload_n (n := 56) ok 0 dX5_spread_55 rfl rfl rfl ?_
        exact g_iret ok hr dX5_spread_56
      have L31 : ∀ (n31 i31 : Nat) (x31_2 : Int32) (hi : i31 + n31 = 12), G E 4 ((some (vi (((fX5_spread_x31 I (fo n31 i31 (fun (i : Nat) (s : Int32) => fX5_spread_b31 I foot i s) x31_2)).1))), (fX5_spread_x31 I (fo n31 i31 (fun (i : Nat) (s : Int32) => fX5_spread_b31 I foot i s) x31_2)).2)) I 31 [(3, vi (nI i31)), (2, vi x31_2), (0, vr 0), (1, vi foot)] [] := by
        intro n31
        induction n31 with
        | zero =>
          intro i31 x31_2 hi
          rw [fo_0]
          refine g_iload_n (n := 32) ok 0 dX5_spread_31 rfl rfl rfl ?_
          refine g_bipush (n := 34) (v := 12) ok dX5_spread_32 rfl rfl ?_
          refine g_icmp_ge (n := 37) (tgt := 55) ok dX5_spread_34 (by decide) rfl (fun c => ?_) (fun c => absurd (nle (a := 12) (b := i31) rfl rfl (by omega) (by omega)) c)
          refine g_sub [1] rfl ?_
          exact X31 _
        | succ n31 ih =>
          intro i31 x31_2 hi
          refine g_iload_n (n := 32) ok 0 dX5_spread_31 rfl rfl rfl ?_
          refine g_bipush (n := 34) (v := 12) ok dX5_spread_32 rfl rfl ?_
          refine g_icmp_ge (n := 37) (tgt := 55) ok dX5_spread_34 (by decide) rfl (fun c => absurd c (nnle (a := 12) (b := i31) rfl rfl (by omega) (by omega))) (fun c => ?_)
          rw [fo_s]
          show G E 4 ((some (vi (((fX5_spread_x31 I (fo n31 (i31 + 1) (fun (i : Nat) (s : Int32) => fX5_spread_b31 I foot i s) (fX5_spread_b31 I foot i31 x31_2))).1))), (fX5_spread_x31 I (fo n31 (i31 + 1) (fun (i : Nat) (s : Int32) => fX5_spread_b31 I foot i s) (fX5_spread_b31 I foot i31 x31_2))).2)) _ _ _ _
          rw [fX5_spread_b31]
          refine g_iload_n (n := 38) ok 1 dX5_spread_37 rfl rfl rfl ?_
          refine g_aload_n (n := 39) ok 2 dX5_spread_38 rfl rfl rfl ?_
          refine g_get (n := 42) (v := vr 1) (c := 5) (k := 0) ok dX5_spread_39 clsX5 (by decide) q154 rfl rfl rfl ?_
          refine g_iload_n (n := 43) ok 3 dX5_spread_42 rfl rfl rfl ?_
          refine g_iload_n (n := 44) ok 0 dX5_spread_43 rfl rfl rfl ?_
          refine g_callV (n := 47) (rest := [vi x31_2]) (av := [vi foot, vi (nI i31)]) (j := 1) ok (kX3_spreadAt I foot i31 (by first | with_reducible assumption | omega) (by first | with_reducible assumption | omega)) knX3_spreadAt q452 q453 q454 clsX3 rfl dX5_spread_44 rfl rfl (Nat.le_of_ble_eq_true rfl) (by decide) (by decide) rfl ?_
          refine g_iadd (n := 48) ok dX5_spread_47 rfl ?_
          refine g_istore_n (n := 49) (lv' := [(2, vi (x31_2 + (fX3_spreadAt I foot i31))), (3, vi (nI i31)), (0, vr 0), (1, vi foot)]) ok dX5_spread_48 rfl (by decide) rfl rfl ?_
          refine g_iinc (n := 52) (v := nI (i31 + 1)) (lv' := [(3, vi (nI (i31 + 1))), (2, vi (x31_2 + (fX3_spreadAt I foot i31))), (0, vr 0), (1, vi foot)]) ok 1 dX5_spread_49 rfl (iinc_n (a := i31) rfl) (by decide) rfl rfl ?_
          refine g_goto (tgt := 31) ok dX5_spread_52 (by decide) ?_
          exact ih (i31 + 1) (x31_2 + (fX3_spreadAt I foot i31)) (by omega)
      exact L31 12 0 0 (by omega)
    · rw [if_pos c3]
      refine g_bipush (n := 26) (v := -9) ok dX5_spread_24 rfl rfl ?_
      exact g_iret ok hr dX5_spread_26
  · rw [if_pos c1]
    refine g_aload_n (n := 8) ok 0 dX5_spread_7 rfl rfl rfl ?_
    refine g_iconst (n := 9) (v := -1) ok dX5_spread_8 rfl rfl ?_
    refine g_callV (n := 12) (rest := []) (av := [vi (-1)]) (j := 0) ok (kX5_refuse I (-1)) knX5_refuse q189 q191 qs0 clsX5 rfl dX5_spread_9 rfl rfl (Nat.le_of_ble_eq_true rfl) (by decide) (by decide) rfl ?_
    exact g_iret ok hr dX5_spread_12
